section BENCHC
variable {l : Launch} {D : va_G} {ad : Nat → Nat} {cI cZ : ClassId} {A : Nat → Prop}

set_option maxRecDepth 100000 in
set_option maxHeartbeats 4000000 in
theorem c_X7_search (hD : ∀ P T, va_D A (wX ad cI cZ P T)) {P T : St} (ok : okX P) (x0 : Int32) : XMI l D (tyz cI cZ) (wX ad cI cZ) A yX7_search cX7_search 4 (some .int) rmX7_search [.ref (ad 0), .int x0] P T (fun r P' _ => r = FsearchX P x0 ∧ P' = GsearchX P x0) := by
  have okc := ok.1
  have hk6 := okc_kn6 okc
  have hS144 := okc_S144 okc
  have hS1 := okc_S1 okc
  have hnr := okc_nr12 okc
  have hnt := okc_nt60 okc
  have hnz := okc_nz50 okc
  have hsd := okc_sdb okc
  have hLl := lsA_len okc
  have hLb := lsA_b okc
  refine x_start_i (lv := [(0, .ref (ad 0)), (1, .int x0)]) (own := RX7) (by decide) rfl hD (Nat.le_of_ble_eq_true rfl) rfl ?_
  intro p e s m args below meth c C
  refine x_iload_n (q := 1) C dX7_search_0 rfl 1 rfl rfl ?_
  refine x_iconst (q := 2) (v := nI 1) C dX7_search_1 (by decide) rfl ?_
  refine x_bipush (q := 4) (v := nI 30) C dX7_search_2 (by decide) rfl ?_
  refine x_Sf (q := 7) (As := [.int x0, .int (nI 1), .int (nI 30)]) (rest := []) C (c_X7_isWithin hD x0 (nI 1) (nI 30) ) xs_X7_isWithin tst_X7_isWithin tml_X7_58 (by decide) rfl rfl (Nat.le_of_ble_eq_true rfl) dX7_search_4 rfl ?_
  refine x_if_ne_b (q := 10) (tgt := 12) C dX7_search_7 (by decide) rfl (fun c7 => ?_) (fun c7 => ?_)
  · have hw7 := c7
    obtain ⟨t1, ht1a, ht1, rfl⟩ := inR_nat2 (b := 1) (n := 30) (by decide) (by decide) c7
    refine x_aload_n (q := 13) C dX7_search_12 rfl 0 rfl rfl ?_
    refine xg_X7_open (q := 16) C tfl_X7_40 dX7_search_13 rfl ?_
    refine x_aload_n (q := 17) C dX7_search_16 rfl 0 rfl rfl ?_
    refine xg_X7_knobs (q := 20) C tfl_X7_10 dX7_search_17 rfl ?_
    refine x_aload_n (q := 21) C dX7_search_20 rfl 0 rfl rfl ?_
    refine xg_X7_rules (q := 24) C tfl_X7_19 dX7_search_21 rfl ?_
    refine x_Vv (q := 27) (As := [.ref (ad 1), .ref (ad 2)]) (rest := []) C (c_X3_gather hD ok) xs_X3_gather tim_X3_gather tsel_X3_gather tml_X7_133 (by decide) 5 rfl (ci := 3) rfl rfl rfl (Nat.le_of_ble_eq_true rfl) dX7_search_24 rfl (fun Pz T24 hg => ?_)
    obtain ⟨hPz, hT24, hO24⟩ := hg
    rw [hPz]; clear hPz Pz
    refine x_aload_n (q := 28) C dX7_search_27 rfl 0 rfl rfl ?_
    refine xg_X7_open (q := 31) C tfl_X7_40 dX7_search_28 rfl ?_
    refine x_Vf (q := 34) (As := []) (rest := []) C (c_X3_howMany hD ) xs_X3_howMany tim_X3_howMany tsel_X3_howMany tml_X7_137 (by decide) 5 rfl (ci := 3) rfl rfl rfl (Nat.le_of_ble_eq_true rfl) dX7_search_31 rfl ?_
    refine x_topn ((lsA P).length) hO24.1 ?_
    refine x_if_ne_n (q := 37) (tgt := 40) C dX7_search_34 (by omega) (by decide) rfl (fun c34 => ?_) (fun c34 => ?_)
    · refine x_aload_n (q := 41) C dX7_search_40 rfl 0 rfl rfl ?_
      refine xg_X7_bounds (q := 44) C tfl_X7_47 dX7_search_41 rfl ?_
      refine x_aload_n (q := 45) C dX7_search_44 rfl 0 rfl rfl ?_
      refine xg_X7_trials (q := 48) C tfl_X7_33 dX7_search_45 rfl ?_
      refine x_aload_n (q := 49) C dX7_search_48 rfl 0 rfl rfl ?_
      refine xg_X7_knobs (q := 52) C tfl_X7_10 dX7_search_49 rfl ?_
      refine x_Vv (q := 55) (As := [.ref (ad 4), .ref (ad 1)]) (rest := []) C (c_X0_measureAll hD ok) xs_X0_measureAll tim_X0_measureAll tsel_X0_measureAll tml_X7_175 (by decide) 6 rfl (ci := 0) rfl rfl rfl (Nat.le_of_ble_eq_true rfl) dX7_search_52 rfl (fun Pz T52 hg => ?_)
      obtain ⟨hPz, hT52, hF52, hR52⟩ := hg
      rw [hPz]; clear hPz Pz
      have hms0 : msd P T52 := ⟨opn_keep hO24 (hT52 27 (by decide) (by decide)) (hT52 14 (by decide) (by decide)), hF52, hR52⟩
      refine x_iconst (q := 56) (v := nI 0) C dX7_search_55 (by decide) rfl ?_
      refine x_istore_n (q := 57) (lv' := [(0, .ref (ad 0)), (1, .int (nI t1)), (2, .int (nI 0))]) C dX7_search_56 rfl (by decide) rfl rfl rfl ?_
      have L57 : ∀ (f7 : Nat) (i : Nat) (Pq : St) (Tq : St), (i ≤ t1) → (okX Pq) → (msd Pq Tq) → (srP t1 P = srP (t1 - i) Pq) → (srN t1 P = i + srN (t1 - i) Pq) → t1 - i < f7 → XW p l e rmX7_search s m args below meth c D (wX ad cI cZ) A 4 (MQ below (XPI D (tyz cI cZ) (wX ad cI cZ) A (fun r P' _ => r = FsearchX P (nI t1) ∧ P' = GsearchX P (nI t1))) args s 0 0 A) 57 [(0, .ref (ad 0)), (1, .int (nI t1)), (2, .int (nI i))] [] Pq Tq := by
        intro f7
        induction f7 with
        | zero => intro i Pq Tq hi okq hms hs1 hs2 hm; exact absurd hm (Nat.not_lt_zero _)
        | succ f7 ih57 =>
          intro i Pq Tq hi okq hms hs1 hs2 hm57
          refine x_iload_n (q := 58) C dX7_search_57 rfl 2 rfl rfl ?_
          refine x_iload_n (q := 59) C dX7_search_58 rfl 1 rfl rfl ?_
          refine x_icmp_ge_n (q := 62) (tgt := 116) C dX7_search_59 (by omega) (by omega) (by decide) rfl (fun c59 => ?_) (fun c59 => ?_)
          · refine x_iload_n (q := 117) C dX7_search_116 rfl 1 rfl rfl ?_
            exact x_iret C dX7_search_117 ⟨by rw [FsearchX, if_pos hw7, if_neg c34, cl_nI (by omega), hs2, show t1 - i = 0 by omega]; show nI t1 = nI (i + 0); congr 1; omega, by rw [GsearchX, if_pos hw7, if_neg c34, cl_nI (by omega), hs1, show t1 - i = 0 by omega]; rfl⟩
          · refine x_aload_n (q := 63) C dX7_search_62 rfl 0 rfl rfl ?_
            refine x_Vf (q := 66) (As := []) (rest := []) C (c_X7_nextToSearch hD okq hms ) xs_X7_nextToSearch tim_X7_nextToSearch tsel_X7_nextToSearch tml_X7_186 (by decide) 0 rfl (ci := 7) rfl rfl rfl (Nat.le_of_ble_eq_true rfl) dX7_search_63 rfl ?_
            refine x_istore_n (q := 67) (lv' := [(0, .ref (ad 0)), (1, .int (nI t1)), (2, .int (nI i)), (3, .int (onv (nts Pq)))]) C dX7_search_66 rfl (by decide) rfl rfl rfl ?_
            refine x_iload_n (q := 68) C dX7_search_67 rfl 3 rfl rfl ?_
            refine x_bipush (q := 70) (v := (-4)) C dX7_search_68 (by decide) rfl ?_
            refine x_icmp_ne (q := 73) (tgt := 75) C dX7_search_70 (by decide) rfl (fun c70 => ?_) (fun c70 => ?_)
            · obtain ⟨x, hx⟩ := onv_some c70
              have hgx := nts_S hx
              have hn60 := nts_60 okq.1 hx
              have hq144 := okc_S144 okq.1
              rw [hx]
              rw [show onv (some x) = nI x from rfl]
              refine x_aload_n (q := 76) C dX7_search_75 rfl 0 rfl rfl ?_
              refine xg_X7_trials (q := 79) C tfl_X7_33 dX7_search_76 rfl ?_
              refine x_iload_n (q := 80) C dX7_search_79 rfl 3 rfl rfl ?_
              refine x_aload_n (q := 81) C dX7_search_80 rfl 0 rfl rfl ?_
              refine xg_X7_effects (q := 84) C tfl_X7_26 dX7_search_81 rfl ?_
              refine x_iload_n (q := 85) C dX7_search_84 rfl 3 rfl rfl ?_
              refine x_aload_n (q := 86) C dX7_search_85 rfl 0 rfl rfl ?_
              refine xg_X7_knobs (q := 89) C tfl_X7_10 dX7_search_86 rfl ?_
              refine x_Vi (q := 92) (As := [.int (nI x), .ref (ad 1)]) (rest := [.int (nI x), .ref (ad 4)]) C (c_X1_sumFor hD okq x (by omega)) xs_X1_sumFor tim_X1_sumFor tsel_X1_sumFor tml_X7_139 (by decide) 3 rfl (ci := 1) rfl rfl rfl (Nat.le_of_ble_eq_true rfl) dX7_search_89 rfl (fun rz Pz T89 hg => ?_)
              obtain ⟨hrz, hPz, hT89⟩ := hg
              rw [hrz, hPz]; clear hrz hPz Pz rz
              refine x_Vg (q := 95) (As := [.int (nI x), .int (wo Pq x)]) (rest := []) C (c_X6_add hD okq x (wo Pq x) hn60) xs_X6_add tim_X6_add tsel_X6_add tml_X7_148 (by decide) 4 rfl (ci := 6) rfl rfl rfl (Nat.le_of_ble_eq_true rfl) dX7_search_92 rfl ?_
              refine x_aload_n (q := 96) C dX7_search_95 rfl 0 rfl rfl ?_
              refine xg_X7_bounds (q := 99) C tfl_X7_47 dX7_search_96 rfl ?_
              refine x_aload_n (q := 100) C dX7_search_99 rfl 0 rfl rfl ?_
              refine xg_X7_trials (q := 103) C tfl_X7_33 dX7_search_100 rfl ?_
              refine x_aload_n (q := 104) C dX7_search_103 rfl 0 rfl rfl ?_
              refine xg_X7_knobs (q := 107) C tfl_X7_10 dX7_search_104 rfl ?_
              refine x_Vv (q := 110) (As := [.ref (ad 4), .ref (ad 1)]) (rest := []) C (c_X0_tightenByLatest hD (okX_try okq hgx hn60) (by rw [show nt (tryP Pq x (wo Pq x)) = nt Pq + 1 from nI_clamp (by omega)]; omega)) xs_X0_tightenByLatest tim_X0_tightenByLatest tsel_X0_tightenByLatest tml_X7_189 (by decide) 6 rfl (ci := 0) rfl rfl rfl (Nat.le_of_ble_eq_true rfl) dX7_search_107 rfl (fun Pz T107 hg => ?_)
              obtain ⟨hPz, hT107, hF107, hR107⟩ := hg
              rw [hPz]; clear hPz Pz
              refine x_iinc (q := 113) (v := nI (i + 1)) (lv' := [(0, .ref (ad 0)), (1, .int (nI t1)), (2, .int (nI (i + 1))), (3, .int (nI x))]) C dX7_search_110 2 rfl (nI_add i 1) (by decide) rfl rfl rfl ?_
              refine x_goto (tgt := 57) C dX7_search_113 (by decide) ?_
              refine x_lv [0, 1, 2] rfl ?_
              exact ih57 (i + 1) _ _ (by omega) (okX_try okq hgx hn60) (msd_try okq hgx hn60 (msd_keep hms hT89) hT107 hF107 hR107) (by rw [hs1, show t1 - i = t1 - (i + 1) + 1 by omega]; exact (sr_some hx _).1) (by rw [hs2, show t1 - i = t1 - (i + 1) + 1 by omega, (sr_some hx _).2]; omega) (by omega)
            · have hx0 := onv_none okq.1 c70
              refine x_iload_n (q := 74) C dX7_search_73 rfl 2 rfl rfl ?_
              exact x_iret C dX7_search_74 ⟨by rw [FsearchX, if_pos hw7, if_neg c34, cl_nI (by omega), hs2, (sr_none hx0 _).2, Nat.add_zero], by rw [GsearchX, if_pos hw7, if_neg c34, cl_nI (by omega), hs1, (sr_none hx0 _).1]⟩
      exact L57 _ 0 _ _ (Nat.zero_le _) ok hms0 rfl (Nat.zero_add _).symm (Nat.lt_succ_self _)
    · refine x_bipush (q := 39) (v := (-2)) C dX7_search_37 (by decide) rfl ?_
      exact x_iret C dX7_search_39 ⟨by rw [FsearchX, if_pos hw7, if_pos c34], by rw [GsearchX, if_pos hw7, if_pos c34]⟩
  · refine x_iconst (q := 11) (v := (-1)) C dX7_search_10 (by decide) rfl ?_
    exact x_iret C dX7_search_11 ⟨if_f c7, if_f c7⟩

set_option maxRecDepth 100000 in
set_option maxHeartbeats 4000000 in
theorem c_X7_pairs (hD : ∀ P T, va_D A (wX ad cI cZ P T)) {P T : St} (ok : okX P) (a1 v1 y1 x1 : Int32) : XMI l D (tyz cI cZ) (wX ad cI cZ) A yX7_pairs cX7_pairs 10 (some .int) rmX7_pairs [.ref (ad 0), .int a1, .int v1, .int y1, .int x1] P T (fun r P' _ => r = FpairsX P a1 v1 y1 x1 ∧ P' = P) := by
  have okc := ok.1
  have hk6 := okc_kn6 okc
  have hS144 := okc_S144 okc
  have hS1 := okc_S1 okc
  have hnr := okc_nr12 okc
  have hnt := okc_nt60 okc
  have hnz := okc_nz50 okc
  have hsd := okc_sdb okc
  refine x_start_i (lv := [(0, .ref (ad 0)), (1, .int a1), (2, .int v1), (3, .int y1), (4, .int x1)]) (own := RX7) (by decide) rfl hD (Nat.le_of_ble_eq_true rfl) rfl ?_
  intro p e s m args below meth c C
  refine x_aload_n (q := 1) C dX7_pairs_0 rfl 0 rfl rfl ?_
  refine xg_X7_knobs (q := 4) C tfl_X7_10 dX7_pairs_1 rfl ?_
  refine x_iload_n (q := 5) C dX7_pairs_4 rfl 1 rfl rfl ?_
  refine x_iload_n (q := 6) C dX7_pairs_5 rfl 2 rfl rfl ?_
  refine x_Vf (q := 9) (As := [.int a1, .int v1]) (rest := []) C (c_X2_hasValue hD ok a1 v1 ) xs_X2_hasValue tim_X2_hasValue tsel_X2_hasValue tml_X7_73 (by decide) 1 rfl (ci := 2) rfl rfl rfl (Nat.le_of_ble_eq_true rfl) dX7_pairs_6 rfl ?_
  refine x_if_eq_b (q := 12) (tgt := 39) C dX7_pairs_9 (by decide) rfl (fun c9 => ?_) (fun c9 => ?_)
  · refine x_ldc (q := 41) C tk_X7_161 dX7_pairs_39 rfl ?_
    exact x_iret C dX7_pairs_41 ⟨if_f (fun h => by first | exact c9 h.1 | exact c21 h.2.1 | exact h.2.2.1 c26 | exact c36 h.2.2.2), rfl⟩
  · have hV9 := c9
    obtain ⟨a, v, ha, hv, rfl, rfl⟩ := isV_nat okc c9
    have hza := okc_sz2 okc ha
    refine x_aload_n (q := 13) C dX7_pairs_12 rfl 0 rfl rfl ?_
    refine xg_X7_knobs (q := 16) C tfl_X7_10 dX7_pairs_13 rfl ?_
    refine x_iload_n (q := 17) C dX7_pairs_16 rfl 1 rfl rfl ?_
    refine x_iload_n (q := 18) C dX7_pairs_17 rfl 3 rfl rfl ?_
    refine x_Vf (q := 21) (As := [.int (nI a), .int y1]) (rest := []) C (c_X2_hasValue hD ok (nI a) y1 ) xs_X2_hasValue tim_X2_hasValue tsel_X2_hasValue tml_X7_73 (by decide) 1 rfl (ci := 2) rfl rfl rfl (Nat.le_of_ble_eq_true rfl) dX7_pairs_18 rfl ?_
    refine x_if_eq_b (q := 24) (tgt := 39) C dX7_pairs_21 (by decide) rfl (fun c21 => ?_) (fun c21 => ?_)
    · refine x_ldc (q := 41) C tk_X7_161 dX7_pairs_39 rfl ?_
      exact x_iret C dX7_pairs_41 ⟨if_f (fun h => by first | exact c9 h.1 | exact c21 h.2.1 | exact h.2.2.1 c26 | exact c36 h.2.2.2), rfl⟩
    · have hV21 := c21
      obtain ⟨a2, y, ha2, hy, hae, rfl⟩ := isV_nat okc c21
      obtain rfl : a = a2 := (nI_eq (by omega) (by omega)).mp hae
      refine x_iload_n (q := 25) C dX7_pairs_24 rfl 2 rfl rfl ?_
      refine x_iload_n (q := 26) C dX7_pairs_25 rfl 3 rfl rfl ?_
      refine x_icmp_eq_n (q := 29) (tgt := 39) C dX7_pairs_26 (by omega) (by omega) (by decide) rfl (fun c26 => ?_) (fun c26 => ?_)
      · replace c26 : nI v = nI y := by rw [c26]
        refine x_ldc (q := 41) C tk_X7_161 dX7_pairs_39 rfl ?_
        exact x_iret C dX7_pairs_41 ⟨if_f (fun h => by first | exact c9 h.1 | exact c21 h.2.1 | exact h.2.2.1 c26 | exact c36 h.2.2.2), rfl⟩
      · have c26z : ¬ nI v = nI y := fun h => c26 ((nI_eq (by omega) (by omega)).mp h)
        refine x_iload (q := 31) C dX7_pairs_29 4 rfl rfl ?_
        refine x_iconst (q := 32) (v := nI 0) C dX7_pairs_31 (by decide) rfl ?_
        refine x_iconst (q := 33) (v := nI 1) C dX7_pairs_32 (by decide) rfl ?_
        refine x_Sf (q := 36) (As := [.int x1, .int (nI 0), .int (nI 1)]) (rest := []) C (c_X7_isWithin hD x1 (nI 0) (nI 1) ) xs_X7_isWithin tst_X7_isWithin tml_X7_58 (by decide) rfl rfl (Nat.le_of_ble_eq_true rfl) dX7_pairs_33 rfl ?_
        refine x_if_ne_b (q := 39) (tgt := 42) C dX7_pairs_36 (by decide) rfl (fun c36 => ?_) (fun c36 => ?_)
        · refine x_iconst (q := 43) (v := nI 0) C dX7_pairs_42 (by decide) rfl ?_
          refine x_istore (q := 45) (lv' := [(0, .ref (ad 0)), (1, .int (nI a)), (2, .int (nI v)), (3, .int (nI y)), (4, .int x1), (5, .int (nI 0))]) C dX7_pairs_43 (by decide) rfl rfl rfl ?_
          refine x_iconst (q := 46) (v := nI 0) C dX7_pairs_45 (by decide) rfl ?_
          refine x_istore (q := 48) (lv' := [(0, .ref (ad 0)), (1, .int (nI a)), (2, .int (nI v)), (3, .int (nI y)), (4, .int x1), (5, .int (nI 0)), (6, .int (nI 0))]) C dX7_pairs_46 (by decide) rfl rfl rfl ?_
          refine x_iconst (q := 49) (v := nI 0) C dX7_pairs_48 (by decide) rfl ?_
          refine x_istore (q := 51) (lv' := [(0, .ref (ad 0)), (1, .int (nI a)), (2, .int (nI v)), (3, .int (nI y)), (4, .int x1), (5, .int (nI 0)), (6, .int (nI 0)), (7, .int (nI 0))]) C dX7_pairs_49 (by decide) rfl rfl rfl ?_
          have L51 : ∀ (f1 : Nat) (i : Nat) (n : Nat) (a0 : Int32), (i ≤ nt P) → (n = pcX P a v y i) → (a0 = psX P a v y i) → nt P - i < f1 → XW p l e rmX7_pairs s m args below meth c D (wX ad cI cZ) A 10 (MQ below (XPI D (tyz cI cZ) (wX ad cI cZ) A (fun r P' _ => r = FpairsX P (nI a) (nI v) (nI y) x1 ∧ P' = P)) args s 0 0 A) 51 [(0, .ref (ad 0)), (1, .int (nI a)), (2, .int (nI v)), (3, .int (nI y)), (4, .int x1), (5, .int (nI n)), (6, .int a0), (7, .int (nI i))] [] P T := by
            intro f1
            induction f1 with
            | zero => intro i n a0 hi hn hsu hm; exact absurd hm (Nat.not_lt_zero _)
            | succ f1 ih51 =>
              intro i n a0 hi hn hsu hm51
              refine x_iload (q := 53) C dX7_pairs_51 7 rfl rfl ?_
              refine x_aload_n (q := 54) C dX7_pairs_53 rfl 0 rfl rfl ?_
              refine xg_X7_trials (q := 57) C tfl_X7_33 dX7_pairs_54 rfl ?_
              refine x_Vf (q := 60) (As := []) (rest := [.int (nI i)]) C (c_X6_howMany hD ) xs_X6_howMany tim_X6_howMany tsel_X6_howMany tml_X7_151 (by decide) 4 rfl (ci := 6) rfl rfl rfl (Nat.le_of_ble_eq_true rfl) dX7_pairs_57 rfl ?_
              refine x_topn (nt P) (okc_nt okc) ?_
              refine x_icmp_ge_n (q := 63) (tgt := 165) C dX7_pairs_60 (by omega) (by omega) (by decide) rfl (fun c60 => ?_) (fun c60 => ?_)
              · refine x_iload (q := 167) C dX7_pairs_165 4 rfl rfl ?_
                refine x_if_ne (q := 170) (tgt := 175) C dX7_pairs_167 (by decide) rfl (fun c167 => ?_) (fun c167 => ?_)
                · refine x_iload (q := 177) C dX7_pairs_175 6 rfl rfl ?_
                  exact x_iret C dX7_pairs_177 ⟨by rw [FpairsX, if_pos ⟨hV9, hV21, c26z, c36⟩, cl_nI (by omega), cl_nI (by omega), cl_nI (by omega), show nt P = i by omega]; rw [if_neg c167, hsu], rfl⟩
                · refine x_iload (q := 172) C dX7_pairs_170 5 rfl rfl ?_
                  refine x_goto (tgt := 177) C dX7_pairs_172 (by decide) ?_
                  exact x_iret C dX7_pairs_177 ⟨by rw [FpairsX, if_pos ⟨hV9, hV21, c26z, c36⟩, cl_nI (by omega), cl_nI (by omega), cl_nI (by omega), show nt P = i by omega]; rw [if_pos c167, hn], rfl⟩
              · have htS := okc_txS okc (i := i) (by omega)
                have hmS := mv_lt okc (v := y) htS ha hy
                have hvl := val_lt4 okc (tx P i) ha
                refine x_aload_n (q := 64) C dX7_pairs_63 rfl 0 rfl rfl ?_
                refine xg_X7_trials (q := 67) C tfl_X7_33 dX7_pairs_64 rfl ?_
                refine x_iload (q := 69) C dX7_pairs_67 7 rfl rfl ?_
                refine x_Vf (q := 72) (As := [.int (nI i)]) (rest := []) C (c_X6_settingAt hD i (by omega)) xs_X6_settingAt tim_X6_settingAt tsel_X6_settingAt tml_X7_158 (by decide) 4 rfl (ci := 6) rfl rfl rfl (Nat.le_of_ble_eq_true rfl) dX7_pairs_69 rfl ?_
                refine x_topn (tx P i) (okc_tx okc (by omega)) ?_
                refine x_istore (q := 74) (lv' := [(0, .ref (ad 0)), (1, .int (nI a)), (2, .int (nI v)), (3, .int (nI y)), (4, .int x1), (5, .int (nI n)), (6, .int a0), (7, .int (nI i)), (8, .int (nI (tx P i)))]) C dX7_pairs_72 (by decide) rfl rfl rfl ?_
                refine x_aload_n (q := 75) C dX7_pairs_74 rfl 0 rfl rfl ?_
                refine xg_X7_knobs (q := 78) C tfl_X7_10 dX7_pairs_75 rfl ?_
                refine x_iload (q := 80) C dX7_pairs_78 8 rfl rfl ?_
                refine x_iload_n (q := 81) C dX7_pairs_80 rfl 1 rfl rfl ?_
                refine x_Vf (q := 84) (As := [.int (nI (tx P i)), .int (nI a)]) (rest := []) C (c_X2_valueIn hD ok (tx P i) a (by omega) (by omega)) xs_X2_valueIn tim_X2_valueIn tsel_X2_valueIn tml_X7_126 (by decide) 1 rfl (ci := 2) rfl rfl rfl (Nat.le_of_ble_eq_true rfl) dX7_pairs_81 rfl ?_
                refine x_iload_n (q := 85) C dX7_pairs_84 rfl 2 rfl rfl ?_
                refine x_icmp_ne_n (q := 88) (tgt := 159) C dX7_pairs_85 (by omega) (by omega) (by decide) rfl (fun c85 => ?_) (fun c85 => ?_)
                · have hno : ¬ prX P a v y i := fun h => c85 h.1
                  refine x_iinc (q := 162) (v := nI (i + 1)) (lv' := [(0, .ref (ad 0)), (1, .int (nI a)), (2, .int (nI v)), (3, .int (nI y)), (4, .int x1), (5, .int (nI n)), (6, .int a0), (7, .int (nI (i + 1))), (8, .int (nI (tx P i)))]) C dX7_pairs_159 7 rfl (nI_add i 1) (by decide) rfl rfl rfl ?_
                  refine x_goto (tgt := 51) C dX7_pairs_162 (by decide) ?_
                  refine x_lv [0, 1, 2, 3, 4, 5, 6, 7] rfl ?_
                  exact ih51 (i + 1) n a0 (by omega) (cnt_n hn (decide_eq_false hno)) (by rw [psX, sm, if_neg hno, Int32.add_zero]; exact hsu) (by omega)
                · refine x_aload_n (q := 89) C dX7_pairs_88 rfl 0 rfl rfl ?_
                  refine xg_X7_trials (q := 92) C tfl_X7_33 dX7_pairs_89 rfl ?_
                  refine x_iload (q := 94) C dX7_pairs_92 8 rfl rfl ?_
                  refine x_Vf (q := 97) (As := [.int (nI (tx P i))]) (rest := []) C (c_X6_firstOf hD ok (tx P i) (by omega)) xs_X6_firstOf tim_X6_firstOf tsel_X6_firstOf tml_X7_192 (by decide) 4 rfl (ci := 6) rfl rfl rfl (Nat.le_of_ble_eq_true rfl) dX7_pairs_94 rfl ?_
                  refine x_topn (fi P (tx P i)) (foX_in (Nat.lt_of_le_of_lt (fi_lt (by omega) rfl) (show i < nt P by omega))) ?_
                  refine x_iload (q := 99) C dX7_pairs_97 7 rfl rfl ?_
                  refine x_icmp_eq_n (q := 102) (tgt := 105) C dX7_pairs_99 (by have := fi_le P (tx P i); omega) (by omega) (by decide) rfl (fun c99 => ?_) (fun c99 => ?_)
                  · refine x_aload_n (q := 106) C dX7_pairs_105 rfl 0 rfl rfl ?_
                    refine xg_X7_trials (q := 109) C tfl_X7_33 dX7_pairs_106 rfl ?_
                    refine x_aload_n (q := 110) C dX7_pairs_109 rfl 0 rfl rfl ?_
                    refine xg_X7_knobs (q := 113) C tfl_X7_10 dX7_pairs_110 rfl ?_
                    refine x_iload (q := 115) C dX7_pairs_113 8 rfl rfl ?_
                    refine x_iload_n (q := 116) C dX7_pairs_115 rfl 1 rfl rfl ?_
                    refine x_iload_n (q := 117) C dX7_pairs_116 rfl 3 rfl rfl ?_
                    refine x_Vf (q := 120) (As := [.int (nI (tx P i)), .int (nI a), .int (nI y)]) (rest := [.ref (ad 4)]) C (c_X2_moved hD ok (tx P i) a y (by omega) (by omega)) xs_X2_moved tim_X2_moved tsel_X2_moved tml_X7_123 (by decide) 1 rfl (ci := 2) rfl rfl rfl (Nat.le_of_ble_eq_true rfl) dX7_pairs_117 rfl ?_
                    refine x_Vf (q := 123) (As := [.int (nI (mv P (tx P i) a y))]) (rest := []) C (c_X6_firstOf hD ok (mv P (tx P i) a y) (by omega)) xs_X6_firstOf tim_X6_firstOf tsel_X6_firstOf tml_X7_192 (by decide) 4 rfl (ci := 6) rfl rfl rfl (Nat.le_of_ble_eq_true rfl) dX7_pairs_120 rfl ?_
                    refine x_istore (q := 125) (lv' := [(0, .ref (ad 0)), (1, .int (nI a)), (2, .int (nI v)), (3, .int (nI y)), (4, .int x1), (5, .int (nI n)), (6, .int a0), (7, .int (nI i)), (8, .int (nI (tx P i))), (9, .int (foX P (mv P (tx P i) a y)))]) C dX7_pairs_123 (by decide) rfl rfl rfl ?_
                    refine x_iload (q := 127) C dX7_pairs_125 9 rfl rfl ?_
                    refine x_bipush (q := 129) (v := (-4)) C dX7_pairs_127 (by decide) rfl ?_
                    refine x_icmp_eq (q := 132) (tgt := 159) C dX7_pairs_129 (by decide) rfl (fun c129 => ?_) (fun c129 => ?_)
                    · have hno : ¬ prX P a v y i := fun h => (foX_4 hnt).mp c129 h.2.2
                      refine x_iinc (q := 162) (v := nI (i + 1)) (lv' := [(0, .ref (ad 0)), (1, .int (nI a)), (2, .int (nI v)), (3, .int (nI y)), (4, .int x1), (5, .int (nI n)), (6, .int a0), (7, .int (nI (i + 1))), (8, .int (nI (tx P i))), (9, .int (foX P (mv P (tx P i) a y)))]) C dX7_pairs_159 7 rfl (nI_add i 1) (by decide) rfl rfl rfl ?_
                      refine x_goto (tgt := 51) C dX7_pairs_162 (by decide) ?_
                      refine x_lv [0, 1, 2, 3, 4, 5, 6, 7] rfl ?_
                      exact ih51 (i + 1) n a0 (by omega) (cnt_n hn (decide_eq_false hno)) (by rw [psX, sm, if_neg hno, Int32.add_zero]; exact hsu) (by omega)
                    · have hfi : fi P (mv P (tx P i) a y) < nt P := Decidable.byContradiction (fun q => c129 ((foX_4 hnt).mpr q))
                      rw [foX_in hfi]
                      refine x_iinc (q := 135) (v := nI (n + 1)) (lv' := [(0, .ref (ad 0)), (1, .int (nI a)), (2, .int (nI v)), (3, .int (nI y)), (4, .int x1), (5, .int (nI (n + 1))), (6, .int a0), (7, .int (nI i)), (8, .int (nI (tx P i))), (9, .int (nI (fi P (mv P (tx P i) a y))))]) C dX7_pairs_132 5 rfl (nI_add n 1) (by decide) rfl rfl rfl ?_
                      refine x_iload (q := 137) C dX7_pairs_135 6 rfl rfl ?_
                      refine x_aload_n (q := 138) C dX7_pairs_137 rfl 0 rfl rfl ?_
                      refine xg_X7_trials (q := 141) C tfl_X7_33 dX7_pairs_138 rfl ?_
                      refine x_iload (q := 143) C dX7_pairs_141 9 rfl rfl ?_
                      refine x_Vf (q := 146) (As := [.int (nI (fi P (mv P (tx P i) a y)))]) (rest := [.int a0]) C (c_X6_readingAt hD (fi P (mv P (tx P i) a y)) (by omega)) xs_X6_readingAt tim_X6_readingAt tsel_X6_readingAt tml_X7_155 (by decide) 4 rfl (ci := 6) rfl rfl rfl (Nat.le_of_ble_eq_true rfl) dX7_pairs_143 rfl ?_
                      refine x_aload_n (q := 147) C dX7_pairs_146 rfl 0 rfl rfl ?_
                      refine xg_X7_trials (q := 150) C tfl_X7_33 dX7_pairs_147 rfl ?_
                      refine x_iload (q := 152) C dX7_pairs_150 7 rfl rfl ?_
                      refine x_Vf (q := 155) (As := [.int (nI i)]) (rest := [.int (P 13 (fi P (mv P (tx P i) a y))), .int a0]) C (c_X6_readingAt hD i (by omega)) xs_X6_readingAt tim_X6_readingAt tsel_X6_readingAt tml_X7_155 (by decide) 4 rfl (ci := 6) rfl rfl rfl (Nat.le_of_ble_eq_true rfl) dX7_pairs_152 rfl ?_
                      refine x_isub (q := 156) C dX7_pairs_155 rfl ?_
                      refine x_iadd (q := 157) C dX7_pairs_156 rfl ?_
                      refine x_topi (fun z2 hz2 => ?_)
                      refine x_istore (q := 159) (lv' := [(0, .ref (ad 0)), (1, .int (nI a)), (2, .int (nI v)), (3, .int (nI y)), (4, .int x1), (5, .int (nI (n + 1))), (6, .int z2), (7, .int (nI i)), (8, .int (nI (tx P i))), (9, .int (nI (fi P (mv P (tx P i) a y))))]) C dX7_pairs_157 (by decide) rfl rfl rfl ?_
                      refine x_iinc (q := 162) (v := nI (i + 1)) (lv' := [(0, .ref (ad 0)), (1, .int (nI a)), (2, .int (nI v)), (3, .int (nI y)), (4, .int x1), (5, .int (nI (n + 1))), (6, .int z2), (7, .int (nI (i + 1))), (8, .int (nI (tx P i))), (9, .int (nI (fi P (mv P (tx P i) a y))))]) C dX7_pairs_159 7 rfl (nI_add i 1) (by decide) rfl rfl rfl ?_
                      refine x_goto (tgt := 51) C dX7_pairs_162 (by decide) ?_
                      refine x_lv [0, 1, 2, 3, 4, 5, 6, 7] rfl ?_
                      exact ih51 (i + 1) (n + 1) z2 (by omega) (cnt_y hn (decide_eq_true ⟨c85, c99, hfi⟩)) (by rw [psX, sm, if_pos ⟨c85, c99, hfi⟩, hz2, hsu]; rfl) (by omega)
                  · have hno : ¬ prX P a v y i := fun h => c99 h.2.1
                    refine x_goto (tgt := 159) C dX7_pairs_102 (by decide) ?_
                    refine x_iinc (q := 162) (v := nI (i + 1)) (lv' := [(0, .ref (ad 0)), (1, .int (nI a)), (2, .int (nI v)), (3, .int (nI y)), (4, .int x1), (5, .int (nI n)), (6, .int a0), (7, .int (nI (i + 1))), (8, .int (nI (tx P i)))]) C dX7_pairs_159 7 rfl (nI_add i 1) (by decide) rfl rfl rfl ?_
                    refine x_goto (tgt := 51) C dX7_pairs_162 (by decide) ?_
                    refine x_lv [0, 1, 2, 3, 4, 5, 6, 7] rfl ?_
                    exact ih51 (i + 1) n a0 (by omega) (cnt_n hn (decide_eq_false hno)) (by rw [psX, sm, if_neg hno, Int32.add_zero]; exact hsu) (by omega)
          exact L51 _ 0 0 0 (Nat.zero_le _) rfl rfl (Nat.lt_succ_self _)
        · refine x_ldc (q := 41) C tk_X7_161 dX7_pairs_39 rfl ?_
          exact x_iret C dX7_pairs_41 ⟨if_f (fun h => by first | exact c9 h.1 | exact c21 h.2.1 | exact h.2.2.1 c26 | exact c36 h.2.2.2), rfl⟩

set_option maxRecDepth 100000 in
set_option maxHeartbeats 4000000 in
theorem c_X7_excess (hD : ∀ P T, va_D A (wX ad cI cZ P T)) {P T : St} (ok : okX P) (x1 a1 v1 u1 b1 y1 g1 : Int32) : XMI l D (tyz cI cZ) (wX ad cI cZ) A yX7_excess cX7_excess 14 (some .int) rmX7_excess [.ref (ad 0), .int x1, .int a1, .int v1, .int u1, .int b1, .int y1, .int g1] P T (fun r P' T' => r = Fexc P x1 a1 v1 u1 b1 y1 g1 ∧ P' = P ∧ T' = T) := by
  have okc := ok.1
  have hk6 := okc_kn6 okc
  have hS144 := okc_S144 okc
  have hS1 := okc_S1 okc
  have hnr := okc_nr12 okc
  have hnt := okc_nt60 okc
  have hnz := okc_nz50 okc
  have hsd := okc_sdb okc
  refine x_start_i (lv := [(0, .ref (ad 0)), (1, .int x1), (2, .int a1), (3, .int v1), (4, .int u1), (5, .int b1), (6, .int y1), (7, .int g1)]) (own := RX7) (by decide) rfl hD (Nat.le_of_ble_eq_true rfl) rfl ?_
  intro p e s m args below meth c C
  refine x_aload_n (q := 1) C dX7_excess_0 rfl 0 rfl rfl ?_
  refine xg_X7_knobs (q := 4) C tfl_X7_10 dX7_excess_1 rfl ?_
  refine x_iload_n (q := 5) C dX7_excess_4 rfl 1 rfl rfl ?_
  refine x_Vf (q := 8) (As := [.int x1]) (rest := []) C (c_X2_hasSetting hD x1 ) xs_X2_hasSetting tim_X2_hasSetting tsel_X2_hasSetting tml_X7_120 (by decide) 1 rfl (ci := 2) rfl rfl rfl (Nat.le_of_ble_eq_true rfl) dX7_excess_5 rfl ?_
  refine x_if_eq_b (q := 11) (tgt := 30) C dX7_excess_8 (by decide) rfl (fun c8 => ?_) (fun c8 => ?_)
  · refine x_ldc (q := 32) C tk_X7_195 dX7_excess_30 rfl ?_
    exact x_iret C dX7_excess_32 ⟨if_f (fun h => by first | exact c8 h.1.1 | exact Int32.not_lt.mpr c14 h.1.2.1 | exact h.1.2.2.1 c20 | exact h.1.2.2.2 c27 | exact c42 h.2.1.1 | exact c55 h.2.1.2 | exact c72 h.2.2.1 | exact c86 h.2.2.2),rfl, rfl⟩
  · have hS8 := c8
    obtain ⟨x, hx, rfl⟩ := isS_nat okc c8
    refine x_iload_n (q := 12) C dX7_excess_11 rfl 2 rfl rfl ?_
    refine x_iload (q := 14) C dX7_excess_12 5 rfl rfl ?_
    refine x_icmp_ge (q := 17) (tgt := 30) C dX7_excess_14 (by decide) rfl (fun c14 => ?_) (fun c14 => ?_)
    · refine x_ldc (q := 32) C tk_X7_195 dX7_excess_30 rfl ?_
      exact x_iret C dX7_excess_32 ⟨if_f (fun h => by first | exact c8 h.1.1 | exact Int32.not_lt.mpr c14 h.1.2.1 | exact h.1.2.2.1 c20 | exact h.1.2.2.2 c27 | exact c42 h.2.1.1 | exact c55 h.2.1.2 | exact c72 h.2.2.1 | exact c86 h.2.2.2),rfl, rfl⟩
    · have hab : a1 < b1 := fa_of_nle c14
      refine x_iload_n (q := 18) C dX7_excess_17 rfl 3 rfl rfl ?_
      refine x_iload (q := 20) C dX7_excess_18 4 rfl rfl ?_
      refine x_icmp_eq (q := 23) (tgt := 30) C dX7_excess_20 (by decide) rfl (fun c20 => ?_) (fun c20 => ?_)
      · refine x_ldc (q := 32) C tk_X7_195 dX7_excess_30 rfl ?_
        exact x_iret C dX7_excess_32 ⟨if_f (fun h => by first | exact c8 h.1.1 | exact Int32.not_lt.mpr c14 h.1.2.1 | exact h.1.2.2.1 c20 | exact h.1.2.2.2 c27 | exact c42 h.2.1.1 | exact c55 h.2.1.2 | exact c72 h.2.2.1 | exact c86 h.2.2.2),rfl, rfl⟩
      · refine x_iload (q := 25) C dX7_excess_23 6 rfl rfl ?_
        refine x_iload (q := 27) C dX7_excess_25 7 rfl rfl ?_
        refine x_icmp_ne (q := 30) (tgt := 33) C dX7_excess_27 (by decide) rfl (fun c27 => ?_) (fun c27 => ?_)
        · refine x_aload_n (q := 34) C dX7_excess_33 rfl 0 rfl rfl ?_
          refine xg_X7_knobs (q := 37) C tfl_X7_10 dX7_excess_34 rfl ?_
          refine x_iload_n (q := 38) C dX7_excess_37 rfl 2 rfl rfl ?_
          refine x_iload_n (q := 39) C dX7_excess_38 rfl 3 rfl rfl ?_
          refine x_Vf (q := 42) (As := [.int a1, .int v1]) (rest := []) C (c_X2_hasValue hD ok a1 v1 ) xs_X2_hasValue tim_X2_hasValue tsel_X2_hasValue tml_X7_73 (by decide) 1 rfl (ci := 2) rfl rfl rfl (Nat.le_of_ble_eq_true rfl) dX7_excess_39 rfl ?_
          refine x_if_eq_b (q := 45) (tgt := 58) C dX7_excess_42 (by decide) rfl (fun c42 => ?_) (fun c42 => ?_)
          · refine x_ldc (q := 60) C tk_X7_195 dX7_excess_58 rfl ?_
            exact x_iret C dX7_excess_60 ⟨if_f (fun h => by first | exact c8 h.1.1 | exact Int32.not_lt.mpr c14 h.1.2.1 | exact h.1.2.2.1 c20 | exact h.1.2.2.2 c27 | exact c42 h.2.1.1 | exact c55 h.2.1.2 | exact c72 h.2.2.1 | exact c86 h.2.2.2),rfl, rfl⟩
          · have hV42 := c42
            obtain ⟨a, v, ha, hv, rfl, rfl⟩ := isV_nat okc c42
            have hza := okc_sz2 okc ha
            refine x_aload_n (q := 46) C dX7_excess_45 rfl 0 rfl rfl ?_
            refine xg_X7_knobs (q := 49) C tfl_X7_10 dX7_excess_46 rfl ?_
            refine x_iload_n (q := 50) C dX7_excess_49 rfl 2 rfl rfl ?_
            refine x_iload (q := 52) C dX7_excess_50 4 rfl rfl ?_
            refine x_Vf (q := 55) (As := [.int (nI a), .int u1]) (rest := []) C (c_X2_hasValue hD ok (nI a) u1 ) xs_X2_hasValue tim_X2_hasValue tsel_X2_hasValue tml_X7_73 (by decide) 1 rfl (ci := 2) rfl rfl rfl (Nat.le_of_ble_eq_true rfl) dX7_excess_52 rfl ?_
            refine x_if_ne_b (q := 58) (tgt := 61) C dX7_excess_55 (by decide) rfl (fun c55 => ?_) (fun c55 => ?_)
            · have hV55 := c55
              obtain ⟨q55, u, hq55, hu, he55, rfl⟩ := isV_nat okc c55
              obtain rfl : a = q55 := (nI_eq (by omega) (by omega)).mp he55
              refine x_aload_n (q := 62) C dX7_excess_61 rfl 0 rfl rfl ?_
              refine xg_X7_knobs (q := 65) C tfl_X7_10 dX7_excess_62 rfl ?_
              refine x_iload (q := 67) C dX7_excess_65 5 rfl rfl ?_
              refine x_iload (q := 69) C dX7_excess_67 6 rfl rfl ?_
              refine x_Vf (q := 72) (As := [.int b1, .int y1]) (rest := []) C (c_X2_hasValue hD ok b1 y1 ) xs_X2_hasValue tim_X2_hasValue tsel_X2_hasValue tml_X7_73 (by decide) 1 rfl (ci := 2) rfl rfl rfl (Nat.le_of_ble_eq_true rfl) dX7_excess_69 rfl ?_
              refine x_if_eq_b (q := 75) (tgt := 89) C dX7_excess_72 (by decide) rfl (fun c72 => ?_) (fun c72 => ?_)
              · refine x_ldc (q := 91) C tk_X7_195 dX7_excess_89 rfl ?_
                exact x_iret C dX7_excess_91 ⟨if_f (fun h => by first | exact c8 h.1.1 | exact Int32.not_lt.mpr c14 h.1.2.1 | exact h.1.2.2.1 c20 | exact h.1.2.2.2 c27 | exact c42 h.2.1.1 | exact c55 h.2.1.2 | exact c72 h.2.2.1 | exact c86 h.2.2.2),rfl, rfl⟩
              · have hV72 := c72
                obtain ⟨b, y, hb, hy, rfl, rfl⟩ := isV_nat okc c72
                have hzb := okc_sz2 okc hb
                refine x_aload_n (q := 76) C dX7_excess_75 rfl 0 rfl rfl ?_
                refine xg_X7_knobs (q := 79) C tfl_X7_10 dX7_excess_76 rfl ?_
                refine x_iload (q := 81) C dX7_excess_79 5 rfl rfl ?_
                refine x_iload (q := 83) C dX7_excess_81 7 rfl rfl ?_
                refine x_Vf (q := 86) (As := [.int (nI b), .int g1]) (rest := []) C (c_X2_hasValue hD ok (nI b) g1 ) xs_X2_hasValue tim_X2_hasValue tsel_X2_hasValue tml_X7_73 (by decide) 1 rfl (ci := 2) rfl rfl rfl (Nat.le_of_ble_eq_true rfl) dX7_excess_83 rfl ?_
                refine x_if_ne_b (q := 89) (tgt := 92) C dX7_excess_86 (by decide) rfl (fun c86 => ?_) (fun c86 => ?_)
                · have hV86 := c86
                  obtain ⟨q86, g, hq86, hg, he86, rfl⟩ := isV_nat okc c86
                  obtain rfl : b = q86 := (nI_eq (by omega) (by omega)).mp he86
                  have hm1 := mv_lt okc (v := v) hx ha hv
                  have hm2 := mv_lt okc (v := u) hx ha hu
                  have hm3 := mv_lt okc (v := y) hm1 hb hy
                  have hm4 := mv_lt okc (v := y) hm2 hb hy
                  have hm5 := mv_lt okc (v := g) hm1 hb hg
                  have hm6 := mv_lt okc (v := g) hm2 hb hg
                  refine x_aload_n (q := 93) C dX7_excess_92 rfl 0 rfl rfl ?_
                  refine xg_X7_knobs (q := 96) C tfl_X7_10 dX7_excess_93 rfl ?_
                  refine x_iload_n (q := 97) C dX7_excess_96 rfl 1 rfl rfl ?_
                  refine x_iload_n (q := 98) C dX7_excess_97 rfl 2 rfl rfl ?_
                  refine x_iload_n (q := 99) C dX7_excess_98 rfl 3 rfl rfl ?_
                  refine x_Vf (q := 102) (As := [.int (nI x), .int (nI a), .int (nI v)]) (rest := []) C (c_X2_moved hD ok x a v (by omega) (by omega)) xs_X2_moved tim_X2_moved tsel_X2_moved tml_X7_123 (by decide) 1 rfl (ci := 2) rfl rfl rfl (Nat.le_of_ble_eq_true rfl) dX7_excess_99 rfl ?_
                  refine x_istore (q := 104) (lv' := [(0, .ref (ad 0)), (1, .int (nI x)), (2, .int (nI a)), (3, .int (nI v)), (4, .int (nI u)), (5, .int (nI b)), (6, .int (nI y)), (7, .int (nI g)), (8, .int (nI (mv P x a v)))]) C dX7_excess_102 (by decide) rfl rfl rfl ?_
                  refine x_aload_n (q := 105) C dX7_excess_104 rfl 0 rfl rfl ?_
                  refine xg_X7_knobs (q := 108) C tfl_X7_10 dX7_excess_105 rfl ?_
                  refine x_iload_n (q := 109) C dX7_excess_108 rfl 1 rfl rfl ?_
                  refine x_iload_n (q := 110) C dX7_excess_109 rfl 2 rfl rfl ?_
                  refine x_iload (q := 112) C dX7_excess_110 4 rfl rfl ?_
                  refine x_Vf (q := 115) (As := [.int (nI x), .int (nI a), .int (nI u)]) (rest := []) C (c_X2_moved hD ok x a u (by omega) (by omega)) xs_X2_moved tim_X2_moved tsel_X2_moved tml_X7_123 (by decide) 1 rfl (ci := 2) rfl rfl rfl (Nat.le_of_ble_eq_true rfl) dX7_excess_112 rfl ?_
                  refine x_istore (q := 117) (lv' := [(0, .ref (ad 0)), (1, .int (nI x)), (2, .int (nI a)), (3, .int (nI v)), (4, .int (nI u)), (5, .int (nI b)), (6, .int (nI y)), (7, .int (nI g)), (8, .int (nI (mv P x a v))), (9, .int (nI (mv P x a u)))]) C dX7_excess_115 (by decide) rfl rfl rfl ?_
                  refine x_aload_n (q := 118) C dX7_excess_117 rfl 0 rfl rfl ?_
                  refine xg_X7_trials (q := 121) C tfl_X7_33 dX7_excess_118 rfl ?_
                  refine x_aload_n (q := 122) C dX7_excess_121 rfl 0 rfl rfl ?_
                  refine xg_X7_knobs (q := 125) C tfl_X7_10 dX7_excess_122 rfl ?_
                  refine x_iload (q := 127) C dX7_excess_125 9 rfl rfl ?_
                  refine x_iload (q := 129) C dX7_excess_127 5 rfl rfl ?_
                  refine x_iload (q := 131) C dX7_excess_129 7 rfl rfl ?_
                  refine x_Vf (q := 134) (As := [.int (nI (mv P x a u)), .int (nI b), .int (nI g)]) (rest := [.ref (ad 4)]) C (c_X2_moved hD ok (mv P x a u) b g (by omega) (by omega)) xs_X2_moved tim_X2_moved tsel_X2_moved tml_X7_123 (by decide) 1 rfl (ci := 2) rfl rfl rfl (Nat.le_of_ble_eq_true rfl) dX7_excess_131 rfl ?_
                  refine x_Vf (q := 137) (As := [.int (nI (mv P (mv P x a u) b g))]) (rest := []) C (c_X6_firstOf hD ok (mv P (mv P x a u) b g) (by omega)) xs_X6_firstOf tim_X6_firstOf tsel_X6_firstOf tml_X7_192 (by decide) 4 rfl (ci := 6) rfl rfl rfl (Nat.le_of_ble_eq_true rfl) dX7_excess_134 rfl ?_
                  refine x_istore (q := 139) (lv' := [(0, .ref (ad 0)), (1, .int (nI x)), (2, .int (nI a)), (3, .int (nI v)), (4, .int (nI u)), (5, .int (nI b)), (6, .int (nI y)), (7, .int (nI g)), (8, .int (nI (mv P x a v))), (9, .int (nI (mv P x a u))), (10, .int (foX P (mv P (mv P x a u) b g)))]) C dX7_excess_137 (by decide) rfl rfl rfl ?_
                  refine x_aload_n (q := 140) C dX7_excess_139 rfl 0 rfl rfl ?_
                  refine xg_X7_trials (q := 143) C tfl_X7_33 dX7_excess_140 rfl ?_
                  refine x_aload_n (q := 144) C dX7_excess_143 rfl 0 rfl rfl ?_
                  refine xg_X7_knobs (q := 147) C tfl_X7_10 dX7_excess_144 rfl ?_
                  refine x_iload (q := 149) C dX7_excess_147 9 rfl rfl ?_
                  refine x_iload (q := 151) C dX7_excess_149 5 rfl rfl ?_
                  refine x_iload (q := 153) C dX7_excess_151 6 rfl rfl ?_
                  refine x_Vf (q := 156) (As := [.int (nI (mv P x a u)), .int (nI b), .int (nI y)]) (rest := [.ref (ad 4)]) C (c_X2_moved hD ok (mv P x a u) b y (by omega) (by omega)) xs_X2_moved tim_X2_moved tsel_X2_moved tml_X7_123 (by decide) 1 rfl (ci := 2) rfl rfl rfl (Nat.le_of_ble_eq_true rfl) dX7_excess_153 rfl ?_
                  refine x_Vf (q := 159) (As := [.int (nI (mv P (mv P x a u) b y))]) (rest := []) C (c_X6_firstOf hD ok (mv P (mv P x a u) b y) (by omega)) xs_X6_firstOf tim_X6_firstOf tsel_X6_firstOf tml_X7_192 (by decide) 4 rfl (ci := 6) rfl rfl rfl (Nat.le_of_ble_eq_true rfl) dX7_excess_156 rfl ?_
                  refine x_istore (q := 161) (lv' := [(0, .ref (ad 0)), (1, .int (nI x)), (2, .int (nI a)), (3, .int (nI v)), (4, .int (nI u)), (5, .int (nI b)), (6, .int (nI y)), (7, .int (nI g)), (8, .int (nI (mv P x a v))), (9, .int (nI (mv P x a u))), (10, .int (foX P (mv P (mv P x a u) b g))), (11, .int (foX P (mv P (mv P x a u) b y)))]) C dX7_excess_159 (by decide) rfl rfl rfl ?_
                  refine x_aload_n (q := 162) C dX7_excess_161 rfl 0 rfl rfl ?_
                  refine xg_X7_trials (q := 165) C tfl_X7_33 dX7_excess_162 rfl ?_
                  refine x_aload_n (q := 166) C dX7_excess_165 rfl 0 rfl rfl ?_
                  refine xg_X7_knobs (q := 169) C tfl_X7_10 dX7_excess_166 rfl ?_
                  refine x_iload (q := 171) C dX7_excess_169 8 rfl rfl ?_
                  refine x_iload (q := 173) C dX7_excess_171 5 rfl rfl ?_
                  refine x_iload (q := 175) C dX7_excess_173 7 rfl rfl ?_
                  refine x_Vf (q := 178) (As := [.int (nI (mv P x a v)), .int (nI b), .int (nI g)]) (rest := [.ref (ad 4)]) C (c_X2_moved hD ok (mv P x a v) b g (by omega) (by omega)) xs_X2_moved tim_X2_moved tsel_X2_moved tml_X7_123 (by decide) 1 rfl (ci := 2) rfl rfl rfl (Nat.le_of_ble_eq_true rfl) dX7_excess_175 rfl ?_
                  refine x_Vf (q := 181) (As := [.int (nI (mv P (mv P x a v) b g))]) (rest := []) C (c_X6_firstOf hD ok (mv P (mv P x a v) b g) (by omega)) xs_X6_firstOf tim_X6_firstOf tsel_X6_firstOf tml_X7_192 (by decide) 4 rfl (ci := 6) rfl rfl rfl (Nat.le_of_ble_eq_true rfl) dX7_excess_178 rfl ?_
                  refine x_istore (q := 183) (lv' := [(0, .ref (ad 0)), (1, .int (nI x)), (2, .int (nI a)), (3, .int (nI v)), (4, .int (nI u)), (5, .int (nI b)), (6, .int (nI y)), (7, .int (nI g)), (8, .int (nI (mv P x a v))), (9, .int (nI (mv P x a u))), (10, .int (foX P (mv P (mv P x a u) b g))), (11, .int (foX P (mv P (mv P x a u) b y))), (12, .int (foX P (mv P (mv P x a v) b g)))]) C dX7_excess_181 (by decide) rfl rfl rfl ?_
                  refine x_aload_n (q := 184) C dX7_excess_183 rfl 0 rfl rfl ?_
                  refine xg_X7_trials (q := 187) C tfl_X7_33 dX7_excess_184 rfl ?_
                  refine x_aload_n (q := 188) C dX7_excess_187 rfl 0 rfl rfl ?_
                  refine xg_X7_knobs (q := 191) C tfl_X7_10 dX7_excess_188 rfl ?_
                  refine x_iload (q := 193) C dX7_excess_191 8 rfl rfl ?_
                  refine x_iload (q := 195) C dX7_excess_193 5 rfl rfl ?_
                  refine x_iload (q := 197) C dX7_excess_195 6 rfl rfl ?_
                  refine x_Vf (q := 200) (As := [.int (nI (mv P x a v)), .int (nI b), .int (nI y)]) (rest := [.ref (ad 4)]) C (c_X2_moved hD ok (mv P x a v) b y (by omega) (by omega)) xs_X2_moved tim_X2_moved tsel_X2_moved tml_X7_123 (by decide) 1 rfl (ci := 2) rfl rfl rfl (Nat.le_of_ble_eq_true rfl) dX7_excess_197 rfl ?_
                  refine x_Vf (q := 203) (As := [.int (nI (mv P (mv P x a v) b y))]) (rest := []) C (c_X6_firstOf hD ok (mv P (mv P x a v) b y) (by omega)) xs_X6_firstOf tim_X6_firstOf tsel_X6_firstOf tml_X7_192 (by decide) 4 rfl (ci := 6) rfl rfl rfl (Nat.le_of_ble_eq_true rfl) dX7_excess_200 rfl ?_
                  refine x_istore (q := 205) (lv' := [(0, .ref (ad 0)), (1, .int (nI x)), (2, .int (nI a)), (3, .int (nI v)), (4, .int (nI u)), (5, .int (nI b)), (6, .int (nI y)), (7, .int (nI g)), (8, .int (nI (mv P x a v))), (9, .int (nI (mv P x a u))), (10, .int (foX P (mv P (mv P x a u) b g))), (11, .int (foX P (mv P (mv P x a u) b y))), (12, .int (foX P (mv P (mv P x a v) b g))), (13, .int (foX P (mv P (mv P x a v) b y)))]) C dX7_excess_203 (by decide) rfl rfl rfl ?_
                  refine x_iload (q := 207) C dX7_excess_205 10 rfl rfl ?_
                  refine x_bipush (q := 209) (v := (-4)) C dX7_excess_207 (by decide) rfl ?_
                  refine x_icmp_eq (q := 212) (tgt := 233) C dX7_excess_209 (by decide) rfl (fun c209 => ?_) (fun c209 => ?_)
                  · refine x_ldc (q := 235) C tk_X7_196 dX7_excess_233 rfl ?_
                    exact x_iret C dX7_excess_235 ⟨by rw [Fexc, if_pos ⟨⟨hS8, hab, c20, c27⟩, ⟨hV42, hV55⟩, hV72, hV86⟩, cl_nI (by omega), cl_nI (by omega), cl_nI (by omega), cl_nI (by omega), cl_nI (by omega), cl_nI (by omega), cl_nI (by omega)]; rw [if_neg (fun h => by first | exact (foX_4 hnt).mp c209 h.1 | exact (foX_4 hnt).mp c216 h.2.1 | exact (foX_4 hnt).mp c223 h.2.2.1 | exact (foX_4 hnt).mp c230 h.2.2.2)],rfl, rfl⟩
                  · have h1 : exf P x a u b g < nt P := Decidable.byContradiction (fun q => c209 ((foX_4 hnt).mpr q))
                    rw [foX_in h1]
                    rw [show fi P (mv P (mv P x a u) b g) = exf P x a u b g from rfl]
                    refine x_iload (q := 214) C dX7_excess_212 11 rfl rfl ?_
                    refine x_bipush (q := 216) (v := (-4)) C dX7_excess_214 (by decide) rfl ?_
                    refine x_icmp_eq (q := 219) (tgt := 233) C dX7_excess_216 (by decide) rfl (fun c216 => ?_) (fun c216 => ?_)
                    · refine x_ldc (q := 235) C tk_X7_196 dX7_excess_233 rfl ?_
                      exact x_iret C dX7_excess_235 ⟨by rw [Fexc, if_pos ⟨⟨hS8, hab, c20, c27⟩, ⟨hV42, hV55⟩, hV72, hV86⟩, cl_nI (by omega), cl_nI (by omega), cl_nI (by omega), cl_nI (by omega), cl_nI (by omega), cl_nI (by omega), cl_nI (by omega)]; rw [if_neg (fun h => by first | exact (foX_4 hnt).mp c209 h.1 | exact (foX_4 hnt).mp c216 h.2.1 | exact (foX_4 hnt).mp c223 h.2.2.1 | exact (foX_4 hnt).mp c230 h.2.2.2)],rfl, rfl⟩
                    · have h2 : exf P x a u b y < nt P := Decidable.byContradiction (fun q => c216 ((foX_4 hnt).mpr q))
                      rw [foX_in h2]
                      rw [show fi P (mv P (mv P x a u) b y) = exf P x a u b y from rfl]
                      refine x_iload (q := 221) C dX7_excess_219 12 rfl rfl ?_
                      refine x_bipush (q := 223) (v := (-4)) C dX7_excess_221 (by decide) rfl ?_
                      refine x_icmp_eq (q := 226) (tgt := 233) C dX7_excess_223 (by decide) rfl (fun c223 => ?_) (fun c223 => ?_)
                      · refine x_ldc (q := 235) C tk_X7_196 dX7_excess_233 rfl ?_
                        exact x_iret C dX7_excess_235 ⟨by rw [Fexc, if_pos ⟨⟨hS8, hab, c20, c27⟩, ⟨hV42, hV55⟩, hV72, hV86⟩, cl_nI (by omega), cl_nI (by omega), cl_nI (by omega), cl_nI (by omega), cl_nI (by omega), cl_nI (by omega), cl_nI (by omega)]; rw [if_neg (fun h => by first | exact (foX_4 hnt).mp c209 h.1 | exact (foX_4 hnt).mp c216 h.2.1 | exact (foX_4 hnt).mp c223 h.2.2.1 | exact (foX_4 hnt).mp c230 h.2.2.2)],rfl, rfl⟩
                      · have h3 : exf P x a v b g < nt P := Decidable.byContradiction (fun q => c223 ((foX_4 hnt).mpr q))
                        rw [foX_in h3]
                        rw [show fi P (mv P (mv P x a v) b g) = exf P x a v b g from rfl]
                        refine x_iload (q := 228) C dX7_excess_226 13 rfl rfl ?_
                        refine x_bipush (q := 230) (v := (-4)) C dX7_excess_228 (by decide) rfl ?_
                        refine x_icmp_ne (q := 233) (tgt := 236) C dX7_excess_230 (by decide) rfl (fun c230 => ?_) (fun c230 => ?_)
                        · have h4 : exf P x a v b y < nt P := Decidable.byContradiction (fun q => c230 ((foX_4 hnt).mpr q))
                          rw [foX_in h4]
                          rw [show fi P (mv P (mv P x a v) b y) = exf P x a v b y from rfl]
                          refine x_aload_n (q := 237) C dX7_excess_236 rfl 0 rfl rfl ?_
                          refine xg_X7_trials (q := 240) C tfl_X7_33 dX7_excess_237 rfl ?_
                          refine x_iload (q := 242) C dX7_excess_240 10 rfl rfl ?_
                          refine x_Vf (q := 245) (As := [.int (nI (exf P x a u b g))]) (rest := []) C (c_X6_readingAt hD (exf P x a u b g) (by omega)) xs_X6_readingAt tim_X6_readingAt tsel_X6_readingAt tml_X7_155 (by decide) 4 rfl (ci := 6) rfl rfl rfl (Nat.le_of_ble_eq_true rfl) dX7_excess_242 rfl ?_
                          refine x_aload_n (q := 246) C dX7_excess_245 rfl 0 rfl rfl ?_
                          refine xg_X7_trials (q := 249) C tfl_X7_33 dX7_excess_246 rfl ?_
                          refine x_iload (q := 251) C dX7_excess_249 11 rfl rfl ?_
                          refine x_Vf (q := 254) (As := [.int (nI (exf P x a u b y))]) (rest := [.int (P 13 (exf P x a u b g))]) C (c_X6_readingAt hD (exf P x a u b y) (by omega)) xs_X6_readingAt tim_X6_readingAt tsel_X6_readingAt tml_X7_155 (by decide) 4 rfl (ci := 6) rfl rfl rfl (Nat.le_of_ble_eq_true rfl) dX7_excess_251 rfl ?_
                          refine x_isub (q := 255) C dX7_excess_254 rfl ?_
                          refine x_aload_n (q := 256) C dX7_excess_255 rfl 0 rfl rfl ?_
                          refine xg_X7_trials (q := 259) C tfl_X7_33 dX7_excess_256 rfl ?_
                          refine x_iload (q := 261) C dX7_excess_259 12 rfl rfl ?_
                          refine x_Vf (q := 264) (As := [.int (nI (exf P x a v b g))]) (rest := [.int ((P 13 (exf P x a u b g)) - (P 13 (exf P x a u b y)))]) C (c_X6_readingAt hD (exf P x a v b g) (by omega)) xs_X6_readingAt tim_X6_readingAt tsel_X6_readingAt tml_X7_155 (by decide) 4 rfl (ci := 6) rfl rfl rfl (Nat.le_of_ble_eq_true rfl) dX7_excess_261 rfl ?_
                          refine x_isub (q := 265) C dX7_excess_264 rfl ?_
                          refine x_aload_n (q := 266) C dX7_excess_265 rfl 0 rfl rfl ?_
                          refine xg_X7_trials (q := 269) C tfl_X7_33 dX7_excess_266 rfl ?_
                          refine x_iload (q := 271) C dX7_excess_269 13 rfl rfl ?_
                          refine x_Vf (q := 274) (As := [.int (nI (exf P x a v b y))]) (rest := [.int (((P 13 (exf P x a u b g)) - (P 13 (exf P x a u b y))) - (P 13 (exf P x a v b g)))]) C (c_X6_readingAt hD (exf P x a v b y) (by omega)) xs_X6_readingAt tim_X6_readingAt tsel_X6_readingAt tml_X7_155 (by decide) 4 rfl (ci := 6) rfl rfl rfl (Nat.le_of_ble_eq_true rfl) dX7_excess_271 rfl ?_
                          refine x_iadd (q := 275) C dX7_excess_274 rfl ?_
                          exact x_iret C dX7_excess_275 ⟨by rw [Fexc, if_pos ⟨⟨hS8, hab, c20, c27⟩, ⟨hV42, hV55⟩, hV72, hV86⟩, cl_nI (by omega), cl_nI (by omega), cl_nI (by omega), cl_nI (by omega), cl_nI (by omega), cl_nI (by omega), cl_nI (by omega)]; rw [if_pos ⟨h1, h2, h3, h4⟩]; rfl,rfl, rfl⟩
                        · refine x_ldc (q := 235) C tk_X7_196 dX7_excess_233 rfl ?_
                          exact x_iret C dX7_excess_235 ⟨by rw [Fexc, if_pos ⟨⟨hS8, hab, c20, c27⟩, ⟨hV42, hV55⟩, hV72, hV86⟩, cl_nI (by omega), cl_nI (by omega), cl_nI (by omega), cl_nI (by omega), cl_nI (by omega), cl_nI (by omega), cl_nI (by omega)]; rw [if_neg (fun h => by first | exact (foX_4 hnt).mp c209 h.1 | exact (foX_4 hnt).mp c216 h.2.1 | exact (foX_4 hnt).mp c223 h.2.2.1 | exact (foX_4 hnt).mp c230 h.2.2.2)],rfl, rfl⟩
                · refine x_ldc (q := 91) C tk_X7_195 dX7_excess_89 rfl ?_
                  exact x_iret C dX7_excess_91 ⟨if_f (fun h => by first | exact c8 h.1.1 | exact Int32.not_lt.mpr c14 h.1.2.1 | exact h.1.2.2.1 c20 | exact h.1.2.2.2 c27 | exact c42 h.2.1.1 | exact c55 h.2.1.2 | exact c72 h.2.2.1 | exact c86 h.2.2.2),rfl, rfl⟩
            · refine x_ldc (q := 60) C tk_X7_195 dX7_excess_58 rfl ?_
              exact x_iret C dX7_excess_60 ⟨if_f (fun h => by first | exact c8 h.1.1 | exact Int32.not_lt.mpr c14 h.1.2.1 | exact h.1.2.2.1 c20 | exact h.1.2.2.2 c27 | exact c42 h.2.1.1 | exact c55 h.2.1.2 | exact c72 h.2.2.1 | exact c86 h.2.2.2),rfl, rfl⟩
        · refine x_ldc (q := 32) C tk_X7_195 dX7_excess_30 rfl ?_
          exact x_iret C dX7_excess_32 ⟨if_f (fun h => by first | exact c8 h.1.1 | exact Int32.not_lt.mpr c14 h.1.2.1 | exact h.1.2.2.1 c20 | exact h.1.2.2.2 c27 | exact c42 h.2.1.1 | exact c55 h.2.1.2 | exact c72 h.2.2.1 | exact c86 h.2.2.2),rfl, rfl⟩

set_option maxRecDepth 100000 in
set_option maxHeartbeats 4000000 in
theorem c_X7_joint (hD : ∀ P T, va_D A (wX ad cI cZ P T)) {P T : St} (ok : okX P) (x1 a1 v1 u1 b1 y1 g1 : Int32) : XMI l D (tyz cI cZ) (wX ad cI cZ) A yX7_joint cX7_joint 10 (some .int) rmX7_joint [.ref (ad 0), .int x1, .int a1, .int v1, .int u1, .int b1, .int y1, .int g1] P T (fun r P' _ => r = Fjt (Fexc P x1 a1 v1 u1 b1 y1 g1) (nz P) ∧ P' = P) := by
  have okc := ok.1
  have hk6 := okc_kn6 okc
  have hS144 := okc_S144 okc
  have hS1 := okc_S1 okc
  have hnr := okc_nr12 okc
  have hnt := okc_nt60 okc
  have hnz := okc_nz50 okc
  have hsd := okc_sdb okc
  refine x_start_i (lv := [(0, .ref (ad 0)), (1, .int x1), (2, .int a1), (3, .int v1), (4, .int u1), (5, .int b1), (6, .int y1), (7, .int g1)]) (own := RX7) (by decide) rfl hD (Nat.le_of_ble_eq_true rfl) rfl ?_
  intro p e s m args below meth c C
  refine x_aload_n (q := 1) C dX7_joint_0 rfl 0 rfl rfl ?_
  refine x_iload_n (q := 2) C dX7_joint_1 rfl 1 rfl rfl ?_
  refine x_iload_n (q := 3) C dX7_joint_2 rfl 2 rfl rfl ?_
  refine x_iload_n (q := 4) C dX7_joint_3 rfl 3 rfl rfl ?_
  refine x_iload (q := 6) C dX7_joint_4 4 rfl rfl ?_
  refine x_iload (q := 8) C dX7_joint_6 5 rfl rfl ?_
  refine x_iload (q := 10) C dX7_joint_8 6 rfl rfl ?_
  refine x_iload (q := 12) C dX7_joint_10 7 rfl rfl ?_
  refine x_Vf (q := 15) (As := [.int x1, .int a1, .int v1, .int u1, .int b1, .int y1, .int g1]) (rest := []) C (c_X7_excess hD ok x1 a1 v1 u1 b1 y1 g1 ) xs_X7_excess tim_X7_excess tsel_X7_excess tml_X7_197 (by decide) 0 rfl (ci := 7) rfl rfl rfl (Nat.le_of_ble_eq_true rfl) dX7_joint_12 rfl ?_
  refine x_istore (q := 17) (lv' := [(0, .ref (ad 0)), (1, .int x1), (2, .int a1), (3, .int v1), (4, .int u1), (5, .int b1), (6, .int y1), (7, .int g1), (8, .int (Fexc P x1 a1 v1 u1 b1 y1 g1))]) C dX7_joint_15 (by decide) rfl rfl rfl ?_
  refine x_iload (q := 19) C dX7_joint_17 8 rfl rfl ?_
  refine x_ldc (q := 21) C tk_X7_195 dX7_joint_19 rfl ?_
  refine x_icmp_ne (q := 24) (tgt := 26) C dX7_joint_21 (by decide) rfl (fun c21 => ?_) (fun c21 => ?_)
  · refine x_iload (q := 28) C dX7_joint_26 8 rfl rfl ?_
    refine x_ldc (q := 30) C tk_X7_196 dX7_joint_28 rfl ?_
    refine x_icmp_ne (q := 33) (tgt := 36) C dX7_joint_30 (by decide) rfl (fun c30 => ?_) (fun c30 => ?_)
    · refine x_iconst (q := 37) (v := nI 4) C dX7_joint_36 (by decide) rfl ?_
      refine x_aload_n (q := 38) C dX7_joint_37 rfl 0 rfl rfl ?_
      refine xg_X7_trials (q := 41) C tfl_X7_33 dX7_joint_38 rfl ?_
      refine x_Vf (q := 44) (As := []) (rest := [.int (nI 4)]) C (c_X6_currentNoise hD ) xs_X6_currentNoise tim_X6_currentNoise tsel_X6_currentNoise tml_X7_201 (by decide) 4 rfl (ci := 6) rfl rfl rfl (Nat.le_of_ble_eq_true rfl) dX7_joint_41 rfl ?_
      refine x_topn (nz P) (okc_nz okc) ?_
      refine x_imul_n (q := 45) C dX7_joint_44 rfl ?_
      refine x_istore (q := 47) (lv' := [(0, .ref (ad 0)), (1, .int x1), (2, .int a1), (3, .int v1), (4, .int u1), (5, .int b1), (6, .int y1), (7, .int g1), (8, .int (Fexc P x1 a1 v1 u1 b1 y1 g1)), (9, .int (nI (4 * (nz P))))]) C dX7_joint_45 (by decide) rfl rfl rfl ?_
      refine x_iload (q := 49) C dX7_joint_47 8 rfl rfl ?_
      refine x_iload (q := 51) C dX7_joint_49 9 rfl rfl ?_
      refine x_icmp_gt (q := 54) (tgt := 62) C dX7_joint_51 (by decide) rfl (fun c51 => ?_) (fun c51 => ?_)
      · refine x_iconst (q := 63) (v := nI 1) C dX7_joint_62 (by decide) rfl ?_
        refine x_goto (tgt := 67) C dX7_joint_63 (by decide) ?_
        exact x_iret C dX7_joint_67 ⟨by rw [Fjt, if_neg c21, if_neg c30]; exact bI_t (by first | exact Or.inl c51 | exact Or.inr (fa_of_nle c59)), rfl⟩
      · refine x_iload (q := 56) C dX7_joint_54 8 rfl rfl ?_
        refine x_iload (q := 58) C dX7_joint_56 9 rfl rfl ?_
        refine x_ineg (q := 59) C dX7_joint_58 rfl ?_
        refine x_icmp_ge (q := 62) (tgt := 66) C dX7_joint_59 (by decide) rfl (fun c59 => ?_) (fun c59 => ?_)
        · refine x_iconst (q := 67) (v := nI 0) C dX7_joint_66 (by decide) rfl ?_
          exact x_iret C dX7_joint_67 ⟨by rw [Fjt, if_neg c21, if_neg c30]; exact bI_f (fun h => h.elim c51 (Int32.not_lt.mpr c59)), rfl⟩
        · refine x_iconst (q := 63) (v := nI 1) C dX7_joint_62 (by decide) rfl ?_
          refine x_goto (tgt := 67) C dX7_joint_63 (by decide) ?_
          exact x_iret C dX7_joint_67 ⟨by rw [Fjt, if_neg c21, if_neg c30]; exact bI_t (by first | exact Or.inl c51 | exact Or.inr (fa_of_nle c59)), rfl⟩
    · refine x_bipush (q := 35) (v := (-2)) C dX7_joint_33 (by decide) rfl ?_
      exact x_iret C dX7_joint_35 ⟨by rw [Fjt, if_neg c21, if_pos c30], rfl⟩
  · refine x_iconst (q := 25) (v := (-1)) C dX7_joint_24 (by decide) rfl ?_
    exact x_iret C dX7_joint_25 ⟨by rw [Fjt, if_pos c21], rfl⟩

set_option maxRecDepth 100000 in
set_option maxHeartbeats 4000000 in
theorem c_X7_areTwoSettings (hD : ∀ P T, va_D A (wX ad cI cZ P T)) {P T : St} (x y : Int32) : XMI l D (tyz cI cZ) (wX ad cI cZ) A yX7_areTwoSettings cX7_areTwoSettings 3 (some .boolean) rmX7_areTwoSettings [.ref (ad 0), .int x, .int y] P T (fun r P' T' => r = bI (cTw P x y) ∧ P' = P ∧ T' = T) := by
  refine x_start_i (lv := [(0, .ref (ad 0)), (1, .int x), (2, .int y)]) (own := RX7) (by decide) rfl hD (Nat.le_of_ble_eq_true rfl) rfl ?_
  intro p e s m args below meth c C
  refine x_aload_n (q := 1) C dX7_areTwoSettings_0 rfl 0 rfl rfl ?_
  refine xg_X7_knobs (q := 4) C tfl_X7_10 dX7_areTwoSettings_1 rfl ?_
  refine x_iload_n (q := 5) C dX7_areTwoSettings_4 rfl 1 rfl rfl ?_
  refine x_Vf (q := 8) (As := [.int x]) (rest := []) C (c_X2_hasSetting hD x ) xs_X2_hasSetting tim_X2_hasSetting tsel_X2_hasSetting tml_X7_120 (by decide) 1 rfl (ci := 2) rfl rfl rfl (Nat.le_of_ble_eq_true rfl) dX7_areTwoSettings_5 rfl ?_
  refine x_if_eq_b (q := 11) (tgt := 31) C dX7_areTwoSettings_8 (by decide) rfl (fun c8 => ?_) (fun c8 => ?_)
  · refine x_iconst (q := 32) (v := nI 0) C dX7_areTwoSettings_31 (by decide) rfl ?_
    exact x_zret C dX7_areTwoSettings_32 rfl ⟨bI_f (fun h => by first | exact c8 h.1 | exact c19 h.2.1 | exact h.2.2 c24), rfl, rfl⟩
  · refine x_aload_n (q := 12) C dX7_areTwoSettings_11 rfl 0 rfl rfl ?_
    refine xg_X7_knobs (q := 15) C tfl_X7_10 dX7_areTwoSettings_12 rfl ?_
    refine x_iload_n (q := 16) C dX7_areTwoSettings_15 rfl 2 rfl rfl ?_
    refine x_Vf (q := 19) (As := [.int y]) (rest := []) C (c_X2_hasSetting hD y ) xs_X2_hasSetting tim_X2_hasSetting tsel_X2_hasSetting tml_X7_120 (by decide) 1 rfl (ci := 2) rfl rfl rfl (Nat.le_of_ble_eq_true rfl) dX7_areTwoSettings_16 rfl ?_
    refine x_if_eq_b (q := 22) (tgt := 31) C dX7_areTwoSettings_19 (by decide) rfl (fun c19 => ?_) (fun c19 => ?_)
    · refine x_iconst (q := 32) (v := nI 0) C dX7_areTwoSettings_31 (by decide) rfl ?_
      exact x_zret C dX7_areTwoSettings_32 rfl ⟨bI_f (fun h => by first | exact c8 h.1 | exact c19 h.2.1 | exact h.2.2 c24), rfl, rfl⟩
    · refine x_iload_n (q := 23) C dX7_areTwoSettings_22 rfl 1 rfl rfl ?_
      refine x_iload_n (q := 24) C dX7_areTwoSettings_23 rfl 2 rfl rfl ?_
      refine x_icmp_eq (q := 27) (tgt := 31) C dX7_areTwoSettings_24 (by decide) rfl (fun c24 => ?_) (fun c24 => ?_)
      · refine x_iconst (q := 32) (v := nI 0) C dX7_areTwoSettings_31 (by decide) rfl ?_
        exact x_zret C dX7_areTwoSettings_32 rfl ⟨bI_f (fun h => by first | exact c8 h.1 | exact c19 h.2.1 | exact h.2.2 c24), rfl, rfl⟩
      · refine x_iconst (q := 28) (v := nI 1) C dX7_areTwoSettings_27 (by decide) rfl ?_
        refine x_goto (tgt := 32) C dX7_areTwoSettings_28 (by decide) ?_
        exact x_zret C dX7_areTwoSettings_32 rfl ⟨bI_t ⟨c8, c19, c24⟩, rfl, rfl⟩

set_option maxRecDepth 100000 in
set_option maxHeartbeats 4000000 in
theorem c_X7_wereBothTried (hD : ∀ P T, va_D A (wX ad cI cZ P T)) {P T : St} (ok : okX P) (x y : Nat) (hx : x < 2 ^ 31) (hy : y < 2 ^ 31) : XMI l D (tyz cI cZ) (wX ad cI cZ) A yX7_wereBothTried cX7_wereBothTried 3 (some .boolean) rmX7_wereBothTried [.ref (ad 0), .int (nI x), .int (nI y)] P T (fun r P' T' => r = bI (cTr P x y) ∧ P' = P ∧ T' = T) := by
  have okc := ok.1
  have hk6 := okc_kn6 okc
  have hS144 := okc_S144 okc
  have hS1 := okc_S1 okc
  have hnr := okc_nr12 okc
  have hnt := okc_nt60 okc
  have hnz := okc_nz50 okc
  have hsd := okc_sdb okc
  refine x_start_i (lv := [(0, .ref (ad 0)), (1, .int (nI x)), (2, .int (nI y))]) (own := RX7) (by decide) rfl hD (Nat.le_of_ble_eq_true rfl) rfl ?_
  intro p e s m args below meth c C
  refine x_aload_n (q := 1) C dX7_wereBothTried_0 rfl 0 rfl rfl ?_
  refine xg_X7_trials (q := 4) C tfl_X7_33 dX7_wereBothTried_1 rfl ?_
  refine x_iload_n (q := 5) C dX7_wereBothTried_4 rfl 1 rfl rfl ?_
  refine x_Vf (q := 8) (As := [.int (nI x)]) (rest := []) C (c_X6_firstOf hD ok x (by omega)) xs_X6_firstOf tim_X6_firstOf tsel_X6_firstOf tml_X7_192 (by decide) 4 rfl (ci := 6) rfl rfl rfl (Nat.le_of_ble_eq_true rfl) dX7_wereBothTried_5 rfl ?_
  refine x_bipush (q := 10) (v := (-4)) C dX7_wereBothTried_8 (by decide) rfl ?_
  refine x_icmp_eq (q := 13) (tgt := 30) C dX7_wereBothTried_10 (by decide) rfl (fun c10 => ?_) (fun c10 => ?_)
  · refine x_iconst (q := 31) (v := nI 0) C dX7_wereBothTried_30 (by decide) rfl ?_
    exact x_zret C dX7_wereBothTried_31 rfl ⟨bI_f (fun h => by first | exact (foX_4 hnt).mp c10 h.1 | exact (foX_4 hnt).mp c23 h.2), rfl, rfl⟩
  · refine x_aload_n (q := 14) C dX7_wereBothTried_13 rfl 0 rfl rfl ?_
    refine xg_X7_trials (q := 17) C tfl_X7_33 dX7_wereBothTried_14 rfl ?_
    refine x_iload_n (q := 18) C dX7_wereBothTried_17 rfl 2 rfl rfl ?_
    refine x_Vf (q := 21) (As := [.int (nI y)]) (rest := []) C (c_X6_firstOf hD ok y (by omega)) xs_X6_firstOf tim_X6_firstOf tsel_X6_firstOf tml_X7_192 (by decide) 4 rfl (ci := 6) rfl rfl rfl (Nat.le_of_ble_eq_true rfl) dX7_wereBothTried_18 rfl ?_
    refine x_bipush (q := 23) (v := (-4)) C dX7_wereBothTried_21 (by decide) rfl ?_
    refine x_icmp_eq (q := 26) (tgt := 30) C dX7_wereBothTried_23 (by decide) rfl (fun c23 => ?_) (fun c23 => ?_)
    · refine x_iconst (q := 31) (v := nI 0) C dX7_wereBothTried_30 (by decide) rfl ?_
      exact x_zret C dX7_wereBothTried_31 rfl ⟨bI_f (fun h => by first | exact (foX_4 hnt).mp c10 h.1 | exact (foX_4 hnt).mp c23 h.2), rfl, rfl⟩
    · refine x_iconst (q := 27) (v := nI 1) C dX7_wereBothTried_26 (by decide) rfl ?_
      refine x_goto (tgt := 31) C dX7_wereBothTried_27 (by decide) ?_
      exact x_zret C dX7_wereBothTried_31 rfl ⟨bI_t ⟨Decidable.byContradiction (fun q => c10 ((foX_4 hnt).mpr q)), Decidable.byContradiction (fun q => c23 ((foX_4 hnt).mpr q))⟩, rfl, rfl⟩

set_option maxRecDepth 100000 in
set_option maxHeartbeats 4000000 in
theorem c_X7_odds (hD : ∀ P T, va_D A (wX ad cI cZ P T)) {P T : St} (ok : okX P) (x1 y1 u1 : Int32) : XMI l D (tyz cI cZ) (wX ad cI cZ) A yX7_odds cX7_odds 4 (some .int) rmX7_odds [.ref (ad 0), .int x1, .int y1, .int u1] P T (fun r P' _ => r = FoddsX P x1 y1 u1 ∧ P' = P) := by
  have okc := ok.1
  have hk6 := okc_kn6 okc
  have hS144 := okc_S144 okc
  have hS1 := okc_S1 okc
  have hnr := okc_nr12 okc
  have hnt := okc_nt60 okc
  have hnz := okc_nz50 okc
  have hsd := okc_sdb okc
  refine x_start_i (lv := [(0, .ref (ad 0)), (1, .int x1), (2, .int y1), (3, .int u1)]) (own := RX7) (by decide) rfl hD (Nat.le_of_ble_eq_true rfl) rfl ?_
  intro p e s m args below meth c C
  refine x_aload_n (q := 1) C dX7_odds_0 rfl 0 rfl rfl ?_
  refine x_iload_n (q := 2) C dX7_odds_1 rfl 1 rfl rfl ?_
  refine x_iload_n (q := 3) C dX7_odds_2 rfl 2 rfl rfl ?_
  refine x_Vf (q := 6) (As := [.int x1, .int y1]) (rest := []) C (c_X7_areTwoSettings hD x1 y1 ) xs_X7_areTwoSettings tim_X7_areTwoSettings tsel_X7_areTwoSettings tml_X7_204 (by decide) 0 rfl (ci := 7) rfl rfl rfl (Nat.le_of_ble_eq_true rfl) dX7_odds_3 rfl ?_
  refine x_if_eq_b (q := 9) (tgt := 18) C dX7_odds_6 (by decide) rfl (fun c6 => ?_) (fun c6 => ?_)
  · refine x_iconst (q := 19) (v := (-1)) C dX7_odds_18 (by decide) rfl ?_
    exact x_iret C dX7_odds_19 ⟨if_f (fun h => by first | exact c6 h.1 | exact c15 h.2), rfl⟩
  · have hw6 := c6
    obtain ⟨x, hx, rfl⟩ := isS_nat okc c6.1
    obtain ⟨y, hy, rfl⟩ := isS_nat okc c6.2.1
    refine x_iload_n (q := 10) C dX7_odds_9 rfl 3 rfl rfl ?_
    refine x_iconst (q := 11) (v := nI 0) C dX7_odds_10 (by decide) rfl ?_
    refine x_iconst (q := 12) (v := nI 1) C dX7_odds_11 (by decide) rfl ?_
    refine x_Sf (q := 15) (As := [.int u1, .int (nI 0), .int (nI 1)]) (rest := []) C (c_X7_isWithin hD u1 (nI 0) (nI 1) ) xs_X7_isWithin tst_X7_isWithin tml_X7_58 (by decide) rfl rfl (Nat.le_of_ble_eq_true rfl) dX7_odds_12 rfl ?_
    refine x_if_ne_b (q := 18) (tgt := 20) C dX7_odds_15 (by decide) rfl (fun c15 => ?_) (fun c15 => ?_)
    · refine x_aload_n (q := 21) C dX7_odds_20 rfl 0 rfl rfl ?_
      refine x_iload_n (q := 22) C dX7_odds_21 rfl 1 rfl rfl ?_
      refine x_iload_n (q := 23) C dX7_odds_22 rfl 2 rfl rfl ?_
      refine x_Vf (q := 26) (As := [.int (nI x), .int (nI y)]) (rest := []) C (c_X7_wereBothTried hD ok x y (by omega) (by omega)) xs_X7_wereBothTried tim_X7_wereBothTried tsel_X7_wereBothTried tml_X7_207 (by decide) 0 rfl (ci := 7) rfl rfl rfl (Nat.le_of_ble_eq_true rfl) dX7_odds_23 rfl ?_
      refine x_if_ne_b (q := 29) (tgt := 32) C dX7_odds_26 (by decide) rfl (fun c26 => ?_) (fun c26 => ?_)
      · refine x_aload_n (q := 33) C dX7_odds_32 rfl 0 rfl rfl ?_
        refine xg_X7_ranks (q := 36) C tfl_X7_54 dX7_odds_33 rfl ?_
        refine x_iload_n (q := 37) C dX7_odds_36 rfl 1 rfl rfl ?_
        refine x_iload_n (q := 38) C dX7_odds_37 rfl 2 rfl rfl ?_
        refine x_aload_n (q := 39) C dX7_odds_38 rfl 0 rfl rfl ?_
        refine xg_X7_trials (q := 42) C tfl_X7_33 dX7_odds_39 rfl ?_
        refine x_Vv (q := 45) (As := [.int (nI x), .int (nI y), .ref (ad 4)]) (rest := []) C (c_X4_compare hD ok x y (by omega) (by omega)) xs_X4_compare tim_X4_compare tsel_X4_compare tml_X7_210 (by decide) 7 rfl (ci := 4) rfl rfl rfl (Nat.le_of_ble_eq_true rfl) dX7_odds_42 rfl (fun Pz T42 hg => ?_)
        obtain ⟨hPz, hC42, hA42⟩ := hg
        rw [hPz]; clear hPz Pz
        refine x_iload_n (q := 46) C dX7_odds_45 rfl 3 rfl rfl ?_
        refine x_if_ne (q := 49) (tgt := 59) C dX7_odds_46 (by decide) rfl (fun c46 => ?_) (fun c46 => ?_)
        · refine x_aload_n (q := 60) C dX7_odds_59 rfl 0 rfl rfl ?_
          refine xg_X7_ranks (q := 63) C tfl_X7_54 dX7_odds_60 rfl ?_
          refine x_Vf (q := 66) (As := []) (rest := []) C (c_X4_allWays hD ) xs_X4_allWays tim_X4_allWays tsel_X4_allWays tml_X7_217 (by decide) 7 rfl (ci := 4) rfl rfl rfl (Nat.le_of_ble_eq_true rfl) dX7_odds_63 rfl ?_
          exact x_iret C dX7_odds_66 ⟨by rw [FoddsX, if_pos ⟨hw6, c15⟩, cl_nI (by omega), cl_nI (by omega)]; rw [if_pos c26]; first | (rw [if_pos c46]; exact hC42) | (rw [if_neg c46]; exact hA42), rfl⟩
        · refine x_aload_n (q := 50) C dX7_odds_49 rfl 0 rfl rfl ?_
          refine xg_X7_ranks (q := 53) C tfl_X7_54 dX7_odds_50 rfl ?_
          refine x_Vf (q := 56) (As := []) (rest := []) C (c_X4_countingWays hD ) xs_X4_countingWays tim_X4_countingWays tsel_X4_countingWays tml_X7_214 (by decide) 7 rfl (ci := 4) rfl rfl rfl (Nat.le_of_ble_eq_true rfl) dX7_odds_53 rfl ?_
          refine x_goto (tgt := 66) C dX7_odds_56 (by decide) ?_
          exact x_iret C dX7_odds_66 ⟨by rw [FoddsX, if_pos ⟨hw6, c15⟩, cl_nI (by omega), cl_nI (by omega)]; rw [if_pos c26]; first | (rw [if_pos c46]; exact hC42) | (rw [if_neg c46]; exact hA42), rfl⟩
      · refine x_bipush (q := 31) (v := (-2)) C dX7_odds_29 (by decide) rfl ?_
        exact x_iret C dX7_odds_31 ⟨by rw [FoddsX, if_pos ⟨hw6, c15⟩, cl_nI (by omega), cl_nI (by omega)]; rw [if_neg c26], rfl⟩
    · refine x_iconst (q := 19) (v := (-1)) C dX7_odds_18 (by decide) rfl ?_
      exact x_iret C dX7_odds_19 ⟨if_f (fun h => by first | exact c6 h.1 | exact c15 h.2), rfl⟩

set_option maxRecDepth 100000 in
set_option maxHeartbeats 4000000 in
theorem c_X7_safe (hD : ∀ P T, va_D A (wX ad cI cZ P T)) {P T : St} (ok : okX P) (x1 y1 a1 b1 : Int32) : XMI l D (tyz cI cZ) (wX ad cI cZ) A yX7_safe cX7_safe 5 (some .int) rmX7_safe [.ref (ad 0), .int x1, .int y1, .int a1, .int b1] P T (fun r P' _ => r = FsafeX P x1 y1 a1 b1 ∧ P' = P) := by
  have okc := ok.1
  have hk6 := okc_kn6 okc
  have hS144 := okc_S144 okc
  have hS1 := okc_S1 okc
  have hnr := okc_nr12 okc
  have hnt := okc_nt60 okc
  have hnz := okc_nz50 okc
  have hsd := okc_sdb okc
  refine x_start_i (lv := [(0, .ref (ad 0)), (1, .int x1), (2, .int y1), (3, .int a1), (4, .int b1)]) (own := RX7) (by decide) rfl hD (Nat.le_of_ble_eq_true rfl) rfl ?_
  intro p e s m args below meth c C
  refine x_aload_n (q := 1) C dX7_safe_0 rfl 0 rfl rfl ?_
  refine x_iload_n (q := 2) C dX7_safe_1 rfl 1 rfl rfl ?_
  refine x_iload_n (q := 3) C dX7_safe_2 rfl 2 rfl rfl ?_
  refine x_Vf (q := 6) (As := [.int x1, .int y1]) (rest := []) C (c_X7_areTwoSettings hD x1 y1 ) xs_X7_areTwoSettings tim_X7_areTwoSettings tsel_X7_areTwoSettings tml_X7_204 (by decide) 0 rfl (ci := 7) rfl rfl rfl (Nat.le_of_ble_eq_true rfl) dX7_safe_3 rfl ?_
  refine x_if_eq_b (q := 9) (tgt := 32) C dX7_safe_6 (by decide) rfl (fun c6 => ?_) (fun c6 => ?_)
  · refine x_iconst (q := 33) (v := (-1)) C dX7_safe_32 (by decide) rfl ?_
    exact x_iret C dX7_safe_33 ⟨if_f (fun h => by first | exact c6 h.1 | exact c17 h.2.1 | exact c29 h.2.2), rfl⟩
  · have hw6 := c6
    obtain ⟨x, hx, rfl⟩ := isS_nat okc c6.1
    obtain ⟨y, hy, rfl⟩ := isS_nat okc c6.2.1
    refine x_iload_n (q := 10) C dX7_safe_9 rfl 3 rfl rfl ?_
    refine x_iconst (q := 11) (v := nI 0) C dX7_safe_10 (by decide) rfl ?_
    refine x_sipush (q := 14) (v := nI 1000) C dX7_safe_11 (by decide) rfl ?_
    refine x_Sf (q := 17) (As := [.int a1, .int (nI 0), .int (nI 1000)]) (rest := []) C (c_X7_isWithin hD a1 (nI 0) (nI 1000) ) xs_X7_isWithin tst_X7_isWithin tml_X7_58 (by decide) rfl rfl (Nat.le_of_ble_eq_true rfl) dX7_safe_14 rfl ?_
    refine x_if_eq_b (q := 20) (tgt := 32) C dX7_safe_17 (by decide) rfl (fun c17 => ?_) (fun c17 => ?_)
    · refine x_iconst (q := 33) (v := (-1)) C dX7_safe_32 (by decide) rfl ?_
      exact x_iret C dX7_safe_33 ⟨if_f (fun h => by first | exact c6 h.1 | exact c17 h.2.1 | exact c29 h.2.2), rfl⟩
    · refine x_iload (q := 22) C dX7_safe_20 4 rfl rfl ?_
      refine x_iconst (q := 23) (v := nI 1) C dX7_safe_22 (by decide) rfl ?_
      refine x_sipush (q := 26) (v := nI 1000) C dX7_safe_23 (by decide) rfl ?_
      refine x_Sf (q := 29) (As := [.int b1, .int (nI 1), .int (nI 1000)]) (rest := []) C (c_X7_isWithin hD b1 (nI 1) (nI 1000) ) xs_X7_isWithin tst_X7_isWithin tml_X7_58 (by decide) rfl rfl (Nat.le_of_ble_eq_true rfl) dX7_safe_26 rfl ?_
      refine x_if_ne_b (q := 32) (tgt := 34) C dX7_safe_29 (by decide) rfl (fun c29 => ?_) (fun c29 => ?_)
      · refine x_aload_n (q := 35) C dX7_safe_34 rfl 0 rfl rfl ?_
        refine x_iload_n (q := 36) C dX7_safe_35 rfl 1 rfl rfl ?_
        refine x_iload_n (q := 37) C dX7_safe_36 rfl 2 rfl rfl ?_
        refine x_Vf (q := 40) (As := [.int (nI x), .int (nI y)]) (rest := []) C (c_X7_wereBothTried hD ok x y (by omega) (by omega)) xs_X7_wereBothTried tim_X7_wereBothTried tsel_X7_wereBothTried tml_X7_207 (by decide) 0 rfl (ci := 7) rfl rfl rfl (Nat.le_of_ble_eq_true rfl) dX7_safe_37 rfl ?_
        refine x_if_ne_b (q := 43) (tgt := 46) C dX7_safe_40 (by decide) rfl (fun c40 => ?_) (fun c40 => ?_)
        · refine x_aload_n (q := 47) C dX7_safe_46 rfl 0 rfl rfl ?_
          refine xg_X7_ranks (q := 50) C tfl_X7_54 dX7_safe_47 rfl ?_
          refine x_iload_n (q := 51) C dX7_safe_50 rfl 1 rfl rfl ?_
          refine x_iload_n (q := 52) C dX7_safe_51 rfl 2 rfl rfl ?_
          refine x_aload_n (q := 53) C dX7_safe_52 rfl 0 rfl rfl ?_
          refine xg_X7_trials (q := 56) C tfl_X7_33 dX7_safe_53 rfl ?_
          refine x_Vv (q := 59) (As := [.int (nI x), .int (nI y), .ref (ad 4)]) (rest := []) C (c_X4_compare hD ok x y (by omega) (by omega)) xs_X4_compare tim_X4_compare tsel_X4_compare tml_X7_210 (by decide) 7 rfl (ci := 4) rfl rfl rfl (Nat.le_of_ble_eq_true rfl) dX7_safe_56 rfl (fun Pz T56 hg => ?_)
          obtain ⟨hPz, hC56, hA56⟩ := hg
          rw [hPz]; clear hPz Pz
          refine x_aload_n (q := 60) C dX7_safe_59 rfl 0 rfl rfl ?_
          refine xg_X7_ranks (q := 63) C tfl_X7_54 dX7_safe_60 rfl ?_
          refine x_Vf (q := 66) (As := []) (rest := []) C (c_X4_countingWays hD ) xs_X4_countingWays tim_X4_countingWays tsel_X4_countingWays tml_X7_214 (by decide) 7 rfl (ci := 4) rfl rfl rfl (Nat.le_of_ble_eq_true rfl) dX7_safe_63 rfl ?_
          refine x_iload (q := 68) C dX7_safe_66 4 rfl rfl ?_
          refine x_imul (q := 69) C dX7_safe_68 rfl ?_
          refine x_aload_n (q := 70) C dX7_safe_69 rfl 0 rfl rfl ?_
          refine xg_X7_ranks (q := 73) C tfl_X7_54 dX7_safe_70 rfl ?_
          refine x_Vf (q := 76) (As := []) (rest := [.int ((T56 29 0) * b1)]) C (c_X4_allWays hD ) xs_X4_allWays tim_X4_allWays tsel_X4_allWays tml_X7_217 (by decide) 7 rfl (ci := 4) rfl rfl rfl (Nat.le_of_ble_eq_true rfl) dX7_safe_73 rfl ?_
          refine x_iload_n (q := 77) C dX7_safe_76 rfl 3 rfl rfl ?_
          refine x_imul (q := 78) C dX7_safe_77 rfl ?_
          refine x_icmp_gt (q := 81) (tgt := 85) C dX7_safe_78 (by decide) rfl (fun c78 => ?_) (fun c78 => ?_)
          · refine x_iconst (q := 86) (v := nI 0) C dX7_safe_85 (by decide) rfl ?_
            exact x_iret C dX7_safe_86 ⟨by rw [FsafeX, if_pos ⟨hw6, c17, c29⟩, cl_nI (by omega), cl_nI (by omega)]; rw [if_pos c40, ← hC56, ← hA56]; exact bI_f (Int32.not_le.mpr c78), rfl⟩
          · refine x_iconst (q := 82) (v := nI 1) C dX7_safe_81 (by decide) rfl ?_
            refine x_goto (tgt := 86) C dX7_safe_82 (by decide) ?_
            exact x_iret C dX7_safe_86 ⟨by rw [FsafeX, if_pos ⟨hw6, c17, c29⟩, cl_nI (by omega), cl_nI (by omega)]; rw [if_pos c40, ← hC56, ← hA56]; exact bI_t (Int32.not_lt.mp c78), rfl⟩
        · refine x_bipush (q := 45) (v := (-2)) C dX7_safe_43 (by decide) rfl ?_
          exact x_iret C dX7_safe_45 ⟨by rw [FsafeX, if_pos ⟨hw6, c17, c29⟩, cl_nI (by omega), cl_nI (by omega)]; rw [if_neg c40], rfl⟩
      · refine x_iconst (q := 33) (v := (-1)) C dX7_safe_32 (by decide) rfl ?_
        exact x_iret C dX7_safe_33 ⟨if_f (fun h => by first | exact c6 h.1 | exact c17 h.2.1 | exact c29 h.2.2), rfl⟩

set_option maxRecDepth 100000 in
set_option maxHeartbeats 4000000 in
theorem c_X7_back (hD : ∀ P T, va_D A (wX ad cI cZ P T)) {P T : St} (ok : okX P) (x1 y1 : Int32) : XMI l D (tyz cI cZ) (wX ad cI cZ) A yX7_back cX7_back 7 (some .int) rmX7_back [.ref (ad 0), .int x1, .int y1] P T (fun r P' _ => r = FbackX P x1 y1 ∧ P' = P) := by
  have okc := ok.1
  have hk6 := okc_kn6 okc
  have hS144 := okc_S144 okc
  have hS1 := okc_S1 okc
  have hnr := okc_nr12 okc
  have hnt := okc_nt60 okc
  have hnz := okc_nz50 okc
  have hsd := okc_sdb okc
  refine x_start_i (lv := [(0, .ref (ad 0)), (1, .int x1), (2, .int y1)]) (own := RX7) (by decide) rfl hD (Nat.le_of_ble_eq_true rfl) rfl ?_
  intro p e s m args below meth c C
  refine x_aload_n (q := 1) C dX7_back_0 rfl 0 rfl rfl ?_
  refine xg_X7_knobs (q := 4) C tfl_X7_10 dX7_back_1 rfl ?_
  refine x_iload_n (q := 5) C dX7_back_4 rfl 1 rfl rfl ?_
  refine x_Vf (q := 8) (As := [.int x1]) (rest := []) C (c_X2_hasSetting hD x1 ) xs_X2_hasSetting tim_X2_hasSetting tsel_X2_hasSetting tml_X7_120 (by decide) 1 rfl (ci := 2) rfl rfl rfl (Nat.le_of_ble_eq_true rfl) dX7_back_5 rfl ?_
  refine x_if_eq_b (q := 11) (tgt := 22) C dX7_back_8 (by decide) rfl (fun c8 => ?_) (fun c8 => ?_)
  · refine x_iconst (q := 23) (v := (-1)) C dX7_back_22 (by decide) rfl ?_
    exact x_iret C dX7_back_23 ⟨if_f (fun h => by first | exact c8 h.1 | exact c19 h.2), rfl⟩
  · have hS8 := c8
    obtain ⟨x, hx, rfl⟩ := isS_nat okc c8
    refine x_aload_n (q := 12) C dX7_back_11 rfl 0 rfl rfl ?_
    refine xg_X7_knobs (q := 15) C tfl_X7_10 dX7_back_12 rfl ?_
    refine x_iload_n (q := 16) C dX7_back_15 rfl 2 rfl rfl ?_
    refine x_Vf (q := 19) (As := [.int y1]) (rest := []) C (c_X2_hasSetting hD y1 ) xs_X2_hasSetting tim_X2_hasSetting tsel_X2_hasSetting tml_X7_120 (by decide) 1 rfl (ci := 2) rfl rfl rfl (Nat.le_of_ble_eq_true rfl) dX7_back_16 rfl ?_
    refine x_if_ne_b (q := 22) (tgt := 24) C dX7_back_19 (by decide) rfl (fun c19 => ?_) (fun c19 => ?_)
    · have hS19 := c19
      obtain ⟨y, hy, rfl⟩ := isS_nat okc c19
      refine x_aload_n (q := 25) C dX7_back_24 rfl 0 rfl rfl ?_
      refine xg_X7_effects (q := 28) C tfl_X7_26 dX7_back_25 rfl ?_
      refine x_iload_n (q := 29) C dX7_back_28 rfl 1 rfl rfl ?_
      refine x_aload_n (q := 30) C dX7_back_29 rfl 0 rfl rfl ?_
      refine xg_X7_knobs (q := 33) C tfl_X7_10 dX7_back_30 rfl ?_
      refine x_Vi (q := 36) (As := [.int (nI x), .ref (ad 1)]) (rest := []) C (c_X1_sumFor hD ok x (by omega)) xs_X1_sumFor tim_X1_sumFor tsel_X1_sumFor tml_X7_139 (by decide) 3 rfl (ci := 1) rfl rfl rfl (Nat.le_of_ble_eq_true rfl) dX7_back_33 rfl (fun rz Pz T33 hT33 => ?_)
      obtain ⟨hrz, hPz, hT33⟩ := hT33
      rw [hrz, hPz]; clear hrz hPz Pz rz
      refine x_istore_n (q := 37) (lv' := [(0, .ref (ad 0)), (1, .int (nI x)), (2, .int (nI y)), (3, .int (wo P x))]) C dX7_back_36 rfl (by decide) rfl rfl rfl ?_
      refine x_iload_n (q := 38) C dX7_back_37 rfl 1 rfl rfl ?_
      refine x_istore (q := 40) (lv' := [(0, .ref (ad 0)), (1, .int (nI x)), (2, .int (nI y)), (3, .int (wo P x)), (4, .int (nI x))]) C dX7_back_38 (by decide) rfl rfl rfl ?_
      refine x_iconst (q := 41) (v := nI 0) C dX7_back_40 (by decide) rfl ?_
      refine x_istore (q := 43) (lv' := [(0, .ref (ad 0)), (1, .int (nI x)), (2, .int (nI y)), (3, .int (wo P x)), (4, .int (nI x)), (5, .int (nI 0))]) C dX7_back_41 (by decide) rfl rfl rfl ?_
      have L43 : ∀ (f5 : Nat) (k : Nat) (u : Nat) (Tq : St), (k ≤ kn P) → (u = bkX P x y k) → kn P - k < f5 → XW p l e rmX7_back s m args below meth c D (wX ad cI cZ) A 7 (MQ below (XPI D (tyz cI cZ) (wX ad cI cZ) A (fun r P' _ => r = FbackX P (nI x) (nI y) ∧ P' = P)) args s 0 0 A) 43 [(0, .ref (ad 0)), (1, .int (nI x)), (2, .int (nI y)), (3, .int (wo P x)), (4, .int (nI u)), (5, .int (nI k))] [] P Tq := by
        intro f5
        induction f5 with
        | zero => intro k u Tq hk hu hm; exact absurd hm (Nat.not_lt_zero _)
        | succ f5 ih43 =>
          intro k u Tq hk hu hm43
          refine x_iload (q := 45) C dX7_back_43 5 rfl rfl ?_
          refine x_aload_n (q := 46) C dX7_back_45 rfl 0 rfl rfl ?_
          refine xg_X7_knobs (q := 49) C tfl_X7_10 dX7_back_46 rfl ?_
          refine x_Vf (q := 52) (As := []) (rest := [.int (nI k)]) C (c_X2_howMany hD ) xs_X2_howMany tim_X2_howMany tsel_X2_howMany tml_X7_220 (by decide) 1 rfl (ci := 2) rfl rfl rfl (Nat.le_of_ble_eq_true rfl) dX7_back_49 rfl ?_
          refine x_topn (kn P) (okc_kn okc) ?_
          refine x_icmp_ge_n (q := 55) (tgt := 121) C dX7_back_52 (by omega) (by omega) (by decide) rfl (fun c52 => ?_) (fun c52 => ?_)
          · refine x_iload (q := 123) C dX7_back_121 4 rfl rfl ?_
            exact x_iret C dX7_back_123 ⟨by rw [FbackX, if_pos ⟨hS8, hS19⟩, cl_nI (by omega), cl_nI (by omega), hu, show k = kn P by omega], rfl⟩
          · have hul : u < nS P := hu ▸ bkX_lt okc hx hk
            have hml := mv_lt okc hul (show k < kn P by omega) (val_lt okc y (show k < kn P by omega))
            refine x_aload_n (q := 56) C dX7_back_55 rfl 0 rfl rfl ?_
            refine xg_X7_knobs (q := 59) C tfl_X7_10 dX7_back_56 rfl ?_
            refine x_iload (q := 61) C dX7_back_59 4 rfl rfl ?_
            refine x_iload (q := 63) C dX7_back_61 5 rfl rfl ?_
            refine x_aload_n (q := 64) C dX7_back_63 rfl 0 rfl rfl ?_
            refine xg_X7_knobs (q := 67) C tfl_X7_10 dX7_back_64 rfl ?_
            refine x_iload_n (q := 68) C dX7_back_67 rfl 2 rfl rfl ?_
            refine x_iload (q := 70) C dX7_back_68 5 rfl rfl ?_
            refine x_Vf (q := 73) (As := [.int (nI y), .int (nI k)]) (rest := [.int (nI k), .int (nI u), .ref (ad 1)]) C (c_X2_valueIn hD ok y k (by omega) (by omega)) xs_X2_valueIn tim_X2_valueIn tsel_X2_valueIn tml_X7_126 (by decide) 1 rfl (ci := 2) rfl rfl rfl (Nat.le_of_ble_eq_true rfl) dX7_back_70 rfl ?_
            refine x_Vf (q := 76) (As := [.int (nI u), .int (nI k), .int (nI (val P y k))]) (rest := []) C (c_X2_moved hD ok u k (val P y k) (by omega) (by omega)) xs_X2_moved tim_X2_moved tsel_X2_moved tml_X7_123 (by decide) 1 rfl (ci := 2) rfl rfl rfl (Nat.le_of_ble_eq_true rfl) dX7_back_73 rfl ?_
            refine x_istore (q := 78) (lv' := [(0, .ref (ad 0)), (1, .int (nI x)), (2, .int (nI y)), (3, .int (wo P x)), (4, .int (nI u)), (5, .int (nI k)), (6, .int (nI (mv P u k (val P y k))))]) C dX7_back_76 (by decide) rfl rfl rfl ?_
            refine x_aload_n (q := 79) C dX7_back_78 rfl 0 rfl rfl ?_
            refine xg_X7_rules (q := 82) C tfl_X7_19 dX7_back_79 rfl ?_
            refine x_iload (q := 84) C dX7_back_82 6 rfl rfl ?_
            refine x_aload_n (q := 85) C dX7_back_84 rfl 0 rfl rfl ?_
            refine xg_X7_knobs (q := 88) C tfl_X7_10 dX7_back_85 rfl ?_
            refine x_Vf (q := 91) (As := [.int (nI (mv P u k (val P y k))), .ref (ad 1)]) (rest := []) C (c_X5_allow hD ok (mv P u k (val P y k)) (by omega)) xs_X5_allow tim_X5_allow tsel_X5_allow tml_X7_129 (by decide) 2 rfl (ci := 5) rfl rfl rfl (Nat.le_of_ble_eq_true rfl) dX7_back_88 rfl ?_
            refine x_if_eq_b (q := 94) (tgt := 115) C dX7_back_91 (by decide) rfl (fun c91 => ?_) (fun c91 => ?_)
            · refine x_iinc (q := 118) (v := nI (k + 1)) (lv' := [(0, .ref (ad 0)), (1, .int (nI x)), (2, .int (nI y)), (3, .int (wo P x)), (4, .int (nI u)), (5, .int (nI (k + 1))), (6, .int (nI (mv P u k (val P y k))))]) C dX7_back_115 5 rfl (nI_add k 1) (by decide) rfl rfl rfl ?_
              refine x_goto (tgt := 43) C dX7_back_118 (by decide) ?_
              refine x_lv [0, 1, 2, 3, 4, 5] rfl ?_
              exact ih43 (k + 1) u _ (by omega) (by rw [bkX, if_neg (fun h => by first | exact c91 (hu ▸ h.1) | exact c108 (hu ▸ h.2))]; exact hu) (by omega)
            · refine x_aload_n (q := 95) C dX7_back_94 rfl 0 rfl rfl ?_
              refine xg_X7_effects (q := 98) C tfl_X7_26 dX7_back_95 rfl ?_
              refine x_iload (q := 100) C dX7_back_98 6 rfl rfl ?_
              refine x_aload_n (q := 101) C dX7_back_100 rfl 0 rfl rfl ?_
              refine xg_X7_knobs (q := 104) C tfl_X7_10 dX7_back_101 rfl ?_
              refine x_Vi (q := 107) (As := [.int (nI (mv P u k (val P y k))), .ref (ad 1)]) (rest := []) C (c_X1_sumFor hD ok (mv P u k (val P y k)) (by omega)) xs_X1_sumFor tim_X1_sumFor tsel_X1_sumFor tml_X7_139 (by decide) 3 rfl (ci := 1) rfl rfl rfl (Nat.le_of_ble_eq_true rfl) dX7_back_104 rfl (fun rz Pz T104 hT104 => ?_)
              obtain ⟨hrz, hPz, hT104⟩ := hT104
              rw [hrz, hPz]; clear hrz hPz Pz rz
              refine x_iload_n (q := 108) C dX7_back_107 rfl 3 rfl rfl ?_
              refine x_icmp_ne (q := 111) (tgt := 115) C dX7_back_108 (by decide) rfl (fun c108 => ?_) (fun c108 => ?_)
              · refine x_iinc (q := 118) (v := nI (k + 1)) (lv' := [(0, .ref (ad 0)), (1, .int (nI x)), (2, .int (nI y)), (3, .int (wo P x)), (4, .int (nI u)), (5, .int (nI (k + 1))), (6, .int (nI (mv P u k (val P y k))))]) C dX7_back_115 5 rfl (nI_add k 1) (by decide) rfl rfl rfl ?_
                refine x_goto (tgt := 43) C dX7_back_118 (by decide) ?_
                refine x_lv [0, 1, 2, 3, 4, 5] rfl ?_
                exact ih43 (k + 1) u _ (by omega) (by rw [bkX, if_neg (fun h => by first | exact c91 (hu ▸ h.1) | exact c108 (hu ▸ h.2))]; exact hu) (by omega)
              · refine x_iload (q := 113) C dX7_back_111 6 rfl rfl ?_
                refine x_istore (q := 115) (lv' := [(0, .ref (ad 0)), (1, .int (nI x)), (2, .int (nI y)), (3, .int (wo P x)), (4, .int (nI (mv P u k (val P y k)))), (5, .int (nI k)), (6, .int (nI (mv P u k (val P y k))))]) C dX7_back_113 (by decide) rfl rfl rfl ?_
                refine x_iinc (q := 118) (v := nI (k + 1)) (lv' := [(0, .ref (ad 0)), (1, .int (nI x)), (2, .int (nI y)), (3, .int (wo P x)), (4, .int (nI (mv P u k (val P y k)))), (5, .int (nI (k + 1))), (6, .int (nI (mv P u k (val P y k))))]) C dX7_back_115 5 rfl (nI_add k 1) (by decide) rfl rfl rfl ?_
                refine x_goto (tgt := 43) C dX7_back_118 (by decide) ?_
                refine x_lv [0, 1, 2, 3, 4, 5] rfl ?_
                exact ih43 (k + 1) _ _ (by omega) (by rw [bkX, if_pos ⟨hu ▸ c91, hu ▸ c108⟩, hu]) (by omega)
      exact L43 _ 0 x _ (Nat.zero_le _) rfl (Nat.lt_succ_self _)
    · refine x_iconst (q := 23) (v := (-1)) C dX7_back_22 (by decide) rfl ?_
      exact x_iret C dX7_back_23 ⟨if_f (fun h => by first | exact c8 h.1 | exact c19 h.2), rfl⟩

set_option maxRecDepth 100000 in
set_option maxHeartbeats 4000000 in
theorem c_X7_count (hD : ∀ P T, va_D A (wX ad cI cZ P T)) {P T : St} (ok : okX P) (x : Int32) : XMI l D (tyz cI cZ) (wX ad cI cZ) A yX7_count cX7_count 2 (some .int) rmX7_count [.ref (ad 0), .int x] P T (fun r P' _ => r = FcountX P x ∧ P' = P) := by
  have okc := ok.1
  have hk6 := okc_kn6 okc
  have hS144 := okc_S144 okc
  have hS1 := okc_S1 okc
  have hnr := okc_nr12 okc
  have hnt := okc_nt60 okc
  have hnz := okc_nz50 okc
  have hsd := okc_sdb okc
  refine x_start_i (lv := [(0, .ref (ad 0)), (1, .int x)]) (own := RX7) (by decide) rfl hD (Nat.le_of_ble_eq_true rfl) rfl ?_
  intro p e s m args below meth c C
  refine x_iload_n (q := 1) C dX7_count_0 rfl 1 rfl rfl ?_
  by_cases t0 : x = nI 0
  · refine x_tableIn (tgt := 40) C dX7_count_1 (by rw [t0]; decide) (by rw [t0]; decide) (off := 39) (by rw [t0]; rfl) (by decide) ?_
    refine x_aload_n (q := 41) C dX7_count_40 rfl 0 rfl rfl ?_
    refine xg_X7_knobs (q := 44) C tfl_X7_10 dX7_count_41 rfl ?_
    refine x_Vf (q := 47) (As := []) (rest := []) C (c_X2_howMany hD ) xs_X2_howMany tim_X2_howMany tsel_X2_howMany tml_X7_220 (by decide) 1 rfl (ci := 2) rfl rfl rfl (Nat.le_of_ble_eq_true rfl) dX7_count_44 rfl ?_
    exact x_iret C dX7_count_47 ⟨by rw [FcountX, if_pos t0], rfl⟩
  · skip
    by_cases t1 : x = nI 1
    · refine x_tableIn (tgt := 48) C dX7_count_1 (by rw [t1]; decide) (by rw [t1]; decide) (off := 47) (by rw [t1]; rfl) (by decide) ?_
      refine x_aload_n (q := 49) C dX7_count_48 rfl 0 rfl rfl ?_
      refine xg_X7_knobs (q := 52) C tfl_X7_10 dX7_count_49 rfl ?_
      refine x_Vf (q := 55) (As := []) (rest := []) C (c_X2_howManySettings hD ) xs_X2_howManySettings tim_X2_howManySettings tsel_X2_howManySettings tml_X7_221 (by decide) 1 rfl (ci := 2) rfl rfl rfl (Nat.le_of_ble_eq_true rfl) dX7_count_52 rfl ?_
      exact x_iret C dX7_count_55 ⟨by rw [FcountX, if_neg t0, if_pos t1], rfl⟩
    · skip
      by_cases t2 : x = nI 2
      · refine x_tableIn (tgt := 56) C dX7_count_1 (by rw [t2]; decide) (by rw [t2]; decide) (off := 55) (by rw [t2]; rfl) (by decide) ?_
        refine x_aload_n (q := 57) C dX7_count_56 rfl 0 rfl rfl ?_
        refine xg_X7_rules (q := 60) C tfl_X7_19 dX7_count_57 rfl ?_
        refine x_Vf (q := 63) (As := []) (rest := []) C (c_X5_howMany hD ) xs_X5_howMany tim_X5_howMany tsel_X5_howMany tml_X7_95 (by decide) 2 rfl (ci := 5) rfl rfl rfl (Nat.le_of_ble_eq_true rfl) dX7_count_60 rfl ?_
        exact x_iret C dX7_count_63 ⟨by rw [FcountX, if_neg t0, if_neg t1, if_pos t2], rfl⟩
      · skip
        by_cases t3 : x = nI 3
        · refine x_tableIn (tgt := 64) C dX7_count_1 (by rw [t3]; decide) (by rw [t3]; decide) (off := 63) (by rw [t3]; rfl) (by decide) ?_
          refine x_aload_n (q := 65) C dX7_count_64 rfl 0 rfl rfl ?_
          refine xg_X7_trials (q := 68) C tfl_X7_33 dX7_count_65 rfl ?_
          refine x_Vf (q := 71) (As := []) (rest := []) C (c_X6_howMany hD ) xs_X6_howMany tim_X6_howMany tsel_X6_howMany tml_X7_151 (by decide) 4 rfl (ci := 6) rfl rfl rfl (Nat.le_of_ble_eq_true rfl) dX7_count_68 rfl ?_
          exact x_iret C dX7_count_71 ⟨by rw [FcountX, if_neg t0, if_neg t1, if_neg t2, if_pos t3], rfl⟩
        · skip
          by_cases t4 : x = nI 4
          · refine x_tableIn (tgt := 72) C dX7_count_1 (by rw [t4]; decide) (by rw [t4]; decide) (off := 71) (by rw [t4]; rfl) (by decide) ?_
            refine x_aload_n (q := 73) C dX7_count_72 rfl 0 rfl rfl ?_
            refine xg_X7_trials (q := 76) C tfl_X7_33 dX7_count_73 rfl ?_
            refine x_Vf (q := 79) (As := []) (rest := []) C (c_X6_howManySettings hD ok ) xs_X6_howManySettings tim_X6_howManySettings tsel_X6_howManySettings tml_X7_224 (by decide) 4 rfl (ci := 6) rfl rfl rfl (Nat.le_of_ble_eq_true rfl) dX7_count_76 rfl ?_
            exact x_iret C dX7_count_79 ⟨by rw [FcountX, if_neg t0, if_neg t1, if_neg t2, if_neg t3, if_pos t4], rfl⟩
          · skip
            by_cases t5 : x = nI 5
            · refine x_tableIn (tgt := 80) C dX7_count_1 (by rw [t5]; decide) (by rw [t5]; decide) (off := 79) (by rw [t5]; rfl) (by decide) ?_
              refine x_aload_n (q := 81) C dX7_count_80 rfl 0 rfl rfl ?_
              refine xg_X7_trials (q := 84) C tfl_X7_33 dX7_count_81 rfl ?_
              refine x_Vf (q := 87) (As := []) (rest := []) C (c_X6_currentNoise hD ) xs_X6_currentNoise tim_X6_currentNoise tsel_X6_currentNoise tml_X7_201 (by decide) 4 rfl (ci := 6) rfl rfl rfl (Nat.le_of_ble_eq_true rfl) dX7_count_84 rfl ?_
              exact x_iret C dX7_count_87 ⟨by rw [FcountX, if_neg t0, if_neg t1, if_neg t2, if_neg t3, if_neg t4, if_pos t5], rfl⟩
            · skip
              refine x_tableOut (tgt := 88) C dX7_count_1 (sw_out6 t0 t1 t2 t3 t4 t5) (by decide) ?_
              refine x_iconst (q := 89) (v := (-1)) C dX7_count_88 (by decide) rfl ?_
              exact x_iret C dX7_count_89 ⟨by rw [FcountX, if_neg t0, if_neg t1, if_neg t2, if_neg t3, if_neg t4, if_neg t5], rfl⟩

end BENCHC
