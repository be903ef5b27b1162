section REFD
variable {l : Launch} {D : va_G} {ad : Nat → Nat} {cI cZ : ClassId} {A : Nat → Prop}

set_option maxRecDepth 100000 in
set_option maxHeartbeats 4000000 in
theorem c_X8_pairs (hD : ∀ P T, va_D A (wN ad cI cZ P T)) {P T : St} (ok : okN P) (a1 v1 y1 x1 : Int32) : XMI l D (tyz cI cZ) (wN ad cI cZ) A yX8_pairs cX8_pairs 10 (some .int) rmX8_pairs [.ref (ad 0), .int a1, .int v1, .int y1, .int x1] P T (fun r P' _ => r = FpairsN P a1 v1 y1 x1 ∧ P' = P) := by
  have okc := okN_c ok
  have hk6 := okc_kn6 okc
  have hS144 := okc_S144 okc
  have hS1 := okc_S1 okc
  have hnr := okc_nr12 okc
  have hnt := okc_nt60 okc
  have hnz := okc_nz50 okc
  have hsd := okc_sdb okc
  have okk := okC_K okc
  refine x_start_i (lv := [(0, .ref (ad 0)), (1, .int a1), (2, .int v1), (3, .int y1), (4, .int x1)]) (own := RX8) (by decide) rfl hD (Nat.le_of_ble_eq_true rfl) rfl ?_
  intro p e s m args below meth c C
  refine x_aload_n (q := 1) C dX8_pairs_0 rfl 0 rfl rfl ?_
  refine x_iload_n (q := 2) C dX8_pairs_1 rfl 1 rfl rfl ?_
  refine x_iload_n (q := 3) C dX8_pairs_2 rfl 2 rfl rfl ?_
  refine x_Vf (q := 6) (As := [.int a1, .int v1]) (rest := []) C (c_X8_isValue hD ok a1 v1 ) xs_X8_isValue tim_X8_isValue tsel_X8_isValue tml_X8_65 (by decide) 0 rfl (ci := 8) rfl rfl rfl (Nat.le_of_ble_eq_true rfl) dX8_pairs_3 rfl ?_
  refine x_if_eq_b (q := 9) (tgt := 34) C dX8_pairs_6 (by decide) rfl (fun c6 => ?_) (fun c6 => ?_)
  · refine x_ldc (q := 36) C tk_X8_128 dX8_pairs_34 rfl ?_
    exact x_iret C dX8_pairs_36 ⟨if_f (fun h => by first | exact c6 h.1 | exact c15 h.2.1 | exact h.2.2.1 c20 | exact c31 h.2.2.2), rfl⟩
  · have hV6 := c6
    obtain ⟨a, v, ha, hv, rfl, rfl⟩ := isV_nat okc c6
    have hza := okc_sz2 okc ha
    refine x_aload_n (q := 10) C dX8_pairs_9 rfl 0 rfl rfl ?_
    refine x_iload_n (q := 11) C dX8_pairs_10 rfl 1 rfl rfl ?_
    refine x_iload_n (q := 12) C dX8_pairs_11 rfl 3 rfl rfl ?_
    refine x_Vf (q := 15) (As := [.int (nI a), .int y1]) (rest := []) C (c_X8_isValue hD ok (nI a) y1 ) xs_X8_isValue tim_X8_isValue tsel_X8_isValue tml_X8_65 (by decide) 0 rfl (ci := 8) rfl rfl rfl (Nat.le_of_ble_eq_true rfl) dX8_pairs_12 rfl ?_
    refine x_if_eq_b (q := 18) (tgt := 34) C dX8_pairs_15 (by decide) rfl (fun c15 => ?_) (fun c15 => ?_)
    · refine x_ldc (q := 36) C tk_X8_128 dX8_pairs_34 rfl ?_
      exact x_iret C dX8_pairs_36 ⟨if_f (fun h => by first | exact c6 h.1 | exact c15 h.2.1 | exact h.2.2.1 c20 | exact c31 h.2.2.2), rfl⟩
    · have hV15 := c15
      obtain ⟨a2, y, ha2, hy, hae, rfl⟩ := isV_nat okc c15
      obtain rfl : a = a2 := (nI_eq (by omega) (by omega)).mp hae
      refine x_iload_n (q := 19) C dX8_pairs_18 rfl 2 rfl rfl ?_
      refine x_iload_n (q := 20) C dX8_pairs_19 rfl 3 rfl rfl ?_
      refine x_icmp_eq_n (q := 23) (tgt := 34) C dX8_pairs_20 (by omega) (by omega) (by decide) rfl (fun c20 => ?_) (fun c20 => ?_)
      · replace c20 : nI v = nI y := by rw [c20]
        refine x_ldc (q := 36) C tk_X8_128 dX8_pairs_34 rfl ?_
        exact x_iret C dX8_pairs_36 ⟨if_f (fun h => by first | exact c6 h.1 | exact c15 h.2.1 | exact h.2.2.1 c20 | exact c31 h.2.2.2), rfl⟩
      · have c20z : ¬ nI v = nI y := fun h => c20 ((nI_eq (by omega) (by omega)).mp h)
        refine x_iload (q := 25) C dX8_pairs_23 4 rfl rfl ?_
        refine x_i2l (q := 26) C dX8_pairs_25 rfl ?_
        refine x_lconst (q := 27) (v := 0) C dX8_pairs_26 (by decide) rfl ?_
        refine x_lconst (q := 28) (v := 1) C dX8_pairs_27 (by decide) rfl ?_
        refine x_Sf (q := 31) (As := [.long x1.toInt64, .long 0, .long 1]) (rest := []) C (c_X8_in hD x1.toInt64 0 1 ) xs_X8_in tst_X8_in tml_X8_50 (by decide) rfl rfl (Nat.le_of_ble_eq_true rfl) dX8_pairs_28 rfl ?_
        refine x_tope (bI (inR x1 (nI 0) (nI 1))) (bI_congr (inL_i (a := (nI 0)) (b := (nI 1)) (by decide) (by decide))) ?_
        refine x_if_ne_b (q := 34) (tgt := 37) C dX8_pairs_31 (by decide) rfl (fun c31 => ?_) (fun c31 => ?_)
        · refine x_iconst (q := 38) (v := nI 0) C dX8_pairs_37 (by decide) rfl ?_
          refine x_istore (q := 40) (lv' := [(0, .ref (ad 0)), (1, .int (nI a)), (2, .int (nI v)), (3, .int (nI y)), (4, .int x1), (5, .int (nI 0))]) C dX8_pairs_38 (by decide) rfl rfl rfl ?_
          refine x_iconst (q := 41) (v := nI 0) C dX8_pairs_40 (by decide) rfl ?_
          refine x_istore (q := 43) (lv' := [(0, .ref (ad 0)), (1, .int (nI a)), (2, .int (nI v)), (3, .int (nI y)), (4, .int x1), (5, .int (nI 0)), (6, .int (nI 0))]) C dX8_pairs_41 (by decide) rfl rfl rfl ?_
          refine x_iconst (q := 44) (v := nI 0) C dX8_pairs_43 (by decide) rfl ?_
          refine x_istore (q := 46) (lv' := [(0, .ref (ad 0)), (1, .int (nI a)), (2, .int (nI v)), (3, .int (nI y)), (4, .int x1), (5, .int (nI 0)), (6, .int (nI 0)), (7, .int (nI 0))]) C dX8_pairs_44 (by decide) rfl rfl rfl ?_
          have L46 : ∀ (f1 : Nat) (x : Nat) (n : Nat) (a0 : Int32), (x ≤ nS P) → (n = pcN P a v y x) → (a0 = psN P a v y x) → nS P - x < f1 → XW p l e rmX8_pairs s m args below meth c D (wN ad cI cZ) A 10 (MQ below (XPI D (tyz cI cZ) (wN ad cI cZ) A (fun r P' _ => r = FpairsN P (nI a) (nI v) (nI y) x1 ∧ P' = P)) args s 0 0 A) 46 [(0, .ref (ad 0)), (1, .int (nI a)), (2, .int (nI v)), (3, .int (nI y)), (4, .int x1), (5, .int (nI n)), (6, .int a0), (7, .int (nI x))] [] P T := by
            intro f1
            induction f1 with
            | zero => intro x n a0 hx hn hsu hm; exact absurd hm (Nat.not_lt_zero _)
            | succ f1 ih46 =>
              intro x n a0 hx hn hsu hm46
              refine x_iload (q := 48) C dX8_pairs_46 7 rfl rfl ?_
              refine x_aload_n (q := 49) C dX8_pairs_48 rfl 0 rfl rfl ?_
              refine xg_X8_settings (q := 52) C tfl_X8_7 dX8_pairs_49 rfl ?_
              refine x_topn (nS P) (okc_S (P := P) okc) ?_
              refine x_icmp_ge_n (q := 55) (tgt := 148) C dX8_pairs_52 (by omega) (by omega) (by decide) rfl (fun c52 => ?_) (fun c52 => ?_)
              · refine x_iload (q := 150) C dX8_pairs_148 4 rfl rfl ?_
                refine x_if_ne (q := 153) (tgt := 158) C dX8_pairs_150 (by decide) rfl (fun c150 => ?_) (fun c150 => ?_)
                · refine x_iload (q := 160) C dX8_pairs_158 6 rfl rfl ?_
                  exact x_iret C dX8_pairs_160 ⟨by rw [FpairsN, if_pos ⟨hV6, hV15, c20z, c31⟩, cl_nI (by omega), cl_nI (by omega), cl_nI (by omega), show nS P = x by omega]; rw [if_neg c150, hsu], rfl⟩
                · refine x_iload (q := 155) C dX8_pairs_153 5 rfl rfl ?_
                  refine x_goto (tgt := 160) C dX8_pairs_155 (by decide) ?_
                  exact x_iret C dX8_pairs_160 ⟨by rw [FpairsN, if_pos ⟨hV6, hV15, c20z, c31⟩, cl_nI (by omega), cl_nI (by omega), cl_nI (by omega), show nS P = x by omega]; rw [if_pos c150, hn], rfl⟩
              · have hmS := mv_lt okc (x := x) (v := y) (by omega) ha hy
                have hvl := val_lt4 okc x ha
                refine x_aload_n (q := 56) C dX8_pairs_55 rfl 0 rfl rfl ?_
                refine x_iload (q := 58) C dX8_pairs_56 7 rfl rfl ?_
                refine x_iload_n (q := 59) C dX8_pairs_58 rfl 1 rfl rfl ?_
                refine x_Vf (q := 62) (As := [.int (nI x), .int (nI a)]) (rest := []) C (c_X8_get hD okk x a (by omega) (by omega)) xs_X8_get tim_X8_get tsel_X8_get tml_X8_94 (by decide) 0 rfl (ci := 8) rfl rfl rfl (Nat.le_of_ble_eq_true rfl) dX8_pairs_59 rfl ?_
                refine x_iload_n (q := 63) C dX8_pairs_62 rfl 2 rfl rfl ?_
                refine x_icmp_ne_n (q := 66) (tgt := 142) C dX8_pairs_63 (by omega) (by omega) (by decide) rfl (fun c63 => ?_) (fun c63 => ?_)
                · refine x_iinc (q := 145) (v := nI (x + 1)) (lv' := [(0, .ref (ad 0)), (1, .int (nI a)), (2, .int (nI v)), (3, .int (nI y)), (4, .int x1), (5, .int (nI n)), (6, .int a0), (7, .int (nI (x + 1)))]) C dX8_pairs_142 7 rfl (nI_add x 1) (by decide) rfl rfl rfl ?_
                  refine x_goto (tgt := 46) C dX8_pairs_145 (by decide) ?_
                  exact ih46 (x + 1) n a0 (by omega) (cnt_n hn (decide_eq_false (fun h => c63 h.1))) (by rw [psN, sm, if_neg (fun h => c63 h.1), Int32.add_zero]; exact hsu) (by omega)
                · refine x_aload_n (q := 67) C dX8_pairs_66 rfl 0 rfl rfl ?_
                  refine x_iload (q := 69) C dX8_pairs_67 7 rfl rfl ?_
                  refine x_Vf (q := 72) (As := [.int (nI x)]) (rest := []) C (c_X8_firstOf hD ok x (by omega)) xs_X8_firstOf tim_X8_firstOf tsel_X8_firstOf tml_X8_155 (by decide) 0 rfl (ci := 8) rfl rfl rfl (Nat.le_of_ble_eq_true rfl) dX8_pairs_69 rfl ?_
                  refine x_istore (q := 74) (lv' := [(0, .ref (ad 0)), (1, .int (nI a)), (2, .int (nI v)), (3, .int (nI y)), (4, .int x1), (5, .int (nI n)), (6, .int a0), (7, .int (nI x)), (8, .int (foN P x))]) C dX8_pairs_72 (by decide) rfl rfl rfl ?_
                  refine x_aload_n (q := 75) C dX8_pairs_74 rfl 0 rfl rfl ?_
                  refine x_aload_n (q := 76) C dX8_pairs_75 rfl 0 rfl rfl ?_
                  refine x_iload (q := 78) C dX8_pairs_76 7 rfl rfl ?_
                  refine x_iload_n (q := 79) C dX8_pairs_78 rfl 1 rfl rfl ?_
                  refine x_iload_n (q := 80) C dX8_pairs_79 rfl 3 rfl rfl ?_
                  refine x_Vf (q := 83) (As := [.int (nI x), .int (nI a), .int (nI y)]) (rest := [.ref (ad 0)]) C (c_X8_put hD okk x a y (by omega) (by omega)) xs_X8_put tim_X8_put tsel_X8_put tml_X8_101 (by decide) 0 rfl (ci := 8) rfl rfl rfl (Nat.le_of_ble_eq_true rfl) dX8_pairs_80 rfl ?_
                  refine x_Vf (q := 86) (As := [.int (nI (mv P x a y))]) (rest := []) C (c_X8_firstOf hD ok (mv P x a y) (by omega)) xs_X8_firstOf tim_X8_firstOf tsel_X8_firstOf tml_X8_155 (by decide) 0 rfl (ci := 8) rfl rfl rfl (Nat.le_of_ble_eq_true rfl) dX8_pairs_83 rfl ?_
                  refine x_istore (q := 88) (lv' := [(0, .ref (ad 0)), (1, .int (nI a)), (2, .int (nI v)), (3, .int (nI y)), (4, .int x1), (5, .int (nI n)), (6, .int a0), (7, .int (nI x)), (8, .int (foN P x)), (9, .int (foN P (mv P x a y)))]) C dX8_pairs_86 (by decide) rfl rfl rfl ?_
                  refine x_iload (q := 90) C dX8_pairs_88 5 rfl rfl ?_
                  refine x_iload (q := 92) C dX8_pairs_90 8 rfl rfl ?_
                  refine x_if_lt (q := 95) (tgt := 104) C dX8_pairs_92 (by decide) rfl (fun c92 => ?_) (fun c92 => ?_)
                  · refine x_iconst (q := 105) (v := nI 0) C dX8_pairs_104 (by decide) rfl ?_
                    refine x_iadd_n (q := 106) C dX8_pairs_105 rfl ?_
                    refine x_namen (fun n2 hn2 => ?_)
                    refine x_istore (q := 108) (lv' := [(0, .ref (ad 0)), (1, .int (nI a)), (2, .int (nI v)), (3, .int (nI y)), (4, .int x1), (5, .int (nI n2)), (6, .int a0), (7, .int (nI x)), (8, .int (foN P x)), (9, .int (foN P (mv P x a y)))]) C dX8_pairs_106 (by decide) rfl rfl rfl ?_
                    refine x_iload (q := 110) C dX8_pairs_108 6 rfl rfl ?_
                    refine x_iload (q := 112) C dX8_pairs_110 8 rfl rfl ?_
                    refine x_if_lt (q := 115) (tgt := 138) C dX8_pairs_112 (by decide) rfl (fun c112 => ?_) (fun c112 => ?_)
                    · refine x_iconst (q := 139) (v := nI 0) C dX8_pairs_138 (by decide) rfl ?_
                      refine x_iadd (q := 140) C dX8_pairs_139 rfl ?_
                      refine x_topi (fun z3 hz3 => ?_)
                      refine x_istore (q := 142) (lv' := [(0, .ref (ad 0)), (1, .int (nI a)), (2, .int (nI v)), (3, .int (nI y)), (4, .int x1), (5, .int (nI n2)), (6, .int z3), (7, .int (nI x)), (8, .int (foN P x)), (9, .int (foN P (mv P x a y)))]) C dX8_pairs_140 (by decide) rfl rfl rfl ?_
                      refine x_iinc (q := 145) (v := nI (x + 1)) (lv' := [(0, .ref (ad 0)), (1, .int (nI a)), (2, .int (nI v)), (3, .int (nI y)), (4, .int x1), (5, .int (nI n2)), (6, .int z3), (7, .int (nI (x + 1))), (8, .int (foN P x)), (9, .int (foN P (mv P x a y)))]) C dX8_pairs_142 7 rfl (nI_add x 1) (by decide) rfl rfl rfl ?_
                      refine x_goto (tgt := 46) C dX8_pairs_145 (by decide) ?_
                      refine x_lv [0, 1, 2, 3, 4, 5, 6, 7] rfl ?_
                      exact ih46 (x + 1) n2 z3 (by omega) (by rw [hn2]; exact cnt_n hn (decide_eq_false (fun h => by first | exact (foN_neg hnt).mp c92 h.2.1 | exact (foN_neg hnt).mp c97 h.2.2))) (by rw [psN, sm, if_neg (fun h => by first | exact (foN_neg hnt).mp c92 h.2.1 | exact (foN_neg hnt).mp c97 h.2.2), hz3, hsu]; rfl) (by omega)
                    · exact absurd c92 c112
                  · have hA : fi P x < nt P := Decidable.byContradiction (fun q => c92 ((foN_neg hnt).mpr q))
                    rw [foN_in hA]
                    refine x_iload (q := 97) C dX8_pairs_95 9 rfl rfl ?_
                    refine x_if_lt (q := 100) (tgt := 104) C dX8_pairs_97 (by decide) rfl (fun c97 => ?_) (fun c97 => ?_)
                    · refine x_iconst (q := 105) (v := nI 0) C dX8_pairs_104 (by decide) rfl ?_
                      refine x_iadd_n (q := 106) C dX8_pairs_105 rfl ?_
                      refine x_namen (fun n4 hn4 => ?_)
                      refine x_istore (q := 108) (lv' := [(0, .ref (ad 0)), (1, .int (nI a)), (2, .int (nI v)), (3, .int (nI y)), (4, .int x1), (5, .int (nI n4)), (6, .int a0), (7, .int (nI x)), (8, .int (nI (fi P x))), (9, .int (foN P (mv P x a y)))]) C dX8_pairs_106 (by decide) rfl rfl rfl ?_
                      refine x_iload (q := 110) C dX8_pairs_108 6 rfl rfl ?_
                      refine x_iload (q := 112) C dX8_pairs_110 8 rfl rfl ?_
                      refine x_if_lt_n (q := 115) (tgt := 138) C dX8_pairs_112 (by have := fi_le P x; omega) (by decide) rfl (fun c112 => ?_) (fun c112 => ?_)
                      · exact absurd c112 (Nat.not_lt_zero _)
                      · refine x_iload (q := 117) C dX8_pairs_115 9 rfl rfl ?_
                        refine x_if_lt (q := 120) (tgt := 138) C dX8_pairs_117 (by decide) rfl (fun c117 => ?_) (fun c117 => ?_)
                        · refine x_iconst (q := 139) (v := nI 0) C dX8_pairs_138 (by decide) rfl ?_
                          refine x_iadd (q := 140) C dX8_pairs_139 rfl ?_
                          refine x_topi (fun z5 hz5 => ?_)
                          refine x_istore (q := 142) (lv' := [(0, .ref (ad 0)), (1, .int (nI a)), (2, .int (nI v)), (3, .int (nI y)), (4, .int x1), (5, .int (nI n4)), (6, .int z5), (7, .int (nI x)), (8, .int (nI (fi P x))), (9, .int (foN P (mv P x a y)))]) C dX8_pairs_140 (by decide) rfl rfl rfl ?_
                          refine x_iinc (q := 145) (v := nI (x + 1)) (lv' := [(0, .ref (ad 0)), (1, .int (nI a)), (2, .int (nI v)), (3, .int (nI y)), (4, .int x1), (5, .int (nI n4)), (6, .int z5), (7, .int (nI (x + 1))), (8, .int (nI (fi P x))), (9, .int (foN P (mv P x a y)))]) C dX8_pairs_142 7 rfl (nI_add x 1) (by decide) rfl rfl rfl ?_
                          refine x_goto (tgt := 46) C dX8_pairs_145 (by decide) ?_
                          refine x_lv [0, 1, 2, 3, 4, 5, 6, 7] rfl ?_
                          exact ih46 (x + 1) n4 z5 (by omega) (by rw [hn4]; exact cnt_n hn (decide_eq_false (fun h => by first | exact (foN_neg hnt).mp c92 h.2.1 | exact (foN_neg hnt).mp c97 h.2.2))) (by rw [psN, sm, if_neg (fun h => by first | exact (foN_neg hnt).mp c92 h.2.1 | exact (foN_neg hnt).mp c97 h.2.2), hz5, hsu]; rfl) (by omega)
                        · exact absurd c97 c117
                    · have hB : fi P (mv P x a y) < nt P := Decidable.byContradiction (fun q => c97 ((foN_neg hnt).mpr q))
                      rw [foN_in hB]
                      refine x_iconst (q := 101) (v := nI 1) C dX8_pairs_100 (by decide) rfl ?_
                      refine x_goto (tgt := 105) C dX8_pairs_101 (by decide) ?_
                      refine x_iadd_n (q := 106) C dX8_pairs_105 rfl ?_
                      refine x_namen (fun n6 hn6 => ?_)
                      refine x_istore (q := 108) (lv' := [(0, .ref (ad 0)), (1, .int (nI a)), (2, .int (nI v)), (3, .int (nI y)), (4, .int x1), (5, .int (nI n6)), (6, .int a0), (7, .int (nI x)), (8, .int (nI (fi P x))), (9, .int (nI (fi P (mv P x a y))))]) C dX8_pairs_106 (by decide) rfl rfl rfl ?_
                      refine x_iload (q := 110) C dX8_pairs_108 6 rfl rfl ?_
                      refine x_iload (q := 112) C dX8_pairs_110 8 rfl rfl ?_
                      refine x_if_lt_n (q := 115) (tgt := 138) C dX8_pairs_112 (by have := fi_le P x; omega) (by decide) rfl (fun c112 => ?_) (fun c112 => ?_)
                      · exact absurd c112 (Nat.not_lt_zero _)
                      · refine x_iload (q := 117) C dX8_pairs_115 9 rfl rfl ?_
                        refine x_if_lt_n (q := 120) (tgt := 138) C dX8_pairs_117 (by have := fi_le P (mv P x a y); omega) (by decide) rfl (fun c117 => ?_) (fun c117 => ?_)
                        · exact absurd c117 (Nat.not_lt_zero _)
                        · refine x_aload_n (q := 121) C dX8_pairs_120 rfl 0 rfl rfl ?_
                          refine xg_X8_reads (q := 124) C tfl_X8_38 dX8_pairs_121 rfl ?_
                          refine x_iload (q := 126) C dX8_pairs_124 9 rfl rfl ?_
                          refine xa_N8 (q := 127) C (by omega) dX8_pairs_126 rfl ?_
                          refine x_aload_n (q := 128) C dX8_pairs_127 rfl 0 rfl rfl ?_
                          refine xg_X8_reads (q := 131) C tfl_X8_38 dX8_pairs_128 rfl ?_
                          refine x_iload (q := 133) C dX8_pairs_131 8 rfl rfl ?_
                          refine xa_N8 (q := 134) C (by omega) dX8_pairs_133 rfl ?_
                          refine x_isub (q := 135) C dX8_pairs_134 rfl ?_
                          refine x_goto (tgt := 139) C dX8_pairs_135 (by decide) ?_
                          refine x_iadd (q := 140) C dX8_pairs_139 rfl ?_
                          refine x_topi (fun z7 hz7 => ?_)
                          refine x_istore (q := 142) (lv' := [(0, .ref (ad 0)), (1, .int (nI a)), (2, .int (nI v)), (3, .int (nI y)), (4, .int x1), (5, .int (nI n6)), (6, .int z7), (7, .int (nI x)), (8, .int (nI (fi P x))), (9, .int (nI (fi P (mv P x a y))))]) C dX8_pairs_140 (by decide) rfl rfl rfl ?_
                          refine x_iinc (q := 145) (v := nI (x + 1)) (lv' := [(0, .ref (ad 0)), (1, .int (nI a)), (2, .int (nI v)), (3, .int (nI y)), (4, .int x1), (5, .int (nI n6)), (6, .int z7), (7, .int (nI (x + 1))), (8, .int (nI (fi P x))), (9, .int (nI (fi P (mv P x a y))))]) C dX8_pairs_142 7 rfl (nI_add x 1) (by decide) rfl rfl rfl ?_
                          refine x_goto (tgt := 46) C dX8_pairs_145 (by decide) ?_
                          refine x_lv [0, 1, 2, 3, 4, 5, 6, 7] rfl ?_
                          exact ih46 (x + 1) n6 z7 (by omega) (by rw [hn6]; exact cnt_y hn (decide_eq_true ⟨c63, hA, hB⟩)) (by rw [psN, sm, if_pos ⟨c63, hA, hB⟩, hz7, hsu]; rfl) (by omega)
          exact L46 _ 0 0 0 (Nat.zero_le _) rfl rfl (Nat.lt_succ_self _)
        · refine x_ldc (q := 36) C tk_X8_128 dX8_pairs_34 rfl ?_
          exact x_iret C dX8_pairs_36 ⟨if_f (fun h => by first | exact c6 h.1 | exact c15 h.2.1 | exact h.2.2.1 c20 | exact c31 h.2.2.2), rfl⟩

set_option maxRecDepth 100000 in
set_option maxHeartbeats 4000000 in
theorem c_X8_excess (hD : ∀ P T, va_D A (wN ad cI cZ P T)) {P T : St} (ok : okN P) (x1 a1 v1 u1 b1 y1 g1 : Int32) : XMI l D (tyz cI cZ) (wN ad cI cZ) A yX8_excess cX8_excess 13 (some .int) rmX8_excess [.ref (ad 0), .int x1, .int a1, .int v1, .int u1, .int b1, .int y1, .int g1] P T (fun r P' T' => r = Fexc P x1 a1 v1 u1 b1 y1 g1 ∧ P' = P ∧ T' = T) := by
  have okc := okN_c ok
  have hk6 := okc_kn6 okc
  have hS144 := okc_S144 okc
  have hS1 := okc_S1 okc
  have hnr := okc_nr12 okc
  have hnt := okc_nt60 okc
  have hnz := okc_nz50 okc
  have hsd := okc_sdb okc
  have okk := okC_K okc
  refine x_start_i (lv := [(0, .ref (ad 0)), (1, .int x1), (2, .int a1), (3, .int v1), (4, .int u1), (5, .int b1), (6, .int y1), (7, .int g1)]) (own := RX8) (by decide) rfl hD (Nat.le_of_ble_eq_true rfl) rfl ?_
  intro p e s m args below meth c C
  refine x_aload_n (q := 1) C dX8_excess_0 rfl 0 rfl rfl ?_
  refine x_iload_n (q := 2) C dX8_excess_1 rfl 1 rfl rfl ?_
  refine x_Vf (q := 5) (As := [.int x1]) (rest := []) C (c_X8_isSetting hD ok x1 ) xs_X8_isSetting tim_X8_isSetting tsel_X8_isSetting tml_X8_98 (by decide) 0 rfl (ci := 8) rfl rfl rfl (Nat.le_of_ble_eq_true rfl) dX8_excess_2 rfl ?_
  refine x_if_eq_b (q := 8) (tgt := 72) C dX8_excess_5 (by decide) rfl (fun c5 => ?_) (fun c5 => ?_)
  · refine x_iconst (q := 73) (v := nI 0) C dX8_excess_72 (by decide) rfl ?_
    refine x_istore (q := 75) (lv' := [(0, .ref (ad 0)), (1, .int x1), (2, .int a1), (3, .int v1), (4, .int u1), (5, .int b1), (6, .int y1), (7, .int g1), (8, .int (nI 0))]) C dX8_excess_73 (by decide) rfl rfl rfl ?_
    refine x_iload (q := 77) C dX8_excess_75 8 rfl rfl ?_
    refine x_if_ne_n (q := 80) (tgt := 83) C dX8_excess_77 (by decide) (by decide) rfl (fun h => absurd h (by decide)) (fun _ => ?_)
    refine x_ldc (q := 82) C tk_X8_158 dX8_excess_80 rfl ?_
    exact x_iret C dX8_excess_82 ⟨if_f (fun h => by first | exact c5 h.1.1 | exact c14 h.2.1.1 | exact c24 h.2.1.2 | exact h.1.2.2.1 c30 | exact Int32.not_lt.mpr c36 h.1.2.1 | exact c47 h.2.2.1 | exact c58 h.2.2.2 | exact h.1.2.2.2 c65), rfl, rfl⟩
  · have hS5 := c5
    obtain ⟨x, hx, rfl⟩ := isS_nat okc c5
    refine x_aload_n (q := 9) C dX8_excess_8 rfl 0 rfl rfl ?_
    refine x_iload_n (q := 10) C dX8_excess_9 rfl 2 rfl rfl ?_
    refine x_iload_n (q := 11) C dX8_excess_10 rfl 3 rfl rfl ?_
    refine x_Vf (q := 14) (As := [.int a1, .int v1]) (rest := []) C (c_X8_isValue hD ok a1 v1 ) xs_X8_isValue tim_X8_isValue tsel_X8_isValue tml_X8_65 (by decide) 0 rfl (ci := 8) rfl rfl rfl (Nat.le_of_ble_eq_true rfl) dX8_excess_11 rfl ?_
    refine x_if_eq_b (q := 17) (tgt := 72) C dX8_excess_14 (by decide) rfl (fun c14 => ?_) (fun c14 => ?_)
    · refine x_iconst (q := 73) (v := nI 0) C dX8_excess_72 (by decide) rfl ?_
      refine x_istore (q := 75) (lv' := [(0, .ref (ad 0)), (1, .int (nI x)), (2, .int a1), (3, .int v1), (4, .int u1), (5, .int b1), (6, .int y1), (7, .int g1), (8, .int (nI 0))]) C dX8_excess_73 (by decide) rfl rfl rfl ?_
      refine x_iload (q := 77) C dX8_excess_75 8 rfl rfl ?_
      refine x_if_ne_n (q := 80) (tgt := 83) C dX8_excess_77 (by decide) (by decide) rfl (fun h => absurd h (by decide)) (fun _ => ?_)
      refine x_ldc (q := 82) C tk_X8_158 dX8_excess_80 rfl ?_
      exact x_iret C dX8_excess_82 ⟨if_f (fun h => by first | exact c5 h.1.1 | exact c14 h.2.1.1 | exact c24 h.2.1.2 | exact h.1.2.2.1 c30 | exact Int32.not_lt.mpr c36 h.1.2.1 | exact c47 h.2.2.1 | exact c58 h.2.2.2 | exact h.1.2.2.2 c65), rfl, rfl⟩
    · have hV14 := c14
      obtain ⟨a, v, ha, hv, rfl, rfl⟩ := isV_nat okc c14
      have hza := okc_sz2 okc ha
      refine x_aload_n (q := 18) C dX8_excess_17 rfl 0 rfl rfl ?_
      refine x_iload_n (q := 19) C dX8_excess_18 rfl 2 rfl rfl ?_
      refine x_iload (q := 21) C dX8_excess_19 4 rfl rfl ?_
      refine x_Vf (q := 24) (As := [.int (nI a), .int u1]) (rest := []) C (c_X8_isValue hD ok (nI a) u1 ) xs_X8_isValue tim_X8_isValue tsel_X8_isValue tml_X8_65 (by decide) 0 rfl (ci := 8) rfl rfl rfl (Nat.le_of_ble_eq_true rfl) dX8_excess_21 rfl ?_
      refine x_if_eq_b (q := 27) (tgt := 72) C dX8_excess_24 (by decide) rfl (fun c24 => ?_) (fun c24 => ?_)
      · refine x_iconst (q := 73) (v := nI 0) C dX8_excess_72 (by decide) rfl ?_
        refine x_istore (q := 75) (lv' := [(0, .ref (ad 0)), (1, .int (nI x)), (2, .int (nI a)), (3, .int (nI v)), (4, .int u1), (5, .int b1), (6, .int y1), (7, .int g1), (8, .int (nI 0))]) C dX8_excess_73 (by decide) rfl rfl rfl ?_
        refine x_iload (q := 77) C dX8_excess_75 8 rfl rfl ?_
        refine x_if_ne_n (q := 80) (tgt := 83) C dX8_excess_77 (by decide) (by decide) rfl (fun h => absurd h (by decide)) (fun _ => ?_)
        refine x_ldc (q := 82) C tk_X8_158 dX8_excess_80 rfl ?_
        exact x_iret C dX8_excess_82 ⟨if_f (fun h => by first | exact c5 h.1.1 | exact c14 h.2.1.1 | exact c24 h.2.1.2 | exact h.1.2.2.1 c30 | exact Int32.not_lt.mpr c36 h.1.2.1 | exact c47 h.2.2.1 | exact c58 h.2.2.2 | exact h.1.2.2.2 c65), rfl, rfl⟩
      · have hV24 := c24
        obtain ⟨q24, u, hq24, hu, he24, rfl⟩ := isV_nat okc c24
        obtain rfl : a = q24 := (nI_eq (by omega) (by omega)).mp he24
        refine x_iload_n (q := 28) C dX8_excess_27 rfl 3 rfl rfl ?_
        refine x_iload (q := 30) C dX8_excess_28 4 rfl rfl ?_
        refine x_icmp_eq_n (q := 33) (tgt := 72) C dX8_excess_30 (by omega) (by omega) (by decide) rfl (fun c30 => ?_) (fun c30 => ?_)
        · replace c30 : nI v = nI u := by rw [c30]
          refine x_iconst (q := 73) (v := nI 0) C dX8_excess_72 (by decide) rfl ?_
          refine x_istore (q := 75) (lv' := [(0, .ref (ad 0)), (1, .int (nI x)), (2, .int (nI a)), (3, .int (nI v)), (4, .int (nI u)), (5, .int b1), (6, .int y1), (7, .int g1), (8, .int (nI 0))]) C dX8_excess_73 (by decide) rfl rfl rfl ?_
          refine x_iload (q := 77) C dX8_excess_75 8 rfl rfl ?_
          refine x_if_ne_n (q := 80) (tgt := 83) C dX8_excess_77 (by decide) (by decide) rfl (fun h => absurd h (by decide)) (fun _ => ?_)
          refine x_ldc (q := 82) C tk_X8_158 dX8_excess_80 rfl ?_
          exact x_iret C dX8_excess_82 ⟨if_f (fun h => by first | exact c5 h.1.1 | exact c14 h.2.1.1 | exact c24 h.2.1.2 | exact h.1.2.2.1 c30 | exact Int32.not_lt.mpr c36 h.1.2.1 | exact c47 h.2.2.1 | exact c58 h.2.2.2 | exact h.1.2.2.2 c65), rfl, rfl⟩
        · have c30z : ¬ nI v = nI u := fun h => c30 ((nI_eq (by omega) (by omega)).mp h)
          refine x_iload (q := 35) C dX8_excess_33 5 rfl rfl ?_
          refine x_iload_n (q := 36) C dX8_excess_35 rfl 2 rfl rfl ?_
          refine x_icmp_le (q := 39) (tgt := 72) C dX8_excess_36 (by decide) rfl (fun c36 => ?_) (fun c36 => ?_)
          · refine x_iconst (q := 73) (v := nI 0) C dX8_excess_72 (by decide) rfl ?_
            refine x_istore (q := 75) (lv' := [(0, .ref (ad 0)), (1, .int (nI x)), (2, .int (nI a)), (3, .int (nI v)), (4, .int (nI u)), (5, .int b1), (6, .int y1), (7, .int g1), (8, .int (nI 0))]) C dX8_excess_73 (by decide) rfl rfl rfl ?_
            refine x_iload (q := 77) C dX8_excess_75 8 rfl rfl ?_
            refine x_if_ne_n (q := 80) (tgt := 83) C dX8_excess_77 (by decide) (by decide) rfl (fun h => absurd h (by decide)) (fun _ => ?_)
            refine x_ldc (q := 82) C tk_X8_158 dX8_excess_80 rfl ?_
            exact x_iret C dX8_excess_82 ⟨if_f (fun h => by first | exact c5 h.1.1 | exact c14 h.2.1.1 | exact c24 h.2.1.2 | exact h.1.2.2.1 c30 | exact Int32.not_lt.mpr c36 h.1.2.1 | exact c47 h.2.2.1 | exact c58 h.2.2.2 | exact h.1.2.2.2 c65), rfl, rfl⟩
          · refine x_aload_n (q := 40) C dX8_excess_39 rfl 0 rfl rfl ?_
            refine x_iload (q := 42) C dX8_excess_40 5 rfl rfl ?_
            refine x_iload (q := 44) C dX8_excess_42 6 rfl rfl ?_
            refine x_Vf (q := 47) (As := [.int b1, .int y1]) (rest := []) C (c_X8_isValue hD ok b1 y1 ) xs_X8_isValue tim_X8_isValue tsel_X8_isValue tml_X8_65 (by decide) 0 rfl (ci := 8) rfl rfl rfl (Nat.le_of_ble_eq_true rfl) dX8_excess_44 rfl ?_
            refine x_if_eq_b (q := 50) (tgt := 72) C dX8_excess_47 (by decide) rfl (fun c47 => ?_) (fun c47 => ?_)
            · refine x_iconst (q := 73) (v := nI 0) C dX8_excess_72 (by decide) rfl ?_
              refine x_istore (q := 75) (lv' := [(0, .ref (ad 0)), (1, .int (nI x)), (2, .int (nI a)), (3, .int (nI v)), (4, .int (nI u)), (5, .int b1), (6, .int y1), (7, .int g1), (8, .int (nI 0))]) C dX8_excess_73 (by decide) rfl rfl rfl ?_
              refine x_iload (q := 77) C dX8_excess_75 8 rfl rfl ?_
              refine x_if_ne_n (q := 80) (tgt := 83) C dX8_excess_77 (by decide) (by decide) rfl (fun h => absurd h (by decide)) (fun _ => ?_)
              refine x_ldc (q := 82) C tk_X8_158 dX8_excess_80 rfl ?_
              exact x_iret C dX8_excess_82 ⟨if_f (fun h => by first | exact c5 h.1.1 | exact c14 h.2.1.1 | exact c24 h.2.1.2 | exact h.1.2.2.1 c30 | exact Int32.not_lt.mpr c36 h.1.2.1 | exact c47 h.2.2.1 | exact c58 h.2.2.2 | exact h.1.2.2.2 c65), rfl, rfl⟩
            · have hV47 := c47
              obtain ⟨b, y, hb, hy, rfl, rfl⟩ := isV_nat okc c47
              have hzb := okc_sz2 okc hb
              refine x_aload_n (q := 51) C dX8_excess_50 rfl 0 rfl rfl ?_
              refine x_iload (q := 53) C dX8_excess_51 5 rfl rfl ?_
              refine x_iload (q := 55) C dX8_excess_53 7 rfl rfl ?_
              refine x_Vf (q := 58) (As := [.int (nI b), .int g1]) (rest := []) C (c_X8_isValue hD ok (nI b) g1 ) xs_X8_isValue tim_X8_isValue tsel_X8_isValue tml_X8_65 (by decide) 0 rfl (ci := 8) rfl rfl rfl (Nat.le_of_ble_eq_true rfl) dX8_excess_55 rfl ?_
              refine x_if_eq_b (q := 61) (tgt := 72) C dX8_excess_58 (by decide) rfl (fun c58 => ?_) (fun c58 => ?_)
              · refine x_iconst (q := 73) (v := nI 0) C dX8_excess_72 (by decide) rfl ?_
                refine x_istore (q := 75) (lv' := [(0, .ref (ad 0)), (1, .int (nI x)), (2, .int (nI a)), (3, .int (nI v)), (4, .int (nI u)), (5, .int (nI b)), (6, .int (nI y)), (7, .int g1), (8, .int (nI 0))]) C dX8_excess_73 (by decide) rfl rfl rfl ?_
                refine x_iload (q := 77) C dX8_excess_75 8 rfl rfl ?_
                refine x_if_ne_n (q := 80) (tgt := 83) C dX8_excess_77 (by decide) (by decide) rfl (fun h => absurd h (by decide)) (fun _ => ?_)
                refine x_ldc (q := 82) C tk_X8_158 dX8_excess_80 rfl ?_
                exact x_iret C dX8_excess_82 ⟨if_f (fun h => by first | exact c5 h.1.1 | exact c14 h.2.1.1 | exact c24 h.2.1.2 | exact h.1.2.2.1 c30 | exact Int32.not_lt.mpr c36 h.1.2.1 | exact c47 h.2.2.1 | exact c58 h.2.2.2 | exact h.1.2.2.2 c65), rfl, rfl⟩
              · have hV58 := c58
                obtain ⟨q58, g, hq58, hg, he58, rfl⟩ := isV_nat okc c58
                obtain rfl : b = q58 := (nI_eq (by omega) (by omega)).mp he58
                refine x_iload (q := 63) C dX8_excess_61 6 rfl rfl ?_
                refine x_iload (q := 65) C dX8_excess_63 7 rfl rfl ?_
                refine x_icmp_eq_n (q := 68) (tgt := 72) C dX8_excess_65 (by omega) (by omega) (by decide) rfl (fun c65 => ?_) (fun c65 => ?_)
                · replace c65 : nI y = nI g := by rw [c65]
                  refine x_iconst (q := 73) (v := nI 0) C dX8_excess_72 (by decide) rfl ?_
                  refine x_istore (q := 75) (lv' := [(0, .ref (ad 0)), (1, .int (nI x)), (2, .int (nI a)), (3, .int (nI v)), (4, .int (nI u)), (5, .int (nI b)), (6, .int (nI y)), (7, .int (nI g)), (8, .int (nI 0))]) C dX8_excess_73 (by decide) rfl rfl rfl ?_
                  refine x_iload (q := 77) C dX8_excess_75 8 rfl rfl ?_
                  refine x_if_ne_n (q := 80) (tgt := 83) C dX8_excess_77 (by decide) (by decide) rfl (fun h => absurd h (by decide)) (fun _ => ?_)
                  refine x_ldc (q := 82) C tk_X8_158 dX8_excess_80 rfl ?_
                  exact x_iret C dX8_excess_82 ⟨if_f (fun h => by first | exact c5 h.1.1 | exact c14 h.2.1.1 | exact c24 h.2.1.2 | exact h.1.2.2.1 c30 | exact Int32.not_lt.mpr c36 h.1.2.1 | exact c47 h.2.2.1 | exact c58 h.2.2.2 | exact h.1.2.2.2 c65), rfl, rfl⟩
                · have c65z : ¬ nI y = nI g := fun h => c65 ((nI_eq (by omega) (by omega)).mp h)
                  refine x_iconst (q := 69) (v := nI 1) C dX8_excess_68 (by decide) rfl ?_
                  refine x_goto (tgt := 73) C dX8_excess_69 (by decide) ?_
                  refine x_istore (q := 75) (lv' := [(0, .ref (ad 0)), (1, .int (nI x)), (2, .int (nI a)), (3, .int (nI v)), (4, .int (nI u)), (5, .int (nI b)), (6, .int (nI y)), (7, .int (nI g)), (8, .int (nI 1))]) C dX8_excess_73 (by decide) rfl rfl rfl ?_
                  refine x_iload (q := 77) C dX8_excess_75 8 rfl rfl ?_
                  refine x_if_ne_n (q := 80) (tgt := 83) C dX8_excess_77 (by decide) (by decide) rfl (fun _ => ?_) (fun h => absurd h (by decide))
                  have hm1 := mv_lt okc (v := v) hx ha hv
                  have hm2 := mv_lt okc (v := u) hx ha hu
                  have hm3 := mv_lt okc (v := y) hm1 hb hy
                  have hm4 := mv_lt okc (v := y) hm2 hb hy
                  have hm5 := mv_lt okc (v := g) hm1 hb hg
                  have hm6 := mv_lt okc (v := g) hm2 hb hg
                  refine x_aload_n (q := 84) C dX8_excess_83 rfl 0 rfl rfl ?_
                  refine x_aload_n (q := 85) C dX8_excess_84 rfl 0 rfl rfl ?_
                  refine x_aload_n (q := 86) C dX8_excess_85 rfl 0 rfl rfl ?_
                  refine x_iload_n (q := 87) C dX8_excess_86 rfl 1 rfl rfl ?_
                  refine x_iload_n (q := 88) C dX8_excess_87 rfl 2 rfl rfl ?_
                  refine x_iload (q := 90) C dX8_excess_88 4 rfl rfl ?_
                  refine x_Vf (q := 93) (As := [.int (nI x), .int (nI a), .int (nI u)]) (rest := [.ref (ad 0), .ref (ad 0)]) C (c_X8_put hD okk x a u (by omega) (by omega)) xs_X8_put tim_X8_put tsel_X8_put tml_X8_101 (by decide) 0 rfl (ci := 8) rfl rfl rfl (Nat.le_of_ble_eq_true rfl) dX8_excess_90 rfl ?_
                  refine x_iload (q := 95) C dX8_excess_93 5 rfl rfl ?_
                  refine x_iload (q := 97) C dX8_excess_95 7 rfl rfl ?_
                  refine x_Vf (q := 100) (As := [.int (nI (mv P x a u)), .int (nI b), .int (nI g)]) (rest := [.ref (ad 0)]) C (c_X8_put hD okk (mv P x a u) b g (by omega) (by omega)) xs_X8_put tim_X8_put tsel_X8_put tml_X8_101 (by decide) 0 rfl (ci := 8) rfl rfl rfl (Nat.le_of_ble_eq_true rfl) dX8_excess_97 rfl ?_
                  refine x_Vf (q := 103) (As := [.int (nI (mv P (mv P x a u) b g))]) (rest := []) C (c_X8_firstOf hD ok (mv P (mv P x a u) b g) (by omega)) xs_X8_firstOf tim_X8_firstOf tsel_X8_firstOf tml_X8_155 (by decide) 0 rfl (ci := 8) rfl rfl rfl (Nat.le_of_ble_eq_true rfl) dX8_excess_100 rfl ?_
                  refine x_istore (q := 105) (lv' := [(0, .ref (ad 0)), (1, .int (nI x)), (2, .int (nI a)), (3, .int (nI v)), (4, .int (nI u)), (5, .int (nI b)), (6, .int (nI y)), (7, .int (nI g)), (8, .int (nI 1)), (9, .int (foN P (mv P (mv P x a u) b g)))]) C dX8_excess_103 (by decide) rfl rfl rfl ?_
                  refine x_aload_n (q := 106) C dX8_excess_105 rfl 0 rfl rfl ?_
                  refine x_aload_n (q := 107) C dX8_excess_106 rfl 0 rfl rfl ?_
                  refine x_aload_n (q := 108) C dX8_excess_107 rfl 0 rfl rfl ?_
                  refine x_iload_n (q := 109) C dX8_excess_108 rfl 1 rfl rfl ?_
                  refine x_iload_n (q := 110) C dX8_excess_109 rfl 2 rfl rfl ?_
                  refine x_iload (q := 112) C dX8_excess_110 4 rfl rfl ?_
                  refine x_Vf (q := 115) (As := [.int (nI x), .int (nI a), .int (nI u)]) (rest := [.ref (ad 0), .ref (ad 0)]) C (c_X8_put hD okk x a u (by omega) (by omega)) xs_X8_put tim_X8_put tsel_X8_put tml_X8_101 (by decide) 0 rfl (ci := 8) rfl rfl rfl (Nat.le_of_ble_eq_true rfl) dX8_excess_112 rfl ?_
                  refine x_iload (q := 117) C dX8_excess_115 5 rfl rfl ?_
                  refine x_iload (q := 119) C dX8_excess_117 6 rfl rfl ?_
                  refine x_Vf (q := 122) (As := [.int (nI (mv P x a u)), .int (nI b), .int (nI y)]) (rest := [.ref (ad 0)]) C (c_X8_put hD okk (mv P x a u) b y (by omega) (by omega)) xs_X8_put tim_X8_put tsel_X8_put tml_X8_101 (by decide) 0 rfl (ci := 8) rfl rfl rfl (Nat.le_of_ble_eq_true rfl) dX8_excess_119 rfl ?_
                  refine x_Vf (q := 125) (As := [.int (nI (mv P (mv P x a u) b y))]) (rest := []) C (c_X8_firstOf hD ok (mv P (mv P x a u) b y) (by omega)) xs_X8_firstOf tim_X8_firstOf tsel_X8_firstOf tml_X8_155 (by decide) 0 rfl (ci := 8) rfl rfl rfl (Nat.le_of_ble_eq_true rfl) dX8_excess_122 rfl ?_
                  refine x_istore (q := 127) (lv' := [(0, .ref (ad 0)), (1, .int (nI x)), (2, .int (nI a)), (3, .int (nI v)), (4, .int (nI u)), (5, .int (nI b)), (6, .int (nI y)), (7, .int (nI g)), (8, .int (nI 1)), (9, .int (foN P (mv P (mv P x a u) b g))), (10, .int (foN P (mv P (mv P x a u) b y)))]) C dX8_excess_125 (by decide) rfl rfl rfl ?_
                  refine x_aload_n (q := 128) C dX8_excess_127 rfl 0 rfl rfl ?_
                  refine x_aload_n (q := 129) C dX8_excess_128 rfl 0 rfl rfl ?_
                  refine x_aload_n (q := 130) C dX8_excess_129 rfl 0 rfl rfl ?_
                  refine x_iload_n (q := 131) C dX8_excess_130 rfl 1 rfl rfl ?_
                  refine x_iload_n (q := 132) C dX8_excess_131 rfl 2 rfl rfl ?_
                  refine x_iload_n (q := 133) C dX8_excess_132 rfl 3 rfl rfl ?_
                  refine x_Vf (q := 136) (As := [.int (nI x), .int (nI a), .int (nI v)]) (rest := [.ref (ad 0), .ref (ad 0)]) C (c_X8_put hD okk x a v (by omega) (by omega)) xs_X8_put tim_X8_put tsel_X8_put tml_X8_101 (by decide) 0 rfl (ci := 8) rfl rfl rfl (Nat.le_of_ble_eq_true rfl) dX8_excess_133 rfl ?_
                  refine x_iload (q := 138) C dX8_excess_136 5 rfl rfl ?_
                  refine x_iload (q := 140) C dX8_excess_138 7 rfl rfl ?_
                  refine x_Vf (q := 143) (As := [.int (nI (mv P x a v)), .int (nI b), .int (nI g)]) (rest := [.ref (ad 0)]) C (c_X8_put hD okk (mv P x a v) b g (by omega) (by omega)) xs_X8_put tim_X8_put tsel_X8_put tml_X8_101 (by decide) 0 rfl (ci := 8) rfl rfl rfl (Nat.le_of_ble_eq_true rfl) dX8_excess_140 rfl ?_
                  refine x_Vf (q := 146) (As := [.int (nI (mv P (mv P x a v) b g))]) (rest := []) C (c_X8_firstOf hD ok (mv P (mv P x a v) b g) (by omega)) xs_X8_firstOf tim_X8_firstOf tsel_X8_firstOf tml_X8_155 (by decide) 0 rfl (ci := 8) rfl rfl rfl (Nat.le_of_ble_eq_true rfl) dX8_excess_143 rfl ?_
                  refine x_istore (q := 148) (lv' := [(0, .ref (ad 0)), (1, .int (nI x)), (2, .int (nI a)), (3, .int (nI v)), (4, .int (nI u)), (5, .int (nI b)), (6, .int (nI y)), (7, .int (nI g)), (8, .int (nI 1)), (9, .int (foN P (mv P (mv P x a u) b g))), (10, .int (foN P (mv P (mv P x a u) b y))), (11, .int (foN P (mv P (mv P x a v) b g)))]) C dX8_excess_146 (by decide) rfl rfl rfl ?_
                  refine x_aload_n (q := 149) C dX8_excess_148 rfl 0 rfl rfl ?_
                  refine x_aload_n (q := 150) C dX8_excess_149 rfl 0 rfl rfl ?_
                  refine x_aload_n (q := 151) C dX8_excess_150 rfl 0 rfl rfl ?_
                  refine x_iload_n (q := 152) C dX8_excess_151 rfl 1 rfl rfl ?_
                  refine x_iload_n (q := 153) C dX8_excess_152 rfl 2 rfl rfl ?_
                  refine x_iload_n (q := 154) C dX8_excess_153 rfl 3 rfl rfl ?_
                  refine x_Vf (q := 157) (As := [.int (nI x), .int (nI a), .int (nI v)]) (rest := [.ref (ad 0), .ref (ad 0)]) C (c_X8_put hD okk x a v (by omega) (by omega)) xs_X8_put tim_X8_put tsel_X8_put tml_X8_101 (by decide) 0 rfl (ci := 8) rfl rfl rfl (Nat.le_of_ble_eq_true rfl) dX8_excess_154 rfl ?_
                  refine x_iload (q := 159) C dX8_excess_157 5 rfl rfl ?_
                  refine x_iload (q := 161) C dX8_excess_159 6 rfl rfl ?_
                  refine x_Vf (q := 164) (As := [.int (nI (mv P x a v)), .int (nI b), .int (nI y)]) (rest := [.ref (ad 0)]) C (c_X8_put hD okk (mv P x a v) b y (by omega) (by omega)) xs_X8_put tim_X8_put tsel_X8_put tml_X8_101 (by decide) 0 rfl (ci := 8) rfl rfl rfl (Nat.le_of_ble_eq_true rfl) dX8_excess_161 rfl ?_
                  refine x_Vf (q := 167) (As := [.int (nI (mv P (mv P x a v) b y))]) (rest := []) C (c_X8_firstOf hD ok (mv P (mv P x a v) b y) (by omega)) xs_X8_firstOf tim_X8_firstOf tsel_X8_firstOf tml_X8_155 (by decide) 0 rfl (ci := 8) rfl rfl rfl (Nat.le_of_ble_eq_true rfl) dX8_excess_164 rfl ?_
                  refine x_istore (q := 169) (lv' := [(0, .ref (ad 0)), (1, .int (nI x)), (2, .int (nI a)), (3, .int (nI v)), (4, .int (nI u)), (5, .int (nI b)), (6, .int (nI y)), (7, .int (nI g)), (8, .int (nI 1)), (9, .int (foN P (mv P (mv P x a u) b g))), (10, .int (foN P (mv P (mv P x a u) b y))), (11, .int (foN P (mv P (mv P x a v) b g))), (12, .int (foN P (mv P (mv P x a v) b y)))]) C dX8_excess_167 (by decide) rfl rfl rfl ?_
                  refine x_iload (q := 171) C dX8_excess_169 9 rfl rfl ?_
                  refine x_if_lt (q := 174) (tgt := 189) C dX8_excess_171 (by decide) rfl (fun c171 => ?_) (fun c171 => ?_)
                  · refine x_ldc (q := 191) C tk_X8_159 dX8_excess_189 rfl ?_
                    exact x_iret C dX8_excess_191 ⟨by rw [Fexc, if_pos ⟨⟨hS5, fa_of_nle c36, c30z, c65z⟩, ⟨hV14, hV24⟩, hV47, hV58⟩, cl_nI (by omega), cl_nI (by omega), cl_nI (by omega), cl_nI (by omega), cl_nI (by omega), cl_nI (by omega), cl_nI (by omega)]; rw [if_neg (fun h => by first | exact (foN_neg hnt).mp c171 h.1 | exact (foN_neg hnt).mp c176 h.2.1 | exact (foN_neg hnt).mp c181 h.2.2.1 | exact (foN_neg hnt).mp (Int32.not_le.mp c186) h.2.2.2)], rfl, rfl⟩
                  · have h1 : exf P x a u b g < nt P := Decidable.byContradiction (fun q => c171 ((foN_neg hnt).mpr q))
                    rw [foN_in h1]
                    rw [show fi P (mv P (mv P x a u) b g) = exf P x a u b g from rfl]
                    refine x_iload (q := 176) C dX8_excess_174 10 rfl rfl ?_
                    refine x_if_lt (q := 179) (tgt := 189) C dX8_excess_176 (by decide) rfl (fun c176 => ?_) (fun c176 => ?_)
                    · refine x_ldc (q := 191) C tk_X8_159 dX8_excess_189 rfl ?_
                      exact x_iret C dX8_excess_191 ⟨by rw [Fexc, if_pos ⟨⟨hS5, fa_of_nle c36, c30z, c65z⟩, ⟨hV14, hV24⟩, hV47, hV58⟩, cl_nI (by omega), cl_nI (by omega), cl_nI (by omega), cl_nI (by omega), cl_nI (by omega), cl_nI (by omega), cl_nI (by omega)]; rw [if_neg (fun h => by first | exact (foN_neg hnt).mp c171 h.1 | exact (foN_neg hnt).mp c176 h.2.1 | exact (foN_neg hnt).mp c181 h.2.2.1 | exact (foN_neg hnt).mp (Int32.not_le.mp c186) h.2.2.2)], rfl, rfl⟩
                    · have h2 : exf P x a u b y < nt P := Decidable.byContradiction (fun q => c176 ((foN_neg hnt).mpr q))
                      rw [foN_in h2]
                      rw [show fi P (mv P (mv P x a u) b y) = exf P x a u b y from rfl]
                      refine x_iload (q := 181) C dX8_excess_179 11 rfl rfl ?_
                      refine x_if_lt (q := 184) (tgt := 189) C dX8_excess_181 (by decide) rfl (fun c181 => ?_) (fun c181 => ?_)
                      · refine x_ldc (q := 191) C tk_X8_159 dX8_excess_189 rfl ?_
                        exact x_iret C dX8_excess_191 ⟨by rw [Fexc, if_pos ⟨⟨hS5, fa_of_nle c36, c30z, c65z⟩, ⟨hV14, hV24⟩, hV47, hV58⟩, cl_nI (by omega), cl_nI (by omega), cl_nI (by omega), cl_nI (by omega), cl_nI (by omega), cl_nI (by omega), cl_nI (by omega)]; rw [if_neg (fun h => by first | exact (foN_neg hnt).mp c171 h.1 | exact (foN_neg hnt).mp c176 h.2.1 | exact (foN_neg hnt).mp c181 h.2.2.1 | exact (foN_neg hnt).mp (Int32.not_le.mp c186) h.2.2.2)], rfl, rfl⟩
                      · have h3 : exf P x a v b g < nt P := Decidable.byContradiction (fun q => c181 ((foN_neg hnt).mpr q))
                        rw [foN_in h3]
                        rw [show fi P (mv P (mv P x a v) b g) = exf P x a v b g from rfl]
                        refine x_iload (q := 186) C dX8_excess_184 12 rfl rfl ?_
                        refine x_if_ge (q := 189) (tgt := 192) C dX8_excess_186 (by decide) rfl (fun c186 => ?_) (fun c186 => ?_)
                        · have h4 : exf P x a v b y < nt P := Decidable.byContradiction (fun q => absurd c186 (Int32.not_le.mpr ((foN_neg hnt).mpr q)))
                          rw [foN_in h4]
                          rw [show fi P (mv P (mv P x a v) b y) = exf P x a v b y from rfl]
                          refine x_aload_n (q := 193) C dX8_excess_192 rfl 0 rfl rfl ?_
                          refine xg_X8_reads (q := 196) C tfl_X8_38 dX8_excess_193 rfl ?_
                          refine x_iload (q := 198) C dX8_excess_196 9 rfl rfl ?_
                          refine xa_N8 (q := 199) C (by omega) dX8_excess_198 rfl ?_
                          refine x_aload_n (q := 200) C dX8_excess_199 rfl 0 rfl rfl ?_
                          refine xg_X8_reads (q := 203) C tfl_X8_38 dX8_excess_200 rfl ?_
                          refine x_iload (q := 205) C dX8_excess_203 10 rfl rfl ?_
                          refine xa_N8 (q := 206) C (by omega) dX8_excess_205 rfl ?_
                          refine x_isub (q := 207) C dX8_excess_206 rfl ?_
                          refine x_aload_n (q := 208) C dX8_excess_207 rfl 0 rfl rfl ?_
                          refine xg_X8_reads (q := 211) C tfl_X8_38 dX8_excess_208 rfl ?_
                          refine x_iload (q := 213) C dX8_excess_211 11 rfl rfl ?_
                          refine xa_N8 (q := 214) C (by omega) dX8_excess_213 rfl ?_
                          refine x_isub (q := 215) C dX8_excess_214 rfl ?_
                          refine x_aload_n (q := 216) C dX8_excess_215 rfl 0 rfl rfl ?_
                          refine xg_X8_reads (q := 219) C tfl_X8_38 dX8_excess_216 rfl ?_
                          refine x_iload (q := 221) C dX8_excess_219 12 rfl rfl ?_
                          refine xa_N8 (q := 222) C (by omega) dX8_excess_221 rfl ?_
                          refine x_iadd (q := 223) C dX8_excess_222 rfl ?_
                          exact x_iret C dX8_excess_223 ⟨by rw [Fexc, if_pos ⟨⟨hS5, fa_of_nle c36, c30z, c65z⟩, ⟨hV14, hV24⟩, hV47, hV58⟩, cl_nI (by omega), cl_nI (by omega), cl_nI (by omega), cl_nI (by omega), cl_nI (by omega), cl_nI (by omega), cl_nI (by omega)]; rw [if_pos ⟨h1, h2, h3, h4⟩]; rfl, rfl, rfl⟩
                        · refine x_ldc (q := 191) C tk_X8_159 dX8_excess_189 rfl ?_
                          exact x_iret C dX8_excess_191 ⟨by rw [Fexc, if_pos ⟨⟨hS5, fa_of_nle c36, c30z, c65z⟩, ⟨hV14, hV24⟩, hV47, hV58⟩, cl_nI (by omega), cl_nI (by omega), cl_nI (by omega), cl_nI (by omega), cl_nI (by omega), cl_nI (by omega), cl_nI (by omega)]; rw [if_neg (fun h => by first | exact (foN_neg hnt).mp c171 h.1 | exact (foN_neg hnt).mp c176 h.2.1 | exact (foN_neg hnt).mp c181 h.2.2.1 | exact (foN_neg hnt).mp (Int32.not_le.mp c186) h.2.2.2)], rfl, rfl⟩

set_option maxRecDepth 100000 in
set_option maxHeartbeats 4000000 in
theorem c_X8_joint (hD : ∀ P T, va_D A (wN ad cI cZ P T)) {P T : St} (ok : okN P) (x1 a1 v1 u1 b1 y1 g1 : Int32) : XMI l D (tyz cI cZ) (wN ad cI cZ) A yX8_joint cX8_joint 9 (some .int) rmX8_joint [.ref (ad 0), .int x1, .int a1, .int v1, .int u1, .int b1, .int y1, .int g1] P T (fun r P' _ => r = Fjt (Fexc P x1 a1 v1 u1 b1 y1 g1) (nz P) ∧ P' = P) := by
  have okc := okN_c ok
  have hk6 := okc_kn6 okc
  have hS144 := okc_S144 okc
  have hS1 := okc_S1 okc
  have hnr := okc_nr12 okc
  have hnt := okc_nt60 okc
  have hnz := okc_nz50 okc
  have hsd := okc_sdb okc
  have okk := okC_K okc
  refine x_start_i (lv := [(0, .ref (ad 0)), (1, .int x1), (2, .int a1), (3, .int v1), (4, .int u1), (5, .int b1), (6, .int y1), (7, .int g1)]) (own := RX8) (by decide) rfl hD (Nat.le_of_ble_eq_true rfl) rfl ?_
  intro p e s m args below meth c C
  refine x_aload_n (q := 1) C dX8_joint_0 rfl 0 rfl rfl ?_
  refine x_iload_n (q := 2) C dX8_joint_1 rfl 1 rfl rfl ?_
  refine x_iload_n (q := 3) C dX8_joint_2 rfl 2 rfl rfl ?_
  refine x_iload_n (q := 4) C dX8_joint_3 rfl 3 rfl rfl ?_
  refine x_iload (q := 6) C dX8_joint_4 4 rfl rfl ?_
  refine x_iload (q := 8) C dX8_joint_6 5 rfl rfl ?_
  refine x_iload (q := 10) C dX8_joint_8 6 rfl rfl ?_
  refine x_iload (q := 12) C dX8_joint_10 7 rfl rfl ?_
  refine x_Vf (q := 15) (As := [.int x1, .int a1, .int v1, .int u1, .int b1, .int y1, .int g1]) (rest := []) C (c_X8_excess hD ok x1 a1 v1 u1 b1 y1 g1 ) xs_X8_excess tim_X8_excess tsel_X8_excess tml_X8_160 (by decide) 0 rfl (ci := 8) rfl rfl rfl (Nat.le_of_ble_eq_true rfl) dX8_joint_12 rfl ?_
  refine x_istore (q := 17) (lv' := [(0, .ref (ad 0)), (1, .int x1), (2, .int a1), (3, .int v1), (4, .int u1), (5, .int b1), (6, .int y1), (7, .int g1), (8, .int (Fexc P x1 a1 v1 u1 b1 y1 g1))]) C dX8_joint_15 (by decide) rfl rfl rfl ?_
  refine x_iload (q := 19) C dX8_joint_17 8 rfl rfl ?_
  refine x_ldc (q := 21) C tk_X8_128 dX8_joint_19 rfl ?_
  refine x_icmp_ge (q := 24) (tgt := 38) C dX8_joint_21 (by decide) rfl (fun c21 => ?_) (fun c21 => ?_)
  · refine x_iload (q := 40) C dX8_joint_38 8 rfl rfl ?_
    refine x_iconst (q := 41) (v := nI 4) C dX8_joint_40 (by decide) rfl ?_
    refine x_aload_n (q := 42) C dX8_joint_41 rfl 0 rfl rfl ?_
    refine xg_X8_z (q := 45) C tfl_X8_85 dX8_joint_42 rfl ?_
    refine x_topn (nz P) (okc_nz (P := P) okc) ?_
    refine x_imul_n (q := 46) C dX8_joint_45 rfl ?_
    refine x_icmp_gt (q := 49) (tgt := 61) C dX8_joint_46 (by decide) rfl (fun c46 => ?_) (fun c46 => ?_)
    · refine x_iconst (q := 62) (v := nI 1) C dX8_joint_61 (by decide) rfl ?_
      refine x_goto (tgt := 66) C dX8_joint_62 (by decide) ?_
      exact x_iret C dX8_joint_66 ⟨by rw [Fjt, if_neg (fun h => absurd c21 (Int32.not_le.mpr ((Fexc_lt okc).mpr (Or.inl h)))), if_neg (fun h => absurd c21 (Int32.not_le.mpr ((Fexc_lt okc).mpr (Or.inr h))))]; exact bI_t (by first | exact Or.inl c46 | exact Or.inr (by rw [← neg4]; exact fa_of_nle c58)), rfl⟩
    · refine x_iload (q := 51) C dX8_joint_49 8 rfl rfl ?_
      refine x_bipush (q := 53) (v := (-4)) C dX8_joint_51 (by decide) rfl ?_
      refine x_aload_n (q := 54) C dX8_joint_53 rfl 0 rfl rfl ?_
      refine xg_X8_z (q := 57) C tfl_X8_85 dX8_joint_54 rfl ?_
      refine x_topn (nz P) (okc_nz (P := P) okc) ?_
      refine x_imul (q := 58) C dX8_joint_57 rfl ?_
      refine x_icmp_ge (q := 61) (tgt := 65) C dX8_joint_58 (by decide) rfl (fun c58 => ?_) (fun c58 => ?_)
      · refine x_iconst (q := 66) (v := nI 0) C dX8_joint_65 (by decide) rfl ?_
        exact x_iret C dX8_joint_66 ⟨by rw [Fjt, if_neg (fun h => absurd c21 (Int32.not_le.mpr ((Fexc_lt okc).mpr (Or.inl h)))), if_neg (fun h => absurd c21 (Int32.not_le.mpr ((Fexc_lt okc).mpr (Or.inr h))))]; exact bI_f (fun h => h.elim c46 (by rw [← neg4]; exact Int32.not_lt.mpr c58)), rfl⟩
      · refine x_iconst (q := 62) (v := nI 1) C dX8_joint_61 (by decide) rfl ?_
        refine x_goto (tgt := 66) C dX8_joint_62 (by decide) ?_
        exact x_iret C dX8_joint_66 ⟨by rw [Fjt, if_neg (fun h => absurd c21 (Int32.not_le.mpr ((Fexc_lt okc).mpr (Or.inl h)))), if_neg (fun h => absurd c21 (Int32.not_le.mpr ((Fexc_lt okc).mpr (Or.inr h))))]; exact bI_t (by first | exact Or.inl c46 | exact Or.inr (by rw [← neg4]; exact fa_of_nle c58)), rfl⟩
  · refine x_iload (q := 26) C dX8_joint_24 8 rfl rfl ?_
    refine x_ldc (q := 28) C tk_X8_158 dX8_joint_26 rfl ?_
    refine x_icmp_ne (q := 31) (tgt := 35) C dX8_joint_28 (by decide) rfl (fun c28 => ?_) (fun c28 => ?_)
    · refine x_bipush (q := 37) (v := (-2)) C dX8_joint_35 (by decide) rfl ?_
      exact x_iret C dX8_joint_37 ⟨by rw [Fjt, if_neg c28, if_pos (((Fexc_lt okc).mp (Int32.not_le.mp c21)).resolve_left c28)], rfl⟩
    · refine x_iconst (q := 32) (v := (-1)) C dX8_joint_31 (by decide) rfl ?_
      refine x_goto (tgt := 37) C dX8_joint_32 (by decide) ?_
      exact x_iret C dX8_joint_37 ⟨by rw [Fjt, if_pos c28], rfl⟩

set_option maxRecDepth 100000 in
set_option maxHeartbeats 4000000 in
theorem c_X8_gather (hD : ∀ P T, va_D A (wN ad cI cZ P T)) {P T : St} (ok : okN P) (x : Nat) (hx : x < 2 ^ 31) (L : List Int32) (hL : rdg T L) (h8 : L.length ≤ 8) : XMI l D (tyz cI cZ) (wN ad cI cZ) A yX8_gather cX8_gather 4 (some .int) rmX8_gather [.ref (ad 0), .int (nI x)] P T (fun r P' T' => r = nI (rl P x (nt P)).length ∧ P' = P ∧ (∀ j, j ≠ 18 → j ≠ 28 → T' j = T j) ∧ rdg T' (L ++ rl P x (nt P))) := by
  have okc := okN_c ok
  have hk6 := okc_kn6 okc
  have hS144 := okc_S144 okc
  have hS1 := okc_S1 okc
  have hnr := okc_nr12 okc
  have hnt := okc_nt60 okc
  have hnz := okc_nz50 okc
  have hsd := okc_sdb okc
  have okk := okC_K okc
  refine x_start_i (lv := [(0, .ref (ad 0)), (1, .int (nI x))]) (own := RX8) (by decide) rfl hD (Nat.le_of_ble_eq_true rfl) rfl ?_
  intro p e s m args below meth c C
  refine x_iconst (q := 1) (v := nI 0) C dX8_gather_0 (by decide) rfl ?_
  refine x_istore_n (q := 2) (lv' := [(0, .ref (ad 0)), (1, .int (nI x)), (2, .int (nI 0))]) C dX8_gather_1 rfl (by decide) rfl rfl rfl ?_
  refine x_iconst (q := 3) (v := nI 0) C dX8_gather_2 (by decide) rfl ?_
  refine x_istore_n (q := 4) (lv' := [(0, .ref (ad 0)), (1, .int (nI x)), (2, .int (nI 0)), (3, .int (nI 0))]) C dX8_gather_3 rfl (by decide) rfl rfl rfl ?_
  have L4 : ∀ (f1 : Nat) (i : Nat) (n : Nat) (Tq : St), (i ≤ nt P) → (∀ j, j ≠ 18 → j ≠ 28 → Tq j = T j) → (rdg Tq (L ++ rl P x i)) → (n = (rl P x i).length) → nt P - i < f1 → XW p l e rmX8_gather s m args below meth c D (wN ad cI cZ) A 4 (MQ below (XPI D (tyz cI cZ) (wN ad cI cZ) A (fun r P' T' => r = nI (rl P x (nt P)).length ∧ P' = P ∧ (∀ j, j ≠ 18 → j ≠ 28 → T' j = T j) ∧ rdg T' (L ++ rl P x (nt P)))) args s 0 0 A) 4 [(0, .ref (ad 0)), (1, .int (nI x)), (2, .int (nI n)), (3, .int (nI i))] [] P Tq := by
    intro f1
    induction f1 with
    | zero => intro i n Tq hi hT hG hn hm; exact absurd hm (Nat.not_lt_zero _)
    | succ f1 ih4 =>
      intro i n Tq hi hT hG hn hm4
      refine x_iload_n (q := 5) C dX8_gather_4 rfl 3 rfl rfl ?_
      refine x_aload_n (q := 6) C dX8_gather_5 rfl 0 rfl rfl ?_
      refine xg_X8_trials (q := 9) C tfl_X8_62 dX8_gather_6 rfl ?_
      refine x_topn (nt P) (okc_nt (P := P) okc) ?_
      refine x_icmp_ge_n (q := 12) (tgt := 62) C dX8_gather_9 (by omega) (by omega) (by decide) rfl (fun c9 => ?_) (fun c9 => ?_)
      · have hr8 := rl_8 P x i
        refine x_iload_n (q := 63) C dX8_gather_62 rfl 2 rfl rfl ?_
        exact x_iret C dX8_gather_63 (by first | (rw [show nt P = i by omega]; exact ⟨by rw [hn], rfl, hT, hG⟩) | (rw [rl_end (n := i) (by omega) hi]; exact ⟨by rw [hn], rfl, hT, hG⟩))
      · have hr8 := rl_8 P x i
        have hLl : (L ++ rl P x i).length = L.length + (rl P x i).length := List.length_append
        have htx := okc_txS okc (i := i) (by omega)
        refine x_iload_n (q := 13) C dX8_gather_12 rfl 2 rfl rfl ?_
        refine x_bipush (q := 15) (v := nI 8) C dX8_gather_13 (by decide) rfl ?_
        refine x_icmp_ge_n (q := 18) (tgt := 62) C dX8_gather_15 (by omega) (by omega) (by decide) rfl (fun c15 => ?_) (fun c15 => ?_)
        · refine x_iload_n (q := 63) C dX8_gather_62 rfl 2 rfl rfl ?_
          exact x_iret C dX8_gather_63 (by first | (rw [show nt P = i by omega]; exact ⟨by rw [hn], rfl, hT, hG⟩) | (rw [rl_end (n := i) (by omega) hi]; exact ⟨by rw [hn], rfl, hT, hG⟩))
        · refine x_aload_n (q := 19) C dX8_gather_18 rfl 0 rfl rfl ?_
          refine xg_X8_tried (q := 22) C tfl_X8_35 dX8_gather_19 rfl ?_
          refine x_iload_n (q := 23) C dX8_gather_22 rfl 3 rfl rfl ?_
          refine xa_N7 (q := 24) C (by omega) dX8_gather_23 rfl ?_
          refine x_topn (tx P i) (okc_tx (P := P) okc (by omega)) ?_
          refine x_iload_n (q := 25) C dX8_gather_24 rfl 1 rfl rfl ?_
          refine x_icmp_ne_n (q := 28) (tgt := 56) C dX8_gather_25 (by omega) (by omega) (by decide) rfl (fun c25 => ?_) (fun c25 => ?_)
          · refine x_iinc (q := 59) (v := nI (i + 1)) (lv' := [(0, .ref (ad 0)), (1, .int (nI x)), (2, .int (nI n)), (3, .int (nI (i + 1)))]) C dX8_gather_56 3 rfl (nI_add i 1) (by decide) rfl rfl rfl ?_
            refine x_goto (tgt := 4) C dX8_gather_59 (by decide) ?_
            exact ih4 (i + 1) _ _ (by omega) hT (by rw [rl_n c25]; exact hG) (by rw [rl_n c25]; exact hn) (by omega)
          · refine x_aload_n (q := 29) C dX8_gather_28 rfl 0 rfl rfl ?_
            refine xg_X8_readings (q := 32) C tfl_X8_41 dX8_gather_29 rfl ?_
            refine x_aload_n (q := 33) C dX8_gather_32 rfl 0 rfl rfl ?_
            refine xg_X8_all (q := 36) C tfl_X8_164 dX8_gather_33 rfl ?_
            refine x_topn ((L ++ rl P x i).length) hG.1 ?_
            refine x_aload_n (q := 37) C dX8_gather_36 rfl 0 rfl rfl ?_
            refine xg_X8_reads (q := 40) C tfl_X8_38 dX8_gather_37 rfl ?_
            refine x_iload_n (q := 41) C dX8_gather_40 rfl 3 rfl rfl ?_
            refine xa_N8 (q := 42) C (by omega) dX8_gather_41 rfl ?_
            refine xs_N9 (q := 43) C (by omega) dX8_gather_42 rfl ?_
            refine x_aload_n (q := 44) C dX8_gather_43 rfl 0 rfl rfl ?_
            refine x_dup (q := 45) C dX8_gather_44 rfl rfl ?_
            refine xg_X8_all (q := 48) C tfl_X8_164 dX8_gather_45 rfl ?_
            refine x_topn ((L ++ rl P x i).length) hG.1 ?_
            refine x_iconst (q := 49) (v := nI 1) C dX8_gather_48 (by decide) rfl ?_
            refine x_iadd_n (q := 50) C dX8_gather_49 rfl ?_
            refine xp_X8_all (q := 53) C tfl_X8_164 dX8_gather_50 rfl ?_
            refine x_iinc (q := 56) (v := nI (n + 1)) (lv' := [(0, .ref (ad 0)), (1, .int (nI x)), (2, .int (nI (n + 1))), (3, .int (nI i))]) C dX8_gather_53 2 rfl (nI_add n 1) (by decide) rfl rfl rfl ?_
            refine x_iinc (q := 59) (v := nI (i + 1)) (lv' := [(0, .ref (ad 0)), (1, .int (nI x)), (2, .int (nI (n + 1))), (3, .int (nI (i + 1)))]) C dX8_gather_56 3 rfl (nI_add i 1) (by decide) rfl rfl rfl ?_
            refine x_goto (tgt := 4) C dX8_gather_59 (by decide) ?_
            exact ih4 (i + 1) _ _ (by omega) (fun j h1 h2 => by rw [st1_ne h2, st1_ne h1]; exact hT j h1 h2) (by rw [rl_y c25 (by omega), ← List.append_assoc]; exact rdg_push hG) (by rw [rl_y c25 (by omega), List.length_append]; simp only [List.length_singleton]; omega) (by omega)
  exact L4 _ 0 0 _ (Nat.zero_le _) (fun _ _ _ => rfl) (by rw [rl, List.append_nil]; exact hL) rfl (Nat.lt_succ_self _)

set_option maxRecDepth 100000 in
set_option maxHeartbeats 4000000 in
theorem c_X8_rank (hD : ∀ P T, va_D A (wN ad cI cZ P T)) {P T : St} (L : List Int32) (hL : rdg T L) (h16 : L.length ≤ 16) (i : Nat) (hi : i < L.length) : XMI l D (tyz cI cZ) (wN ad cI cZ) A yX8_rank cX8_rank 4 (some .int) rmX8_rank [.ref (ad 0), .int (nI i)] P T (fun r P' T' => r = nI (rk L i) ∧ P' = P ∧ T' = T) := by
  refine x_start_i (lv := [(0, .ref (ad 0)), (1, .int (nI i))]) (own := RX8) (by decide) rfl hD (Nat.le_of_ble_eq_true rfl) rfl ?_
  intro p e s m args below meth c C
  refine x_iconst (q := 1) (v := nI 0) C dX8_rank_0 (by decide) rfl ?_
  refine x_istore_n (q := 2) (lv' := [(0, .ref (ad 0)), (1, .int (nI i)), (2, .int (nI 0))]) C dX8_rank_1 rfl (by decide) rfl rfl rfl ?_
  refine x_iconst (q := 3) (v := nI 0) C dX8_rank_2 (by decide) rfl ?_
  refine x_istore_n (q := 4) (lv' := [(0, .ref (ad 0)), (1, .int (nI i)), (2, .int (nI 0)), (3, .int (nI 0))]) C dX8_rank_3 rfl (by decide) rfl rfl rfl ?_
  have L4 : ∀ (f1 : Nat) (j : Nat) (n : Nat), (j ≤ L.length) → (n = fb_sm (rkt L i) j) → L.length - j < f1 → XW p l e rmX8_rank s m args below meth c D (wN ad cI cZ) A 4 (MQ below (XPI D (tyz cI cZ) (wN ad cI cZ) A (fun r P' T' => r = nI (rk L i) ∧ P' = P ∧ T' = T)) args s 0 0 A) 4 [(0, .ref (ad 0)), (1, .int (nI i)), (2, .int (nI n)), (3, .int (nI j))] [] P T := by
    intro f1
    induction f1 with
    | zero => intro j n hj hn hm; exact absurd hm (Nat.not_lt_zero _)
    | succ f1 ih4 =>
      intro j n hj hn hm4
      refine x_iload_n (q := 5) C dX8_rank_4 rfl 3 rfl rfl ?_
      refine x_aload_n (q := 6) C dX8_rank_5 rfl 0 rfl rfl ?_
      refine xg_X8_all (q := 9) C tfl_X8_164 dX8_rank_6 rfl ?_
      refine x_topn (L.length) hL.1 ?_
      refine x_icmp_ge_n (q := 12) (tgt := 65) C dX8_rank_9 (by omega) (by omega) (by decide) rfl (fun c9 => ?_) (fun c9 => ?_)
      · refine x_iload_n (q := 66) C dX8_rank_65 rfl 2 rfl rfl ?_
        exact x_iret C dX8_rank_66 ⟨by rw [hn, show j = L.length by omega]; rfl, rfl, rfl⟩
      · refine x_iload_n (q := 13) C dX8_rank_12 rfl 2 rfl rfl ?_
        refine x_aload_n (q := 14) C dX8_rank_13 rfl 0 rfl rfl ?_
        refine xg_X8_readings (q := 17) C tfl_X8_41 dX8_rank_14 rfl ?_
        refine x_iload_n (q := 18) C dX8_rank_17 rfl 3 rfl rfl ?_
        refine xa_N9 (q := 19) C (by omega) dX8_rank_18 rfl ?_
        refine x_tope (L.getD j 0) (hL.2 j (by omega)) ?_
        refine x_aload_n (q := 20) C dX8_rank_19 rfl 0 rfl rfl ?_
        refine xg_X8_readings (q := 23) C tfl_X8_41 dX8_rank_20 rfl ?_
        refine x_iload_n (q := 24) C dX8_rank_23 rfl 1 rfl rfl ?_
        refine xa_N9 (q := 25) C (by omega) dX8_rank_24 rfl ?_
        refine x_tope (L.getD i 0) (hL.2 i (by omega)) ?_
        refine x_icmp_ge (q := 28) (tgt := 32) C dX8_rank_25 (by decide) rfl (fun c25 => ?_) (fun c25 => ?_)
        · refine x_iload_n (q := 33) C dX8_rank_32 rfl 3 rfl rfl ?_
          refine x_iload_n (q := 34) C dX8_rank_33 rfl 1 rfl rfl ?_
          refine x_icmp_eq_n (q := 37) (tgt := 56) C dX8_rank_34 (by omega) (by omega) (by decide) rfl (fun c34 => ?_) (fun c34 => ?_)
          · have hrk := rkt_c c25 c34
            refine x_iconst (q := 57) (v := nI 0) C dX8_rank_56 (by decide) rfl ?_
            refine x_iadd_n (q := 58) C dX8_rank_57 rfl ?_
            refine x_namen (fun n2 hn2 => ?_)
            refine x_istore_n (q := 59) (lv' := [(0, .ref (ad 0)), (1, .int (nI i)), (2, .int (nI n2)), (3, .int (nI j))]) C dX8_rank_58 rfl (by decide) rfl rfl rfl ?_
            refine x_iinc (q := 62) (v := nI (j + 1)) (lv' := [(0, .ref (ad 0)), (1, .int (nI i)), (2, .int (nI n2)), (3, .int (nI (j + 1)))]) C dX8_rank_59 3 rfl (nI_add j 1) (by decide) rfl rfl rfl ?_
            refine x_goto (tgt := 4) C dX8_rank_62 (by decide) ?_
            exact ih4 (j + 1) n2 (by omega) (by rw [hn2, hn, fb_sm, hrk]) (by omega)
          · refine x_aload_n (q := 38) C dX8_rank_37 rfl 0 rfl rfl ?_
            refine xg_X8_readings (q := 41) C tfl_X8_41 dX8_rank_38 rfl ?_
            refine x_iload_n (q := 42) C dX8_rank_41 rfl 3 rfl rfl ?_
            refine xa_N9 (q := 43) C (by omega) dX8_rank_42 rfl ?_
            refine x_tope (L.getD j 0) (hL.2 j (by omega)) ?_
            refine x_aload_n (q := 44) C dX8_rank_43 rfl 0 rfl rfl ?_
            refine xg_X8_readings (q := 47) C tfl_X8_41 dX8_rank_44 rfl ?_
            refine x_iload_n (q := 48) C dX8_rank_47 rfl 1 rfl rfl ?_
            refine xa_N9 (q := 49) C (by omega) dX8_rank_48 rfl ?_
            refine x_tope (L.getD i 0) (hL.2 i (by omega)) ?_
            refine x_icmp_ne (q := 52) (tgt := 56) C dX8_rank_49 (by decide) rfl (fun c49 => ?_) (fun c49 => ?_)
            · have hrk := rkt_d c25 c49
              refine x_iconst (q := 57) (v := nI 0) C dX8_rank_56 (by decide) rfl ?_
              refine x_iadd_n (q := 58) C dX8_rank_57 rfl ?_
              refine x_namen (fun n3 hn3 => ?_)
              refine x_istore_n (q := 59) (lv' := [(0, .ref (ad 0)), (1, .int (nI i)), (2, .int (nI n3)), (3, .int (nI j))]) C dX8_rank_58 rfl (by decide) rfl rfl rfl ?_
              refine x_iinc (q := 62) (v := nI (j + 1)) (lv' := [(0, .ref (ad 0)), (1, .int (nI i)), (2, .int (nI n3)), (3, .int (nI (j + 1)))]) C dX8_rank_59 3 rfl (nI_add j 1) (by decide) rfl rfl rfl ?_
              refine x_goto (tgt := 4) C dX8_rank_62 (by decide) ?_
              exact ih4 (j + 1) n3 (by omega) (by rw [hn3, hn, fb_sm, hrk]) (by omega)
            · have hrk := rkt_b c25 c34 c49
              refine x_iconst (q := 53) (v := nI 1) C dX8_rank_52 (by decide) rfl ?_
              refine x_goto (tgt := 57) C dX8_rank_53 (by decide) ?_
              refine x_iadd_n (q := 58) C dX8_rank_57 rfl ?_
              refine x_namen (fun n4 hn4 => ?_)
              refine x_istore_n (q := 59) (lv' := [(0, .ref (ad 0)), (1, .int (nI i)), (2, .int (nI n4)), (3, .int (nI j))]) C dX8_rank_58 rfl (by decide) rfl rfl rfl ?_
              refine x_iinc (q := 62) (v := nI (j + 1)) (lv' := [(0, .ref (ad 0)), (1, .int (nI i)), (2, .int (nI n4)), (3, .int (nI (j + 1)))]) C dX8_rank_59 3 rfl (nI_add j 1) (by decide) rfl rfl rfl ?_
              refine x_goto (tgt := 4) C dX8_rank_62 (by decide) ?_
              exact ih4 (j + 1) n4 (by omega) (by rw [hn4, hn, fb_sm, hrk]) (by omega)
        · have hrk := rkt_a (fa_of_nle c25)
          refine x_iconst (q := 29) (v := nI 2) C dX8_rank_28 (by decide) rfl ?_
          refine x_goto (tgt := 57) C dX8_rank_29 (by decide) ?_
          refine x_iadd_n (q := 58) C dX8_rank_57 rfl ?_
          refine x_namen (fun n5 hn5 => ?_)
          refine x_istore_n (q := 59) (lv' := [(0, .ref (ad 0)), (1, .int (nI i)), (2, .int (nI n5)), (3, .int (nI j))]) C dX8_rank_58 rfl (by decide) rfl rfl rfl ?_
          refine x_iinc (q := 62) (v := nI (j + 1)) (lv' := [(0, .ref (ad 0)), (1, .int (nI i)), (2, .int (nI n5)), (3, .int (nI (j + 1)))]) C dX8_rank_59 3 rfl (nI_add j 1) (by decide) rfl rfl rfl ?_
          refine x_goto (tgt := 4) C dX8_rank_62 (by decide) ?_
          exact ih4 (j + 1) n5 (by omega) (by rw [hn5, hn, fb_sm, hrk]) (by omega)
  exact L4 _ 0 0 (Nat.zero_le _) rfl (Nat.lt_succ_self _)

set_option maxRecDepth 100000 in
set_option maxHeartbeats 4000000 in
theorem c_X8_chances (hD : ∀ P T, va_D A (wN ad cI cZ P T)) {P T : St} (ok : okN P) (x1 y1 : Int32) : XMI l D (tyz cI cZ) (wN ad cI cZ) A yX8_chances cX8_chances 10 (some .int) rmX8_chances [.ref (ad 0), .int x1, .int y1] P T (fun r P' T' => P' = P ∧ (cTw P x1 y1 → (cTr P (cl x1) (cl y1) → r = nI 0 ∧ T' 29 0 = cwN P (cl x1) (cl y1) ∧ T' 30 0 = awN P (cl x1) (cl y1)) ∧ (¬ cTr P (cl x1) (cl y1) → r = -2)) ∧ (¬ cTw P x1 y1 → r = -1)) := by
  have okc := okN_c ok
  have hk6 := okc_kn6 okc
  have hS144 := okc_S144 okc
  have hS1 := okc_S1 okc
  have hnr := okc_nr12 okc
  have hnt := okc_nt60 okc
  have hnz := okc_nz50 okc
  have hsd := okc_sdb okc
  have okk := okC_K okc
  refine x_start_i (lv := [(0, .ref (ad 0)), (1, .int x1), (2, .int y1)]) (own := RX8) (by decide) rfl hD (Nat.le_of_ble_eq_true rfl) rfl ?_
  intro p e s m args below meth c C
  refine x_aload_n (q := 1) C dX8_chances_0 rfl 0 rfl rfl ?_
  refine x_iload_n (q := 2) C dX8_chances_1 rfl 1 rfl rfl ?_
  refine x_Vf (q := 5) (As := [.int x1]) (rest := []) C (c_X8_isSetting hD ok x1 ) xs_X8_isSetting tim_X8_isSetting tsel_X8_isSetting tml_X8_98 (by decide) 0 rfl (ci := 8) rfl rfl rfl (Nat.le_of_ble_eq_true rfl) dX8_chances_2 rfl ?_
  refine x_if_eq_b (q := 8) (tgt := 21) C dX8_chances_5 (by decide) rfl (fun c5 => ?_) (fun c5 => ?_)
  · refine x_iconst (q := 22) (v := (-1)) C dX8_chances_21 (by decide) rfl ?_
    exact x_iret C dX8_chances_22 ⟨rfl, fun h => by first | exact absurd h.1 c5 | exact absurd h.2.1 c13 | exact absurd c18 h.2.2, fun _ => rfl⟩
  · have hS5 := c5
    obtain ⟨x, hx, rfl⟩ := isS_nat okc c5
    refine x_aload_n (q := 9) C dX8_chances_8 rfl 0 rfl rfl ?_
    refine x_iload_n (q := 10) C dX8_chances_9 rfl 2 rfl rfl ?_
    refine x_Vf (q := 13) (As := [.int y1]) (rest := []) C (c_X8_isSetting hD ok y1 ) xs_X8_isSetting tim_X8_isSetting tsel_X8_isSetting tml_X8_98 (by decide) 0 rfl (ci := 8) rfl rfl rfl (Nat.le_of_ble_eq_true rfl) dX8_chances_10 rfl ?_
    refine x_if_eq_b (q := 16) (tgt := 21) C dX8_chances_13 (by decide) rfl (fun c13 => ?_) (fun c13 => ?_)
    · refine x_iconst (q := 22) (v := (-1)) C dX8_chances_21 (by decide) rfl ?_
      exact x_iret C dX8_chances_22 ⟨rfl, fun h => by first | exact absurd h.1 c5 | exact absurd h.2.1 c13 | exact absurd c18 h.2.2, fun _ => rfl⟩
    · have hS13 := c13
      obtain ⟨y, hy, rfl⟩ := isS_nat okc c13
      refine x_iload_n (q := 17) C dX8_chances_16 rfl 1 rfl rfl ?_
      refine x_iload_n (q := 18) C dX8_chances_17 rfl 2 rfl rfl ?_
      refine x_icmp_ne_n (q := 21) (tgt := 23) C dX8_chances_18 (by omega) (by omega) (by decide) rfl (fun c18 => ?_) (fun c18 => ?_)
      · have c18z : ¬ nI x = nI y := fun h => c18 ((nI_eq (by omega) (by omega)).mp h)
        have hTw : cTw P (nI x) (nI y) := ⟨hS5, hS13, c18z⟩
        refine x_aload_n (q := 24) C dX8_chances_23 rfl 0 rfl rfl ?_
        refine x_iconst (q := 25) (v := nI 0) C dX8_chances_24 (by decide) rfl ?_
        refine xp_X8_all (q := 28) C tfl_X8_164 dX8_chances_25 rfl ?_
        refine x_aload_n (q := 29) C dX8_chances_28 rfl 0 rfl rfl ?_
        refine x_iload_n (q := 30) C dX8_chances_29 rfl 2 rfl rfl ?_
        refine x_Vi (q := 33) (As := [.int (nI y)]) (rest := []) C (c_X8_gather hD ok y (by omega) [] ⟨st1_at, fun i hi => absurd hi (Nat.not_lt_zero i)⟩ (Nat.zero_le _)) xs_X8_gather tim_X8_gather tsel_X8_gather tml_X8_167 (by decide) 0 rfl (ci := 8) rfl rfl rfl (Nat.le_of_ble_eq_true rfl) dX8_chances_30 rfl (fun rz Pz T30 hg => ?_)
        obtain ⟨hrz, hPz, hT30, hG30⟩ := hg
        rw [hrz, hPz]; clear hrz hPz Pz rz
        refine x_istore_n (q := 34) (lv' := [(0, .ref (ad 0)), (1, .int (nI x)), (2, .int (nI y)), (3, .int (nI ((rl P y (nt P)).length)))]) C dX8_chances_33 rfl (by decide) rfl rfl rfl ?_
        rw [List.nil_append] at hG30
        refine x_aload_n (q := 35) C dX8_chances_34 rfl 0 rfl rfl ?_
        refine x_iload_n (q := 36) C dX8_chances_35 rfl 1 rfl rfl ?_
        refine x_Vi (q := 39) (As := [.int (nI x)]) (rest := []) C (c_X8_gather hD ok x (by omega) _ hG30 (rl_8 P y (nt P))) xs_X8_gather tim_X8_gather tsel_X8_gather tml_X8_167 (by decide) 0 rfl (ci := 8) rfl rfl rfl (Nat.le_of_ble_eq_true rfl) dX8_chances_36 rfl (fun rz Pz T36 hg => ?_)
        obtain ⟨hrz, hPz, hT36, hG36⟩ := hg
        rw [hrz, hPz]; clear hrz hPz Pz rz
        refine x_istore (q := 41) (lv' := [(0, .ref (ad 0)), (1, .int (nI x)), (2, .int (nI y)), (3, .int (nI ((rl P y (nt P)).length))), (4, .int (nI ((rl P x (nt P)).length)))]) C dX8_chances_39 (by decide) rfl rfl rfl ?_
        replace hG36 : rdg T36 (rdn P x y) := hG36
        have hx8 := rl_8 P x (nt P)
        have hy8 := rl_8 P y (nt P)
        have hll := rdn_len P x y
        have hl16 : (rdn P x y).length ≤ 16 := by omega
        refine x_iload_n (q := 42) C dX8_chances_41 rfl 3 rfl rfl ?_
        refine x_if_eq_n (q := 45) (tgt := 50) C dX8_chances_42 (by omega) (by decide) rfl (fun c42 => ?_) (fun c42 => ?_)
        · refine x_bipush (q := 52) (v := (-2)) C dX8_chances_50 (by decide) rfl ?_
          exact x_iret C dX8_chances_52 ⟨rfl, fun _ => ⟨fun h => by rw [cl_nI (by omega), cl_nI (by omega)] at h; first | exact absurd h.2 (rl_fi.mp c42) | exact absurd h.1 (rl_fi.mp c47), fun _ => rfl⟩, fun h => absurd hTw h⟩
        · refine x_iload (q := 47) C dX8_chances_45 4 rfl rfl ?_
          refine x_if_ne_n (q := 50) (tgt := 53) C dX8_chances_47 (by omega) (by decide) rfl (fun c47 => ?_) (fun c47 => ?_)
          · refine x_iconst (q := 54) (v := nI 0) C dX8_chances_53 (by decide) rfl ?_
            refine x_istore (q := 56) (lv' := [(0, .ref (ad 0)), (1, .int (nI x)), (2, .int (nI y)), (3, .int (nI ((rl P y (nt P)).length))), (4, .int (nI ((rl P x (nt P)).length))), (5, .int (nI 0))]) C dX8_chances_54 (by decide) rfl rfl rfl ?_
            refine x_iconst (q := 57) (v := nI 0) C dX8_chances_56 (by decide) rfl ?_
            refine x_istore (q := 59) (lv' := [(0, .ref (ad 0)), (1, .int (nI x)), (2, .int (nI y)), (3, .int (nI ((rl P y (nt P)).length))), (4, .int (nI ((rl P x (nt P)).length))), (5, .int (nI 0)), (6, .int (nI 0))]) C dX8_chances_57 (by decide) rfl rfl rfl ?_
            have L59 : ∀ (f9 : Nat) (j : Nat) (d : Nat), (j ≤ (rl P y (nt P)).length) → (d = fb_sm (rk (rdn P x y)) j) → (rl P y (nt P)).length - j < f9 → XW p l e rmX8_chances s m args below meth c D (wN ad cI cZ) A 10 (MQ below (XPI D (tyz cI cZ) (wN ad cI cZ) A (fun r P' T' => P' = P ∧ (cTw P (nI x) (nI y) → (cTr P (cl (nI x)) (cl (nI y)) → r = nI 0 ∧ T' 29 0 = cwN P (cl (nI x)) (cl (nI y)) ∧ T' 30 0 = awN P (cl (nI x)) (cl (nI y))) ∧ (¬ cTr P (cl (nI x)) (cl (nI y)) → r = -2)) ∧ (¬ cTw P (nI x) (nI y) → r = -1))) args s 0 0 A) 59 [(0, .ref (ad 0)), (1, .int (nI x)), (2, .int (nI y)), (3, .int (nI ((rl P y (nt P)).length))), (4, .int (nI ((rl P x (nt P)).length))), (5, .int (nI d)), (6, .int (nI j))] [] P T36 := by
              intro f9
              induction f9 with
              | zero => intro j d hj hd hm; exact absurd hm (Nat.not_lt_zero _)
              | succ f9 ih59 =>
                intro j d hj hd hm59
                refine x_iload (q := 61) C dX8_chances_59 6 rfl rfl ?_
                refine x_iload_n (q := 62) C dX8_chances_61 rfl 3 rfl rfl ?_
                refine x_icmp_ge_n (q := 65) (tgt := 82) C dX8_chances_62 (by omega) (by omega) (by decide) rfl (fun c62 => ?_) (fun c62 => ?_)
                · obtain rfl : d = leN P x y := by rw [hd, show j = (rl P y (nt P)).length by omega]; rfl
                  have hle := le_240 P x y
                  refine x_iconst (q := 83) (v := nI 0) C dX8_chances_82 (by decide) rfl ?_
                  refine x_istore (q := 85) (lv' := [(0, .ref (ad 0)), (1, .int (nI x)), (2, .int (nI y)), (3, .int (nI ((rl P y (nt P)).length))), (4, .int (nI ((rl P x (nt P)).length))), (5, .int (nI (leN P x y))), (6, .int (nI 0))]) C dX8_chances_83 (by decide) rfl rfl rfl ?_
                  have L85 : ∀ (f10 : Nat) (k : Nat) (Tq : St), (k ≤ 2304) → (∀ j, j ≠ 19 → Tq j = T36 j) → (∀ j, j < k → Tq 19 j = nI 0) → 2304 - k < f10 → XW p l e rmX8_chances s m args below meth c D (wN ad cI cZ) A 10 (MQ below (XPI D (tyz cI cZ) (wN ad cI cZ) A (fun r P' T' => P' = P ∧ (cTw P (nI x) (nI y) → (cTr P (cl (nI x)) (cl (nI y)) → r = nI 0 ∧ T' 29 0 = cwN P (cl (nI x)) (cl (nI y)) ∧ T' 30 0 = awN P (cl (nI x)) (cl (nI y))) ∧ (¬ cTr P (cl (nI x)) (cl (nI y)) → r = -2)) ∧ (¬ cTw P (nI x) (nI y) → r = -1))) args s 0 0 A) 85 [(0, .ref (ad 0)), (1, .int (nI x)), (2, .int (nI y)), (3, .int (nI ((rl P y (nt P)).length))), (4, .int (nI ((rl P x (nt P)).length))), (5, .int (nI (leN P x y))), (6, .int (nI k))] [] P Tq := by
                    intro f10
                    induction f10 with
                    | zero => intro k Tq hk hT2 hF hm; exact absurd hm (Nat.not_lt_zero _)
                    | succ f10 ih85 =>
                      intro k Tq hk hT2 hF hm85
                      refine x_iload (q := 87) C dX8_chances_85 6 rfl rfl ?_
                      refine x_sipush (q := 90) (v := nI 2304) C dX8_chances_87 (by decide) rfl ?_
                      refine x_icmp_ge_n (q := 93) (tgt := 107) C dX8_chances_90 (by omega) (by omega) (by decide) rfl (fun c90 => ?_) (fun c90 => ?_)
                      · refine x_aload_n (q := 108) C dX8_chances_107 rfl 0 rfl rfl ?_
                        refine xg_X8_ways (q := 111) C tfl_X8_44 dX8_chances_108 rfl ?_
                        refine x_iconst (q := 112) (v := nI 0) C dX8_chances_111 (by decide) rfl ?_
                        refine x_iconst (q := 113) (v := nI 1) C dX8_chances_112 (by decide) rfl ?_
                        refine xs_N10 (q := 114) C (by omega) dX8_chances_113 rfl ?_
                        refine x_iconst (q := 115) (v := nI 0) C dX8_chances_114 (by decide) rfl ?_
                        refine x_istore (q := 117) (lv' := [(0, .ref (ad 0)), (1, .int (nI x)), (2, .int (nI y)), (3, .int (nI ((rl P y (nt P)).length))), (4, .int (nI ((rl P x (nt P)).length))), (5, .int (nI (leN P x y))), (6, .int (nI 0))]) C dX8_chances_115 (by decide) rfl rfl rfl ?_
                        have L117 : ∀ (f11 : Nat) (i : Nat) (Tr : St), (i ≤ (rdn P x y).length) → (∀ j, j ≠ 19 → Tr j = T36 j) → (∀ n k, n ≤ (rl P y (nt P)).length → k < 256 → Tr 19 (256 * n + k) = dpf (rk (rdn P x y)) i n k) → (rdn P x y).length - i < f11 → XW p l e rmX8_chances s m args below meth c D (wN ad cI cZ) A 10 (MQ below (XPI D (tyz cI cZ) (wN ad cI cZ) A (fun r P' T' => P' = P ∧ (cTw P (nI x) (nI y) → (cTr P (cl (nI x)) (cl (nI y)) → r = nI 0 ∧ T' 29 0 = cwN P (cl (nI x)) (cl (nI y)) ∧ T' 30 0 = awN P (cl (nI x)) (cl (nI y))) ∧ (¬ cTr P (cl (nI x)) (cl (nI y)) → r = -2)) ∧ (¬ cTw P (nI x) (nI y) → r = -1))) args s 0 0 A) 117 [(0, .ref (ad 0)), (1, .int (nI x)), (2, .int (nI y)), (3, .int (nI ((rl P y (nt P)).length))), (4, .int (nI ((rl P x (nt P)).length))), (5, .int (nI (leN P x y))), (6, .int (nI i))] [] P Tr := by
                          intro f11
                          induction f11 with
                          | zero => intro i Tr hi hT3 hw hm; exact absurd hm (Nat.not_lt_zero _)
                          | succ f11 ih117 =>
                            intro i Tr hi hT3 hw hm117
                            refine x_iload (q := 119) C dX8_chances_117 6 rfl rfl ?_
                            refine x_aload_n (q := 120) C dX8_chances_119 rfl 0 rfl rfl ?_
                            refine xg_X8_all (q := 123) C tfl_X8_164 dX8_chances_120 rfl ?_
                            refine x_topn ((rdn P x y).length) (by rw [hT3 28 (by decide)]; exact hG36.1) ?_
                            refine x_icmp_ge_n (q := 126) (tgt := 222) C dX8_chances_123 (by omega) (by omega) (by decide) rfl (fun c123 => ?_) (fun c123 => ?_)
                            · have hDD : ∀ z, z < 256 → Tr 19 (256 * (rl P y (nt P)).length + z) = DN P x y z := fun z hz => by rw [hw _ z (Nat.le_refl _) hz, show i = (rdn P x y).length by omega]; rfl
                              refine x_aload_n (q := 223) C dX8_chances_222 rfl 0 rfl rfl ?_
                              refine x_iconst (q := 224) (v := nI 0) C dX8_chances_223 (by decide) rfl ?_
                              refine xp_X8_counted (q := 227) C tfl_X8_173 dX8_chances_224 rfl ?_
                              refine x_aload_n (q := 228) C dX8_chances_227 rfl 0 rfl rfl ?_
                              refine x_iconst (q := 229) (v := nI 0) C dX8_chances_228 (by decide) rfl ?_
                              refine xp_X8_possible (q := 232) C tfl_X8_176 dX8_chances_229 rfl ?_
                              refine x_iconst (q := 233) (v := nI 0) C dX8_chances_232 (by decide) rfl ?_
                              refine x_istore (q := 235) (lv' := [(0, .ref (ad 0)), (1, .int (nI x)), (2, .int (nI y)), (3, .int (nI ((rl P y (nt P)).length))), (4, .int (nI ((rl P x (nt P)).length))), (5, .int (nI (leN P x y))), (6, .int (nI 0))]) C dX8_chances_233 (by decide) rfl rfl rfl ?_
                              have L235 : ∀ (f12 : Nat) (z : Nat) (Tu : St), (z ≤ 256) → (Tu 19 = Tr 19) → (Tu 30 0 = sm (DN P x y) z) → (Tu 29 0 = sm (fun s => if leN P x y ≤ s then DN P x y s else 0) z) → 256 - z < f12 → XW p l e rmX8_chances s m args below meth c D (wN ad cI cZ) A 10 (MQ below (XPI D (tyz cI cZ) (wN ad cI cZ) A (fun r P' T' => P' = P ∧ (cTw P (nI x) (nI y) → (cTr P (cl (nI x)) (cl (nI y)) → r = nI 0 ∧ T' 29 0 = cwN P (cl (nI x)) (cl (nI y)) ∧ T' 30 0 = awN P (cl (nI x)) (cl (nI y))) ∧ (¬ cTr P (cl (nI x)) (cl (nI y)) → r = -2)) ∧ (¬ cTw P (nI x) (nI y) → r = -1))) args s 0 0 A) 235 [(0, .ref (ad 0)), (1, .int (nI x)), (2, .int (nI y)), (3, .int (nI ((rl P y (nt P)).length))), (4, .int (nI ((rl P x (nt P)).length))), (5, .int (nI (leN P x y))), (6, .int (nI z))] [] P Tu := by
                                intro f12
                                induction f12 with
                                | zero => intro z Tu hz hT6 hp hc hm; exact absurd hm (Nat.not_lt_zero _)
                                | succ f12 ih235 =>
                                  intro z Tu hz hT6 hp hc hm235
                                  refine x_iload (q := 237) C dX8_chances_235 6 rfl rfl ?_
                                  refine x_sipush (q := 240) (v := nI 256) C dX8_chances_237 (by decide) rfl ?_
                                  refine x_icmp_ge_n (q := 243) (tgt := 304) C dX8_chances_240 (by omega) (by omega) (by decide) rfl (fun c240 => ?_) (fun c240 => ?_)
                                  · refine x_iconst (q := 305) (v := nI 0) C dX8_chances_304 (by decide) rfl ?_
                                    exact x_iret C dX8_chances_305 ⟨rfl, fun _ => ⟨fun _ => by rw [cl_nI (by omega), cl_nI (by omega)]; exact ⟨rfl, by rw [hc, show z = 256 by omega]; rfl, by rw [hp, show z = 256 by omega]; rfl⟩, fun h => absurd (by rw [cl_nI (by omega), cl_nI (by omega)]; exact ⟨Decidable.byContradiction (fun q => c47 (rl_fi.mpr q)), Decidable.byContradiction (fun q => c42 (rl_fi.mpr q))⟩) h⟩, fun h => absurd hTw h⟩
                                  · refine x_aload_n (q := 244) C dX8_chances_243 rfl 0 rfl rfl ?_
                                    refine x_dup (q := 245) C dX8_chances_244 rfl rfl ?_
                                    refine xg_X8_possible (q := 248) C tfl_X8_176 dX8_chances_245 rfl ?_
                                    refine x_aload_n (q := 249) C dX8_chances_248 rfl 0 rfl rfl ?_
                                    refine xg_X8_ways (q := 252) C tfl_X8_44 dX8_chances_249 rfl ?_
                                    refine x_sipush (q := 255) (v := nI 256) C dX8_chances_252 (by decide) rfl ?_
                                    refine x_iload_n (q := 256) C dX8_chances_255 rfl 3 rfl rfl ?_
                                    refine x_imul_n (q := 257) C dX8_chances_256 rfl ?_
                                    refine x_iload (q := 259) C dX8_chances_257 6 rfl rfl ?_
                                    refine x_iadd_n (q := 260) C dX8_chances_259 rfl ?_
                                    refine xa_N10 (q := 261) C (by omega) dX8_chances_260 rfl ?_
                                    refine x_iadd (q := 262) C dX8_chances_261 rfl ?_
                                    refine xp_X8_possible (q := 265) C tfl_X8_176 dX8_chances_262 rfl ?_
                                    refine x_aload_n (q := 266) C dX8_chances_265 rfl 0 rfl rfl ?_
                                    refine x_dup (q := 267) C dX8_chances_266 rfl rfl ?_
                                    refine xg_X8_counted (q := 270) C tfl_X8_173 dX8_chances_267 rfl ?_
                                    refine x_iload (q := 272) C dX8_chances_270 6 rfl rfl ?_
                                    refine x_iload (q := 274) C dX8_chances_272 5 rfl rfl ?_
                                    refine x_icmp_lt_n (q := 277) (tgt := 293) C dX8_chances_274 (by omega) (by omega) (by decide) rfl (fun c274 => ?_) (fun c274 => ?_)
                                    · have hlz : ¬ leN P x y ≤ z := by omega
                                      refine x_iconst (q := 294) (v := nI 0) C dX8_chances_293 (by decide) rfl ?_
                                      refine x_iadd (q := 295) C dX8_chances_294 rfl ?_
                                      refine xp_X8_counted (q := 298) C tfl_X8_173 dX8_chances_295 rfl ?_
                                      refine x_iinc (q := 301) (v := nI (z + 1)) (lv' := [(0, .ref (ad 0)), (1, .int (nI x)), (2, .int (nI y)), (3, .int (nI ((rl P y (nt P)).length))), (4, .int (nI ((rl P x (nt P)).length))), (5, .int (nI (leN P x y))), (6, .int (nI (z + 1)))]) C dX8_chances_298 6 rfl (nI_add z 1) (by decide) rfl rfl rfl ?_
                                      refine x_goto (tgt := 235) C dX8_chances_301 (by decide) ?_
                                      exact ih235 (z + 1) _ (by omega) (by rw [st1_ne (by decide), st1_ne (by decide)]; exact hT6) (by rw [st1_ne (by decide), st1_at, sm, hp, hT6, hDD z (by omega)]) (by rw [st1_at, sm, st1_ne (by decide), hc]; rw [if_neg hlz]; rfl) (by omega)
                                    · have hlz : leN P x y ≤ z := by omega
                                      refine x_aload_n (q := 278) C dX8_chances_277 rfl 0 rfl rfl ?_
                                      refine xg_X8_ways (q := 281) C tfl_X8_44 dX8_chances_278 rfl ?_
                                      refine x_sipush (q := 284) (v := nI 256) C dX8_chances_281 (by decide) rfl ?_
                                      refine x_iload_n (q := 285) C dX8_chances_284 rfl 3 rfl rfl ?_
                                      refine x_imul_n (q := 286) C dX8_chances_285 rfl ?_
                                      refine x_iload (q := 288) C dX8_chances_286 6 rfl rfl ?_
                                      refine x_iadd_n (q := 289) C dX8_chances_288 rfl ?_
                                      refine xa_N10 (q := 290) C (by omega) dX8_chances_289 rfl ?_
                                      refine x_goto (tgt := 294) C dX8_chances_290 (by decide) ?_
                                      refine x_iadd (q := 295) C dX8_chances_294 rfl ?_
                                      refine xp_X8_counted (q := 298) C tfl_X8_173 dX8_chances_295 rfl ?_
                                      refine x_iinc (q := 301) (v := nI (z + 1)) (lv' := [(0, .ref (ad 0)), (1, .int (nI x)), (2, .int (nI y)), (3, .int (nI ((rl P y (nt P)).length))), (4, .int (nI ((rl P x (nt P)).length))), (5, .int (nI (leN P x y))), (6, .int (nI (z + 1)))]) C dX8_chances_298 6 rfl (nI_add z 1) (by decide) rfl rfl rfl ?_
                                      refine x_goto (tgt := 235) C dX8_chances_301 (by decide) ?_
                                      exact ih235 (z + 1) _ (by omega) (by rw [st1_ne (by decide), st1_ne (by decide)]; exact hT6) (by rw [st1_ne (by decide), st1_at, sm, hp, hT6, hDD z (by omega)]) (by rw [st1_at, sm, st1_ne (by decide), hc]; rw [if_pos hlz, st1_ne (by decide), hT6, hDD z (by omega)]) (by omega)
                              exact L235 _ 0 _ (Nat.zero_le _) rfl rfl rfl (Nat.lt_succ_self _)
                            · have hr30 := rk_30 hl16 (show i < (rdn P x y).length by omega)
                              refine x_aload_n (q := 127) C dX8_chances_126 rfl 0 rfl rfl ?_
                              refine x_iload (q := 129) C dX8_chances_127 6 rfl rfl ?_
                              refine x_Vf (q := 132) (As := [.int (nI i)]) (rest := []) C (c_X8_rank hD (rdn P x y) (rdg_keep hG36 (hT3 28 (by decide)) (hT3 18 (by decide))) hl16 i (by omega)) xs_X8_rank tim_X8_rank tsel_X8_rank tml_X8_170 (by decide) 0 rfl (ci := 8) rfl rfl rfl (Nat.le_of_ble_eq_true rfl) dX8_chances_129 rfl ?_
                              refine x_istore (q := 134) (lv' := [(0, .ref (ad 0)), (1, .int (nI x)), (2, .int (nI y)), (3, .int (nI ((rl P y (nt P)).length))), (4, .int (nI ((rl P x (nt P)).length))), (5, .int (nI (leN P x y))), (6, .int (nI i)), (7, .int (nI (rk (rdn P x y) i)))]) C dX8_chances_132 (by decide) rfl rfl rfl ?_
                              refine x_iload (q := 136) C dX8_chances_134 6 rfl rfl ?_
                              refine x_iload_n (q := 137) C dX8_chances_136 rfl 3 rfl rfl ?_
                              refine x_icmp_ge_n (q := 140) (tgt := 145) C dX8_chances_137 (by omega) (by omega) (by decide) rfl (fun c137 => ?_) (fun c137 => ?_)
                              · refine x_iload_n (q := 146) C dX8_chances_145 rfl 3 rfl rfl ?_
                                refine x_iconst (q := 147) (v := nI 1) C dX8_chances_146 (by decide) rfl ?_
                                refine x_isub (q := 148) C dX8_chances_147 rfl ?_
                                refine x_istore (q := 150) (lv' := [(0, .ref (ad 0)), (1, .int (nI x)), (2, .int (nI y)), (3, .int (nI ((rl P y (nt P)).length))), (4, .int (nI ((rl P x (nt P)).length))), (5, .int (nI (leN P x y))), (6, .int (nI i)), (7, .int (nI (rk (rdn P x y) i))), (8, .int ((nI ((rl P y (nt P)).length)) - (nI 1)))]) C dX8_chances_148 (by decide) rfl rfl rfl ?_
                                have L150 : ∀ (f13 : Nat) (nn : Nat) (Ts : St), (nn ≤ (rl P y (nt P)).length) → (∀ j, j ≠ 19 → Ts j = T36 j) → (wyd (Ts 19) (rk (rdn P x y)) i (rl P y (nt P)).length nn (256 - rk (rdn P x y) i)) → nn < f13 → XW p l e rmX8_chances s m args below meth c D (wN ad cI cZ) A 10 (MQ below (XPI D (tyz cI cZ) (wN ad cI cZ) A (fun r P' T' => P' = P ∧ (cTw P (nI x) (nI y) → (cTr P (cl (nI x)) (cl (nI y)) → r = nI 0 ∧ T' 29 0 = cwN P (cl (nI x)) (cl (nI y)) ∧ T' 30 0 = awN P (cl (nI x)) (cl (nI y))) ∧ (¬ cTr P (cl (nI x)) (cl (nI y)) → r = -2)) ∧ (¬ cTw P (nI x) (nI y) → r = -1))) args s 0 0 A) 150 [(0, .ref (ad 0)), (1, .int (nI x)), (2, .int (nI y)), (3, .int (nI ((rl P y (nt P)).length))), (4, .int (nI ((rl P x (nt P)).length))), (5, .int (nI (leN P x y))), (6, .int (nI i)), (7, .int (nI (rk (rdn P x y) i))), (8, .int (nI nn - nI 1))] [] P Ts := by
                                  intro f13
                                  induction f13 with
                                  | zero => intro nn Ts hnn hT4 hw4 hm; exact absurd hm (Nat.not_lt_zero _)
                                  | succ f13 ih150 =>
                                    intro nn Ts hnn hT4 hw4 hm150
                                    refine x_iload (q := 152) C dX8_chances_150 8 rfl rfl ?_
                                    refine x_if_lt (q := 155) (tgt := 216) C dX8_chances_152 (by decide) rfl (fun c152 => ?_) (fun c152 => ?_)
                                    · replace c152 := (nI_m1lt (by omega)).mp c152
                                      refine x_iinc (q := 219) (v := nI (i + 1)) (lv' := [(0, .ref (ad 0)), (1, .int (nI x)), (2, .int (nI y)), (3, .int (nI ((rl P y (nt P)).length))), (4, .int (nI ((rl P x (nt P)).length))), (5, .int (nI (leN P x y))), (6, .int (nI (i + 1))), (7, .int (nI (rk (rdn P x y) i))), (8, .int (nI nn - nI 1))]) C dX8_chances_216 6 rfl (nI_add i 1) (by decide) rfl rfl rfl ?_
                                      refine x_goto (tgt := 117) C dX8_chances_219 (by decide) ?_
                                      refine x_lv [0, 1, 2, 3, 4, 5, 6] rfl ?_
                                      exact ih117 (i + 1) _ (by omega) hT4 (wyd_next (by omega) (by rw [show nn = 0 from c152] at hw4; exact hw4)) (by omega)
                                    · have hn0 : 0 < nn := Nat.pos_of_ne_zero (fun h => c152 ((nI_m1lt (by omega)).mpr h))
                                      rw [nI_m1 (show 1 ≤ nn by omega)]
                                      refine x_sipush (q := 158) (v := nI 255) C dX8_chances_155 (by decide) rfl ?_
                                      refine x_iload (q := 160) C dX8_chances_158 7 rfl rfl ?_
                                      refine x_isub (q := 161) C dX8_chances_160 rfl ?_
                                      refine x_tope (nI (256 - rk (rdn P x y) i) - nI 1) (nI_255 (by omega)) ?_
                                      refine x_istore (q := 163) (lv' := [(0, .ref (ad 0)), (1, .int (nI x)), (2, .int (nI y)), (3, .int (nI ((rl P y (nt P)).length))), (4, .int (nI ((rl P x (nt P)).length))), (5, .int (nI (leN P x y))), (6, .int (nI i)), (7, .int (nI (rk (rdn P x y) i))), (8, .int (nI (nn - 1))), (9, .int (nI (256 - rk (rdn P x y) i) - nI 1))]) C dX8_chances_161 (by decide) rfl rfl rfl ?_
                                      have L163 : ∀ (f14 : Nat) (t : Nat) (Tt : St), (t ≤ 256 - rk (rdn P x y) i) → (∀ j, j ≠ 19 → Tt j = T36 j) → (wyd (Tt 19) (rk (rdn P x y)) i (rl P y (nt P)).length nn t) → t < f14 → XW p l e rmX8_chances s m args below meth c D (wN ad cI cZ) A 10 (MQ below (XPI D (tyz cI cZ) (wN ad cI cZ) A (fun r P' T' => P' = P ∧ (cTw P (nI x) (nI y) → (cTr P (cl (nI x)) (cl (nI y)) → r = nI 0 ∧ T' 29 0 = cwN P (cl (nI x)) (cl (nI y)) ∧ T' 30 0 = awN P (cl (nI x)) (cl (nI y))) ∧ (¬ cTr P (cl (nI x)) (cl (nI y)) → r = -2)) ∧ (¬ cTw P (nI x) (nI y) → r = -1))) args s 0 0 A) 163 [(0, .ref (ad 0)), (1, .int (nI x)), (2, .int (nI y)), (3, .int (nI ((rl P y (nt P)).length))), (4, .int (nI ((rl P x (nt P)).length))), (5, .int (nI (leN P x y))), (6, .int (nI i)), (7, .int (nI (rk (rdn P x y) i))), (8, .int (nI (nn - 1))), (9, .int (nI t - nI 1))] [] P Tt := by
                                        intro f14
                                        induction f14 with
                                        | zero => intro t Tt ht hT5 hw5 hm; exact absurd hm (Nat.not_lt_zero _)
                                        | succ f14 ih163 =>
                                          intro t Tt ht hT5 hw5 hm163
                                          refine x_iload (q := 165) C dX8_chances_163 9 rfl rfl ?_
                                          refine x_if_lt (q := 168) (tgt := 210) C dX8_chances_165 (by decide) rfl (fun c165 => ?_) (fun c165 => ?_)
                                          · replace c165 := (nI_m1lt (by omega)).mp c165
                                            refine x_iinc (q := 213) (v := nI (nn - 1) - nI 1) (lv' := [(0, .ref (ad 0)), (1, .int (nI x)), (2, .int (nI y)), (3, .int (nI ((rl P y (nt P)).length))), (4, .int (nI ((rl P x (nt P)).length))), (5, .int (nI (leN P x y))), (6, .int (nI i)), (7, .int (nI (rk (rdn P x y) i))), (8, .int (nI (nn - 1) - nI 1)), (9, .int (nI t - nI 1))]) C dX8_chances_210 8 rfl (by rw [Int32.sub_eq_add_neg]; rfl) (by decide) rfl rfl rfl ?_
                                            refine x_goto (tgt := 150) C dX8_chances_213 (by decide) ?_
                                            refine x_lv [0, 1, 2, 3, 4, 5, 6, 7, 8] rfl ?_
                                            exact ih150 (nn - 1) _ (by omega) hT5 (wyd_row (by rw [show t = 0 from c165] at hw5; exact hw5) (by omega) (by omega)) (by omega)
                                          · have ht0 : 0 < t := Nat.pos_of_ne_zero (fun h => c165 ((nI_m1lt (by omega)).mpr h))
                                            rw [nI_m1 (show 1 ≤ t by omega)]
                                            refine x_aload_n (q := 169) C dX8_chances_168 rfl 0 rfl rfl ?_
                                            refine xg_X8_ways (q := 172) C tfl_X8_44 dX8_chances_169 rfl ?_
                                            refine x_sipush (q := 175) (v := nI 256) C dX8_chances_172 (by decide) rfl ?_
                                            refine x_iload (q := 177) C dX8_chances_175 8 rfl rfl ?_
                                            refine x_iconst (q := 178) (v := nI 1) C dX8_chances_177 (by decide) rfl ?_
                                            refine x_iadd_n (q := 179) C dX8_chances_178 rfl ?_
                                            refine x_imul_n (q := 180) C dX8_chances_179 rfl ?_
                                            refine x_iload (q := 182) C dX8_chances_180 9 rfl rfl ?_
                                            refine x_iadd_n (q := 183) C dX8_chances_182 rfl ?_
                                            refine x_iload (q := 185) C dX8_chances_183 7 rfl rfl ?_
                                            refine x_iadd_n (q := 186) C dX8_chances_185 rfl ?_
                                            refine x_dup2 (q := 187) C dX8_chances_186 rfl rfl rfl ?_
                                            refine xa_N10 (q := 188) C (by omega) dX8_chances_187 rfl ?_
                                            refine x_aload_n (q := 189) C dX8_chances_188 rfl 0 rfl rfl ?_
                                            refine xg_X8_ways (q := 192) C tfl_X8_44 dX8_chances_189 rfl ?_
                                            refine x_sipush (q := 195) (v := nI 256) C dX8_chances_192 (by decide) rfl ?_
                                            refine x_iload (q := 197) C dX8_chances_195 8 rfl rfl ?_
                                            refine x_imul_n (q := 198) C dX8_chances_197 rfl ?_
                                            refine x_iload (q := 200) C dX8_chances_198 9 rfl rfl ?_
                                            refine x_iadd_n (q := 201) C dX8_chances_200 rfl ?_
                                            refine xa_N10 (q := 202) C (by omega) dX8_chances_201 rfl ?_
                                            refine x_iadd (q := 203) C dX8_chances_202 rfl ?_
                                            refine xs_N10 (q := 204) C (by omega) dX8_chances_203 rfl ?_
                                            refine x_iinc (q := 207) (v := nI (t - 1) - nI 1) (lv' := [(0, .ref (ad 0)), (1, .int (nI x)), (2, .int (nI y)), (3, .int (nI ((rl P y (nt P)).length))), (4, .int (nI ((rl P x (nt P)).length))), (5, .int (nI (leN P x y))), (6, .int (nI i)), (7, .int (nI (rk (rdn P x y) i))), (8, .int (nI (nn - 1))), (9, .int (nI (t - 1) - nI 1))]) C dX8_chances_204 9 rfl (by rw [Int32.sub_eq_add_neg]; rfl) (by decide) rfl rfl rfl ?_
                                            refine x_goto (tgt := 163) C dX8_chances_207 (by decide) ?_
                                            exact ih163 (t - 1) _ (by omega) (fun j h => by rw [st1_ne h]; exact hT5 j h) (by rw [st1_eq]; have e := wyd_step hw5 (by omega) hnn (by omega) (by omega); rw [show nn - 1 + 1 = nn by omega]; exact e) (by omega)
                                      exact L163 _ (256 - rk (rdn P x y) i) _ (Nat.le_refl _) hT4 hw4 (Nat.lt_succ_self _)
                                exact L150 _ (rl P y (nt P)).length _ (Nat.le_refl _) hT3 (wyd_begin (by omega) (Or.inl rfl) hw) (Nat.lt_succ_self _)
                              · refine x_iload (q := 142) C dX8_chances_140 6 rfl rfl ?_
                                refine x_tope (nI (i + 1) - nI 1) (by rw [nI_m1 (by omega), Nat.add_sub_cancel]) ?_
                                refine x_goto (tgt := 148) C dX8_chances_142 (by decide) ?_
                                refine x_istore (q := 150) (lv' := [(0, .ref (ad 0)), (1, .int (nI x)), (2, .int (nI y)), (3, .int (nI ((rl P y (nt P)).length))), (4, .int (nI ((rl P x (nt P)).length))), (5, .int (nI (leN P x y))), (6, .int (nI i)), (7, .int (nI (rk (rdn P x y) i))), (8, .int (nI (i + 1) - nI 1))]) C dX8_chances_148 (by decide) rfl rfl rfl ?_
                                have L150 : ∀ (f15 : Nat) (nn : Nat) (Ts : St), (nn ≤ (rl P y (nt P)).length) → (∀ j, j ≠ 19 → Ts j = T36 j) → (wyd (Ts 19) (rk (rdn P x y)) i (rl P y (nt P)).length nn (256 - rk (rdn P x y) i)) → nn < f15 → XW p l e rmX8_chances s m args below meth c D (wN ad cI cZ) A 10 (MQ below (XPI D (tyz cI cZ) (wN ad cI cZ) A (fun r P' T' => P' = P ∧ (cTw P (nI x) (nI y) → (cTr P (cl (nI x)) (cl (nI y)) → r = nI 0 ∧ T' 29 0 = cwN P (cl (nI x)) (cl (nI y)) ∧ T' 30 0 = awN P (cl (nI x)) (cl (nI y))) ∧ (¬ cTr P (cl (nI x)) (cl (nI y)) → r = -2)) ∧ (¬ cTw P (nI x) (nI y) → r = -1))) args s 0 0 A) 150 [(0, .ref (ad 0)), (1, .int (nI x)), (2, .int (nI y)), (3, .int (nI ((rl P y (nt P)).length))), (4, .int (nI ((rl P x (nt P)).length))), (5, .int (nI (leN P x y))), (6, .int (nI i)), (7, .int (nI (rk (rdn P x y) i))), (8, .int (nI nn - nI 1))] [] P Ts := by
                                  intro f15
                                  induction f15 with
                                  | zero => intro nn Ts hnn hT4 hw4 hm; exact absurd hm (Nat.not_lt_zero _)
                                  | succ f15 ih150 =>
                                    intro nn Ts hnn hT4 hw4 hm150
                                    refine x_iload (q := 152) C dX8_chances_150 8 rfl rfl ?_
                                    refine x_if_lt (q := 155) (tgt := 216) C dX8_chances_152 (by decide) rfl (fun c152 => ?_) (fun c152 => ?_)
                                    · replace c152 := (nI_m1lt (by omega)).mp c152
                                      refine x_iinc (q := 219) (v := nI (i + 1)) (lv' := [(0, .ref (ad 0)), (1, .int (nI x)), (2, .int (nI y)), (3, .int (nI ((rl P y (nt P)).length))), (4, .int (nI ((rl P x (nt P)).length))), (5, .int (nI (leN P x y))), (6, .int (nI (i + 1))), (7, .int (nI (rk (rdn P x y) i))), (8, .int (nI nn - nI 1))]) C dX8_chances_216 6 rfl (nI_add i 1) (by decide) rfl rfl rfl ?_
                                      refine x_goto (tgt := 117) C dX8_chances_219 (by decide) ?_
                                      refine x_lv [0, 1, 2, 3, 4, 5, 6] rfl ?_
                                      exact ih117 (i + 1) _ (by omega) hT4 (wyd_next (by omega) (by rw [show nn = 0 from c152] at hw4; exact hw4)) (by omega)
                                    · have hn0 : 0 < nn := Nat.pos_of_ne_zero (fun h => c152 ((nI_m1lt (by omega)).mpr h))
                                      rw [nI_m1 (show 1 ≤ nn by omega)]
                                      refine x_sipush (q := 158) (v := nI 255) C dX8_chances_155 (by decide) rfl ?_
                                      refine x_iload (q := 160) C dX8_chances_158 7 rfl rfl ?_
                                      refine x_isub (q := 161) C dX8_chances_160 rfl ?_
                                      refine x_tope (nI (256 - rk (rdn P x y) i) - nI 1) (nI_255 (by omega)) ?_
                                      refine x_istore (q := 163) (lv' := [(0, .ref (ad 0)), (1, .int (nI x)), (2, .int (nI y)), (3, .int (nI ((rl P y (nt P)).length))), (4, .int (nI ((rl P x (nt P)).length))), (5, .int (nI (leN P x y))), (6, .int (nI i)), (7, .int (nI (rk (rdn P x y) i))), (8, .int (nI (nn - 1))), (9, .int (nI (256 - rk (rdn P x y) i) - nI 1))]) C dX8_chances_161 (by decide) rfl rfl rfl ?_
                                      have L163 : ∀ (f16 : Nat) (t : Nat) (Tt : St), (t ≤ 256 - rk (rdn P x y) i) → (∀ j, j ≠ 19 → Tt j = T36 j) → (wyd (Tt 19) (rk (rdn P x y)) i (rl P y (nt P)).length nn t) → t < f16 → XW p l e rmX8_chances s m args below meth c D (wN ad cI cZ) A 10 (MQ below (XPI D (tyz cI cZ) (wN ad cI cZ) A (fun r P' T' => P' = P ∧ (cTw P (nI x) (nI y) → (cTr P (cl (nI x)) (cl (nI y)) → r = nI 0 ∧ T' 29 0 = cwN P (cl (nI x)) (cl (nI y)) ∧ T' 30 0 = awN P (cl (nI x)) (cl (nI y))) ∧ (¬ cTr P (cl (nI x)) (cl (nI y)) → r = -2)) ∧ (¬ cTw P (nI x) (nI y) → r = -1))) args s 0 0 A) 163 [(0, .ref (ad 0)), (1, .int (nI x)), (2, .int (nI y)), (3, .int (nI ((rl P y (nt P)).length))), (4, .int (nI ((rl P x (nt P)).length))), (5, .int (nI (leN P x y))), (6, .int (nI i)), (7, .int (nI (rk (rdn P x y) i))), (8, .int (nI (nn - 1))), (9, .int (nI t - nI 1))] [] P Tt := by
                                        intro f16
                                        induction f16 with
                                        | zero => intro t Tt ht hT5 hw5 hm; exact absurd hm (Nat.not_lt_zero _)
                                        | succ f16 ih163 =>
                                          intro t Tt ht hT5 hw5 hm163
                                          refine x_iload (q := 165) C dX8_chances_163 9 rfl rfl ?_
                                          refine x_if_lt (q := 168) (tgt := 210) C dX8_chances_165 (by decide) rfl (fun c165 => ?_) (fun c165 => ?_)
                                          · replace c165 := (nI_m1lt (by omega)).mp c165
                                            refine x_iinc (q := 213) (v := nI (nn - 1) - nI 1) (lv' := [(0, .ref (ad 0)), (1, .int (nI x)), (2, .int (nI y)), (3, .int (nI ((rl P y (nt P)).length))), (4, .int (nI ((rl P x (nt P)).length))), (5, .int (nI (leN P x y))), (6, .int (nI i)), (7, .int (nI (rk (rdn P x y) i))), (8, .int (nI (nn - 1) - nI 1)), (9, .int (nI t - nI 1))]) C dX8_chances_210 8 rfl (by rw [Int32.sub_eq_add_neg]; rfl) (by decide) rfl rfl rfl ?_
                                            refine x_goto (tgt := 150) C dX8_chances_213 (by decide) ?_
                                            refine x_lv [0, 1, 2, 3, 4, 5, 6, 7, 8] rfl ?_
                                            exact ih150 (nn - 1) _ (by omega) hT5 (wyd_row (by rw [show t = 0 from c165] at hw5; exact hw5) (by omega) (by omega)) (by omega)
                                          · have ht0 : 0 < t := Nat.pos_of_ne_zero (fun h => c165 ((nI_m1lt (by omega)).mpr h))
                                            rw [nI_m1 (show 1 ≤ t by omega)]
                                            refine x_aload_n (q := 169) C dX8_chances_168 rfl 0 rfl rfl ?_
                                            refine xg_X8_ways (q := 172) C tfl_X8_44 dX8_chances_169 rfl ?_
                                            refine x_sipush (q := 175) (v := nI 256) C dX8_chances_172 (by decide) rfl ?_
                                            refine x_iload (q := 177) C dX8_chances_175 8 rfl rfl ?_
                                            refine x_iconst (q := 178) (v := nI 1) C dX8_chances_177 (by decide) rfl ?_
                                            refine x_iadd_n (q := 179) C dX8_chances_178 rfl ?_
                                            refine x_imul_n (q := 180) C dX8_chances_179 rfl ?_
                                            refine x_iload (q := 182) C dX8_chances_180 9 rfl rfl ?_
                                            refine x_iadd_n (q := 183) C dX8_chances_182 rfl ?_
                                            refine x_iload (q := 185) C dX8_chances_183 7 rfl rfl ?_
                                            refine x_iadd_n (q := 186) C dX8_chances_185 rfl ?_
                                            refine x_dup2 (q := 187) C dX8_chances_186 rfl rfl rfl ?_
                                            refine xa_N10 (q := 188) C (by omega) dX8_chances_187 rfl ?_
                                            refine x_aload_n (q := 189) C dX8_chances_188 rfl 0 rfl rfl ?_
                                            refine xg_X8_ways (q := 192) C tfl_X8_44 dX8_chances_189 rfl ?_
                                            refine x_sipush (q := 195) (v := nI 256) C dX8_chances_192 (by decide) rfl ?_
                                            refine x_iload (q := 197) C dX8_chances_195 8 rfl rfl ?_
                                            refine x_imul_n (q := 198) C dX8_chances_197 rfl ?_
                                            refine x_iload (q := 200) C dX8_chances_198 9 rfl rfl ?_
                                            refine x_iadd_n (q := 201) C dX8_chances_200 rfl ?_
                                            refine xa_N10 (q := 202) C (by omega) dX8_chances_201 rfl ?_
                                            refine x_iadd (q := 203) C dX8_chances_202 rfl ?_
                                            refine xs_N10 (q := 204) C (by omega) dX8_chances_203 rfl ?_
                                            refine x_iinc (q := 207) (v := nI (t - 1) - nI 1) (lv' := [(0, .ref (ad 0)), (1, .int (nI x)), (2, .int (nI y)), (3, .int (nI ((rl P y (nt P)).length))), (4, .int (nI ((rl P x (nt P)).length))), (5, .int (nI (leN P x y))), (6, .int (nI i)), (7, .int (nI (rk (rdn P x y) i))), (8, .int (nI (nn - 1))), (9, .int (nI (t - 1) - nI 1))]) C dX8_chances_204 9 rfl (by rw [Int32.sub_eq_add_neg]; rfl) (by decide) rfl rfl rfl ?_
                                            refine x_goto (tgt := 163) C dX8_chances_207 (by decide) ?_
                                            exact ih163 (t - 1) _ (by omega) (fun j h => by rw [st1_ne h]; exact hT5 j h) (by rw [st1_eq]; have e := wyd_step hw5 (by omega) hnn (by omega) (by omega); rw [show nn - 1 + 1 = nn by omega]; exact e) (by omega)
                                      exact L163 _ (256 - rk (rdn P x y) i) _ (Nat.le_refl _) hT4 hw4 (Nat.lt_succ_self _)
                                exact L150 _ (i + 1) _ (by omega) hT3 (wyd_begin (by omega) (Or.inr (Nat.le_refl _)) hw) (Nat.lt_succ_self _)
                        exact L117 _ 0 _ (Nat.zero_le _) (fun j h => by rw [st1_ne h]; exact hT2 j h) (fun n k h1 h2 => wayd0 (fun j hj => hF j (by omega)) (by omega) h2) (Nat.lt_succ_self _)
                      · refine x_aload_n (q := 94) C dX8_chances_93 rfl 0 rfl rfl ?_
                        refine xg_X8_ways (q := 97) C tfl_X8_44 dX8_chances_94 rfl ?_
                        refine x_iload (q := 99) C dX8_chances_97 6 rfl rfl ?_
                        refine x_iconst (q := 100) (v := nI 0) C dX8_chances_99 (by decide) rfl ?_
                        refine xs_N10 (q := 101) C (by omega) dX8_chances_100 rfl ?_
                        refine x_iinc (q := 104) (v := nI (k + 1)) (lv' := [(0, .ref (ad 0)), (1, .int (nI x)), (2, .int (nI y)), (3, .int (nI ((rl P y (nt P)).length))), (4, .int (nI ((rl P x (nt P)).length))), (5, .int (nI (leN P x y))), (6, .int (nI (k + 1)))]) C dX8_chances_101 6 rfl (nI_add k 1) (by decide) rfl rfl rfl ?_
                        refine x_goto (tgt := 85) C dX8_chances_104 (by decide) ?_
                        exact ih85 (k + 1) _ (by omega) (fun j h => by rw [st1_ne h]; exact hT2 j h) (lt_s (fun j hj => by rw [st1_no (by omega)]; exact hF j hj) st1_at) (by omega)
                  exact L85 _ 0 _ (Nat.zero_le _) (fun _ _ => rfl) (fun j hj => absurd hj (Nat.not_lt_zero j)) (Nat.lt_succ_self _)
                · refine x_iload (q := 67) C dX8_chances_65 5 rfl rfl ?_
                  refine x_aload_n (q := 68) C dX8_chances_67 rfl 0 rfl rfl ?_
                  refine x_iload (q := 70) C dX8_chances_68 6 rfl rfl ?_
                  refine x_Vf (q := 73) (As := [.int (nI j)]) (rest := [.int (nI d)]) C (c_X8_rank hD (rdn P x y) hG36 hl16 j (by omega)) xs_X8_rank tim_X8_rank tsel_X8_rank tml_X8_170 (by decide) 0 rfl (ci := 8) rfl rfl rfl (Nat.le_of_ble_eq_true rfl) dX8_chances_70 rfl ?_
                  refine x_iadd_n (q := 74) C dX8_chances_73 rfl ?_
                  refine x_namen (fun n17 hn17 => ?_)
                  refine x_istore (q := 76) (lv' := [(0, .ref (ad 0)), (1, .int (nI x)), (2, .int (nI y)), (3, .int (nI ((rl P y (nt P)).length))), (4, .int (nI ((rl P x (nt P)).length))), (5, .int (nI n17)), (6, .int (nI j))]) C dX8_chances_74 (by decide) rfl rfl rfl ?_
                  refine x_iinc (q := 79) (v := nI (j + 1)) (lv' := [(0, .ref (ad 0)), (1, .int (nI x)), (2, .int (nI y)), (3, .int (nI ((rl P y (nt P)).length))), (4, .int (nI ((rl P x (nt P)).length))), (5, .int (nI n17)), (6, .int (nI (j + 1)))]) C dX8_chances_76 6 rfl (nI_add j 1) (by decide) rfl rfl rfl ?_
                  refine x_goto (tgt := 59) C dX8_chances_79 (by decide) ?_
                  exact ih59 (j + 1) n17 (by omega) (by rw [hn17, hd]; rfl) (by omega)
            exact L59 _ 0 0 (Nat.zero_le _) rfl (Nat.lt_succ_self _)
          · refine x_bipush (q := 52) (v := (-2)) C dX8_chances_50 (by decide) rfl ?_
            exact x_iret C dX8_chances_52 ⟨rfl, fun _ => ⟨fun h => by rw [cl_nI (by omega), cl_nI (by omega)] at h; first | exact absurd h.2 (rl_fi.mp c42) | exact absurd h.1 (rl_fi.mp c47), fun _ => rfl⟩, fun h => absurd hTw h⟩
      · replace c18 : nI x = nI y := by rw [c18]
        refine x_iconst (q := 22) (v := (-1)) C dX8_chances_21 (by decide) rfl ?_
        exact x_iret C dX8_chances_22 ⟨rfl, fun h => by first | exact absurd h.1 c5 | exact absurd h.2.1 c13 | exact absurd c18 h.2.2, fun _ => rfl⟩

set_option maxRecDepth 100000 in
set_option maxHeartbeats 4000000 in
theorem c_X8_odds (hD : ∀ P T, va_D A (wN ad cI cZ P T)) {P T : St} (ok : okN P) (x1 y1 u1 : Int32) : XMI l D (tyz cI cZ) (wN ad cI cZ) A yX8_odds cX8_odds 5 (some .int) rmX8_odds [.ref (ad 0), .int x1, .int y1, .int u1] P T (fun r P' _ => r = (if cTw P x1 y1 ∧ inR u1 (nI 0) (nI 1) then (if cTr P (cl x1) (cl y1) then (if u1 = 0 then cwN P (cl x1) (cl y1) else awN P (cl x1) (cl y1)) else -2) else -1) ∧ P' = P) := by
  have okc := okN_c ok
  have hk6 := okc_kn6 okc
  have hS144 := okc_S144 okc
  have hS1 := okc_S1 okc
  have hnr := okc_nr12 okc
  have hnt := okc_nt60 okc
  have hnz := okc_nz50 okc
  have hsd := okc_sdb okc
  have okk := okC_K okc
  refine x_start_i (lv := [(0, .ref (ad 0)), (1, .int x1), (2, .int y1), (3, .int u1)]) (own := RX8) (by decide) rfl hD (Nat.le_of_ble_eq_true rfl) rfl ?_
  intro p e s m args below meth c C
  refine x_iload_n (q := 1) C dX8_odds_0 rfl 3 rfl rfl ?_
  refine x_i2l (q := 2) C dX8_odds_1 rfl ?_
  refine x_lconst (q := 3) (v := 0) C dX8_odds_2 (by decide) rfl ?_
  refine x_lconst (q := 4) (v := 1) C dX8_odds_3 (by decide) rfl ?_
  refine x_Sf (q := 7) (As := [.long u1.toInt64, .long 0, .long 1]) (rest := []) C (c_X8_in hD u1.toInt64 0 1 ) xs_X8_in tst_X8_in tml_X8_50 (by decide) rfl rfl (Nat.le_of_ble_eq_true rfl) dX8_odds_4 rfl ?_
  refine x_tope (bI (inR u1 (nI 0) (nI 1))) (bI_congr (inL_i (a := (nI 0)) (b := (nI 1)) (by decide) (by decide))) ?_
  refine x_if_ne_b (q := 10) (tgt := 12) C dX8_odds_7 (by decide) rfl (fun c7 => ?_) (fun c7 => ?_)
  · refine x_aload_n (q := 13) C dX8_odds_12 rfl 0 rfl rfl ?_
    refine x_iload_n (q := 14) C dX8_odds_13 rfl 1 rfl rfl ?_
    refine x_iload_n (q := 15) C dX8_odds_14 rfl 2 rfl rfl ?_
    refine x_Vi (q := 18) (As := [.int x1, .int y1]) (rest := []) C (c_X8_chances hD ok x1 y1) xs_X8_chances tim_X8_chances tsel_X8_chances tml_X8_179 (by decide) 0 rfl (ci := 8) rfl rfl rfl (Nat.le_of_ble_eq_true rfl) dX8_odds_15 rfl (fun r15 Pz T15 hg => ?_)
    obtain ⟨hPz, hc1, hc2⟩ := hg
    rw [hPz]; clear hPz Pz
    refine x_istore (q := 20) (lv' := [(0, .ref (ad 0)), (1, .int x1), (2, .int y1), (3, .int u1), (4, .int r15)]) C dX8_odds_18 (by decide) rfl rfl rfl ?_
    refine x_iload (q := 22) C dX8_odds_20 4 rfl rfl ?_
    refine x_if_ge (q := 25) (tgt := 30) C dX8_odds_22 (by decide) rfl (fun c22 => ?_) (fun c22 => ?_)
    · refine x_iload_n (q := 31) C dX8_odds_30 rfl 3 rfl rfl ?_
      refine x_if_ne (q := 34) (tgt := 41) C dX8_odds_31 (by decide) rfl (fun c31 => ?_) (fun c31 => ?_)
      · refine x_aload_n (q := 42) C dX8_odds_41 rfl 0 rfl rfl ?_
        refine xg_X8_possible (q := 45) C tfl_X8_176 dX8_odds_42 rfl ?_
        exact x_iret C dX8_odds_45 ⟨odds_1 c7 c31 hc1 hc2 c22, rfl⟩
      · refine x_aload_n (q := 35) C dX8_odds_34 rfl 0 rfl rfl ?_
        refine xg_X8_counted (q := 38) C tfl_X8_173 dX8_odds_35 rfl ?_
        refine x_goto (tgt := 45) C dX8_odds_38 (by decide) ?_
        exact x_iret C dX8_odds_45 ⟨odds_0 c7 c31 hc1 hc2 c22, rfl⟩
    · refine x_iload (q := 27) C dX8_odds_25 4 rfl rfl ?_
      refine x_goto (tgt := 45) C dX8_odds_27 (by decide) ?_
      exact x_iret C dX8_odds_45 ⟨odds_neg c7 hc1 hc2 (fun h => by rw [h] at c22; exact c22 (by decide)), rfl⟩
  · refine x_iconst (q := 11) (v := (-1)) C dX8_odds_10 (by decide) rfl ?_
    exact x_iret C dX8_odds_11 ⟨if_f (fun h => c7 h.2), rfl⟩

set_option maxRecDepth 100000 in
set_option maxHeartbeats 4000000 in
theorem c_X8_safe (hD : ∀ P T, va_D A (wN ad cI cZ P T)) {P T : St} (ok : okN P) (x1 y1 a1 b1 : Int32) : XMI l D (tyz cI cZ) (wN ad cI cZ) A yX8_safe cX8_safe 6 (some .int) rmX8_safe [.ref (ad 0), .int x1, .int y1, .int a1, .int b1] P T (fun r P' _ => r = (if cTw P x1 y1 ∧ inR a1 (nI 0) (nI 1000) ∧ inR b1 (nI 1) (nI 1000) then (if cTr P (cl x1) (cl y1) then bI (cwN P (cl x1) (cl y1) * b1 ≤ a1 * awN P (cl x1) (cl y1)) else -2) else -1) ∧ P' = P) := by
  have okc := okN_c ok
  have hk6 := okc_kn6 okc
  have hS144 := okc_S144 okc
  have hS1 := okc_S1 okc
  have hnr := okc_nr12 okc
  have hnt := okc_nt60 okc
  have hnz := okc_nz50 okc
  have hsd := okc_sdb okc
  have okk := okC_K okc
  refine x_start_i (lv := [(0, .ref (ad 0)), (1, .int x1), (2, .int y1), (3, .int a1), (4, .int b1)]) (own := RX8) (by decide) rfl hD (Nat.le_of_ble_eq_true rfl) rfl ?_
  intro p e s m args below meth c C
  refine x_iload_n (q := 1) C dX8_safe_0 rfl 3 rfl rfl ?_
  refine x_i2l (q := 2) C dX8_safe_1 rfl ?_
  refine x_lconst (q := 3) (v := 0) C dX8_safe_2 (by decide) rfl ?_
  refine x_ldc2 (q := 6) C tk_X8_78 dX8_safe_3 rfl ?_
  refine x_Sf (q := 9) (As := [.long a1.toInt64, .long 0, .long ((1000))]) (rest := []) C (c_X8_in hD a1.toInt64 0 ((1000)) ) xs_X8_in tst_X8_in tml_X8_50 (by decide) rfl rfl (Nat.le_of_ble_eq_true rfl) dX8_safe_6 rfl ?_
  refine x_tope (bI (inR a1 (nI 0) (nI 1000))) (bI_congr (inL_i (a := (nI 0)) (b := (nI 1000)) (by decide) (by decide))) ?_
  refine x_if_eq_b (q := 12) (tgt := 25) C dX8_safe_9 (by decide) rfl (fun c9 => ?_) (fun c9 => ?_)
  · refine x_iconst (q := 26) (v := (-1)) C dX8_safe_25 (by decide) rfl ?_
    exact x_iret C dX8_safe_26 ⟨if_f (fun h => by first | exact c9 h.2.1 | exact c22 h.2.2), rfl⟩
  · refine x_iload (q := 14) C dX8_safe_12 4 rfl rfl ?_
    refine x_i2l (q := 15) C dX8_safe_14 rfl ?_
    refine x_lconst (q := 16) (v := 1) C dX8_safe_15 (by decide) rfl ?_
    refine x_ldc2 (q := 19) C tk_X8_78 dX8_safe_16 rfl ?_
    refine x_Sf (q := 22) (As := [.long b1.toInt64, .long 1, .long ((1000))]) (rest := []) C (c_X8_in hD b1.toInt64 1 ((1000)) ) xs_X8_in tst_X8_in tml_X8_50 (by decide) rfl rfl (Nat.le_of_ble_eq_true rfl) dX8_safe_19 rfl ?_
    refine x_tope (bI (inR b1 (nI 1) (nI 1000))) (bI_congr (inL_i (a := (nI 1)) (b := (nI 1000)) (by decide) (by decide))) ?_
    refine x_if_ne_b (q := 25) (tgt := 27) C dX8_safe_22 (by decide) rfl (fun c22 => ?_) (fun c22 => ?_)
    · refine x_aload_n (q := 28) C dX8_safe_27 rfl 0 rfl rfl ?_
      refine x_iload_n (q := 29) C dX8_safe_28 rfl 1 rfl rfl ?_
      refine x_iload_n (q := 30) C dX8_safe_29 rfl 2 rfl rfl ?_
      refine x_Vi (q := 33) (As := [.int x1, .int y1]) (rest := []) C (c_X8_chances hD ok x1 y1) xs_X8_chances tim_X8_chances tsel_X8_chances tml_X8_179 (by decide) 0 rfl (ci := 8) rfl rfl rfl (Nat.le_of_ble_eq_true rfl) dX8_safe_30 rfl (fun r30 Pz T30 hg => ?_)
      obtain ⟨hPz, hc1, hc2⟩ := hg
      rw [hPz]; clear hPz Pz
      refine x_istore (q := 35) (lv' := [(0, .ref (ad 0)), (1, .int x1), (2, .int y1), (3, .int a1), (4, .int b1), (5, .int r30)]) C dX8_safe_33 (by decide) rfl rfl rfl ?_
      refine x_iload (q := 37) C dX8_safe_35 5 rfl rfl ?_
      refine x_if_ge (q := 40) (tgt := 45) C dX8_safe_37 (by decide) rfl (fun c37 => ?_) (fun c37 => ?_)
      · refine x_aload_n (q := 46) C dX8_safe_45 rfl 0 rfl rfl ?_
        refine xg_X8_counted (q := 49) C tfl_X8_173 dX8_safe_46 rfl ?_
        refine x_iload (q := 51) C dX8_safe_49 4 rfl rfl ?_
        refine x_imul (q := 52) C dX8_safe_51 rfl ?_
        refine x_iload_n (q := 53) C dX8_safe_52 rfl 3 rfl rfl ?_
        refine x_aload_n (q := 54) C dX8_safe_53 rfl 0 rfl rfl ?_
        refine xg_X8_possible (q := 57) C tfl_X8_176 dX8_safe_54 rfl ?_
        refine x_imul (q := 58) C dX8_safe_57 rfl ?_
        refine x_icmp_gt (q := 61) (tgt := 65) C dX8_safe_58 (by decide) rfl (fun c58 => ?_) (fun c58 => ?_)
        · refine x_iconst (q := 66) (v := nI 0) C dX8_safe_65 (by decide) rfl ?_
          exact x_iret C dX8_safe_66 ⟨safe_0 ⟨c9, c22⟩ hc1 hc2 c37 (bI_f (Int32.not_le.mpr c58)), rfl⟩
        · refine x_iconst (q := 62) (v := nI 1) C dX8_safe_61 (by decide) rfl ?_
          refine x_goto (tgt := 66) C dX8_safe_62 (by decide) ?_
          exact x_iret C dX8_safe_66 ⟨safe_0 ⟨c9, c22⟩ hc1 hc2 c37 (bI_t (Int32.not_lt.mp c58)), rfl⟩
      · refine x_iload (q := 42) C dX8_safe_40 5 rfl rfl ?_
        refine x_goto (tgt := 66) C dX8_safe_42 (by decide) ?_
        exact x_iret C dX8_safe_66 ⟨safe_neg ⟨c9, c22⟩ hc1 hc2 (fun h => by rw [h] at c37; exact c37 (by decide)), rfl⟩
    · refine x_iconst (q := 26) (v := (-1)) C dX8_safe_25 (by decide) rfl ?_
      exact x_iret C dX8_safe_26 ⟨if_f (fun h => by first | exact c9 h.2.1 | exact c22 h.2.2), rfl⟩

set_option maxRecDepth 100000 in
set_option maxHeartbeats 4000000 in
theorem c_X8_back (hD : ∀ P T, va_D A (wN ad cI cZ P T)) {P T : St} (ok : okN P) (x1 y1 : Int32) : XMI l D (tyz cI cZ) (wN ad cI cZ) A yX8_back cX8_back 6 (some .int) rmX8_back [.ref (ad 0), .int x1, .int y1] P T (fun r P' _ => r = FbackX (cX P) x1 y1 ∧ P' = P) := by
  have okc := okN_c ok
  have hk6 := okc_kn6 okc
  have hS144 := okc_S144 okc
  have hS1 := okc_S1 okc
  have hnr := okc_nr12 okc
  have hnt := okc_nt60 okc
  have hnz := okc_nz50 okc
  have hsd := okc_sdb okc
  have okk := okC_K okc
  refine x_start_i (lv := [(0, .ref (ad 0)), (1, .int x1), (2, .int y1)]) (own := RX8) (by decide) rfl hD (Nat.le_of_ble_eq_true rfl) rfl ?_
  intro p e s m args below meth c C
  refine x_aload_n (q := 1) C dX8_back_0 rfl 0 rfl rfl ?_
  refine x_iload_n (q := 2) C dX8_back_1 rfl 1 rfl rfl ?_
  refine x_Vf (q := 5) (As := [.int x1]) (rest := []) C (c_X8_isSetting hD ok x1 ) xs_X8_isSetting tim_X8_isSetting tsel_X8_isSetting tml_X8_98 (by decide) 0 rfl (ci := 8) rfl rfl rfl (Nat.le_of_ble_eq_true rfl) dX8_back_2 rfl ?_
  refine x_if_eq_b (q := 8) (tgt := 16) C dX8_back_5 (by decide) rfl (fun c5 => ?_) (fun c5 => ?_)
  · refine x_iconst (q := 17) (v := (-1)) C dX8_back_16 (by decide) rfl ?_
    exact x_iret C dX8_back_17 ⟨if_f (fun h => by first | exact c5 h.1 | exact c13 h.2), rfl⟩
  · have hS5 := c5
    obtain ⟨x, hx, rfl⟩ := isS_nat okc c5
    refine x_aload_n (q := 9) C dX8_back_8 rfl 0 rfl rfl ?_
    refine x_iload_n (q := 10) C dX8_back_9 rfl 2 rfl rfl ?_
    refine x_Vf (q := 13) (As := [.int y1]) (rest := []) C (c_X8_isSetting hD ok y1 ) xs_X8_isSetting tim_X8_isSetting tsel_X8_isSetting tml_X8_98 (by decide) 0 rfl (ci := 8) rfl rfl rfl (Nat.le_of_ble_eq_true rfl) dX8_back_10 rfl ?_
    refine x_if_ne_b (q := 16) (tgt := 18) C dX8_back_13 (by decide) rfl (fun c13 => ?_) (fun c13 => ?_)
    · have hS13 := c13
      obtain ⟨y, hy, rfl⟩ := isS_nat okc c13
      refine x_iload_n (q := 19) C dX8_back_18 rfl 1 rfl rfl ?_
      refine x_istore_n (q := 20) (lv' := [(0, .ref (ad 0)), (1, .int (nI x)), (2, .int (nI y)), (3, .int (nI x))]) C dX8_back_19 rfl (by decide) rfl rfl rfl ?_
      refine x_iconst (q := 21) (v := nI 0) C dX8_back_20 (by decide) rfl ?_
      refine x_istore (q := 23) (lv' := [(0, .ref (ad 0)), (1, .int (nI x)), (2, .int (nI y)), (3, .int (nI x)), (4, .int (nI 0))]) C dX8_back_21 (by decide) rfl rfl rfl ?_
      have L23 : ∀ (f1 : Nat) (k : Nat) (u : Nat), (k ≤ kn P) → (u = bkX (cX P) x y k) → (wo P u = wo P x) → kn P - k < f1 → XW p l e rmX8_back s m args below meth c D (wN ad cI cZ) A 6 (MQ below (XPI D (tyz cI cZ) (wN ad cI cZ) A (fun r P' _ => r = FbackX (cX P) (nI x) (nI y) ∧ P' = P)) args s 0 0 A) 23 [(0, .ref (ad 0)), (1, .int (nI x)), (2, .int (nI y)), (3, .int (nI u)), (4, .int (nI k))] [] P T := by
        intro f1
        induction f1 with
        | zero => intro k u hk hu hw hm; exact absurd hm (Nat.not_lt_zero _)
        | succ f1 ih23 =>
          intro k u hk hu hw hm23
          refine x_iload (q := 25) C dX8_back_23 4 rfl rfl ?_
          refine x_aload_n (q := 26) C dX8_back_25 rfl 0 rfl rfl ?_
          refine xg_X8_knobs (q := 29) C tfl_X8_47 dX8_back_26 rfl ?_
          refine x_topn (kn P) (okc_kn (P := P) okc) ?_
          refine x_icmp_ge_n (q := 32) (tgt := 84) C dX8_back_29 (by omega) (by omega) (by decide) rfl (fun c29 => ?_) (fun c29 => ?_)
          · refine x_iload_n (q := 85) C dX8_back_84 rfl 3 rfl rfl ?_
            exact x_iret C dX8_back_85 ⟨by rw [FbackX, if_pos ⟨hS5, hS13⟩, cl_nI (by omega), cl_nI (by omega), hu, show k = kn P by omega]; rfl, rfl⟩
          · have hul : u < nS P := by rw [hu]; exact bkX_lt ok.1 hx hk
            have hml := mv_lt okc hul (show k < kn P by omega) (val_lt okc y (show k < kn P by omega))
            refine x_aload_n (q := 33) C dX8_back_32 rfl 0 rfl rfl ?_
            refine x_iload_n (q := 34) C dX8_back_33 rfl 3 rfl rfl ?_
            refine x_iload (q := 36) C dX8_back_34 4 rfl rfl ?_
            refine x_aload_n (q := 37) C dX8_back_36 rfl 0 rfl rfl ?_
            refine x_iload_n (q := 38) C dX8_back_37 rfl 2 rfl rfl ?_
            refine x_iload (q := 40) C dX8_back_38 4 rfl rfl ?_
            refine x_Vf (q := 43) (As := [.int (nI y), .int (nI k)]) (rest := [.int (nI k), .int (nI u), .ref (ad 0)]) C (c_X8_get hD okk y k (by omega) (by omega)) xs_X8_get tim_X8_get tsel_X8_get tml_X8_94 (by decide) 0 rfl (ci := 8) rfl rfl rfl (Nat.le_of_ble_eq_true rfl) dX8_back_40 rfl ?_
            refine x_Vf (q := 46) (As := [.int (nI u), .int (nI k), .int (nI (val P y k))]) (rest := []) C (c_X8_put hD okk u k (val P y k) (by omega) (by omega)) xs_X8_put tim_X8_put tsel_X8_put tml_X8_101 (by decide) 0 rfl (ci := 8) rfl rfl rfl (Nat.le_of_ble_eq_true rfl) dX8_back_43 rfl ?_
            refine x_istore (q := 48) (lv' := [(0, .ref (ad 0)), (1, .int (nI x)), (2, .int (nI y)), (3, .int (nI u)), (4, .int (nI k)), (5, .int (nI (mv P u k (val P y k))))]) C dX8_back_46 (by decide) rfl rfl rfl ?_
            refine x_aload_n (q := 49) C dX8_back_48 rfl 0 rfl rfl ?_
            refine x_iload (q := 51) C dX8_back_49 5 rfl rfl ?_
            refine x_Vf (q := 54) (As := [.int (nI (mv P u k (val P y k)))]) (rest := []) C (c_X8_isAllowed hD ok (mv P u k (val P y k)) (by omega)) xs_X8_isAllowed tim_X8_isAllowed tsel_X8_isAllowed tml_X8_105 (by decide) 0 rfl (ci := 8) rfl rfl rfl (Nat.le_of_ble_eq_true rfl) dX8_back_51 rfl ?_
            refine x_if_eq_b (q := 57) (tgt := 76) C dX8_back_54 (by decide) rfl (fun c54 => ?_) (fun c54 => ?_)
            · have hno : ¬ (alX (cX P) (mv (cX P) (bkX (cX P) x y k) k (val (cX P) y k)) ∧ wo (cX P) (mv (cX P) (bkX (cX P) x y k) k (val (cX P) y k)) = wo (cX P) x) := fun h => c54 (by have h1 := h.1; rw [← hu] at h1; exact h1)
              refine x_iload_n (q := 77) C dX8_back_76 rfl 3 rfl rfl ?_
              refine x_istore_n (q := 78) (lv' := [(0, .ref (ad 0)), (1, .int (nI x)), (2, .int (nI y)), (3, .int (nI u)), (4, .int (nI k)), (5, .int (nI (mv P u k (val P y k))))]) C dX8_back_77 rfl (by decide) rfl rfl rfl ?_
              refine x_iinc (q := 81) (v := nI (k + 1)) (lv' := [(0, .ref (ad 0)), (1, .int (nI x)), (2, .int (nI y)), (3, .int (nI u)), (4, .int (nI (k + 1))), (5, .int (nI (mv P u k (val P y k))))]) C dX8_back_78 4 rfl (nI_add k 1) (by decide) rfl rfl rfl ?_
              refine x_goto (tgt := 23) C dX8_back_81 (by decide) ?_
              refine x_lv [0, 1, 2, 3, 4] rfl ?_
              exact ih23 (k + 1) u (by omega) (by rw [bkX, if_neg hno]; exact hu) hw (by omega)
            · refine x_aload_n (q := 58) C dX8_back_57 rfl 0 rfl rfl ?_
              refine x_iload (q := 60) C dX8_back_58 5 rfl rfl ?_
              refine x_Vf (q := 63) (As := [.int (nI (mv P u k (val P y k)))]) (rest := []) C (c_X8_worthOf hD okk (mv P u k (val P y k)) (by omega)) xs_X8_worthOf tim_X8_worthOf tsel_X8_worthOf tml_X8_108 (by decide) 0 rfl (ci := 8) rfl rfl rfl (Nat.le_of_ble_eq_true rfl) dX8_back_60 rfl ?_
              refine x_aload_n (q := 64) C dX8_back_63 rfl 0 rfl rfl ?_
              refine x_iload_n (q := 65) C dX8_back_64 rfl 3 rfl rfl ?_
              refine x_Vf (q := 68) (As := [.int (nI u)]) (rest := [.int (wo P (mv P u k (val P y k)))]) C (c_X8_worthOf hD okk u (by omega)) xs_X8_worthOf tim_X8_worthOf tsel_X8_worthOf tml_X8_108 (by decide) 0 rfl (ci := 8) rfl rfl rfl (Nat.le_of_ble_eq_true rfl) dX8_back_65 rfl ?_
              refine x_icmp_ne (q := 71) (tgt := 76) C dX8_back_68 (by decide) rfl (fun c68 => ?_) (fun c68 => ?_)
              · have hno : ¬ (alX (cX P) (mv (cX P) (bkX (cX P) x y k) k (val (cX P) y k)) ∧ wo (cX P) (mv (cX P) (bkX (cX P) x y k) k (val (cX P) y k)) = wo (cX P) x) := fun h => c68 (by have h1 := h.2; rw [← hu] at h1; exact Eq.trans h1 hw.symm)
                refine x_iload_n (q := 77) C dX8_back_76 rfl 3 rfl rfl ?_
                refine x_istore_n (q := 78) (lv' := [(0, .ref (ad 0)), (1, .int (nI x)), (2, .int (nI y)), (3, .int (nI u)), (4, .int (nI k)), (5, .int (nI (mv P u k (val P y k))))]) C dX8_back_77 rfl (by decide) rfl rfl rfl ?_
                refine x_iinc (q := 81) (v := nI (k + 1)) (lv' := [(0, .ref (ad 0)), (1, .int (nI x)), (2, .int (nI y)), (3, .int (nI u)), (4, .int (nI (k + 1))), (5, .int (nI (mv P u k (val P y k))))]) C dX8_back_78 4 rfl (nI_add k 1) (by decide) rfl rfl rfl ?_
                refine x_goto (tgt := 23) C dX8_back_81 (by decide) ?_
                refine x_lv [0, 1, 2, 3, 4] rfl ?_
                exact ih23 (k + 1) u (by omega) (by rw [bkX, if_neg hno]; exact hu) hw (by omega)
              · refine x_iload (q := 73) C dX8_back_71 5 rfl rfl ?_
                refine x_goto (tgt := 77) C dX8_back_73 (by decide) ?_
                refine x_istore_n (q := 78) (lv' := [(0, .ref (ad 0)), (1, .int (nI x)), (2, .int (nI y)), (3, .int (nI (mv P u k (val P y k)))), (4, .int (nI k)), (5, .int (nI (mv P u k (val P y k))))]) C dX8_back_77 rfl (by decide) rfl rfl rfl ?_
                refine x_iinc (q := 81) (v := nI (k + 1)) (lv' := [(0, .ref (ad 0)), (1, .int (nI x)), (2, .int (nI y)), (3, .int (nI (mv P u k (val P y k)))), (4, .int (nI (k + 1))), (5, .int (nI (mv P u k (val P y k))))]) C dX8_back_78 4 rfl (nI_add k 1) (by decide) rfl rfl rfl ?_
                refine x_goto (tgt := 23) C dX8_back_81 (by decide) ?_
                refine x_lv [0, 1, 2, 3, 4] rfl ?_
                exact ih23 (k + 1) _ (by omega) (by rw [bkX, if_pos ⟨hu ▸ c54, hu ▸ (c68.trans hw)⟩, hu]; rfl) (c68.trans hw) (by omega)
      exact L23 _ 0 x (Nat.zero_le _) rfl rfl (Nat.lt_succ_self _)
    · refine x_iconst (q := 17) (v := (-1)) C dX8_back_16 (by decide) rfl ?_
      exact x_iret C dX8_back_17 ⟨if_f (fun h => by first | exact c5 h.1 | exact c13 h.2), rfl⟩

set_option maxRecDepth 100000 in
set_option maxHeartbeats 4000000 in
theorem c_X8_count (hD : ∀ P T, va_D A (wN ad cI cZ P T)) {P T : St} (ok : okN P) (x : Int32) : XMI l D (tyz cI cZ) (wN ad cI cZ) A yX8_count cX8_count 4 (some .int) rmX8_count [.ref (ad 0), .int x] P T (fun r P' _ => r = FcountN P x ∧ P' = P) := by
  have okc := okN_c ok
  have hk6 := okc_kn6 okc
  have hS144 := okc_S144 okc
  have hS1 := okc_S1 okc
  have hnr := okc_nr12 okc
  have hnt := okc_nt60 okc
  have hnz := okc_nz50 okc
  have hsd := okc_sdb okc
  have okk := okC_K okc
  refine x_start_i (lv := [(0, .ref (ad 0)), (1, .int x)]) (own := RX8) (by decide) rfl hD (Nat.le_of_ble_eq_true rfl) rfl ?_
  intro p e s m args below meth c C
  refine x_iconst (q := 1) (v := nI 0) C dX8_count_0 (by decide) rfl ?_
  refine x_istore_n (q := 2) (lv' := [(0, .ref (ad 0)), (1, .int x), (2, .int (nI 0))]) C dX8_count_1 rfl (by decide) rfl rfl rfl ?_
  refine x_iconst (q := 3) (v := nI 0) C dX8_count_2 (by decide) rfl ?_
  refine x_istore_n (q := 4) (lv' := [(0, .ref (ad 0)), (1, .int x), (2, .int (nI 0)), (3, .int (nI 0))]) C dX8_count_3 rfl (by decide) rfl rfl rfl ?_
  have L4 : ∀ (f1 : Nat) (y : Nat) (n : Nat), (y ≤ nS P) → (n = dstN P y) → nS P - y < f1 → XW p l e rmX8_count s m args below meth c D (wN ad cI cZ) A 4 (MQ below (XPI D (tyz cI cZ) (wN ad cI cZ) A (fun r P' _ => r = FcountN P x ∧ P' = P)) args s 0 0 A) 4 [(0, .ref (ad 0)), (1, .int x), (2, .int (nI n)), (3, .int (nI y))] [] P T := by
    intro f1
    induction f1 with
    | zero => intro y n hy hn hm; exact absurd hm (Nat.not_lt_zero _)
    | succ f1 ih4 =>
      intro y n hy hn hm4
      refine x_iload_n (q := 5) C dX8_count_4 rfl 3 rfl rfl ?_
      refine x_aload_n (q := 6) C dX8_count_5 rfl 0 rfl rfl ?_
      refine xg_X8_settings (q := 9) C tfl_X8_7 dX8_count_6 rfl ?_
      refine x_topn (nS P) (okc_S okc) ?_
      refine x_icmp_ge_n (q := 12) (tgt := 34) C dX8_count_9 (by omega) (by omega) (by decide) rfl (fun c9 => ?_) (fun c9 => ?_)
      · refine x_iload_n (q := 35) C dX8_count_34 rfl 1 rfl rfl ?_
        by_cases t0 : x = nI 0
        · refine x_tableIn (tgt := 72) C dX8_count_35 (by rw [t0]; decide) (by rw [t0]; decide) (off := 37) (by rw [t0]; rfl) (by decide) ?_
          refine x_aload_n (q := 73) C dX8_count_72 rfl 0 rfl rfl ?_
          refine xg_X8_knobs (q := 76) C tfl_X8_47 dX8_count_73 rfl ?_
          exact x_iret C dX8_count_76 ⟨by rw [FcountN, if_pos t0], rfl⟩
        · skip
          by_cases t1 : x = nI 1
          · refine x_tableIn (tgt := 77) C dX8_count_35 (by rw [t1]; decide) (by rw [t1]; decide) (off := 42) (by rw [t1]; rfl) (by decide) ?_
            refine x_aload_n (q := 78) C dX8_count_77 rfl 0 rfl rfl ?_
            refine xg_X8_settings (q := 81) C tfl_X8_7 dX8_count_78 rfl ?_
            exact x_iret C dX8_count_81 ⟨by rw [FcountN, if_neg t0, if_pos t1], rfl⟩
          · skip
            by_cases t2 : x = nI 2
            · refine x_tableIn (tgt := 82) C dX8_count_35 (by rw [t2]; decide) (by rw [t2]; decide) (off := 47) (by rw [t2]; rfl) (by decide) ?_
              refine x_aload_n (q := 83) C dX8_count_82 rfl 0 rfl rfl ?_
              refine xg_X8_rules (q := 86) C tfl_X8_73 dX8_count_83 rfl ?_
              exact x_iret C dX8_count_86 ⟨by rw [FcountN, if_neg t0, if_neg t1, if_pos t2], rfl⟩
            · skip
              by_cases t3 : x = nI 3
              · refine x_tableIn (tgt := 87) C dX8_count_35 (by rw [t3]; decide) (by rw [t3]; decide) (off := 52) (by rw [t3]; rfl) (by decide) ?_
                refine x_aload_n (q := 88) C dX8_count_87 rfl 0 rfl rfl ?_
                refine xg_X8_trials (q := 91) C tfl_X8_62 dX8_count_88 rfl ?_
                exact x_iret C dX8_count_91 ⟨by rw [FcountN, if_neg t0, if_neg t1, if_neg t2, if_pos t3], rfl⟩
              · skip
                by_cases t4 : x = nI 4
                · refine x_tableIn (tgt := 92) C dX8_count_35 (by rw [t4]; decide) (by rw [t4]; decide) (off := 57) (by rw [t4]; rfl) (by decide) ?_
                  refine x_iload_n (q := 93) C dX8_count_92 rfl 2 rfl rfl ?_
                  exact x_iret C dX8_count_93 ⟨by rw [FcountN, if_neg t0, if_neg t1, if_neg t2, if_neg t3, if_pos t4, hn, show y = nS P by omega], rfl⟩
                · skip
                  by_cases t5 : x = nI 5
                  · refine x_tableIn (tgt := 94) C dX8_count_35 (by rw [t5]; decide) (by rw [t5]; decide) (off := 59) (by rw [t5]; rfl) (by decide) ?_
                    refine x_aload_n (q := 95) C dX8_count_94 rfl 0 rfl rfl ?_
                    refine xg_X8_z (q := 98) C tfl_X8_85 dX8_count_95 rfl ?_
                    exact x_iret C dX8_count_98 ⟨by rw [FcountN, if_neg t0, if_neg t1, if_neg t2, if_neg t3, if_neg t4, if_pos t5], rfl⟩
                  · skip
                    refine x_tableOut (tgt := 99) C dX8_count_35 (sw_out6 t0 t1 t2 t3 t4 t5) (by decide) ?_
                    refine x_iconst (q := 100) (v := (-1)) C dX8_count_99 (by decide) rfl ?_
                    exact x_iret C dX8_count_100 ⟨by rw [FcountN, if_neg t0, if_neg t1, if_neg t2, if_neg t3, if_neg t4, if_neg t5], rfl⟩
      · refine x_iload_n (q := 13) C dX8_count_12 rfl 2 rfl rfl ?_
        refine x_aload_n (q := 14) C dX8_count_13 rfl 0 rfl rfl ?_
        refine x_iload_n (q := 15) C dX8_count_14 rfl 3 rfl rfl ?_
        refine x_Vf (q := 18) (As := [.int (nI y)]) (rest := [.int (nI n)]) C (c_X8_firstOf hD ok y (by omega)) xs_X8_firstOf tim_X8_firstOf tsel_X8_firstOf tml_X8_155 (by decide) 0 rfl (ci := 8) rfl rfl rfl (Nat.le_of_ble_eq_true rfl) dX8_count_15 rfl ?_
        refine x_if_lt (q := 21) (tgt := 25) C dX8_count_18 (by decide) rfl (fun c18 => ?_) (fun c18 => ?_)
        · refine x_iconst (q := 26) (v := nI 0) C dX8_count_25 (by decide) rfl ?_
          refine x_iadd_n (q := 27) C dX8_count_26 rfl ?_
          refine x_namen (fun n2 hn2 => ?_)
          refine x_istore_n (q := 28) (lv' := [(0, .ref (ad 0)), (1, .int x), (2, .int (nI n2)), (3, .int (nI y))]) C dX8_count_27 rfl (by decide) rfl rfl rfl ?_
          refine x_iinc (q := 31) (v := nI (y + 1)) (lv' := [(0, .ref (ad 0)), (1, .int x), (2, .int (nI n2)), (3, .int (nI (y + 1)))]) C dX8_count_28 3 rfl (nI_add y 1) (by decide) rfl rfl rfl ?_
          refine x_goto (tgt := 4) C dX8_count_31 (by decide) ?_
          exact ih4 (y + 1) n2 (by omega) (by rw [hn2]; first | exact cnt_n hn (decide_eq_false ((foN_neg hnt).mp c18)) | exact cnt_y hn (decide_eq_true (Decidable.byContradiction (fun q => c18 ((foN_neg hnt).mpr q))))) (by omega)
        · refine x_iconst (q := 22) (v := nI 1) C dX8_count_21 (by decide) rfl ?_
          refine x_goto (tgt := 26) C dX8_count_22 (by decide) ?_
          refine x_iadd_n (q := 27) C dX8_count_26 rfl ?_
          refine x_namen (fun n3 hn3 => ?_)
          refine x_istore_n (q := 28) (lv' := [(0, .ref (ad 0)), (1, .int x), (2, .int (nI n3)), (3, .int (nI y))]) C dX8_count_27 rfl (by decide) rfl rfl rfl ?_
          refine x_iinc (q := 31) (v := nI (y + 1)) (lv' := [(0, .ref (ad 0)), (1, .int x), (2, .int (nI n3)), (3, .int (nI (y + 1)))]) C dX8_count_28 3 rfl (nI_add y 1) (by decide) rfl rfl rfl ?_
          refine x_goto (tgt := 4) C dX8_count_31 (by decide) ?_
          exact ih4 (y + 1) n3 (by omega) (by rw [hn3]; first | exact cnt_n hn (decide_eq_false ((foN_neg hnt).mp c18)) | exact cnt_y hn (decide_eq_true (Decidable.byContradiction (fun q => c18 ((foN_neg hnt).mpr q))))) (by omega)
  exact L4 _ 0 0 (Nat.zero_le _) rfl (Nat.lt_succ_self _)

end REFD
