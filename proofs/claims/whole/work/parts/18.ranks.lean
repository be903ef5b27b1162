section RANKS
variable {l : Launch} {D : va_G} {ad : Nat → Nat} {cI cZ : ClassId} {A : Nat → Prop}

set_option maxRecDepth 100000 in
set_option maxHeartbeats 4000000 in
theorem c_X4_gather (hD : ∀ P T, va_D A (wX ad cI cZ P T)) {P T : St} (ok : okX P) (x : Nat) (hx : x < 2 ^ 31) (L : List Int32) (hL : rdg T L) (h8 : L.length ≤ 8) : XMV l D (tyz cI cZ) (wX ad cI cZ) A yX4_gather cX4_gather 5 none rmX4_gather [.ref (ad 7), .int (nI x), .ref (ad 4)] P T (fun P' T' => P' = P ∧ (∀ j, j ≠ 18 → j ≠ 28 → T' j = T j) ∧ rdg T' (L ++ rl P x (nt P))) := by
  have okc := ok.1
  have hk6 := okc_kn6 okc
  have hS144 := okc_S144 okc
  have hS1 := okc_S1 okc
  have hnr := okc_nr12 okc
  have hnt := okc_nt60 okc
  have hnz := okc_nz50 okc
  have hsd := okc_sdb okc
  refine x_start_v (lv := [(0, .ref (ad 7)), (1, .int (nI x)), (2, .ref (ad 4))]) (own := RX4) (by decide) rfl hD (Nat.le_of_ble_eq_true rfl) rfl ?_
  intro p e s m args below meth c C
  refine x_aload_n (q := 1) C dX4_gather_0 rfl 0 rfl rfl ?_
  refine xg_X4_many (q := 4) C tfl_X4_11 dX4_gather_1 rfl ?_
  refine x_topn (L.length) hL.1 ?_
  refine x_bipush (q := 6) (v := nI 8) C dX4_gather_4 (by decide) rfl ?_
  refine x_iadd_n (q := 7) C dX4_gather_6 rfl ?_
  refine x_namen (fun n1 hn1 => ?_)
  refine x_istore_n (q := 8) (lv' := [(0, .ref (ad 7)), (1, .int (nI x)), (2, .ref (ad 4)), (3, .int (nI n1))]) C dX4_gather_7 rfl (by decide) rfl rfl rfl ?_
  refine x_iconst (q := 9) (v := nI 0) C dX4_gather_8 (by decide) rfl ?_
  refine x_istore (q := 11) (lv' := [(0, .ref (ad 7)), (1, .int (nI x)), (2, .ref (ad 4)), (3, .int (nI n1)), (4, .int (nI 0))]) C dX4_gather_9 (by decide) rfl rfl rfl ?_
  have L11 : ∀ (f2 : Nat) (i : Nat) (Tq : St), (i ≤ nt P) → (∀ j, j ≠ 18 → j ≠ 28 → Tq j = T j) → (rdg Tq (L ++ rl P x i)) → nt P - i < f2 → XW p l e rmX4_gather s m args below meth c D (wX ad cI cZ) A 5 (MQ below (XPV D (tyz cI cZ) (wX ad cI cZ) A (fun P' T' => P' = P ∧ (∀ j, j ≠ 18 → j ≠ 28 → T' j = T j) ∧ rdg T' (L ++ rl P x (nt P)))) args s 0 0 A) 11 [(0, .ref (ad 7)), (1, .int (nI x)), (2, .ref (ad 4)), (3, .int (nI n1)), (4, .int (nI i))] [] P Tq := by
    intro f2
    induction f2 with
    | zero => intro i Tq hi hT hG hm; exact absurd hm (Nat.not_lt_zero _)
    | succ f2 ih11 =>
      intro i Tq hi hT hG hm11
      refine x_iload (q := 13) C dX4_gather_11 4 rfl rfl ?_
      refine x_aload_n (q := 14) C dX4_gather_13 rfl 2 rfl rfl ?_
      refine x_Vf (q := 17) (As := []) (rest := [.int (nI i)]) C (c_X6_howMany hD ) xs_X6_howMany tim_X6_howMany tsel_X6_howMany tml_X4_44 (by decide) 4 rfl (ci := 6) rfl rfl rfl (Nat.le_of_ble_eq_true rfl) dX4_gather_14 rfl ?_
      refine x_topn (nt P) (okc_nt (P := P) okc) ?_
      refine x_icmp_ge_n (q := 20) (tgt := 69) C dX4_gather_17 (by omega) (by omega) (by decide) rfl (fun c17 => ?_) (fun c17 => ?_)
      · exact x_vret C dX4_gather_69 ⟨rfl, hT, by first | (rw [show nt P = i by omega]; exact hG) | (rw [rl_end (n := i) (by rw [List.length_append] at c25; omega) hi]; exact hG)⟩
      · have hr8 := rl_8 P x i
        have hLl : (L ++ rl P x i).length = L.length + (rl P x i).length := List.length_append
        have htx := okc_txS okc (i := i) (by omega)
        refine x_aload_n (q := 21) C dX4_gather_20 rfl 0 rfl rfl ?_
        refine xg_X4_many (q := 24) C tfl_X4_11 dX4_gather_21 rfl ?_
        refine x_topn ((L ++ rl P x i).length) hG.1 ?_
        refine x_iload_n (q := 25) C dX4_gather_24 rfl 3 rfl rfl ?_
        refine x_icmp_ge_n (q := 28) (tgt := 69) C dX4_gather_25 (by omega) (by omega) (by decide) rfl (fun c25 => ?_) (fun c25 => ?_)
        · exact x_vret C dX4_gather_69 ⟨rfl, hT, by first | (rw [show nt P = i by omega]; exact hG) | (rw [rl_end (n := i) (by rw [List.length_append] at c25; omega) hi]; exact hG)⟩
        · refine x_aload_n (q := 29) C dX4_gather_28 rfl 2 rfl rfl ?_
          refine x_iload (q := 31) C dX4_gather_29 4 rfl rfl ?_
          refine x_Vf (q := 34) (As := [.int (nI i)]) (rest := []) C (c_X6_settingAt hD i (by omega)) xs_X6_settingAt tim_X6_settingAt tsel_X6_settingAt tml_X4_50 (by decide) 4 rfl (ci := 6) rfl rfl rfl (Nat.le_of_ble_eq_true rfl) dX4_gather_31 rfl ?_
          refine x_topn (tx P i) (okc_tx okc (by omega)) ?_
          refine x_iload_n (q := 35) C dX4_gather_34 rfl 1 rfl rfl ?_
          refine x_icmp_ne_n (q := 38) (tgt := 63) C dX4_gather_35 (by omega) (by omega) (by decide) rfl (fun c35 => ?_) (fun c35 => ?_)
          · refine x_iinc (q := 66) (v := nI (i + 1)) (lv' := [(0, .ref (ad 7)), (1, .int (nI x)), (2, .ref (ad 4)), (3, .int (nI n1)), (4, .int (nI (i + 1)))]) C dX4_gather_63 4 rfl (nI_add i 1) (by decide) rfl rfl rfl ?_
            refine x_goto (tgt := 11) C dX4_gather_66 (by decide) ?_
            exact ih11 (i + 1) _ (by omega) hT (by rw [rl_n c35]; exact hG) (by omega)
          · refine x_aload_n (q := 39) C dX4_gather_38 rfl 0 rfl rfl ?_
            refine xg_X4_readings (q := 42) C tfl_X4_21 dX4_gather_39 rfl ?_
            refine x_aload_n (q := 43) C dX4_gather_42 rfl 0 rfl rfl ?_
            refine xg_X4_many (q := 46) C tfl_X4_11 dX4_gather_43 rfl ?_
            refine x_topn ((L ++ rl P x i).length) hG.1 ?_
            refine x_aload_n (q := 47) C dX4_gather_46 rfl 2 rfl rfl ?_
            refine x_iload (q := 49) C dX4_gather_47 4 rfl rfl ?_
            refine x_Vf (q := 52) (As := [.int (nI i)]) (rest := [.int (nI ((L ++ rl P x i).length)), .ref (ad 26)]) C (c_X6_readingAt hD i (by omega)) xs_X6_readingAt tim_X6_readingAt tsel_X6_readingAt tml_X4_53 (by decide) 4 rfl (ci := 6) rfl rfl rfl (Nat.le_of_ble_eq_true rfl) dX4_gather_49 rfl ?_
            refine xs_X26 (q := 53) C (by omega) dX4_gather_52 rfl ?_
            refine x_aload_n (q := 54) C dX4_gather_53 rfl 0 rfl rfl ?_
            refine x_dup (q := 55) C dX4_gather_54 rfl rfl ?_
            refine xg_X4_many (q := 58) C tfl_X4_11 dX4_gather_55 rfl ?_
            refine x_topn ((L ++ rl P x i).length) hG.1 ?_
            refine x_iconst (q := 59) (v := nI 1) C dX4_gather_58 (by decide) rfl ?_
            refine x_iadd_n (q := 60) C dX4_gather_59 rfl ?_
            refine xp_X4_many (q := 63) C tfl_X4_11 dX4_gather_60 rfl ?_
            refine x_iinc (q := 66) (v := nI (i + 1)) (lv' := [(0, .ref (ad 7)), (1, .int (nI x)), (2, .ref (ad 4)), (3, .int (nI n1)), (4, .int (nI (i + 1)))]) C dX4_gather_63 4 rfl (nI_add i 1) (by decide) rfl rfl rfl ?_
            refine x_goto (tgt := 11) C dX4_gather_66 (by decide) ?_
            exact ih11 (i + 1) _ (by omega) (fun j h1 h2 => by rw [st1_ne h2, st1_ne h1]; exact hT j h1 h2) (by rw [rl_y c35 (by rw [List.length_append] at c25; omega), ← List.append_assoc]; exact rdg_push hG) (by omega)
  exact L11 _ 0 _ (Nat.zero_le _) (fun _ _ _ => rfl) (by rw [rl, List.append_nil]; exact hL) (Nat.lt_succ_self _)

set_option maxRecDepth 100000 in
set_option maxHeartbeats 4000000 in
theorem c_X4_rankAt (hD : ∀ P T, va_D A (wX ad cI cZ P T)) {P T : St} (L : List Int32) (hL : rdg T L) (h16 : L.length ≤ 16) (i : Nat) (hi : i < L.length) : XMI l D (tyz cI cZ) (wX ad cI cZ) A yX4_rankAt cX4_rankAt 4 (some .int) rmX4_rankAt [.ref (ad 7), .int (nI i)] P T (fun r P' T' => r = nI (rk L i) ∧ P' = P ∧ T' = T) := by
  refine x_start_i (lv := [(0, .ref (ad 7)), (1, .int (nI i))]) (own := RX4) (by decide) rfl hD (Nat.le_of_ble_eq_true rfl) rfl ?_
  intro p e s m args below meth c C
  refine x_iconst (q := 1) (v := nI 0) C dX4_rankAt_0 (by decide) rfl ?_
  refine x_istore_n (q := 2) (lv' := [(0, .ref (ad 7)), (1, .int (nI i)), (2, .int (nI 0))]) C dX4_rankAt_1 rfl (by decide) rfl rfl rfl ?_
  refine x_iconst (q := 3) (v := nI 0) C dX4_rankAt_2 (by decide) rfl ?_
  refine x_istore_n (q := 4) (lv' := [(0, .ref (ad 7)), (1, .int (nI i)), (2, .int (nI 0)), (3, .int (nI 0))]) C dX4_rankAt_3 rfl (by decide) rfl rfl rfl ?_
  have L4 : ∀ (f1 : Nat) (j : Nat) (n : Nat), (j ≤ L.length) → (n = fb_sm (rkt L i) j) → L.length - j < f1 → XW p l e rmX4_rankAt s m args below meth c D (wX ad cI cZ) A 4 (MQ below (XPI D (tyz cI cZ) (wX ad cI cZ) A (fun r P' T' => r = nI (rk L i) ∧ P' = P ∧ T' = T)) args s 0 0 A) 4 [(0, .ref (ad 7)), (1, .int (nI i)), (2, .int (nI n)), (3, .int (nI j))] [] P T := by
    intro f1
    induction f1 with
    | zero => intro j n hj hn hm; exact absurd hm (Nat.not_lt_zero _)
    | succ f1 ih4 =>
      intro j n hj hn hm4
      refine x_iload_n (q := 5) C dX4_rankAt_4 rfl 3 rfl rfl ?_
      refine x_aload_n (q := 6) C dX4_rankAt_5 rfl 0 rfl rfl ?_
      refine xg_X4_many (q := 9) C tfl_X4_11 dX4_rankAt_6 rfl ?_
      refine x_topn (L.length) hL.1 ?_
      refine x_icmp_ge_n (q := 12) (tgt := 62) C dX4_rankAt_9 (by omega) (by omega) (by decide) rfl (fun c9 => ?_) (fun c9 => ?_)
      · refine x_iload_n (q := 63) C dX4_rankAt_62 rfl 2 rfl rfl ?_
        exact x_iret C dX4_rankAt_63 ⟨by rw [hn, show j = L.length by omega]; rfl, rfl, rfl⟩
      · refine x_aload_n (q := 13) C dX4_rankAt_12 rfl 0 rfl rfl ?_
        refine xg_X4_readings (q := 16) C tfl_X4_21 dX4_rankAt_13 rfl ?_
        refine x_iload_n (q := 17) C dX4_rankAt_16 rfl 3 rfl rfl ?_
        refine xa_X26 (q := 18) C (by omega) dX4_rankAt_17 rfl ?_
        refine x_tope (L.getD j 0) (hL.2 j (by omega)) ?_
        refine x_aload_n (q := 19) C dX4_rankAt_18 rfl 0 rfl rfl ?_
        refine xg_X4_readings (q := 22) C tfl_X4_21 dX4_rankAt_19 rfl ?_
        refine x_iload_n (q := 23) C dX4_rankAt_22 rfl 1 rfl rfl ?_
        refine xa_X26 (q := 24) C (by omega) dX4_rankAt_23 rfl ?_
        refine x_tope (L.getD i 0) (hL.2 i (by omega)) ?_
        refine x_icmp_ge (q := 27) (tgt := 33) C dX4_rankAt_24 (by decide) rfl (fun c24 => ?_) (fun c24 => ?_)
        · refine x_aload_n (q := 34) C dX4_rankAt_33 rfl 0 rfl rfl ?_
          refine xg_X4_readings (q := 37) C tfl_X4_21 dX4_rankAt_34 rfl ?_
          refine x_iload_n (q := 38) C dX4_rankAt_37 rfl 3 rfl rfl ?_
          refine xa_X26 (q := 39) C (by omega) dX4_rankAt_38 rfl ?_
          refine x_tope (L.getD j 0) (hL.2 j (by omega)) ?_
          refine x_aload_n (q := 40) C dX4_rankAt_39 rfl 0 rfl rfl ?_
          refine xg_X4_readings (q := 43) C tfl_X4_21 dX4_rankAt_40 rfl ?_
          refine x_iload_n (q := 44) C dX4_rankAt_43 rfl 1 rfl rfl ?_
          refine xa_X26 (q := 45) C (by omega) dX4_rankAt_44 rfl ?_
          refine x_tope (L.getD i 0) (hL.2 i (by omega)) ?_
          refine x_icmp_ne (q := 48) (tgt := 56) C dX4_rankAt_45 (by decide) rfl (fun c45 => ?_) (fun c45 => ?_)
          · refine x_iinc (q := 59) (v := nI (j + 1)) (lv' := [(0, .ref (ad 7)), (1, .int (nI i)), (2, .int (nI n)), (3, .int (nI (j + 1)))]) C dX4_rankAt_56 3 rfl (nI_add j 1) (by decide) rfl rfl rfl ?_
            refine x_goto (tgt := 4) C dX4_rankAt_59 (by decide) ?_
            exact ih4 (j + 1) n (by omega) (by rw [fb_sm, ← hn, rkt, if_neg (Int32.not_lt.mpr c24), if_neg (fun h => by first | exact c45 h.1 | exact h.2 c50)]; rfl) (by omega)
          · refine x_iload_n (q := 49) C dX4_rankAt_48 rfl 3 rfl rfl ?_
            refine x_iload_n (q := 50) C dX4_rankAt_49 rfl 1 rfl rfl ?_
            refine x_icmp_eq_n (q := 53) (tgt := 56) C dX4_rankAt_50 (by omega) (by omega) (by decide) rfl (fun c50 => ?_) (fun c50 => ?_)
            · refine x_iinc (q := 59) (v := nI (j + 1)) (lv' := [(0, .ref (ad 7)), (1, .int (nI i)), (2, .int (nI n)), (3, .int (nI (j + 1)))]) C dX4_rankAt_56 3 rfl (nI_add j 1) (by decide) rfl rfl rfl ?_
              refine x_goto (tgt := 4) C dX4_rankAt_59 (by decide) ?_
              exact ih4 (j + 1) n (by omega) (by rw [fb_sm, ← hn, rkt, if_neg (Int32.not_lt.mpr c24), if_neg (fun h => by first | exact c45 h.1 | exact h.2 c50)]; rfl) (by omega)
            · refine x_iinc (q := 56) (v := nI (n + 1)) (lv' := [(0, .ref (ad 7)), (1, .int (nI i)), (2, .int (nI (n + 1))), (3, .int (nI j))]) C dX4_rankAt_53 2 rfl (nI_add n 1) (by decide) rfl rfl rfl ?_
              refine x_iinc (q := 59) (v := nI (j + 1)) (lv' := [(0, .ref (ad 7)), (1, .int (nI i)), (2, .int (nI (n + 1))), (3, .int (nI (j + 1)))]) C dX4_rankAt_56 3 rfl (nI_add j 1) (by decide) rfl rfl rfl ?_
              refine x_goto (tgt := 4) C dX4_rankAt_59 (by decide) ?_
              exact ih4 (j + 1) (n + 1) (by omega) (by rw [fb_sm, ← hn, rkt, if_neg (Int32.not_lt.mpr c24), if_pos ⟨c45, c50⟩]) (by omega)
        · refine x_iinc (q := 30) (v := nI (n + 2)) (lv' := [(0, .ref (ad 7)), (1, .int (nI i)), (2, .int (nI (n + 2))), (3, .int (nI j))]) C dX4_rankAt_27 2 rfl (nI_add n 2) (by decide) rfl rfl rfl ?_
          refine x_goto (tgt := 56) C dX4_rankAt_30 (by decide) ?_
          refine x_iinc (q := 59) (v := nI (j + 1)) (lv' := [(0, .ref (ad 7)), (1, .int (nI i)), (2, .int (nI (n + 2))), (3, .int (nI (j + 1)))]) C dX4_rankAt_56 3 rfl (nI_add j 1) (by decide) rfl rfl rfl ?_
          refine x_goto (tgt := 4) C dX4_rankAt_59 (by decide) ?_
          exact ih4 (j + 1) (n + 2) (by omega) (by rw [fb_sm, ← hn, rkt, if_pos (fa_of_nle c24)]) (by omega)
  exact L4 _ 0 0 (Nat.zero_le _) rfl (Nat.lt_succ_self _)

set_option maxRecDepth 100000 in
set_option maxHeartbeats 4000000 in
theorem c_X4_waysFrom (hD : ∀ P T, va_D A (wX ad cI cZ P T)) {P T : St} (b n : Nat) (hb : b ≤ 241) (hn : n ≤ 8) : XMI l D (tyz cI cZ) (wX ad cI cZ) A yX4_waysFrom cX4_waysFrom 5 (some .int) rmX4_waysFrom [.ref (ad 7), .int (nI b), .int (nI n)] P T (fun r P' T' => r = sfr (fun k => T 19 (n * 241 + k)) b 241 ∧ P' = P ∧ T' = T) := by
  refine x_start_i (lv := [(0, .ref (ad 7)), (1, .int (nI b)), (2, .int (nI n))]) (own := RX4) (by decide) rfl hD (Nat.le_of_ble_eq_true rfl) rfl ?_
  intro p e s m args below meth c C
  refine x_iconst (q := 1) (v := nI 0) C dX4_waysFrom_0 (by decide) rfl ?_
  refine x_istore_n (q := 2) (lv' := [(0, .ref (ad 7)), (1, .int (nI b)), (2, .int (nI n)), (3, .int (nI 0))]) C dX4_waysFrom_1 rfl (by decide) rfl rfl rfl ?_
  refine x_iload_n (q := 3) C dX4_waysFrom_2 rfl 1 rfl rfl ?_
  refine x_istore (q := 5) (lv' := [(0, .ref (ad 7)), (1, .int (nI b)), (2, .int (nI n)), (3, .int (nI 0)), (4, .int (nI b))]) C dX4_waysFrom_3 (by decide) rfl rfl rfl ?_
  have L5 : ∀ (f1 : Nat) (t : Nat) (a : Int32), (b ≤ t ∧ t ≤ 241) → (a = sm (fun k => T 19 (n * 241 + (b + k))) (t - b)) → 241 - t < f1 → XW p l e rmX4_waysFrom s m args below meth c D (wX ad cI cZ) A 5 (MQ below (XPI D (tyz cI cZ) (wX ad cI cZ) A (fun r P' T' => r = sfr (fun k => T 19 (n * 241 + k)) b 241 ∧ P' = P ∧ T' = T)) args s 0 0 A) 5 [(0, .ref (ad 7)), (1, .int (nI b)), (2, .int (nI n)), (3, .int a), (4, .int (nI t))] [] P T := by
    intro f1
    induction f1 with
    | zero => intro t a ht ha hm; exact absurd hm (Nat.not_lt_zero _)
    | succ f1 ih5 =>
      intro t a ht ha hm5
      refine x_iload (q := 7) C dX4_waysFrom_5 4 rfl rfl ?_
      refine x_sipush (q := 10) (v := nI 241) C dX4_waysFrom_7 (by decide) rfl ?_
      refine x_icmp_ge_n (q := 13) (tgt := 35) C dX4_waysFrom_10 (by omega) (by omega) (by decide) rfl (fun c10 => ?_) (fun c10 => ?_)
      · refine x_iload_n (q := 36) C dX4_waysFrom_35 rfl 3 rfl rfl ?_
        exact x_iret C dX4_waysFrom_36 ⟨by rw [ha, show t = 241 by omega]; rfl, rfl, rfl⟩
      · refine x_iload_n (q := 14) C dX4_waysFrom_13 rfl 3 rfl rfl ?_
        refine x_aload_n (q := 15) C dX4_waysFrom_14 rfl 0 rfl rfl ?_
        refine xg_X4_ways (q := 18) C tfl_X4_25 dX4_waysFrom_15 rfl ?_
        refine x_iload_n (q := 19) C dX4_waysFrom_18 rfl 2 rfl rfl ?_
        refine x_sipush (q := 22) (v := nI 241) C dX4_waysFrom_19 (by decide) rfl ?_
        refine x_imul_n (q := 23) C dX4_waysFrom_22 rfl ?_
        refine x_iload (q := 25) C dX4_waysFrom_23 4 rfl rfl ?_
        refine x_iadd_n (q := 26) C dX4_waysFrom_25 rfl ?_
        refine xa_X27 (q := 27) C (by omega) dX4_waysFrom_26 rfl ?_
        refine x_iadd (q := 28) C dX4_waysFrom_27 rfl ?_
        refine x_topi (fun z2 hz2 => ?_)
        refine x_istore_n (q := 29) (lv' := [(0, .ref (ad 7)), (1, .int (nI b)), (2, .int (nI n)), (3, .int z2), (4, .int (nI t))]) C dX4_waysFrom_28 rfl (by decide) rfl rfl rfl ?_
        refine x_iinc (q := 32) (v := nI (t + 1)) (lv' := [(0, .ref (ad 7)), (1, .int (nI b)), (2, .int (nI n)), (3, .int z2), (4, .int (nI (t + 1)))]) C dX4_waysFrom_29 4 rfl (nI_add t 1) (by decide) rfl rfl rfl ?_
        refine x_goto (tgt := 5) C dX4_waysFrom_32 (by decide) ?_
        exact ih5 (t + 1) _ (by omega) (by rw [hz2, ha, show t + 1 - b = t - b + 1 by omega, sm, show b + (t - b) = t by omega]) (by omega)
  exact L5 _ b 0 ⟨Nat.le_refl _, hb⟩ (by rw [Nat.sub_self]; rfl) (Nat.lt_succ_self _)

set_option maxRecDepth 100000 in
set_option maxHeartbeats 4000000 in
theorem c_J7_fill_53178 (hD : ∀ P T, va_D A (wX ad cI cZ P T)) {P T : St} (x : Int32) : XMV l D (tyz cI cZ) (wX ad cI cZ) A yJ7_fill_53178 cJ7_fill_53178 4 none rmJ7_fill_53178 [.ref (ad 27), .int x] P T (fun P' T' => P' = P ∧ (∀ j, j ≠ 19 → T' j = T j) ∧ ∀ j, j < 2169 → T' 19 j = x) := by
  refine x_start_v (lv := [(0, .ref (ad 27)), (1, .int x)]) (own := RJ7) (by decide) rfl hD (Nat.le_of_ble_eq_true rfl) rfl ?_
  intro p e s m args below meth c C
  refine x_iconst (q := 1) (v := nI 0) C dJ7_fill_53178_0 (by decide) rfl ?_
  refine x_istore_n (q := 2) (lv' := [(0, .ref (ad 27)), (1, .int x), (2, .int (nI 0))]) C dJ7_fill_53178_1 rfl (by decide) rfl rfl rfl ?_
  refine x_aload_n (q := 3) C dJ7_fill_53178_2 rfl 0 rfl rfl ?_
  refine x_alen (q := 4) (cA := cI) (n := 2169) C 27 0 rfl rfl dJ7_fill_53178_3 rfl ?_
  refine x_istore_n (q := 5) (lv' := [(0, .ref (ad 27)), (1, .int x), (2, .int (nI 0)), (3, .int (nI 2169))]) C dJ7_fill_53178_4 rfl (by decide) rfl rfl rfl ?_
  have L5 : ∀ (f1 : Nat) (k : Nat) (Tq : St), (k ≤ 2169) → (∀ j, j ≠ 19 → Tq j = T j) → (∀ j, j < k → Tq 19 j = x) → 2169 - k < f1 → XW p l e rmJ7_fill_53178 s m args below meth c D (wX ad cI cZ) A 4 (MQ below (XPV D (tyz cI cZ) (wX ad cI cZ) A (fun P' T' => P' = P ∧ (∀ j, j ≠ 19 → T' j = T j) ∧ ∀ j, j < 2169 → T' 19 j = x)) args s 0 0 A) 5 [(0, .ref (ad 27)), (1, .int x), (2, .int (nI k)), (3, .int (nI 2169))] [] P Tq := by
    intro f1
    induction f1 with
    | zero => intro k Tq hk hT hF hm; exact absurd hm (Nat.not_lt_zero _)
    | succ f1 ih5 =>
      intro k Tq hk hT hF hm5
      refine x_iload_n (q := 6) C dJ7_fill_53178_5 rfl 2 rfl rfl ?_
      refine x_iload_n (q := 7) C dJ7_fill_53178_6 rfl 3 rfl rfl ?_
      refine x_icmp_ge_n (q := 10) (tgt := 20) C dJ7_fill_53178_7 (by omega) (by omega) (by decide) rfl (fun c7 => ?_) (fun c7 => ?_)
      · exact x_vret C dJ7_fill_53178_20 ⟨rfl, hT, fun j hj => hF j (by omega)⟩
      · refine x_aload_n (q := 11) C dJ7_fill_53178_10 rfl 0 rfl rfl ?_
        refine x_iload_n (q := 12) C dJ7_fill_53178_11 rfl 2 rfl rfl ?_
        refine x_iload_n (q := 13) C dJ7_fill_53178_12 rfl 1 rfl rfl ?_
        refine xs_X27 (q := 14) C (by omega) dJ7_fill_53178_13 rfl ?_
        refine x_iinc (q := 17) (v := nI (k + 1)) (lv' := [(0, .ref (ad 27)), (1, .int x), (2, .int (nI (k + 1))), (3, .int (nI 2169))]) C dJ7_fill_53178_14 2 rfl (nI_add k 1) (by decide) rfl rfl rfl ?_
        refine x_goto (tgt := 5) C dJ7_fill_53178_17 (by decide) ?_
        exact ih5 (k + 1) _ (by omega) (fun j h => by rw [st1_ne h]; exact hT j h) (lt_s (fun j hj => by rw [st1_no (by omega)]; exact hF j hj) st1_at) (by omega)
  exact L5 _ 0 _ (Nat.zero_le _) (fun _ _ => rfl) (fun j hj => absurd hj (Nat.not_lt_zero j)) (Nat.lt_succ_self _)

set_option maxRecDepth 100000 in
set_option maxHeartbeats 4000000 in
theorem c_X4_spreadWays (hD : ∀ P T, va_D A (wX ad cI cZ P T)) {P T : St} (L : List Int32) (hL : rdg T L) (h16 : L.length ≤ 16) (most : Nat) (hm : most ≤ 8) : XMV l D (tyz cI cZ) (wX ad cI cZ) A yX4_spreadWays cX4_spreadWays 6 none rmX4_spreadWays [.ref (ad 7), .int (nI most)] P T (fun P' T' => P' = P ∧ (∀ j, j ≠ 19 → T' j = T j) ∧ ∀ n k, n ≤ most → k < 241 → T' 19 (n * 241 + k) = dpf (rk L) L.length n k) := by
  refine x_start_v (lv := [(0, .ref (ad 7)), (1, .int (nI most))]) (own := RX4) (by decide) rfl hD (Nat.le_of_ble_eq_true rfl) rfl ?_
  intro p e s m args below meth c C
  refine x_aload_n (q := 1) C dX4_spreadWays_0 rfl 0 rfl rfl ?_
  refine xg_X4_ways (q := 4) C tfl_X4_25 dX4_spreadWays_1 rfl ?_
  refine x_iconst (q := 5) (v := nI 0) C dX4_spreadWays_4 (by decide) rfl ?_
  refine x_Sv (q := 8) (As := [.ref (ad 27), .int (nI 0)]) (rest := []) C (c_J7_fill_53178 hD (nI 0)) xs_J7_fill_53178 tst_J7_fill_53178 tml_X4_56 (by decide) rfl rfl (Nat.le_of_ble_eq_true rfl) dX4_spreadWays_5 rfl (fun Pz T5 hg => ?_)
  obtain ⟨hPz, hT5, hF5⟩ := hg
  rw [hPz]; clear hPz Pz
  refine x_aload_n (q := 9) C dX4_spreadWays_8 rfl 0 rfl rfl ?_
  refine xg_X4_ways (q := 12) C tfl_X4_25 dX4_spreadWays_9 rfl ?_
  refine x_iconst (q := 13) (v := nI 0) C dX4_spreadWays_12 (by decide) rfl ?_
  refine x_iconst (q := 14) (v := nI 1) C dX4_spreadWays_13 (by decide) rfl ?_
  refine xs_X27 (q := 15) C (by omega) dX4_spreadWays_14 rfl ?_
  refine x_iconst (q := 16) (v := nI 0) C dX4_spreadWays_15 (by decide) rfl ?_
  refine x_istore_n (q := 17) (lv' := [(0, .ref (ad 7)), (1, .int (nI most)), (2, .int (nI 0))]) C dX4_spreadWays_16 rfl (by decide) rfl rfl rfl ?_
  have L17 : ∀ (f4 : Nat) (i : Nat) (Tq : St), (i ≤ L.length) → (∀ j, j ≠ 19 → Tq j = T j) → (∀ n k, n ≤ most → k < 241 → Tq 19 (n * 241 + k) = dpf (rk L) i n k) → L.length - i < f4 → XW p l e rmX4_spreadWays s m args below meth c D (wX ad cI cZ) A 6 (MQ below (XPV D (tyz cI cZ) (wX ad cI cZ) A (fun P' T' => P' = P ∧ (∀ j, j ≠ 19 → T' j = T j) ∧ ∀ n k, n ≤ most → k < 241 → T' 19 (n * 241 + k) = dpf (rk L) L.length n k)) args s 0 0 A) 17 [(0, .ref (ad 7)), (1, .int (nI most)), (2, .int (nI i))] [] P Tq := by
    intro f4
    induction f4 with
    | zero => intro i Tq hi hT hw hm; exact absurd hm (Nat.not_lt_zero _)
    | succ f4 ih17 =>
      intro i Tq hi hT hw hm17
      refine x_iload_n (q := 18) C dX4_spreadWays_17 rfl 2 rfl rfl ?_
      refine x_aload_n (q := 19) C dX4_spreadWays_18 rfl 0 rfl rfl ?_
      refine xg_X4_many (q := 22) C tfl_X4_11 dX4_spreadWays_19 rfl ?_
      refine x_topn (L.length) (by rw [hT 28 (by decide)]; exact hL.1) ?_
      refine x_icmp_ge_n (q := 25) (tgt := 107) C dX4_spreadWays_22 (by omega) (by omega) (by decide) rfl (fun c22 => ?_) (fun c22 => ?_)
      · exact x_vret C dX4_spreadWays_107 ⟨rfl, hT, by rw [show L.length = i by omega]; exact hw⟩
      · refine x_aload_n (q := 26) C dX4_spreadWays_25 rfl 0 rfl rfl ?_
        refine x_iload_n (q := 27) C dX4_spreadWays_26 rfl 2 rfl rfl ?_
        refine x_Vf (q := 30) (As := [.int (nI i)]) (rest := []) C (c_X4_rankAt hD L (rdg_keep hL (hT 28 (by decide)) (hT 18 (by decide))) h16 i (by omega)) xs_X4_rankAt tim_X4_rankAt tsel_X4_rankAt tml_X4_32 (by decide) 7 rfl (ci := 4) rfl rfl rfl (Nat.le_of_ble_eq_true rfl) dX4_spreadWays_27 rfl ?_
        refine x_istore_n (q := 31) (lv' := [(0, .ref (ad 7)), (1, .int (nI most)), (2, .int (nI i)), (3, .int (nI (rk L i)))]) C dX4_spreadWays_30 rfl (by decide) rfl rfl rfl ?_
        have hr30 := rk_30 h16 (show i < L.length by omega)
        refine x_iload_n (q := 32) C dX4_spreadWays_31 rfl 1 rfl rfl ?_
        refine x_iconst (q := 33) (v := nI 1) C dX4_spreadWays_32 (by decide) rfl ?_
        refine x_isub (q := 34) C dX4_spreadWays_33 rfl ?_
        refine x_istore (q := 36) (lv' := [(0, .ref (ad 7)), (1, .int (nI most)), (2, .int (nI i)), (3, .int (nI (rk L i))), (4, .int ((nI most) - (nI 1)))]) C dX4_spreadWays_34 (by decide) rfl rfl rfl ?_
        have L36 : ∀ (f5 : Nat) (nn : Nat) (Tr : St), (nn ≤ most) → (∀ j, j ≠ 19 → Tr j = T j) → (wyo (Tr 19) (rk L) i most nn 0) → nn < f5 → XW p l e rmX4_spreadWays s m args below meth c D (wX ad cI cZ) A 6 (MQ below (XPV D (tyz cI cZ) (wX ad cI cZ) A (fun P' T' => P' = P ∧ (∀ j, j ≠ 19 → T' j = T j) ∧ ∀ n k, n ≤ most → k < 241 → T' 19 (n * 241 + k) = dpf (rk L) L.length n k)) args s 0 0 A) 36 [(0, .ref (ad 7)), (1, .int (nI most)), (2, .int (nI i)), (3, .int (nI (rk L i))), (4, .int (nI nn - nI 1))] [] P Tr := by
          intro f5
          induction f5 with
          | zero => intro nn Tr hnn hT2 hw2 hm; exact absurd hm (Nat.not_lt_zero _)
          | succ f5 ih36 =>
            intro nn Tr hnn hT2 hw2 hm36
            refine x_iload (q := 38) C dX4_spreadWays_36 4 rfl rfl ?_
            refine x_if_lt (q := 41) (tgt := 101) C dX4_spreadWays_38 (by decide) rfl (fun c38 => ?_) (fun c38 => ?_)
            · replace c38 := (nI_m1lt (by omega)).mp c38
              refine x_iinc (q := 104) (v := nI (i + 1)) (lv' := [(0, .ref (ad 7)), (1, .int (nI most)), (2, .int (nI (i + 1))), (3, .int (nI (rk L i))), (4, .int (nI nn - nI 1))]) C dX4_spreadWays_101 2 rfl (nI_add i 1) (by decide) rfl rfl rfl ?_
              refine x_goto (tgt := 17) C dX4_spreadWays_104 (by decide) ?_
              refine x_lv [0, 1, 2] rfl ?_
              exact ih17 (i + 1) _ (by omega) hT2 (wyo_next (by rw [show nn = 0 from c38] at hw2; exact hw2)) (by omega)
            · have hn0 : 0 < nn := Nat.pos_of_ne_zero (fun h => c38 ((nI_m1lt (by omega)).mpr h))
              rw [nI_m1 (show 1 ≤ nn by omega)]
              refine x_iconst (q := 42) (v := nI 0) C dX4_spreadWays_41 (by decide) rfl ?_
              refine x_istore (q := 44) (lv' := [(0, .ref (ad 7)), (1, .int (nI most)), (2, .int (nI i)), (3, .int (nI (rk L i))), (4, .int (nI (nn - 1))), (5, .int (nI 0))]) C dX4_spreadWays_42 (by decide) rfl rfl rfl ?_
              have L44 : ∀ (f6 : Nat) (t : Nat) (Tt : St), (t ≤ 241) → (∀ j, j ≠ 19 → Tt j = T j) → (wyo (Tt 19) (rk L) i most nn t) → 241 - t < f6 → XW p l e rmX4_spreadWays s m args below meth c D (wX ad cI cZ) A 6 (MQ below (XPV D (tyz cI cZ) (wX ad cI cZ) A (fun P' T' => P' = P ∧ (∀ j, j ≠ 19 → T' j = T j) ∧ ∀ n k, n ≤ most → k < 241 → T' 19 (n * 241 + k) = dpf (rk L) L.length n k)) args s 0 0 A) 44 [(0, .ref (ad 7)), (1, .int (nI most)), (2, .int (nI i)), (3, .int (nI (rk L i))), (4, .int (nI (nn - 1))), (5, .int (nI t))] [] P Tt := by
                intro f6
                induction f6 with
                | zero => intro t Tt h241 hT3 hw3 hm; exact absurd hm (Nat.not_lt_zero _)
                | succ f6 ih44 =>
                  intro t Tt h241 hT3 hw3 hm44
                  refine x_iload (q := 46) C dX4_spreadWays_44 5 rfl rfl ?_
                  refine x_iload_n (q := 47) C dX4_spreadWays_46 rfl 3 rfl rfl ?_
                  refine x_iadd_n (q := 48) C dX4_spreadWays_47 rfl ?_
                  refine x_sipush (q := 51) (v := nI 241) C dX4_spreadWays_48 (by decide) rfl ?_
                  refine x_icmp_ge_n (q := 54) (tgt := 95) C dX4_spreadWays_51 (by omega) (by omega) (by decide) rfl (fun c51 => ?_) (fun c51 => ?_)
                  · refine x_iinc (q := 98) (v := nI (nn - 1) - nI 1) (lv' := [(0, .ref (ad 7)), (1, .int (nI most)), (2, .int (nI i)), (3, .int (nI (rk L i))), (4, .int (nI (nn - 1) - nI 1)), (5, .int (nI t))]) C dX4_spreadWays_95 4 rfl (by rw [Int32.sub_eq_add_neg]; rfl) (by decide) rfl rfl rfl ?_
                    refine x_goto (tgt := 36) C dX4_spreadWays_98 (by decide) ?_
                    refine x_lv [0, 1, 2, 3, 4] rfl ?_
                    exact ih36 (nn - 1) _ (by omega) hT3 (wyo_row hw3 (by omega) (by omega)) (by omega)
                  · refine x_aload_n (q := 55) C dX4_spreadWays_54 rfl 0 rfl rfl ?_
                    refine xg_X4_ways (q := 58) C tfl_X4_25 dX4_spreadWays_55 rfl ?_
                    refine x_iload (q := 60) C dX4_spreadWays_58 4 rfl rfl ?_
                    refine x_iconst (q := 61) (v := nI 1) C dX4_spreadWays_60 (by decide) rfl ?_
                    refine x_iadd_n (q := 62) C dX4_spreadWays_61 rfl ?_
                    refine x_sipush (q := 65) (v := nI 241) C dX4_spreadWays_62 (by decide) rfl ?_
                    refine x_imul_n (q := 66) C dX4_spreadWays_65 rfl ?_
                    refine x_iload (q := 68) C dX4_spreadWays_66 5 rfl rfl ?_
                    refine x_iadd_n (q := 69) C dX4_spreadWays_68 rfl ?_
                    refine x_iload_n (q := 70) C dX4_spreadWays_69 rfl 3 rfl rfl ?_
                    refine x_iadd_n (q := 71) C dX4_spreadWays_70 rfl ?_
                    refine x_dup2 (q := 72) C dX4_spreadWays_71 rfl rfl rfl ?_
                    refine xa_X27 (q := 73) C (by omega) dX4_spreadWays_72 rfl ?_
                    refine x_aload_n (q := 74) C dX4_spreadWays_73 rfl 0 rfl rfl ?_
                    refine xg_X4_ways (q := 77) C tfl_X4_25 dX4_spreadWays_74 rfl ?_
                    refine x_iload (q := 79) C dX4_spreadWays_77 4 rfl rfl ?_
                    refine x_sipush (q := 82) (v := nI 241) C dX4_spreadWays_79 (by decide) rfl ?_
                    refine x_imul_n (q := 83) C dX4_spreadWays_82 rfl ?_
                    refine x_iload (q := 85) C dX4_spreadWays_83 5 rfl rfl ?_
                    refine x_iadd_n (q := 86) C dX4_spreadWays_85 rfl ?_
                    refine xa_X27 (q := 87) C (by omega) dX4_spreadWays_86 rfl ?_
                    refine x_iadd (q := 88) C dX4_spreadWays_87 rfl ?_
                    refine xs_X27 (q := 89) C (by omega) dX4_spreadWays_88 rfl ?_
                    refine x_iinc (q := 92) (v := nI (t + 1)) (lv' := [(0, .ref (ad 7)), (1, .int (nI most)), (2, .int (nI i)), (3, .int (nI (rk L i))), (4, .int (nI (nn - 1))), (5, .int (nI (t + 1)))]) C dX4_spreadWays_89 5 rfl (nI_add t 1) (by decide) rfl rfl rfl ?_
                    refine x_goto (tgt := 44) C dX4_spreadWays_92 (by decide) ?_
                    exact ih44 (t + 1) _ (by omega) (fun j h => by rw [st1_ne h]; exact hT3 j h) (by rw [st1_eq]; have e := wyo_step hw3 (by omega) hnn (by omega); rw [show nn - 1 + 1 = nn by omega]; exact e) (by omega)
              exact L44 _ 0 _ (Nat.zero_le _) hT2 hw2 (Nat.lt_succ_self _)
        exact L36 _ most _ (Nat.le_refl _) hT (wyo_begin hw) (Nat.lt_succ_self _)
  exact L17 _ 0 _ (Nat.zero_le _) (fun j h => by rw [st1_ne h]; exact hT5 j h) (fun n k h1 h2 => ways0 hF5 (by omega) h2) (Nat.lt_succ_self _)

set_option maxRecDepth 100000 in
set_option maxHeartbeats 4000000 in
theorem c_X4_compare (hD : ∀ P T, va_D A (wX ad cI cZ P T)) {P T : St} (ok : okX P) (x y : Nat) (hx : x < 2 ^ 31) (hy : y < 2 ^ 31) : XMV l D (tyz cI cZ) (wX ad cI cZ) A yX4_compare cX4_compare 7 none rmX4_compare [.ref (ad 7), .int (nI x), .int (nI y), .ref (ad 4)] P T (fun P' T' => P' = P ∧ T' 29 0 = cwX P x y ∧ T' 30 0 = awX P x y) := by
  have okc := ok.1
  have hk6 := okc_kn6 okc
  have hS144 := okc_S144 okc
  have hS1 := okc_S1 okc
  have hnr := okc_nr12 okc
  have hnt := okc_nt60 okc
  have hnz := okc_nz50 okc
  have hsd := okc_sdb okc
  have hx8 := rl_8 P x (nt P)
  have hy8 := rl_8 P y (nt P)
  have hll := rdl_len P x y
  have hl16 : (rdl P x y).length ≤ 16 := by omega
  have hdue := due_240 P x y
  refine x_start_v (lv := [(0, .ref (ad 7)), (1, .int (nI x)), (2, .int (nI y)), (3, .ref (ad 4))]) (own := RX4) (by decide) rfl hD (Nat.le_of_ble_eq_true rfl) rfl ?_
  intro p e s m args below meth c C
  refine x_aload_n (q := 1) C dX4_compare_0 rfl 0 rfl rfl ?_
  refine x_iconst (q := 2) (v := nI 0) C dX4_compare_1 (by decide) rfl ?_
  refine xp_X4_many (q := 5) C tfl_X4_11 dX4_compare_2 rfl ?_
  refine x_aload_n (q := 6) C dX4_compare_5 rfl 0 rfl rfl ?_
  refine x_iload_n (q := 7) C dX4_compare_6 rfl 1 rfl rfl ?_
  refine x_aload_n (q := 8) C dX4_compare_7 rfl 3 rfl rfl ?_
  refine x_Vv (q := 11) (As := [.int (nI x), .ref (ad 4)]) (rest := []) C (c_X4_gather hD ok x (by omega) [] ⟨st1_at, fun i hi => absurd hi (Nat.not_lt_zero i)⟩ (Nat.zero_le _)) xs_X4_gather tim_X4_gather tsel_X4_gather tml_X4_28 (by decide) 7 rfl (ci := 4) rfl rfl rfl (Nat.le_of_ble_eq_true rfl) dX4_compare_8 rfl (fun Pz T8 hg => ?_)
  obtain ⟨hPz, hT8, hG8⟩ := hg
  rw [hPz]; clear hPz Pz
  rw [List.nil_append] at hG8
  refine x_aload_n (q := 12) C dX4_compare_11 rfl 0 rfl rfl ?_
  refine xg_X4_many (q := 15) C tfl_X4_11 dX4_compare_12 rfl ?_
  refine x_topn ((rl P x (nt P)).length) hG8.1 ?_
  refine x_istore (q := 17) (lv' := [(0, .ref (ad 7)), (1, .int (nI x)), (2, .int (nI y)), (3, .ref (ad 4)), (4, .int (nI ((rl P x (nt P)).length)))]) C dX4_compare_15 (by decide) rfl rfl rfl ?_
  refine x_aload_n (q := 18) C dX4_compare_17 rfl 0 rfl rfl ?_
  refine x_iload_n (q := 19) C dX4_compare_18 rfl 2 rfl rfl ?_
  refine x_aload_n (q := 20) C dX4_compare_19 rfl 3 rfl rfl ?_
  refine x_Vv (q := 23) (As := [.int (nI y), .ref (ad 4)]) (rest := []) C (c_X4_gather hD ok y (by omega) _ hG8 hx8) xs_X4_gather tim_X4_gather tsel_X4_gather tml_X4_28 (by decide) 7 rfl (ci := 4) rfl rfl rfl (Nat.le_of_ble_eq_true rfl) dX4_compare_20 rfl (fun Pz T20 hg => ?_)
  obtain ⟨hPz, hT20, hG20⟩ := hg
  rw [hPz]; clear hPz Pz
  replace hG20 : rdg T20 (rdl P x y) := hG20
  refine x_iconst (q := 24) (v := nI 0) C dX4_compare_23 (by decide) rfl ?_
  refine x_istore (q := 26) (lv' := [(0, .ref (ad 7)), (1, .int (nI x)), (2, .int (nI y)), (3, .ref (ad 4)), (4, .int (nI ((rl P x (nt P)).length))), (5, .int (nI 0))]) C dX4_compare_24 (by decide) rfl rfl rfl ?_
  refine x_iload (q := 28) C dX4_compare_26 4 rfl rfl ?_
  refine x_istore (q := 30) (lv' := [(0, .ref (ad 7)), (1, .int (nI x)), (2, .int (nI y)), (3, .ref (ad 4)), (4, .int (nI ((rl P x (nt P)).length))), (5, .int (nI 0)), (6, .int (nI ((rl P x (nt P)).length)))]) C dX4_compare_28 (by decide) rfl rfl rfl ?_
  have L30 : ∀ (f7 : Nat) (j : Nat) (d : Nat), ((rl P x (nt P)).length ≤ j ∧ j ≤ (rdl P x y).length) → (d = fb_sm (fun k => rk (rdl P x y) ((rl P x (nt P)).length + k)) (j - (rl P x (nt P)).length)) → (rdl P x y).length - j < f7 → XW p l e rmX4_compare s m args below meth c D (wX ad cI cZ) A 7 (MQ below (XPV D (tyz cI cZ) (wX ad cI cZ) A (fun P' T' => P' = P ∧ T' 29 0 = cwX P x y ∧ T' 30 0 = awX P x y)) args s 0 0 A) 30 [(0, .ref (ad 7)), (1, .int (nI x)), (2, .int (nI y)), (3, .ref (ad 4)), (4, .int (nI ((rl P x (nt P)).length))), (5, .int (nI d)), (6, .int (nI j))] [] P T20 := by
    intro f7
    induction f7 with
    | zero => intro j d hj hd hm; exact absurd hm (Nat.not_lt_zero _)
    | succ f7 ih30 =>
      intro j d hj hd hm30
      refine x_iload (q := 32) C dX4_compare_30 6 rfl rfl ?_
      refine x_aload_n (q := 33) C dX4_compare_32 rfl 0 rfl rfl ?_
      refine xg_X4_many (q := 36) C tfl_X4_11 dX4_compare_33 rfl ?_
      refine x_topn ((rdl P x y).length) hG20.1 ?_
      refine x_icmp_ge_n (q := 39) (tgt := 56) C dX4_compare_36 (by omega) (by omega) (by decide) rfl (fun c36 => ?_) (fun c36 => ?_)
      · obtain rfl : d = dueX P x y := by rw [hd, show j - (rl P x (nt P)).length = (rl P y (nt P)).length by omega]; rfl
        refine x_aload_n (q := 57) C dX4_compare_56 rfl 0 rfl rfl ?_
        refine xg_X4_many (q := 60) C tfl_X4_11 dX4_compare_57 rfl ?_
        refine x_topn ((rdl P x y).length) hG20.1 ?_
        refine x_iload (q := 62) C dX4_compare_60 4 rfl rfl ?_
        refine x_isub_n (q := 63) C dX4_compare_62 (by omega) rfl ?_
        refine x_topn ((rl P y (nt P)).length) (by rw [hll, Nat.add_sub_cancel_left]) ?_
        refine x_istore (q := 65) (lv' := [(0, .ref (ad 7)), (1, .int (nI x)), (2, .int (nI y)), (3, .ref (ad 4)), (4, .int (nI ((rl P x (nt P)).length))), (5, .int (nI (dueX P x y))), (6, .int (nI ((rl P y (nt P)).length)))]) C dX4_compare_63 (by decide) rfl rfl rfl ?_
        refine x_aload_n (q := 66) C dX4_compare_65 rfl 0 rfl rfl ?_
        refine x_iload (q := 68) C dX4_compare_66 6 rfl rfl ?_
        refine x_Vv (q := 71) (As := [.int (nI ((rl P y (nt P)).length))]) (rest := []) C (c_X4_spreadWays hD (rdl P x y) hG20 hl16 ((rl P y (nt P)).length) (by omega)) xs_X4_spreadWays tim_X4_spreadWays tsel_X4_spreadWays tml_X4_36 (by decide) 7 rfl (ci := 4) rfl rfl rfl (Nat.le_of_ble_eq_true rfl) dX4_compare_68 rfl (fun Pz T68 hg => ?_)
        obtain ⟨hPz, hT68, hS68⟩ := hg
        rw [hPz]; clear hPz Pz
        refine x_aload_n (q := 72) C dX4_compare_71 rfl 0 rfl rfl ?_
        refine x_aload_n (q := 73) C dX4_compare_72 rfl 0 rfl rfl ?_
        refine x_iload (q := 75) C dX4_compare_73 5 rfl rfl ?_
        refine x_iload (q := 77) C dX4_compare_75 6 rfl rfl ?_
        refine x_Vf (q := 80) (As := [.int (nI (dueX P x y)), .int (nI ((rl P y (nt P)).length))]) (rest := [.ref (ad 7)]) C (c_X4_waysFrom hD (dueX P x y) ((rl P y (nt P)).length) (by omega) (by omega)) xs_X4_waysFrom tim_X4_waysFrom tsel_X4_waysFrom tml_X4_40 (by decide) 7 rfl (ci := 4) rfl rfl rfl (Nat.le_of_ble_eq_true rfl) dX4_compare_77 rfl ?_
        refine xp_X4_counting (q := 83) C tfl_X4_15 dX4_compare_80 rfl ?_
        refine x_aload_n (q := 84) C dX4_compare_83 rfl 0 rfl rfl ?_
        refine x_aload_n (q := 85) C dX4_compare_84 rfl 0 rfl rfl ?_
        refine x_iconst (q := 86) (v := nI 0) C dX4_compare_85 (by decide) rfl ?_
        refine x_iload (q := 88) C dX4_compare_86 6 rfl rfl ?_
        refine x_Vf (q := 91) (As := [.int (nI 0), .int (nI ((rl P y (nt P)).length))]) (rest := [.ref (ad 7)]) C (c_X4_waysFrom hD 0 ((rl P y (nt P)).length) (by omega) (by omega)) xs_X4_waysFrom tim_X4_waysFrom tsel_X4_waysFrom tml_X4_40 (by decide) 7 rfl (ci := 4) rfl rfl rfl (Nat.le_of_ble_eq_true rfl) dX4_compare_88 rfl ?_
        refine xp_X4_all (q := 94) C tfl_X4_18 dX4_compare_91 rfl ?_
        exact x_vret C dX4_compare_94 ⟨rfl, by rw [st1_ne (by decide), st1_at]; exact sfr_congr (fun k hk => hS68 _ k (Nat.le_refl _) hk), by rw [st1_at]; exact sfr_congr (fun k hk => hS68 _ k (Nat.le_refl _) hk)⟩
      · refine x_iload (q := 41) C dX4_compare_39 5 rfl rfl ?_
        refine x_aload_n (q := 42) C dX4_compare_41 rfl 0 rfl rfl ?_
        refine x_iload (q := 44) C dX4_compare_42 6 rfl rfl ?_
        refine x_Vf (q := 47) (As := [.int (nI j)]) (rest := [.int (nI d)]) C (c_X4_rankAt hD (rdl P x y) hG20 hl16 j (by omega)) xs_X4_rankAt tim_X4_rankAt tsel_X4_rankAt tml_X4_32 (by decide) 7 rfl (ci := 4) rfl rfl rfl (Nat.le_of_ble_eq_true rfl) dX4_compare_44 rfl ?_
        refine x_iadd_n (q := 48) C dX4_compare_47 rfl ?_
        refine x_namen (fun n11 hn11 => ?_)
        refine x_istore (q := 50) (lv' := [(0, .ref (ad 7)), (1, .int (nI x)), (2, .int (nI y)), (3, .ref (ad 4)), (4, .int (nI ((rl P x (nt P)).length))), (5, .int (nI n11)), (6, .int (nI j))]) C dX4_compare_48 (by decide) rfl rfl rfl ?_
        refine x_iinc (q := 53) (v := nI (j + 1)) (lv' := [(0, .ref (ad 7)), (1, .int (nI x)), (2, .int (nI y)), (3, .ref (ad 4)), (4, .int (nI ((rl P x (nt P)).length))), (5, .int (nI n11)), (6, .int (nI (j + 1)))]) C dX4_compare_50 6 rfl (nI_add j 1) (by decide) rfl rfl rfl ?_
        refine x_goto (tgt := 30) C dX4_compare_53 (by decide) ?_
        exact ih30 (j + 1) n11 (by omega) (by rw [hn11, hd, show j + 1 - (rl P x (nt P)).length = j - (rl P x (nt P)).length + 1 by omega, fb_sm, show (rl P x (nt P)).length + (j - (rl P x (nt P)).length) = j by omega]) (by omega)
  exact L30 _ (rl P x (nt P)).length 0 ⟨Nat.le_refl _, by omega⟩ (by rw [Nat.sub_self]; rfl) (Nat.lt_succ_self _)

end RANKS
