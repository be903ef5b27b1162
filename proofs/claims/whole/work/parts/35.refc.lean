section REFC
variable {l : Launch} {D : va_G} {ad : Nat → Nat} {cI cZ : ClassId} {A : Nat → Prop}

set_option maxRecDepth 100000 in
set_option maxHeartbeats 4000000 in
theorem c_X8_topFloor (hD : ∀ P T, va_D A (wN ad cI cZ P T)) {P T : St} (ok : okN P) : XMI l D (tyz cI cZ) (wN ad cI cZ) A yX8_topFloor cX8_topFloor 4 (some .int) rmX8_topFloor [.ref (ad 0)] P T (fun r P' T' => r = tfz P (nS P) ∧ P' = P ∧ T' = T) := by
  have okc := okN_c ok
  have hk6 := okc_kn6 okc
  have hS144 := okc_S144 okc
  have hS1 := okc_S1 okc
  have hnr := okc_nr12 okc
  have hnt := okc_nt60 okc
  have hnz := okc_nz50 okc
  have hsd := okc_sdb okc
  have okk := okC_K okc
  refine x_start_i (lv := [(0, .ref (ad 0))]) (own := RX8) (by decide) rfl hD (Nat.le_of_ble_eq_true rfl) rfl ?_
  intro p e s m args below meth c C
  refine x_ldc (q := 2) C tk_X8_135 dX8_topFloor_0 rfl ?_
  refine x_istore_n (q := 3) (lv' := [(0, .ref (ad 0)), (1, .int ((-100000000)))]) C dX8_topFloor_2 rfl (by decide) rfl rfl rfl ?_
  refine x_iconst (q := 4) (v := nI 0) C dX8_topFloor_3 (by decide) rfl ?_
  refine x_istore_n (q := 5) (lv' := [(0, .ref (ad 0)), (1, .int ((-100000000))), (2, .int (nI 0))]) C dX8_topFloor_4 rfl (by decide) rfl rfl rfl ?_
  have L5 : ∀ (f1 : Nat) (x : Nat) (z : Int32), (x ≤ nS P) → (z = tfz P x) → nS P - x < f1 → XW p l e rmX8_topFloor s m args below meth c D (wN ad cI cZ) A 4 (MQ below (XPI D (tyz cI cZ) (wN ad cI cZ) A (fun r P' T' => r = tfz P (nS P) ∧ P' = P ∧ T' = T)) args s 0 0 A) 5 [(0, .ref (ad 0)), (1, .int z), (2, .int (nI x))] [] P T := by
    intro f1
    induction f1 with
    | zero => intro x z hx hz hm; exact absurd hm (Nat.not_lt_zero _)
    | succ f1 ih5 =>
      intro x z hx hz hm5
      refine x_iload_n (q := 6) C dX8_topFloor_5 rfl 2 rfl rfl ?_
      refine x_aload_n (q := 7) C dX8_topFloor_6 rfl 0 rfl rfl ?_
      refine xg_X8_settings (q := 10) C tfl_X8_7 dX8_topFloor_7 rfl ?_
      refine x_topn (nS P) (okc_S (P := P) okc) ?_
      refine x_icmp_ge_n (q := 13) (tgt := 48) C dX8_topFloor_10 (by omega) (by omega) (by decide) rfl (fun c10 => ?_) (fun c10 => ?_)
      · refine x_iload_n (q := 49) C dX8_topFloor_48 rfl 1 rfl rfl ?_
        exact x_iret C dX8_topFloor_49 ⟨by rw [hz, show x = nS P by omega], rfl, rfl⟩
      · refine x_aload_n (q := 14) C dX8_topFloor_13 rfl 0 rfl rfl ?_
        refine x_iload_n (q := 15) C dX8_topFloor_14 rfl 2 rfl rfl ?_
        refine x_Vf (q := 18) (As := [.int (nI x)]) (rest := []) C (c_X8_isAllowed hD ok x (by omega)) xs_X8_isAllowed tim_X8_isAllowed tsel_X8_isAllowed tml_X8_105 (by decide) 0 rfl (ci := 8) rfl rfl rfl (Nat.le_of_ble_eq_true rfl) dX8_topFloor_15 rfl ?_
        refine x_if_eq_b (q := 21) (tgt := 29) C dX8_topFloor_18 (by decide) rfl (fun c18 => ?_) (fun c18 => ?_)
        · refine x_iload_n (q := 30) C dX8_topFloor_29 rfl 1 rfl rfl ?_
          refine x_istore_n (q := 31) (lv' := [(0, .ref (ad 0)), (1, .int z), (2, .int (nI x)), (3, .int z)]) C dX8_topFloor_30 rfl (by decide) rfl rfl rfl ?_
          refine x_iload_n (q := 32) C dX8_topFloor_31 rfl 3 rfl rfl ?_
          refine x_iload_n (q := 33) C dX8_topFloor_32 rfl 1 rfl rfl ?_
          refine x_icmp_le (q := 36) (tgt := 40) C dX8_topFloor_33 (by decide) rfl (fun c33 => ?_) (fun c33 => ?_)
          · refine x_iload_n (q := 41) C dX8_topFloor_40 rfl 1 rfl rfl ?_
            refine x_istore_n (q := 42) (lv' := [(0, .ref (ad 0)), (1, .int z), (2, .int (nI x)), (3, .int z)]) C dX8_topFloor_41 rfl (by decide) rfl rfl rfl ?_
            refine x_iinc (q := 45) (v := nI (x + 1)) (lv' := [(0, .ref (ad 0)), (1, .int z), (2, .int (nI (x + 1))), (3, .int z)]) C dX8_topFloor_42 2 rfl (nI_add x 1) (by decide) rfl rfl rfl ?_
            refine x_goto (tgt := 5) C dX8_topFloor_45 (by decide) ?_
            refine x_lv [0, 1, 2] rfl ?_
            exact ih5 (x + 1) z (by omega) (by first | (rw [tfz_n c18]; exact hz) | (rw [tfz_y c18, mx, ← hz, if_neg (Int32.not_lt.mpr c33)])) (by omega)
          · exact absurd (by rw [fa_le]; exact Int.le_refl _) c33
        · refine x_aload_n (q := 22) C dX8_topFloor_21 rfl 0 rfl rfl ?_
          refine x_iload_n (q := 23) C dX8_topFloor_22 rfl 2 rfl rfl ?_
          refine x_Vf (q := 26) (As := [.int (nI x)]) (rest := []) C (c_X8_floor hD ok x (by omega)) xs_X8_floor tim_X8_floor tsel_X8_floor tml_X8_129 (by decide) 0 rfl (ci := 8) rfl rfl rfl (Nat.le_of_ble_eq_true rfl) dX8_topFloor_23 rfl ?_
          refine x_goto (tgt := 30) C dX8_topFloor_26 (by decide) ?_
          refine x_istore_n (q := 31) (lv' := [(0, .ref (ad 0)), (1, .int z), (2, .int (nI x)), (3, .int (flX P x (nt P)))]) C dX8_topFloor_30 rfl (by decide) rfl rfl rfl ?_
          refine x_iload_n (q := 32) C dX8_topFloor_31 rfl 3 rfl rfl ?_
          refine x_iload_n (q := 33) C dX8_topFloor_32 rfl 1 rfl rfl ?_
          refine x_icmp_le (q := 36) (tgt := 40) C dX8_topFloor_33 (by decide) rfl (fun c33 => ?_) (fun c33 => ?_)
          · refine x_iload_n (q := 41) C dX8_topFloor_40 rfl 1 rfl rfl ?_
            refine x_istore_n (q := 42) (lv' := [(0, .ref (ad 0)), (1, .int z), (2, .int (nI x)), (3, .int (flX P x (nt P)))]) C dX8_topFloor_41 rfl (by decide) rfl rfl rfl ?_
            refine x_iinc (q := 45) (v := nI (x + 1)) (lv' := [(0, .ref (ad 0)), (1, .int z), (2, .int (nI (x + 1))), (3, .int (flX P x (nt P)))]) C dX8_topFloor_42 2 rfl (nI_add x 1) (by decide) rfl rfl rfl ?_
            refine x_goto (tgt := 5) C dX8_topFloor_45 (by decide) ?_
            refine x_lv [0, 1, 2] rfl ?_
            exact ih5 (x + 1) z (by omega) (by first | (rw [tfz_n c18]; exact hz) | (rw [tfz_y c18, mx, ← hz, if_neg (Int32.not_lt.mpr c33)])) (by omega)
          · refine x_iload_n (q := 37) C dX8_topFloor_36 rfl 3 rfl rfl ?_
            refine x_goto (tgt := 41) C dX8_topFloor_37 (by decide) ?_
            refine x_istore_n (q := 42) (lv' := [(0, .ref (ad 0)), (1, .int (flX P x (nt P))), (2, .int (nI x)), (3, .int (flX P x (nt P)))]) C dX8_topFloor_41 rfl (by decide) rfl rfl rfl ?_
            refine x_iinc (q := 45) (v := nI (x + 1)) (lv' := [(0, .ref (ad 0)), (1, .int (flX P x (nt P))), (2, .int (nI (x + 1))), (3, .int (flX P x (nt P)))]) C dX8_topFloor_42 2 rfl (nI_add x 1) (by decide) rfl rfl rfl ?_
            refine x_goto (tgt := 5) C dX8_topFloor_45 (by decide) ?_
            refine x_lv [0, 1, 2] rfl ?_
            exact ih5 (x + 1) (flX P x (nt P)) (by omega) (by rw [tfz_y c18, mx, ← hz, if_pos (fa_of_nle c33)]) (by omega)
  exact L5 _ 0 _ (Nat.zero_le _) rfl (Nat.lt_succ_self _)

set_option maxRecDepth 100000 in
set_option maxHeartbeats 4000000 in
theorem c_X8_leftMany (hD : ∀ P T, va_D A (wN ad cI cZ P T)) {P T : St} (ok : okN P) : XMI l D (tyz cI cZ) (wN ad cI cZ) A yX8_leftMany cX8_leftMany 4 (some .int) rmX8_leftMany [.ref (ad 0)] P T (fun r P' T' => r = nI (lmP (cX P)) ∧ P' = P ∧ T' = T) := by
  have okc := okN_c ok
  have hk6 := okc_kn6 okc
  have hS144 := okc_S144 okc
  have hS1 := okc_S1 okc
  have hnr := okc_nr12 okc
  have hnt := okc_nt60 okc
  have hnz := okc_nz50 okc
  have hsd := okc_sdb okc
  have okk := okC_K okc
  refine x_start_i (lv := [(0, .ref (ad 0))]) (own := RX8) (by decide) rfl hD (Nat.le_of_ble_eq_true rfl) rfl ?_
  intro p e s m args below meth c C
  refine x_aload_n (q := 1) C dX8_leftMany_0 rfl 0 rfl rfl ?_
  refine x_Vf (q := 4) (As := []) (rest := []) C (c_X8_topFloor hD ok ) xs_X8_topFloor tim_X8_topFloor tsel_X8_topFloor tml_X8_136 (by decide) 0 rfl (ci := 8) rfl rfl rfl (Nat.le_of_ble_eq_true rfl) dX8_leftMany_1 rfl ?_
  refine x_istore_n (q := 5) (lv' := [(0, .ref (ad 0)), (1, .int (tfz P (nS P)))]) C dX8_leftMany_4 rfl (by decide) rfl rfl rfl ?_
  refine x_iconst (q := 6) (v := nI 0) C dX8_leftMany_5 (by decide) rfl ?_
  refine x_istore_n (q := 7) (lv' := [(0, .ref (ad 0)), (1, .int (tfz P (nS P))), (2, .int (nI 0))]) C dX8_leftMany_6 rfl (by decide) rfl rfl rfl ?_
  refine x_iconst (q := 8) (v := nI 0) C dX8_leftMany_7 (by decide) rfl ?_
  refine x_istore_n (q := 9) (lv' := [(0, .ref (ad 0)), (1, .int (tfz P (nS P))), (2, .int (nI 0)), (3, .int (nI 0))]) C dX8_leftMany_8 rfl (by decide) rfl rfl rfl ?_
  have L9 : ∀ (f1 : Nat) (x : Nat) (n : Nat), (x ≤ nS P) → (n = cnz P (tfz P (nS P)) x) → nS P - x < f1 → XW p l e rmX8_leftMany s m args below meth c D (wN ad cI cZ) A 4 (MQ below (XPI D (tyz cI cZ) (wN ad cI cZ) A (fun r P' T' => r = nI (lmP (cX P)) ∧ P' = P ∧ T' = T)) args s 0 0 A) 9 [(0, .ref (ad 0)), (1, .int (tfz P (nS P))), (2, .int (nI n)), (3, .int (nI x))] [] P T := by
    intro f1
    induction f1 with
    | zero => intro x n hx hn hm; exact absurd hm (Nat.not_lt_zero _)
    | succ f1 ih9 =>
      intro x n hx hn hm9
      refine x_iload_n (q := 10) C dX8_leftMany_9 rfl 3 rfl rfl ?_
      refine x_aload_n (q := 11) C dX8_leftMany_10 rfl 0 rfl rfl ?_
      refine xg_X8_settings (q := 14) C tfl_X8_7 dX8_leftMany_11 rfl ?_
      refine x_topn (nS P) (okc_S (P := P) okc) ?_
      refine x_icmp_ge_n (q := 17) (tgt := 48) C dX8_leftMany_14 (by omega) (by omega) (by decide) rfl (fun c14 => ?_) (fun c14 => ?_)
      · refine x_iload_n (q := 49) C dX8_leftMany_48 rfl 2 rfl rfl ?_
        exact x_iret C dX8_leftMany_49 ⟨by rw [hn, show x = nS P by omega, cnz_e], rfl, rfl⟩
      · refine x_iload_n (q := 18) C dX8_leftMany_17 rfl 2 rfl rfl ?_
        refine x_aload_n (q := 19) C dX8_leftMany_18 rfl 0 rfl rfl ?_
        refine x_iload_n (q := 20) C dX8_leftMany_19 rfl 3 rfl rfl ?_
        refine x_Vf (q := 23) (As := [.int (nI x)]) (rest := [.int (nI n)]) C (c_X8_isAllowed hD ok x (by omega)) xs_X8_isAllowed tim_X8_isAllowed tsel_X8_isAllowed tml_X8_105 (by decide) 0 rfl (ci := 8) rfl rfl rfl (Nat.le_of_ble_eq_true rfl) dX8_leftMany_20 rfl ?_
        refine x_if_eq_b (q := 26) (tgt := 39) C dX8_leftMany_23 (by decide) rfl (fun c23 => ?_) (fun c23 => ?_)
        · refine x_iconst (q := 40) (v := nI 0) C dX8_leftMany_39 (by decide) rfl ?_
          refine x_iadd_n (q := 41) C dX8_leftMany_40 rfl ?_
          refine x_namen (fun n2 hn2 => ?_)
          refine x_istore_n (q := 42) (lv' := [(0, .ref (ad 0)), (1, .int (tfz P (nS P))), (2, .int (nI n2)), (3, .int (nI x))]) C dX8_leftMany_41 rfl (by decide) rfl rfl rfl ?_
          refine x_iinc (q := 45) (v := nI (x + 1)) (lv' := [(0, .ref (ad 0)), (1, .int (tfz P (nS P))), (2, .int (nI n2)), (3, .int (nI (x + 1)))]) C dX8_leftMany_42 3 rfl (nI_add x 1) (by decide) rfl rfl rfl ?_
          refine x_goto (tgt := 9) C dX8_leftMany_45 (by decide) ?_
          exact ih9 (x + 1) n2 (by omega) (by rw [hn2, hn]; first | (rw [cnz_n c23]; rfl) | (rw [cnz_y c23, if_neg (Int32.not_le.mpr c32)]) | (rw [cnz_y c23, if_pos (fa_of_nlt c32)])) (by omega)
        · refine x_aload_n (q := 27) C dX8_leftMany_26 rfl 0 rfl rfl ?_
          refine x_iload_n (q := 28) C dX8_leftMany_27 rfl 3 rfl rfl ?_
          refine x_Vf (q := 31) (As := [.int (nI x)]) (rest := [.int (nI n)]) C (c_X8_roof hD ok x (by omega)) xs_X8_roof tim_X8_roof tsel_X8_roof tml_X8_132 (by decide) 0 rfl (ci := 8) rfl rfl rfl (Nat.le_of_ble_eq_true rfl) dX8_leftMany_28 rfl ?_
          refine x_iload_n (q := 32) C dX8_leftMany_31 rfl 1 rfl rfl ?_
          refine x_icmp_lt (q := 35) (tgt := 39) C dX8_leftMany_32 (by decide) rfl (fun c32 => ?_) (fun c32 => ?_)
          · refine x_iconst (q := 40) (v := nI 0) C dX8_leftMany_39 (by decide) rfl ?_
            refine x_iadd_n (q := 41) C dX8_leftMany_40 rfl ?_
            refine x_namen (fun n3 hn3 => ?_)
            refine x_istore_n (q := 42) (lv' := [(0, .ref (ad 0)), (1, .int (tfz P (nS P))), (2, .int (nI n3)), (3, .int (nI x))]) C dX8_leftMany_41 rfl (by decide) rfl rfl rfl ?_
            refine x_iinc (q := 45) (v := nI (x + 1)) (lv' := [(0, .ref (ad 0)), (1, .int (tfz P (nS P))), (2, .int (nI n3)), (3, .int (nI (x + 1)))]) C dX8_leftMany_42 3 rfl (nI_add x 1) (by decide) rfl rfl rfl ?_
            refine x_goto (tgt := 9) C dX8_leftMany_45 (by decide) ?_
            exact ih9 (x + 1) n3 (by omega) (by rw [hn3, hn]; first | (rw [cnz_n c23]; rfl) | (rw [cnz_y c23, if_neg (Int32.not_le.mpr c32)]) | (rw [cnz_y c23, if_pos (fa_of_nlt c32)])) (by omega)
          · refine x_iconst (q := 36) (v := nI 1) C dX8_leftMany_35 (by decide) rfl ?_
            refine x_goto (tgt := 40) C dX8_leftMany_36 (by decide) ?_
            refine x_iadd_n (q := 41) C dX8_leftMany_40 rfl ?_
            refine x_namen (fun n4 hn4 => ?_)
            refine x_istore_n (q := 42) (lv' := [(0, .ref (ad 0)), (1, .int (tfz P (nS P))), (2, .int (nI n4)), (3, .int (nI x))]) C dX8_leftMany_41 rfl (by decide) rfl rfl rfl ?_
            refine x_iinc (q := 45) (v := nI (x + 1)) (lv' := [(0, .ref (ad 0)), (1, .int (tfz P (nS P))), (2, .int (nI n4)), (3, .int (nI (x + 1)))]) C dX8_leftMany_42 3 rfl (nI_add x 1) (by decide) rfl rfl rfl ?_
            refine x_goto (tgt := 9) C dX8_leftMany_45 (by decide) ?_
            exact ih9 (x + 1) n4 (by omega) (by rw [hn4, hn]; first | (rw [cnz_n c23]; rfl) | (rw [cnz_y c23, if_neg (Int32.not_le.mpr c32)]) | (rw [cnz_y c23, if_pos (fa_of_nlt c32)])) (by omega)
  exact L9 _ 0 0 (Nat.zero_le _) rfl (Nat.lt_succ_self _)

set_option maxRecDepth 100000 in
set_option maxHeartbeats 4000000 in
theorem c_X8_next (hD : ∀ P T, va_D A (wN ad cI cZ P T)) {P T : St} (ok : okN P) : XMI l D (tyz cI cZ) (wN ad cI cZ) A yX8_next cX8_next 5 (some .int) rmX8_next [.ref (ad 0)] P T (fun r P' T' => r = nov (lsA (cX P)) (noP (cX P)) ∧ P' = P ∧ T' = T) := by
  have okc := okN_c ok
  have hk6 := okc_kn6 okc
  have hS144 := okc_S144 okc
  have hS1 := okc_S1 okc
  have hnr := okc_nr12 okc
  have hnt := okc_nt60 okc
  have hnz := okc_nz50 okc
  have hsd := okc_sdb okc
  have okk := okC_K okc
  refine x_start_i (lv := [(0, .ref (ad 0))]) (own := RX8) (by decide) rfl hD (Nat.le_of_ble_eq_true rfl) rfl ?_
  intro p e s m args below meth c C
  refine x_aload_n (q := 1) C dX8_next_0 rfl 0 rfl rfl ?_
  refine x_Vf (q := 4) (As := []) (rest := []) C (c_X8_topFloor hD ok ) xs_X8_topFloor tim_X8_topFloor tsel_X8_topFloor tml_X8_136 (by decide) 0 rfl (ci := 8) rfl rfl rfl (Nat.le_of_ble_eq_true rfl) dX8_next_1 rfl ?_
  refine x_istore_n (q := 5) (lv' := [(0, .ref (ad 0)), (1, .int (tfz P (nS P)))]) C dX8_next_4 rfl (by decide) rfl rfl rfl ?_
  refine x_bipush (q := 7) (v := (-4)) C dX8_next_5 (by decide) rfl ?_
  refine x_istore_n (q := 8) (lv' := [(0, .ref (ad 0)), (1, .int (tfz P (nS P))), (2, .int ((-4)))]) C dX8_next_7 rfl (by decide) rfl rfl rfl ?_
  refine x_iconst (q := 9) (v := nI 0) C dX8_next_8 (by decide) rfl ?_
  refine x_istore_n (q := 10) (lv' := [(0, .ref (ad 0)), (1, .int (tfz P (nS P))), (2, .int ((-4))), (3, .int (nI 0))]) C dX8_next_9 rfl (by decide) rfl rfl rfl ?_
  have L10 : ∀ (f1 : Nat) (x : Nat) (z : Int32), (x ≤ nS P) → (z = nov (AL P x) (no2 P (tfz P (nS P)) x)) → nS P - x < f1 → XW p l e rmX8_next s m args below meth c D (wN ad cI cZ) A 5 (MQ below (XPI D (tyz cI cZ) (wN ad cI cZ) A (fun r P' T' => r = nov (lsA (cX P)) (noP (cX P)) ∧ P' = P ∧ T' = T)) args s 0 0 A) 10 [(0, .ref (ad 0)), (1, .int (tfz P (nS P))), (2, .int z), (3, .int (nI x))] [] P T := by
    intro f1
    induction f1 with
    | zero => intro x z hx hz hm; exact absurd hm (Nat.not_lt_zero _)
    | succ f1 ih10 =>
      intro x z hx hz hm10
      refine x_iload_n (q := 11) C dX8_next_10 rfl 3 rfl rfl ?_
      refine x_aload_n (q := 12) C dX8_next_11 rfl 0 rfl rfl ?_
      refine xg_X8_settings (q := 15) C tfl_X8_7 dX8_next_12 rfl ?_
      refine x_topn (nS P) (okc_S (P := P) okc) ?_
      refine x_icmp_ge_n (q := 18) (tgt := 76) C dX8_next_15 (by omega) (by omega) (by decide) rfl (fun c15 => ?_) (fun c15 => ?_)
      · refine x_iload_n (q := 77) C dX8_next_76 rfl 2 rfl rfl ?_
        exact x_iret C dX8_next_77 ⟨by rw [hz, show x = nS P by omega, no2_e]; rfl, rfl, rfl⟩
      · refine x_aload_n (q := 19) C dX8_next_18 rfl 0 rfl rfl ?_
        refine x_iload_n (q := 20) C dX8_next_19 rfl 3 rfl rfl ?_
        refine x_Vf (q := 23) (As := [.int (nI x)]) (rest := []) C (c_X8_isAllowed hD ok x (by omega)) xs_X8_isAllowed tim_X8_isAllowed tsel_X8_isAllowed tml_X8_105 (by decide) 0 rfl (ci := 8) rfl rfl rfl (Nat.le_of_ble_eq_true rfl) dX8_next_20 rfl ?_
        refine x_if_eq_b (q := 26) (tgt := 39) C dX8_next_23 (by decide) rfl (fun c23 => ?_) (fun c23 => ?_)
        · refine x_iconst (q := 40) (v := nI 0) C dX8_next_39 (by decide) rfl ?_
          refine x_istore (q := 42) (lv' := [(0, .ref (ad 0)), (1, .int (tfz P (nS P))), (2, .int z), (3, .int (nI x)), (4, .int (nI 0))]) C dX8_next_40 (by decide) rfl rfl rfl ?_
          refine x_iload (q := 44) C dX8_next_42 4 rfl rfl ?_
          refine x_if_eq_n (q := 47) (tgt := 68) C dX8_next_44 (by decide) (by decide) rfl (fun _ => ?_) (fun h => absurd h (by decide))
          refine x_iload_n (q := 69) C dX8_next_68 rfl 2 rfl rfl ?_
          refine x_istore_n (q := 70) (lv' := [(0, .ref (ad 0)), (1, .int (tfz P (nS P))), (2, .int z), (3, .int (nI x)), (4, .int (nI 0))]) C dX8_next_69 rfl (by decide) rfl rfl rfl ?_
          refine x_iinc (q := 73) (v := nI (x + 1)) (lv' := [(0, .ref (ad 0)), (1, .int (tfz P (nS P))), (2, .int z), (3, .int (nI (x + 1))), (4, .int (nI 0))]) C dX8_next_70 3 rfl (nI_add x 1) (by decide) rfl rfl rfl ?_
          refine x_goto (tgt := 10) C dX8_next_73 (by decide) ?_
          refine x_lv [0, 1, 2, 3] rfl ?_
          exact ih10 (x + 1) z (by omega) (by rw [hz]; first | (rw [no2_n c23, AL_n c23]) | exact next_low c23 (Int32.not_le.mpr c32)) (by omega)
        · refine x_aload_n (q := 27) C dX8_next_26 rfl 0 rfl rfl ?_
          refine x_iload_n (q := 28) C dX8_next_27 rfl 3 rfl rfl ?_
          refine x_Vf (q := 31) (As := [.int (nI x)]) (rest := []) C (c_X8_roof hD ok x (by omega)) xs_X8_roof tim_X8_roof tsel_X8_roof tml_X8_132 (by decide) 0 rfl (ci := 8) rfl rfl rfl (Nat.le_of_ble_eq_true rfl) dX8_next_28 rfl ?_
          refine x_iload_n (q := 32) C dX8_next_31 rfl 1 rfl rfl ?_
          refine x_icmp_lt (q := 35) (tgt := 39) C dX8_next_32 (by decide) rfl (fun c32 => ?_) (fun c32 => ?_)
          · refine x_iconst (q := 40) (v := nI 0) C dX8_next_39 (by decide) rfl ?_
            refine x_istore (q := 42) (lv' := [(0, .ref (ad 0)), (1, .int (tfz P (nS P))), (2, .int z), (3, .int (nI x)), (4, .int (nI 0))]) C dX8_next_40 (by decide) rfl rfl rfl ?_
            refine x_iload (q := 44) C dX8_next_42 4 rfl rfl ?_
            refine x_if_eq_n (q := 47) (tgt := 68) C dX8_next_44 (by decide) (by decide) rfl (fun _ => ?_) (fun h => absurd h (by decide))
            refine x_iload_n (q := 69) C dX8_next_68 rfl 2 rfl rfl ?_
            refine x_istore_n (q := 70) (lv' := [(0, .ref (ad 0)), (1, .int (tfz P (nS P))), (2, .int z), (3, .int (nI x)), (4, .int (nI 0))]) C dX8_next_69 rfl (by decide) rfl rfl rfl ?_
            refine x_iinc (q := 73) (v := nI (x + 1)) (lv' := [(0, .ref (ad 0)), (1, .int (tfz P (nS P))), (2, .int z), (3, .int (nI (x + 1))), (4, .int (nI 0))]) C dX8_next_70 3 rfl (nI_add x 1) (by decide) rfl rfl rfl ?_
            refine x_goto (tgt := 10) C dX8_next_73 (by decide) ?_
            refine x_lv [0, 1, 2, 3] rfl ?_
            exact ih10 (x + 1) z (by omega) (by rw [hz]; first | (rw [no2_n c23, AL_n c23]) | exact next_low c23 (Int32.not_le.mpr c32)) (by omega)
          · refine x_iconst (q := 36) (v := nI 1) C dX8_next_35 (by decide) rfl ?_
            refine x_goto (tgt := 40) C dX8_next_36 (by decide) ?_
            refine x_istore (q := 42) (lv' := [(0, .ref (ad 0)), (1, .int (tfz P (nS P))), (2, .int z), (3, .int (nI x)), (4, .int (nI 1))]) C dX8_next_40 (by decide) rfl rfl rfl ?_
            refine x_iload (q := 44) C dX8_next_42 4 rfl rfl ?_
            refine x_if_eq_n (q := 47) (tgt := 68) C dX8_next_44 (by decide) (by decide) rfl (fun h => absurd h (by decide)) (fun _ => ?_)
            refine x_iload_n (q := 48) C dX8_next_47 rfl 2 rfl rfl ?_
            refine x_if_lt (q := 51) (tgt := 64) C dX8_next_48 (by decide) rfl (fun c48 => ?_) (fun c48 => ?_)
            · have hLb := AL_b (P := P) (n := x) (by omega)
              have hjb : ∀ j, no2 P (tfz P (nS P)) x = some j → j < (AL P x).length := fun j hj => no2_lt hj
              rw [hz] at c48
              have ho0 := (nov_lt hLb hjb).mp c48
              refine x_iload_n (q := 65) C dX8_next_64 rfl 3 rfl rfl ?_
              refine x_goto (tgt := 69) C dX8_next_65 (by decide) ?_
              refine x_istore_n (q := 70) (lv' := [(0, .ref (ad 0)), (1, .int (tfz P (nS P))), (2, .int (nI x)), (3, .int (nI x)), (4, .int (nI 1))]) C dX8_next_69 rfl (by decide) rfl rfl rfl ?_
              refine x_iinc (q := 73) (v := nI (x + 1)) (lv' := [(0, .ref (ad 0)), (1, .int (tfz P (nS P))), (2, .int (nI x)), (3, .int (nI (x + 1))), (4, .int (nI 1))]) C dX8_next_70 3 rfl (nI_add x 1) (by decide) rfl rfl rfl ?_
              refine x_goto (tgt := 10) C dX8_next_73 (by decide) ?_
              refine x_lv [0, 1, 2, 3] rfl ?_
              exact ih10 (x + 1) _ (by omega) (by rw [no2_y c23]; first | (rw [ho0]; dsimp only; rw [if_pos (fa_of_nlt c32)]; exact (nov_ALl c23).symm) | (rw [ho]; dsimp only; rw [if_pos ⟨fa_of_nlt c32, fa_of_nle c61⟩]; exact (nov_ALl c23).symm)) (by omega)
            · have hLb := AL_b (P := P) (n := x) (by omega)
              have hjb : ∀ j, no2 P (tfz P (nS P)) x = some j → j < (AL P x).length := fun j hj => no2_lt hj
              rw [hz] at c48
              obtain ⟨j, ho⟩ := opt_some (fun h => c48 ((nov_lt hLb hjb).mpr h))
              have hjl := hjb j ho
              have hjx := hLb _ (getD_mem hjl)
              rw [hz, ho]
              refine x_aload_n (q := 52) C dX8_next_51 rfl 0 rfl rfl ?_
              refine x_iload_n (q := 53) C dX8_next_52 rfl 3 rfl rfl ?_
              refine x_Vf (q := 56) (As := [.int (nI x)]) (rest := []) C (c_X8_roof hD ok x (by omega)) xs_X8_roof tim_X8_roof tsel_X8_roof tml_X8_132 (by decide) 0 rfl (ci := 8) rfl rfl rfl (Nat.le_of_ble_eq_true rfl) dX8_next_53 rfl ?_
              refine x_aload_n (q := 57) C dX8_next_56 rfl 0 rfl rfl ?_
              refine x_iload_n (q := 58) C dX8_next_57 rfl 2 rfl rfl ?_
              refine x_topn ((AL P x).getD j 0) rfl ?_
              refine x_Vf (q := 61) (As := [.int (nI ((AL P x).getD j 0))]) (rest := [.int (rfX P x (nt P))]) C (c_X8_roof hD ok ((AL P x).getD j 0) (by omega)) xs_X8_roof tim_X8_roof tsel_X8_roof tml_X8_132 (by decide) 0 rfl (ci := 8) rfl rfl rfl (Nat.le_of_ble_eq_true rfl) dX8_next_58 rfl ?_
              refine x_icmp_le (q := 64) (tgt := 68) C dX8_next_61 (by decide) rfl (fun c61 => ?_) (fun c61 => ?_)
              · refine x_iload_n (q := 69) C dX8_next_68 rfl 2 rfl rfl ?_
                refine x_istore_n (q := 70) (lv' := [(0, .ref (ad 0)), (1, .int (tfz P (nS P))), (2, .int (nov (AL P x) (some j))), (3, .int (nI x)), (4, .int (nI 1))]) C dX8_next_69 rfl (by decide) rfl rfl rfl ?_
                refine x_iinc (q := 73) (v := nI (x + 1)) (lv' := [(0, .ref (ad 0)), (1, .int (tfz P (nS P))), (2, .int (nov (AL P x) (some j))), (3, .int (nI (x + 1))), (4, .int (nI 1))]) C dX8_next_70 3 rfl (nI_add x 1) (by decide) rfl rfl rfl ?_
                refine x_goto (tgt := 10) C dX8_next_73 (by decide) ?_
                refine x_lv [0, 1, 2, 3] rfl ?_
                exact ih10 (x + 1) _ (by omega) (by rw [no2_y c23, ho]; dsimp only; rw [if_neg (fun h => absurd h.2 (Int32.not_lt.mpr c61)), nov_AL c23 hjl]) (by omega)
              · refine x_iload_n (q := 65) C dX8_next_64 rfl 3 rfl rfl ?_
                refine x_goto (tgt := 69) C dX8_next_65 (by decide) ?_
                refine x_istore_n (q := 70) (lv' := [(0, .ref (ad 0)), (1, .int (tfz P (nS P))), (2, .int (nI x)), (3, .int (nI x)), (4, .int (nI 1))]) C dX8_next_69 rfl (by decide) rfl rfl rfl ?_
                refine x_iinc (q := 73) (v := nI (x + 1)) (lv' := [(0, .ref (ad 0)), (1, .int (tfz P (nS P))), (2, .int (nI x)), (3, .int (nI (x + 1))), (4, .int (nI 1))]) C dX8_next_70 3 rfl (nI_add x 1) (by decide) rfl rfl rfl ?_
                refine x_goto (tgt := 10) C dX8_next_73 (by decide) ?_
                refine x_lv [0, 1, 2, 3] rfl ?_
                exact ih10 (x + 1) _ (by omega) (by rw [no2_y c23]; first | (rw [ho0]; dsimp only; rw [if_pos (fa_of_nlt c32)]; exact (nov_ALl c23).symm) | (rw [ho]; dsimp only; rw [if_pos ⟨fa_of_nlt c32, fa_of_nle c61⟩]; exact (nov_ALl c23).symm)) (by omega)
  exact L10 _ 0 _ (Nat.zero_le _) rfl (Nat.lt_succ_self _)

set_option maxRecDepth 100000 in
set_option maxHeartbeats 4000000 in
theorem c_X8_isSmooth (hD : ∀ P T, va_D A (wN ad cI cZ P T)) {P T : St} (ok : okN P) : XMI l D (tyz cI cZ) (wN ad cI cZ) A yX8_isSmooth cX8_isSmooth 5 (some .boolean) rmX8_isSmooth [.ref (ad 0)] P T (fun r P' T' => r = bI (smP (cX P)) ∧ P' = P ∧ T' = T) := by
  have okc := okN_c ok
  have hk6 := okc_kn6 okc
  have hS144 := okc_S144 okc
  have hS1 := okc_S1 okc
  have hnr := okc_nr12 okc
  have hnt := okc_nt60 okc
  have hnz := okc_nz50 okc
  have hsd := okc_sdb okc
  have okk := okC_K okc
  refine x_start_i (lv := [(0, .ref (ad 0))]) (own := RX8) (by decide) rfl hD (Nat.le_of_ble_eq_true rfl) rfl ?_
  intro p e s m args below meth c C
  refine x_iconst (q := 1) (v := nI 1) C dX8_isSmooth_0 (by decide) rfl ?_
  refine x_tope (bI (smQ P 0)) (bI_t (fun a ha => absurd ha (Nat.not_lt_zero a))) ?_
  refine x_istore_n (q := 2) (lv' := [(0, .ref (ad 0)), (1, .int (bI (smQ P 0)))]) C dX8_isSmooth_1 rfl (by decide) rfl rfl rfl ?_
  refine x_iconst (q := 3) (v := nI 0) C dX8_isSmooth_2 (by decide) rfl ?_
  refine x_istore_n (q := 4) (lv' := [(0, .ref (ad 0)), (1, .int (bI (smQ P 0))), (2, .int (nI 0))]) C dX8_isSmooth_3 rfl (by decide) rfl rfl rfl ?_
  have L4 : ∀ (f1 : Nat) (x : Nat), (x ≤ nS P) → nS P - x < f1 → XW p l e rmX8_isSmooth s m args below meth c D (wN ad cI cZ) A 5 (MQ below (XPI D (tyz cI cZ) (wN ad cI cZ) A (fun r P' T' => r = bI (smP (cX P)) ∧ P' = P ∧ T' = T)) args s 0 0 A) 4 [(0, .ref (ad 0)), (1, .int (bI (smQ P x))), (2, .int (nI x))] [] P T := by
    intro f1
    induction f1 with
    | zero => intro x hx hm; exact absurd hm (Nat.not_lt_zero _)
    | succ f1 ih4 =>
      intro x hx hm4
      refine x_iload_n (q := 5) C dX8_isSmooth_4 rfl 2 rfl rfl ?_
      refine x_aload_n (q := 6) C dX8_isSmooth_5 rfl 0 rfl rfl ?_
      refine xg_X8_settings (q := 9) C tfl_X8_7 dX8_isSmooth_6 rfl ?_
      refine x_topn (nS P) (okc_S (P := P) okc) ?_
      refine x_icmp_ge_n (q := 12) (tgt := 92) C dX8_isSmooth_9 (by omega) (by omega) (by decide) rfl (fun c9 => ?_) (fun c9 => ?_)
      · refine x_iload_n (q := 93) C dX8_isSmooth_92 rfl 1 rfl rfl ?_
        exact x_zret C dX8_isSmooth_93 bI_nar ⟨(show x = nS P by omega) ▸ bI_congr (sm_q (P := P)).symm, rfl, rfl⟩
      · rw [bI_congr (show smQ P x ↔ smRb P x 0 = true from ⟨fun h => smR.mpr ⟨h, fun b hb => absurd hb (Nat.not_lt_zero b)⟩, fun h => (smR.mp h).1⟩)]
        refine x_iconst (q := 13) (v := nI 0) C dX8_isSmooth_12 (by decide) rfl ?_
        refine x_istore_n (q := 14) (lv' := [(0, .ref (ad 0)), (1, .int (bI (smRb P x 0 = true))), (2, .int (nI x)), (3, .int (nI 0))]) C dX8_isSmooth_13 rfl (by decide) rfl rfl rfl ?_
        have L14 : ∀ (f2 : Nat) (y : Nat), (y ≤ x) → x - y < f2 → XW p l e rmX8_isSmooth s m args below meth c D (wN ad cI cZ) A 5 (MQ below (XPI D (tyz cI cZ) (wN ad cI cZ) A (fun r P' T' => r = bI (smP (cX P)) ∧ P' = P ∧ T' = T)) args s 0 0 A) 14 [(0, .ref (ad 0)), (1, .int (bI (smRb P x y = true))), (2, .int (nI x)), (3, .int (nI y))] [] P T := by
          intro f2
          induction f2 with
          | zero => intro y hy hm; exact absurd hm (Nat.not_lt_zero _)
          | succ f2 ih14 =>
            intro y hy hm14
            refine x_iload_n (q := 15) C dX8_isSmooth_14 rfl 3 rfl rfl ?_
            refine x_iload_n (q := 16) C dX8_isSmooth_15 rfl 2 rfl rfl ?_
            refine x_icmp_ge_n (q := 19) (tgt := 86) C dX8_isSmooth_16 (by omega) (by omega) (by decide) rfl (fun c16 => ?_) (fun c16 => ?_)
            · refine x_iinc (q := 89) (v := nI (x + 1)) (lv' := [(0, .ref (ad 0)), (1, .int (bI (smRb P x y = true))), (2, .int (nI (x + 1))), (3, .int (nI y))]) C dX8_isSmooth_86 2 rfl (nI_add x 1) (by decide) rfl rfl rfl ?_
              refine x_goto (tgt := 4) C dX8_isSmooth_89 (by decide) ?_
              refine x_lv [0, 1, 2] rfl ?_
              rw [bI_congr (show (smRb P x y = true) ↔ smQ P (x + 1) from ⟨fun h => lt_s (smR.mp h).1 (fun b hb => by first | exact (smR.mp h).2 b (by omega) | exact smq_i (fun q => c24 q.1)), fun h => smR.mpr ⟨fun a ha => h a (by omega), fun b hb => h x (by omega) b (by omega)⟩⟩)]
              exact ih4 (x + 1) (by omega) (by omega)
            · refine x_aload_n (q := 20) C dX8_isSmooth_19 rfl 0 rfl rfl ?_
              refine x_iload_n (q := 21) C dX8_isSmooth_20 rfl 2 rfl rfl ?_
              refine x_Vf (q := 24) (As := [.int (nI x)]) (rest := []) C (c_X8_isAllowed hD ok x (by omega)) xs_X8_isAllowed tim_X8_isAllowed tsel_X8_isAllowed tml_X8_105 (by decide) 0 rfl (ci := 8) rfl rfl rfl (Nat.le_of_ble_eq_true rfl) dX8_isSmooth_21 rfl ?_
              refine x_if_eq_b (q := 27) (tgt := 86) C dX8_isSmooth_24 (by decide) rfl (fun c24 => ?_) (fun c24 => ?_)
              · refine x_iinc (q := 89) (v := nI (x + 1)) (lv' := [(0, .ref (ad 0)), (1, .int (bI (smRb P x y = true))), (2, .int (nI (x + 1))), (3, .int (nI y))]) C dX8_isSmooth_86 2 rfl (nI_add x 1) (by decide) rfl rfl rfl ?_
                refine x_goto (tgt := 4) C dX8_isSmooth_89 (by decide) ?_
                refine x_lv [0, 1, 2] rfl ?_
                rw [bI_congr (show (smRb P x y = true) ↔ smQ P (x + 1) from ⟨fun h => lt_s (smR.mp h).1 (fun b hb => by first | exact (smR.mp h).2 b (by omega) | exact smq_i (fun q => c24 q.1)), fun h => smR.mpr ⟨fun a ha => h a (by omega), fun b hb => h x (by omega) b (by omega)⟩⟩)]
                exact ih4 (x + 1) (by omega) (by omega)
              · refine x_aload_n (q := 28) C dX8_isSmooth_27 rfl 0 rfl rfl ?_
                refine x_iload_n (q := 29) C dX8_isSmooth_28 rfl 2 rfl rfl ?_
                refine x_Vf (q := 32) (As := [.int (nI x)]) (rest := []) C (c_X8_worthOf hD okk x (by omega)) xs_X8_worthOf tim_X8_worthOf tsel_X8_worthOf tml_X8_108 (by decide) 0 rfl (ci := 8) rfl rfl rfl (Nat.le_of_ble_eq_true rfl) dX8_isSmooth_29 rfl ?_
                refine x_aload_n (q := 33) C dX8_isSmooth_32 rfl 0 rfl rfl ?_
                refine x_iload_n (q := 34) C dX8_isSmooth_33 rfl 3 rfl rfl ?_
                refine x_Vf (q := 37) (As := [.int (nI y)]) (rest := [.int (wo P x)]) C (c_X8_worthOf hD okk y (by omega)) xs_X8_worthOf tim_X8_worthOf tsel_X8_worthOf tml_X8_108 (by decide) 0 rfl (ci := 8) rfl rfl rfl (Nat.le_of_ble_eq_true rfl) dX8_isSmooth_34 rfl ?_
                refine x_isub (q := 38) C dX8_isSmooth_37 rfl ?_
                refine x_istore (q := 40) (lv' := [(0, .ref (ad 0)), (1, .int (bI (smRb P x y = true))), (2, .int (nI x)), (3, .int (nI y)), (4, .int ((wo P x) - (wo P y)))]) C dX8_isSmooth_38 (by decide) rfl rfl rfl ?_
                refine x_iload_n (q := 41) C dX8_isSmooth_40 rfl 1 rfl rfl ?_
                refine x_if_eq_b (q := 44) (tgt := 78) C dX8_isSmooth_41 (by decide) rfl (fun c41 => ?_) (fun c41 => ?_)
                · refine x_iconst (q := 79) (v := nI 0) C dX8_isSmooth_78 (by decide) rfl ?_
                  refine x_tope (bI (smRb P x (y + 1) = true)) (bI_f (P := smRb P x (y + 1) = true) (fun h => by first | exact c41 (smR.mpr ⟨(smR.mp h).1, fun b hb => (smR.mp h).2 b (by omega)⟩) | exact smq_e ((smR.mp h).2 y (by omega)) ⟨c24, c49, Int32.not_le.mpr c71⟩)) ?_
                  refine x_istore_n (q := 80) (lv' := [(0, .ref (ad 0)), (1, .int (bI (smRb P x (y + 1) = true))), (2, .int (nI x)), (3, .int (nI y)), (4, .int ((wo P x) - (wo P y)))]) C dX8_isSmooth_79 rfl (by decide) rfl rfl rfl ?_
                  refine x_iinc (q := 83) (v := nI (y + 1)) (lv' := [(0, .ref (ad 0)), (1, .int (bI (smRb P x (y + 1) = true))), (2, .int (nI x)), (3, .int (nI (y + 1))), (4, .int ((wo P x) - (wo P y)))]) C dX8_isSmooth_80 3 rfl (nI_add y 1) (by decide) rfl rfl rfl ?_
                  refine x_goto (tgt := 14) C dX8_isSmooth_83 (by decide) ?_
                  refine x_lv [0, 1, 2, 3] rfl ?_
                  exact ih14 (y + 1) (by omega) (by omega)
                · refine x_aload_n (q := 45) C dX8_isSmooth_44 rfl 0 rfl rfl ?_
                  refine x_iload_n (q := 46) C dX8_isSmooth_45 rfl 3 rfl rfl ?_
                  refine x_Vf (q := 49) (As := [.int (nI y)]) (rest := []) C (c_X8_isAllowed hD ok y (by omega)) xs_X8_isAllowed tim_X8_isAllowed tsel_X8_isAllowed tml_X8_105 (by decide) 0 rfl (ci := 8) rfl rfl rfl (Nat.le_of_ble_eq_true rfl) dX8_isSmooth_46 rfl ?_
                  refine x_if_eq_b (q := 52) (tgt := 74) C dX8_isSmooth_49 (by decide) rfl (fun c49 => ?_) (fun c49 => ?_)
                  · refine x_iconst (q := 75) (v := nI 1) C dX8_isSmooth_74 (by decide) rfl ?_
                    refine x_tope (bI (smRb P x (y + 1) = true)) (bI_t (P := smRb P x (y + 1) = true) (smR.mpr ⟨(smR.mp c41).1, lt_s (smR.mp c41).2 (smq_i (fun h => by first | exact c49 h.2.1 | exact h.2.2 (Int32.not_lt.mp c71)))⟩)) ?_
                    refine x_goto (tgt := 79) C dX8_isSmooth_75 (by decide) ?_
                    refine x_istore_n (q := 80) (lv' := [(0, .ref (ad 0)), (1, .int (bI (smRb P x (y + 1) = true))), (2, .int (nI x)), (3, .int (nI y)), (4, .int ((wo P x) - (wo P y)))]) C dX8_isSmooth_79 rfl (by decide) rfl rfl rfl ?_
                    refine x_iinc (q := 83) (v := nI (y + 1)) (lv' := [(0, .ref (ad 0)), (1, .int (bI (smRb P x (y + 1) = true))), (2, .int (nI x)), (3, .int (nI (y + 1))), (4, .int ((wo P x) - (wo P y)))]) C dX8_isSmooth_80 3 rfl (nI_add y 1) (by decide) rfl rfl rfl ?_
                    refine x_goto (tgt := 14) C dX8_isSmooth_83 (by decide) ?_
                    refine x_lv [0, 1, 2, 3] rfl ?_
                    exact ih14 (y + 1) (by omega) (by omega)
                  · refine x_iload (q := 54) C dX8_isSmooth_52 4 rfl rfl ?_
                    refine x_if_ge (q := 57) (tgt := 63) C dX8_isSmooth_54 (by decide) rfl (fun c54 => ?_) (fun c54 => ?_)
                    · refine x_iload (q := 65) C dX8_isSmooth_63 4 rfl rfl ?_
                      refine x_tope (ab (wo P x - wo P y)) (ab_pos c54) ?_
                      refine x_aload_n (q := 66) C dX8_isSmooth_65 rfl 0 rfl rfl ?_
                      refine x_iload_n (q := 67) C dX8_isSmooth_66 rfl 2 rfl rfl ?_
                      refine x_iload_n (q := 68) C dX8_isSmooth_67 rfl 3 rfl rfl ?_
                      refine x_Vf (q := 71) (As := [.int (nI x), .int (nI y)]) (rest := [.int (ab (wo P x - wo P y))]) C (c_X8_off hD ok x y (by omega) (by omega)) xs_X8_off tim_X8_off tsel_X8_off tml_X8_124 (by decide) 0 rfl (ci := 8) rfl rfl rfl (Nat.le_of_ble_eq_true rfl) dX8_isSmooth_68 rfl ?_
                      refine x_icmp_gt (q := 74) (tgt := 78) C dX8_isSmooth_71 (by decide) rfl (fun c71 => ?_) (fun c71 => ?_)
                      · refine x_iconst (q := 79) (v := nI 0) C dX8_isSmooth_78 (by decide) rfl ?_
                        refine x_tope (bI (smRb P x (y + 1) = true)) (bI_f (P := smRb P x (y + 1) = true) (fun h => by first | exact c41 (smR.mpr ⟨(smR.mp h).1, fun b hb => (smR.mp h).2 b (by omega)⟩) | exact smq_e ((smR.mp h).2 y (by omega)) ⟨c24, c49, Int32.not_le.mpr c71⟩)) ?_
                        refine x_istore_n (q := 80) (lv' := [(0, .ref (ad 0)), (1, .int (bI (smRb P x (y + 1) = true))), (2, .int (nI x)), (3, .int (nI y)), (4, .int ((wo P x) - (wo P y)))]) C dX8_isSmooth_79 rfl (by decide) rfl rfl rfl ?_
                        refine x_iinc (q := 83) (v := nI (y + 1)) (lv' := [(0, .ref (ad 0)), (1, .int (bI (smRb P x (y + 1) = true))), (2, .int (nI x)), (3, .int (nI (y + 1))), (4, .int ((wo P x) - (wo P y)))]) C dX8_isSmooth_80 3 rfl (nI_add y 1) (by decide) rfl rfl rfl ?_
                        refine x_goto (tgt := 14) C dX8_isSmooth_83 (by decide) ?_
                        refine x_lv [0, 1, 2, 3] rfl ?_
                        exact ih14 (y + 1) (by omega) (by omega)
                      · refine x_iconst (q := 75) (v := nI 1) C dX8_isSmooth_74 (by decide) rfl ?_
                        refine x_tope (bI (smRb P x (y + 1) = true)) (bI_t (P := smRb P x (y + 1) = true) (smR.mpr ⟨(smR.mp c41).1, lt_s (smR.mp c41).2 (smq_i (fun h => by first | exact c49 h.2.1 | exact h.2.2 (Int32.not_lt.mp c71)))⟩)) ?_
                        refine x_goto (tgt := 79) C dX8_isSmooth_75 (by decide) ?_
                        refine x_istore_n (q := 80) (lv' := [(0, .ref (ad 0)), (1, .int (bI (smRb P x (y + 1) = true))), (2, .int (nI x)), (3, .int (nI y)), (4, .int ((wo P x) - (wo P y)))]) C dX8_isSmooth_79 rfl (by decide) rfl rfl rfl ?_
                        refine x_iinc (q := 83) (v := nI (y + 1)) (lv' := [(0, .ref (ad 0)), (1, .int (bI (smRb P x (y + 1) = true))), (2, .int (nI x)), (3, .int (nI (y + 1))), (4, .int ((wo P x) - (wo P y)))]) C dX8_isSmooth_80 3 rfl (nI_add y 1) (by decide) rfl rfl rfl ?_
                        refine x_goto (tgt := 14) C dX8_isSmooth_83 (by decide) ?_
                        refine x_lv [0, 1, 2, 3] rfl ?_
                        exact ih14 (y + 1) (by omega) (by omega)
                    · refine x_iload (q := 59) C dX8_isSmooth_57 4 rfl rfl ?_
                      refine x_ineg (q := 60) C dX8_isSmooth_59 rfl ?_
                      refine x_tope (ab (wo P x - wo P y)) (ab_neg c54) ?_
                      refine x_goto (tgt := 65) C dX8_isSmooth_60 (by decide) ?_
                      refine x_aload_n (q := 66) C dX8_isSmooth_65 rfl 0 rfl rfl ?_
                      refine x_iload_n (q := 67) C dX8_isSmooth_66 rfl 2 rfl rfl ?_
                      refine x_iload_n (q := 68) C dX8_isSmooth_67 rfl 3 rfl rfl ?_
                      refine x_Vf (q := 71) (As := [.int (nI x), .int (nI y)]) (rest := [.int (ab (wo P x - wo P y))]) C (c_X8_off hD ok x y (by omega) (by omega)) xs_X8_off tim_X8_off tsel_X8_off tml_X8_124 (by decide) 0 rfl (ci := 8) rfl rfl rfl (Nat.le_of_ble_eq_true rfl) dX8_isSmooth_68 rfl ?_
                      refine x_icmp_gt (q := 74) (tgt := 78) C dX8_isSmooth_71 (by decide) rfl (fun c71 => ?_) (fun c71 => ?_)
                      · refine x_iconst (q := 79) (v := nI 0) C dX8_isSmooth_78 (by decide) rfl ?_
                        refine x_tope (bI (smRb P x (y + 1) = true)) (bI_f (P := smRb P x (y + 1) = true) (fun h => by first | exact c41 (smR.mpr ⟨(smR.mp h).1, fun b hb => (smR.mp h).2 b (by omega)⟩) | exact smq_e ((smR.mp h).2 y (by omega)) ⟨c24, c49, Int32.not_le.mpr c71⟩)) ?_
                        refine x_istore_n (q := 80) (lv' := [(0, .ref (ad 0)), (1, .int (bI (smRb P x (y + 1) = true))), (2, .int (nI x)), (3, .int (nI y)), (4, .int ((wo P x) - (wo P y)))]) C dX8_isSmooth_79 rfl (by decide) rfl rfl rfl ?_
                        refine x_iinc (q := 83) (v := nI (y + 1)) (lv' := [(0, .ref (ad 0)), (1, .int (bI (smRb P x (y + 1) = true))), (2, .int (nI x)), (3, .int (nI (y + 1))), (4, .int ((wo P x) - (wo P y)))]) C dX8_isSmooth_80 3 rfl (nI_add y 1) (by decide) rfl rfl rfl ?_
                        refine x_goto (tgt := 14) C dX8_isSmooth_83 (by decide) ?_
                        refine x_lv [0, 1, 2, 3] rfl ?_
                        exact ih14 (y + 1) (by omega) (by omega)
                      · refine x_iconst (q := 75) (v := nI 1) C dX8_isSmooth_74 (by decide) rfl ?_
                        refine x_tope (bI (smRb P x (y + 1) = true)) (bI_t (P := smRb P x (y + 1) = true) (smR.mpr ⟨(smR.mp c41).1, lt_s (smR.mp c41).2 (smq_i (fun h => by first | exact c49 h.2.1 | exact h.2.2 (Int32.not_lt.mp c71)))⟩)) ?_
                        refine x_goto (tgt := 79) C dX8_isSmooth_75 (by decide) ?_
                        refine x_istore_n (q := 80) (lv' := [(0, .ref (ad 0)), (1, .int (bI (smRb P x (y + 1) = true))), (2, .int (nI x)), (3, .int (nI y)), (4, .int ((wo P x) - (wo P y)))]) C dX8_isSmooth_79 rfl (by decide) rfl rfl rfl ?_
                        refine x_iinc (q := 83) (v := nI (y + 1)) (lv' := [(0, .ref (ad 0)), (1, .int (bI (smRb P x (y + 1) = true))), (2, .int (nI x)), (3, .int (nI (y + 1))), (4, .int ((wo P x) - (wo P y)))]) C dX8_isSmooth_80 3 rfl (nI_add y 1) (by decide) rfl rfl rfl ?_
                        refine x_goto (tgt := 14) C dX8_isSmooth_83 (by decide) ?_
                        refine x_lv [0, 1, 2, 3] rfl ?_
                        exact ih14 (y + 1) (by omega) (by omega)
        exact L14 _ 0 (Nat.zero_le _) (Nat.lt_succ_self _)
  exact L4 _ 0 (Nat.zero_le _) (Nat.lt_succ_self _)

set_option maxRecDepth 100000 in
set_option maxHeartbeats 4000000 in
theorem c_X8_left (hD : ∀ P T, va_D A (wN ad cI cZ P T)) {P T : St} (ok : okN P) (x : Int32) : XMI l D (tyz cI cZ) (wN ad cI cZ) A yX8_left cX8_left 2 (some .int) rmX8_left [.ref (ad 0), .int x] P T (fun r P' _ => r = FleftX (cX P) x ∧ P' = P) := by
  have okc := okN_c ok
  have hk6 := okc_kn6 okc
  have hS144 := okc_S144 okc
  have hS1 := okc_S1 okc
  have hnr := okc_nr12 okc
  have hnt := okc_nt60 okc
  have hnz := okc_nz50 okc
  have hsd := okc_sdb okc
  have okk := okC_K okc
  refine x_start_i (lv := [(0, .ref (ad 0)), (1, .int x)]) (own := RX8) (by decide) rfl hD (Nat.le_of_ble_eq_true rfl) rfl ?_
  intro p e s m args below meth c C
  refine x_iload_n (q := 1) C dX8_left_0 rfl 1 rfl rfl ?_
  refine x_if_ne (q := 4) (tgt := 11) C dX8_left_1 (by decide) rfl (fun c1 => ?_) (fun c1 => ?_)
  · refine x_iload_n (q := 12) C dX8_left_11 rfl 1 rfl rfl ?_
    refine x_iconst (q := 13) (v := nI 1) C dX8_left_12 (by decide) rfl ?_
    refine x_icmp_ne (q := 16) (tgt := 23) C dX8_left_13 (by decide) rfl (fun c13 => ?_) (fun c13 => ?_)
    · refine x_iload_n (q := 24) C dX8_left_23 rfl 1 rfl rfl ?_
      refine x_iconst (q := 25) (v := nI 2) C dX8_left_24 (by decide) rfl ?_
      refine x_icmp_ne (q := 28) (tgt := 43) C dX8_left_25 (by decide) rfl (fun c25 => ?_) (fun c25 => ?_)
      · refine x_iconst (q := 44) (v := (-1)) C dX8_left_43 (by decide) rfl ?_
        exact x_iret C dX8_left_44 ⟨if_f (inR3 c1 c13 c25), rfl⟩
      · refine x_aload_n (q := 29) C dX8_left_28 rfl 0 rfl rfl ?_
        refine x_Vf (q := 32) (As := []) (rest := []) C (c_X8_isSmooth hD ok ) xs_X8_isSmooth tim_X8_isSmooth tsel_X8_isSmooth tml_X8_146 (by decide) 0 rfl (ci := 8) rfl rfl rfl (Nat.le_of_ble_eq_true rfl) dX8_left_29 rfl ?_
        refine x_if_eq_b (q := 35) (tgt := 39) C dX8_left_32 (by decide) rfl (fun c32 => ?_) (fun c32 => ?_)
        · refine x_iconst (q := 40) (v := nI 0) C dX8_left_39 (by decide) rfl ?_
          refine x_goto (tgt := 44) C dX8_left_40 (by decide) ?_
          exact x_iret C dX8_left_44 ⟨by rw [FleftX, if_pos (by rw [c25]; decide), if_pos c25]; exact bI_f c32, rfl⟩
        · refine x_iconst (q := 36) (v := nI 1) C dX8_left_35 (by decide) rfl ?_
          refine x_goto (tgt := 44) C dX8_left_36 (by decide) ?_
          exact x_iret C dX8_left_44 ⟨by rw [FleftX, if_pos (by rw [c25]; decide), if_pos c25]; exact bI_t c32, rfl⟩
    · refine x_aload_n (q := 17) C dX8_left_16 rfl 0 rfl rfl ?_
      refine x_Vf (q := 20) (As := []) (rest := []) C (c_X8_next hD ok ) xs_X8_next tim_X8_next tsel_X8_next tml_X8_143 (by decide) 0 rfl (ci := 8) rfl rfl rfl (Nat.le_of_ble_eq_true rfl) dX8_left_17 rfl ?_
      refine x_goto (tgt := 44) C dX8_left_20 (by decide) ?_
      exact x_iret C dX8_left_44 ⟨by rw [FleftX, if_pos (by rw [c13]; decide), if_neg (by rw [c13]; decide), if_neg c1], rfl⟩
  · refine x_aload_n (q := 5) C dX8_left_4 rfl 0 rfl rfl ?_
    refine x_Vf (q := 8) (As := []) (rest := []) C (c_X8_leftMany hD ok ) xs_X8_leftMany tim_X8_leftMany tsel_X8_leftMany tml_X8_140 (by decide) 0 rfl (ci := 8) rfl rfl rfl (Nat.le_of_ble_eq_true rfl) dX8_left_5 rfl ?_
    refine x_goto (tgt := 44) C dX8_left_8 (by decide) ?_
    exact x_iret C dX8_left_44 ⟨by rw [FleftX, if_pos (by rw [c1]; decide), if_neg (by rw [c1]; decide), if_pos c1], rfl⟩

set_option maxRecDepth 100000 in
set_option maxHeartbeats 4000000 in
theorem c_X8_search (hD : ∀ P T, va_D A (wN ad cI cZ P T)) {P T : St} (ok : okN P) (x0 : Int32) : XMI l D (tyz cI cZ) (wN ad cI cZ) A yX8_search cX8_search 4 (some .int) rmX8_search [.ref (ad 0), .int x0] P T (fun r P' _ => r = FsearchX (cX P) x0 ∧ cX P' = GsearchX (cX P) x0 ∧ okN P') := by
  have okc := okN_c ok
  have hk6 := okc_kn6 okc
  have hS144 := okc_S144 okc
  have hS1 := okc_S1 okc
  have hnr := okc_nr12 okc
  have hnt := okc_nt60 okc
  have hnz := okc_nz50 okc
  have hsd := okc_sdb okc
  have okk := okC_K okc
  refine x_start_i (lv := [(0, .ref (ad 0)), (1, .int x0)]) (own := RX8) (by decide) rfl hD (Nat.le_of_ble_eq_true rfl) rfl ?_
  intro p e s m args below meth c C
  refine x_iload_n (q := 1) C dX8_search_0 rfl 1 rfl rfl ?_
  refine x_i2l (q := 2) C dX8_search_1 rfl ?_
  refine x_lconst (q := 3) (v := 1) C dX8_search_2 (by decide) rfl ?_
  refine x_ldc2 (q := 6) C tk_X8_150 dX8_search_3 rfl ?_
  refine x_Sf (q := 9) (As := [.long x0.toInt64, .long 1, .long ((30))]) (rest := []) C (c_X8_in hD x0.toInt64 1 ((30)) ) xs_X8_in tst_X8_in tml_X8_50 (by decide) rfl rfl (Nat.le_of_ble_eq_true rfl) dX8_search_6 rfl ?_
  refine x_tope (bI (inR x0 (nI 1) (nI 30))) (bI_congr (inL_i (a := (nI 1)) (b := (nI 30)) (by decide) (by decide))) ?_
  refine x_if_ne_b (q := 12) (tgt := 14) C dX8_search_9 (by decide) rfl (fun c9 => ?_) (fun c9 => ?_)
  · have hw9 := c9
    obtain ⟨t1, ht1a, ht1, rfl⟩ := inR_nat2 (b := 1) (n := 30) (by decide) (by decide) c9
    refine x_aload_n (q := 15) C dX8_search_14 rfl 0 rfl rfl ?_
    refine x_Vf (q := 18) (As := []) (rest := []) C (c_X8_book hD ok ) xs_X8_book tim_X8_book tsel_X8_book tml_X8_152 (by decide) 0 rfl (ci := 8) rfl rfl rfl (Nat.le_of_ble_eq_true rfl) dX8_search_15 rfl ?_
    refine x_if_ne_n (q := 21) (tgt := 24) C dX8_search_18 (by have := alL_len (cX P) (nS P); show (alL (cX P) (nS P)).length < _; omega) (by decide) rfl (fun c18 => ?_) (fun c18 => ?_)
    · refine x_aload_n (q := 25) C dX8_search_24 rfl 0 rfl rfl ?_
      refine x_Vf (q := 28) (As := []) (rest := []) C (c_X8_next hD ok) xs_X8_next tim_X8_next tsel_X8_next tml_X8_143 (by decide) 0 rfl (ci := 8) rfl rfl rfl (Nat.le_of_ble_eq_true rfl) dX8_search_25 rfl ?_
      refine x_istore_n (q := 29) (lv' := [(0, .ref (ad 0)), (1, .int (nI t1)), (2, .int (nov (lsA (cX P)) (noP (cX P))))]) C dX8_search_28 rfl (by decide) rfl rfl rfl ?_
      refine x_iconst (q := 30) (v := nI 0) C dX8_search_29 (by decide) rfl ?_
      refine x_istore_n (q := 31) (lv' := [(0, .ref (ad 0)), (1, .int (nI t1)), (2, .int (nov (lsA (cX P)) (noP (cX P)))), (3, .int (nI 0))]) C dX8_search_30 rfl (by decide) rfl rfl rfl ?_
      have L31 : ∀ (f1 : Nat) (i : Nat) (Pq : St), (i ≤ t1) → (okN Pq) → (srP t1 (cX P) = srP (t1 - i) (cX Pq)) → (srN t1 (cX P) = i + srN (t1 - i) (cX Pq)) → t1 - i < f1 → XW p l e rmX8_search s m args below meth c D (wN ad cI cZ) A 4 (MQ below (XPI D (tyz cI cZ) (wN ad cI cZ) A (fun r P' _ => r = FsearchX (cX P) (nI t1) ∧ cX P' = GsearchX (cX P) (nI t1) ∧ okN P')) args s 0 0 A) 31 [(0, .ref (ad 0)), (1, .int (nI t1)), (2, .int (nov (lsA (cX Pq)) (noP (cX Pq)))), (3, .int (nI i))] [] Pq T := by
        intro f1
        induction f1 with
        | zero => intro i Pq hi okq hs1 hs2 hm; exact absurd hm (Nat.not_lt_zero _)
        | succ f1 ih31 =>
          intro i Pq hi okq hs1 hs2 hm31
          refine x_iload_n (q := 32) C dX8_search_31 rfl 3 rfl rfl ?_
          refine x_iload_n (q := 33) C dX8_search_32 rfl 1 rfl rfl ?_
          refine x_icmp_ge_n (q := 36) (tgt := 84) C dX8_search_33 (by omega) (by omega) (by decide) rfl (fun c33 => ?_) (fun c33 => ?_)
          · refine x_iload_n (q := 85) C dX8_search_84 rfl 3 rfl rfl ?_
            exact x_iret C dX8_search_85 (by first | exact se_fin hw9 c18 (by omega) hs1 hs2 okq (Or.inl (by omega)) | exact se_fin hw9 c18 (by omega) hs1 hs2 okq (Or.inr (nts_full ((le60 okqc).mpr (by omega)))) | exact se_fin hw9 c18 (by omega) hs1 hs2 okq (Or.inr (nts_end c50)) | exact se_fin hw9 c18 (by omega) hs1 hs2 okq (Or.inr (by rw [hgo, if_pos ⟨c57, Decidable.byContradiction (fun q => absurd c65 (Int32.not_le.mpr ((foN_neg hq60).mpr q)))⟩])))
          · have okqc := okN_c okq
            have hq60 := okc_nt60 okqc
            have hq144 := okc_S144 okqc
            have hqz := okc_nz50 okqc
            refine x_aload_n (q := 37) C dX8_search_36 rfl 0 rfl rfl ?_
            refine xg_X8_trials (q := 40) C tfl_X8_62 dX8_search_37 rfl ?_
            refine x_topn (nt Pq) (okc_nt okqc) ?_
            refine x_bipush (q := 42) (v := nI 60) C dX8_search_40 (by decide) rfl ?_
            refine x_icmp_ge_n (q := 45) (tgt := 84) C dX8_search_42 (by omega) (by omega) (by decide) rfl (fun c42 => ?_) (fun c42 => ?_)
            · refine x_iload_n (q := 85) C dX8_search_84 rfl 3 rfl rfl ?_
              exact x_iret C dX8_search_85 (by first | exact se_fin hw9 c18 (by omega) hs1 hs2 okq (Or.inl (by omega)) | exact se_fin hw9 c18 (by omega) hs1 hs2 okq (Or.inr (nts_full ((le60 okqc).mpr (by omega)))) | exact se_fin hw9 c18 (by omega) hs1 hs2 okq (Or.inr (nts_end c50)) | exact se_fin hw9 c18 (by omega) hs1 hs2 okq (Or.inr (by rw [hgo, if_pos ⟨c57, Decidable.byContradiction (fun q => absurd c65 (Int32.not_le.mpr ((foN_neg hq60).mpr q)))⟩])))
            · refine x_aload_n (q := 46) C dX8_search_45 rfl 0 rfl rfl ?_
              refine x_Vf (q := 49) (As := []) (rest := []) C (c_X8_leftMany hD okq) xs_X8_leftMany tim_X8_leftMany tsel_X8_leftMany tml_X8_140 (by decide) 0 rfl (ci := 8) rfl rfl rfl (Nat.le_of_ble_eq_true rfl) dX8_search_46 rfl ?_
              refine x_iconst (q := 50) (v := nI 1) C dX8_search_49 (by decide) rfl ?_
              refine x_icmp_le_n (q := 53) (tgt := 84) C dX8_search_50 (by have := fa_cnt_le (fun i => decide (barP (cX Pq) ≤ lr (cX Pq) i)) (lsA (cX Pq)).length; have : (lsA (cX Pq)).length ≤ 144 := lsA_len okqc; unfold lmP; omega) (by omega) (by decide) rfl (fun c50 => ?_) (fun c50 => ?_)
              · refine x_iload_n (q := 85) C dX8_search_84 rfl 3 rfl rfl ?_
                exact x_iret C dX8_search_85 (by first | exact se_fin hw9 c18 (by omega) hs1 hs2 okq (Or.inl (by omega)) | exact se_fin hw9 c18 (by omega) hs1 hs2 okq (Or.inr (nts_full ((le60 okqc).mpr (by omega)))) | exact se_fin hw9 c18 (by omega) hs1 hs2 okq (Or.inr (nts_end c50)) | exact se_fin hw9 c18 (by omega) hs1 hs2 okq (Or.inr (by rw [hgo, if_pos ⟨c57, Decidable.byContradiction (fun q => absurd c65 (Int32.not_le.mpr ((foN_neg hq60).mpr q)))⟩])))
              · obtain ⟨j, hj⟩ := lm_pos (P := cX Pq) (by omega)
                have hgx : (lsA (cX Pq)).getD j 0 < nS Pq := lsA_get (nxo_lt hj)
                rw [hj]
                rw [show nov (lsA (cX Pq)) (some j) = nI ((lsA (cX Pq)).getD j 0) from rfl]
                have h60 : ¬ nI 60 ≤ cX Pq 24 0 := fun h => by have := (le60 okqc).mp h; omega
                have hgo := nts_go h60 c50 hj
                refine x_aload_n (q := 54) C dX8_search_53 rfl 0 rfl rfl ?_
                refine xg_X8_z (q := 57) C tfl_X8_85 dX8_search_54 rfl ?_
                refine x_topn (nz Pq) (okc_nz okqc) ?_
                refine x_if_ne_n (q := 60) (tgt := 68) C dX8_search_57 (by omega) (by decide) rfl (fun c57 => ?_) (fun c57 => ?_)
                · have hxx : nts (cX Pq) = some ((lsA (cX Pq)).getD j 0) := by rw [hgo, if_neg (fun h => by first | exact c57 h.1 | exact (foN_neg hq60).mp (Int32.not_le.mp c65) h.2)]
                  have hn60 : nt Pq < 60 := by omega
                  refine x_aload_n (q := 69) C dX8_search_68 rfl 0 rfl rfl ?_
                  refine x_iload_n (q := 70) C dX8_search_69 rfl 2 rfl rfl ?_
                  refine x_Vg (q := 73) (As := [.int (nI ((lsA (cX Pq)).getD j 0))]) (rest := []) C (c_X8_tries hD okq ((lsA (cX Pq)).getD j 0) (by omega) hn60) xs_X8_tries tim_X8_tries tsel_X8_tries tml_X8_119 (by decide) 0 rfl (ci := 8) rfl rfl rfl (Nat.le_of_ble_eq_true rfl) dX8_search_70 rfl ?_
                  refine x_iinc (q := 76) (v := nI (i + 1)) (lv' := [(0, .ref (ad 0)), (1, .int (nI t1)), (2, .int (nI ((lsA (cX Pq)).getD j 0))), (3, .int (nI (i + 1)))]) C dX8_search_73 3 rfl (nI_add i 1) (by decide) rfl rfl rfl ?_
                  refine x_aload_n (q := 77) C dX8_search_76 rfl 0 rfl rfl ?_
                  refine x_Vf (q := 80) (As := []) (rest := []) C (c_X8_next hD (okN_try okq hgx hn60)) xs_X8_next tim_X8_next tsel_X8_next tml_X8_143 (by decide) 0 rfl (ci := 8) rfl rfl rfl (Nat.le_of_ble_eq_true rfl) dX8_search_77 rfl ?_
                  refine x_istore_n (q := 81) (lv' := [(0, .ref (ad 0)), (1, .int (nI t1)), (2, .int (nov (lsA (cX (tryP Pq ((lsA (cX Pq)).getD j 0) (wo Pq ((lsA (cX Pq)).getD j 0))))) (noP (cX (tryP Pq ((lsA (cX Pq)).getD j 0) (wo Pq ((lsA (cX Pq)).getD j 0))))))), (3, .int (nI (i + 1)))]) C dX8_search_80 rfl (by decide) rfl rfl rfl ?_
                  refine x_goto (tgt := 31) C dX8_search_81 (by decide) ?_
                  exact ih31 (i + 1) _ (by omega) (okN_try okq hgx hn60) (by rw [hs1, show t1 - i = t1 - (i + 1) + 1 by omega, cX_try]; exact (sr_some hxx _).1) (by rw [hs2, show t1 - i = t1 - (i + 1) + 1 by omega, (sr_some hxx _).2, cX_try]; exact (by show i + (srN (t1 - (i + 1)) (tryP (cX Pq) _ (wo Pq _)) + 1) = _; omega)) (by omega)
                · refine x_aload_n (q := 61) C dX8_search_60 rfl 0 rfl rfl ?_
                  refine x_iload_n (q := 62) C dX8_search_61 rfl 2 rfl rfl ?_
                  refine x_Vf (q := 65) (As := [.int (nI ((lsA (cX Pq)).getD j 0))]) (rest := []) C (c_X8_firstOf hD okq ((lsA (cX Pq)).getD j 0) (by omega)) xs_X8_firstOf tim_X8_firstOf tsel_X8_firstOf tml_X8_155 (by decide) 0 rfl (ci := 8) rfl rfl rfl (Nat.le_of_ble_eq_true rfl) dX8_search_62 rfl ?_
                  refine x_if_ge (q := 68) (tgt := 84) C dX8_search_65 (by decide) rfl (fun c65 => ?_) (fun c65 => ?_)
                  · refine x_iload_n (q := 85) C dX8_search_84 rfl 3 rfl rfl ?_
                    exact x_iret C dX8_search_85 (by first | exact se_fin hw9 c18 (by omega) hs1 hs2 okq (Or.inl (by omega)) | exact se_fin hw9 c18 (by omega) hs1 hs2 okq (Or.inr (nts_full ((le60 okqc).mpr (by omega)))) | exact se_fin hw9 c18 (by omega) hs1 hs2 okq (Or.inr (nts_end c50)) | exact se_fin hw9 c18 (by omega) hs1 hs2 okq (Or.inr (by rw [hgo, if_pos ⟨c57, Decidable.byContradiction (fun q => absurd c65 (Int32.not_le.mpr ((foN_neg hq60).mpr q)))⟩])))
                  · have hxx : nts (cX Pq) = some ((lsA (cX Pq)).getD j 0) := by rw [hgo, if_neg (fun h => by first | exact c57 h.1 | exact (foN_neg hq60).mp (Int32.not_le.mp c65) h.2)]
                    have hn60 : nt Pq < 60 := by omega
                    refine x_aload_n (q := 69) C dX8_search_68 rfl 0 rfl rfl ?_
                    refine x_iload_n (q := 70) C dX8_search_69 rfl 2 rfl rfl ?_
                    refine x_Vg (q := 73) (As := [.int (nI ((lsA (cX Pq)).getD j 0))]) (rest := []) C (c_X8_tries hD okq ((lsA (cX Pq)).getD j 0) (by omega) hn60) xs_X8_tries tim_X8_tries tsel_X8_tries tml_X8_119 (by decide) 0 rfl (ci := 8) rfl rfl rfl (Nat.le_of_ble_eq_true rfl) dX8_search_70 rfl ?_
                    refine x_iinc (q := 76) (v := nI (i + 1)) (lv' := [(0, .ref (ad 0)), (1, .int (nI t1)), (2, .int (nI ((lsA (cX Pq)).getD j 0))), (3, .int (nI (i + 1)))]) C dX8_search_73 3 rfl (nI_add i 1) (by decide) rfl rfl rfl ?_
                    refine x_aload_n (q := 77) C dX8_search_76 rfl 0 rfl rfl ?_
                    refine x_Vf (q := 80) (As := []) (rest := []) C (c_X8_next hD (okN_try okq hgx hn60)) xs_X8_next tim_X8_next tsel_X8_next tml_X8_143 (by decide) 0 rfl (ci := 8) rfl rfl rfl (Nat.le_of_ble_eq_true rfl) dX8_search_77 rfl ?_
                    refine x_istore_n (q := 81) (lv' := [(0, .ref (ad 0)), (1, .int (nI t1)), (2, .int (nov (lsA (cX (tryP Pq ((lsA (cX Pq)).getD j 0) (wo Pq ((lsA (cX Pq)).getD j 0))))) (noP (cX (tryP Pq ((lsA (cX Pq)).getD j 0) (wo Pq ((lsA (cX Pq)).getD j 0))))))), (3, .int (nI (i + 1)))]) C dX8_search_80 rfl (by decide) rfl rfl rfl ?_
                    refine x_goto (tgt := 31) C dX8_search_81 (by decide) ?_
                    exact ih31 (i + 1) _ (by omega) (okN_try okq hgx hn60) (by rw [hs1, show t1 - i = t1 - (i + 1) + 1 by omega, cX_try]; exact (sr_some hxx _).1) (by rw [hs2, show t1 - i = t1 - (i + 1) + 1 by omega, (sr_some hxx _).2, cX_try]; exact (by show i + (srN (t1 - (i + 1)) (tryP (cX Pq) _ (wo Pq _)) + 1) = _; omega)) (by omega)
      exact L31 _ 0 _ (Nat.zero_le _) ok rfl (Nat.zero_add _).symm (Nat.lt_succ_self _)
    · refine x_bipush (q := 23) (v := (-2)) C dX8_search_21 (by decide) rfl ?_
      exact x_iret C dX8_search_23 ⟨by rw [FsearchX, if_pos hw9]; exact if_t c18, by rw [GsearchX, if_pos hw9]; exact if_t c18, ok⟩
  · refine x_iconst (q := 13) (v := (-1)) C dX8_search_12 (by decide) rfl ?_
    exact x_iret C dX8_search_13 ⟨if_f c9, by rw [GsearchX, if_neg c9], ok⟩

end REFC
