section BENCHA
variable {l : Launch} {D : va_G} {ad : Nat → Nat} {cI cZ : ClassId} {A : Nat → Prop}

set_option maxRecDepth 100000 in
set_option maxHeartbeats 4000000 in
theorem c_X7_isWithin (hD : ∀ P T, va_D A (wX ad cI cZ P T)) {P T : St} (x a b : Int32) : XMI l D (tyz cI cZ) (wX ad cI cZ) A yX7_isWithin cX7_isWithin 3 (some .boolean) rmX7_isWithin [.int x, .int a, .int b] P T (fun r P' T' => r = bI (inR x a b) ∧ P' = P ∧ T' = T) := by
  refine x_start_i (lv := [(0, .int x), (1, .int a), (2, .int b)]) (own := RX7) (by decide) rfl hD (Nat.le_of_ble_eq_true rfl) rfl ?_
  intro p e s m args below meth c C
  refine x_iload_n (q := 1) C dX7_isWithin_0 rfl 0 rfl rfl ?_
  refine x_iload_n (q := 2) C dX7_isWithin_1 rfl 1 rfl rfl ?_
  refine x_icmp_lt (q := 5) (tgt := 14) C dX7_isWithin_2 (by decide) rfl (fun c2 => ?_) (fun c2 => ?_)
  · refine x_iconst (q := 15) (v := nI 0) C dX7_isWithin_14 (by decide) rfl ?_
    exact x_zret C dX7_isWithin_15 rfl ⟨bI_f (by simp only [inR, fa_lt, fa_le] at *; omega), rfl, rfl⟩
  · refine x_iload_n (q := 6) C dX7_isWithin_5 rfl 0 rfl rfl ?_
    refine x_iload_n (q := 7) C dX7_isWithin_6 rfl 2 rfl rfl ?_
    refine x_icmp_gt (q := 10) (tgt := 14) C dX7_isWithin_7 (by decide) rfl (fun c7 => ?_) (fun c7 => ?_)
    · refine x_iconst (q := 15) (v := nI 0) C dX7_isWithin_14 (by decide) rfl ?_
      exact x_zret C dX7_isWithin_15 rfl ⟨bI_f (by simp only [inR, fa_lt, fa_le] at *; omega), rfl, rfl⟩
    · refine x_iconst (q := 11) (v := nI 1) C dX7_isWithin_10 (by decide) rfl ?_
      refine x_goto (tgt := 15) C dX7_isWithin_11 (by decide) ?_
      exact x_zret C dX7_isWithin_15 rfl ⟨bI_t (by simp only [inR, fa_lt, fa_le] at *; omega), rfl, rfl⟩

set_option maxRecDepth 100000 in
set_option maxHeartbeats 4000000 in
theorem c_X7_knob (hD : ∀ P T, va_D A (wX ad cI cZ P T)) {P T : St} (ok : okX P) (v : Int32) : XMI l D (tyz cI cZ) (wX ad cI cZ) A yX7_knob cX7_knob 2 (some .int) rmX7_knob [.ref (ad 0), .int v] P T (fun r P' _ => r = Fknob P v ∧ (inR v (nI 2) (nI 4) ∧ knOK P v → addR (st1 P 24 0 (nI 0)) (cl v) P') ∧ (¬ (inR v (nI 2) (nI 4) ∧ knOK P v) → P' = P)) := by
  have okc := ok.1
  have hk6 := okc_kn6 okc
  have hS144 := okc_S144 okc
  have hS1 := okc_S1 okc
  have hnr := okc_nr12 okc
  have hnt := okc_nt60 okc
  have hnz := okc_nz50 okc
  have hsd := okc_sdb okc
  refine x_start_i (lv := [(0, .ref (ad 0)), (1, .int v)]) (own := RX7) (by decide) rfl hD (Nat.le_of_ble_eq_true rfl) rfl ?_
  intro p e s m args below meth c C
  refine x_iload_n (q := 1) C dX7_knob_0 rfl 1 rfl rfl ?_
  refine x_iconst (q := 2) (v := nI 2) C dX7_knob_1 (by decide) rfl ?_
  refine x_iconst (q := 3) (v := nI 4) C dX7_knob_2 (by decide) rfl ?_
  refine x_Sf (q := 6) (As := [.int v, .int (nI 2), .int (nI 4)]) (rest := []) C (c_X7_isWithin hD v (nI 2) (nI 4) ) xs_X7_isWithin tst_X7_isWithin tml_X7_58 (by decide) rfl rfl (Nat.le_of_ble_eq_true rfl) dX7_knob_3 rfl ?_
  refine x_if_ne_b (q := 9) (tgt := 11) C dX7_knob_6 (by decide) rfl (fun c6 => ?_) (fun c6 => ?_)
  · refine x_aload_n (q := 12) C dX7_knob_11 rfl 0 rfl rfl ?_
    refine xg_X7_knobs (q := 15) C tfl_X7_10 dX7_knob_12 rfl ?_
    refine x_iload_n (q := 16) C dX7_knob_15 rfl 1 rfl rfl ?_
    refine x_Vf (q := 19) (As := [.int v]) (rest := []) C (c_X2_hasRoomFor hD v ) xs_X2_hasRoomFor tim_X2_hasRoomFor tsel_X2_hasRoomFor tml_X7_62 (by decide) 1 rfl (ci := 2) rfl rfl rfl (Nat.le_of_ble_eq_true rfl) dX7_knob_16 rfl ?_
    refine x_if_ne_b (q := 22) (tgt := 25) C dX7_knob_19 (by decide) rfl (fun c19 => ?_) (fun c19 => ?_)
    · have hw19 := c19
      have hw6 := c6
      obtain ⟨v2, hv2a, hv2, rfl⟩ := inR_nat2 (b := 2) (n := 4) (by decide) (by decide) c6
      have hkn : kn P < 6 := by have := c19.1; rw [okc_kn okc] at this; exact (nI_ltI (by omega) (by decide)).mp this
      refine x_aload_n (q := 26) C dX7_knob_25 rfl 0 rfl rfl ?_
      refine xg_X7_trials (q := 29) C tfl_X7_33 dX7_knob_26 rfl ?_
      refine x_Vg (q := 32) (As := []) (rest := []) C (c_X6_clear hD) xs_X6_clear tim_X6_clear tsel_X6_clear tml_X7_66 (by decide) 4 rfl (ci := 6) rfl rfl rfl (Nat.le_of_ble_eq_true rfl) dX7_knob_29 rfl ?_
      refine x_aload_n (q := 33) C dX7_knob_32 rfl 0 rfl rfl ?_
      refine xg_X7_knobs (q := 36) C tfl_X7_10 dX7_knob_33 rfl ?_
      refine x_iload_n (q := 37) C dX7_knob_36 rfl 1 rfl rfl ?_
      refine x_Vi (q := 40) (As := [.int (nI v2)]) (rest := []) C (c_X2_add hD (okX_clr ok) v2 (by omega) (by show kn P < 6; omega)) xs_X2_add tim_X2_add tsel_X2_add tml_X7_69 (by decide) 1 rfl (ci := 2) rfl rfl rfl (Nat.le_of_ble_eq_true rfl) dX7_knob_37 rfl (fun r37 P37 T37 hadd => ?_)
      obtain ⟨hr, hadd, hTe⟩ := hadd
      subst hr; subst hTe
      exact x_iret C dX7_knob_40 ⟨by rw [Fknob, if_pos c6, if_pos hw19, okc_kn okc]; rfl, fun _ => by rw [cl_nI (by omega)]; exact hadd, fun h => absurd ⟨c6, hw19⟩ h⟩
    · refine x_bipush (q := 24) (v := (-3)) C dX7_knob_22 (by decide) rfl ?_
      exact x_iret C dX7_knob_24 ⟨by rw [Fknob, if_pos c6, if_neg c19], fun h => absurd h.2 c19, fun _ => rfl⟩
  · refine x_iconst (q := 10) (v := (-1)) C dX7_knob_9 (by decide) rfl ?_
    exact x_iret C dX7_knob_10 ⟨if_f c6, fun h => absurd h.1 c6, fun _ => rfl⟩

set_option maxRecDepth 100000 in
set_option maxHeartbeats 4000000 in
theorem c_X7_place (hD : ∀ P T, va_D A (wX ad cI cZ P T)) {P T : St} (ok : okX P) (k v p0 : Int32) : XMI l D (tyz cI cZ) (wX ad cI cZ) A yX7_place cX7_place 4 (some .int) rmX7_place [.ref (ad 0), .int k, .int v, .int p0] P T (fun r P' _ => r = Fplace P k v p0 ∧ P' = Gplace P k v p0) := by
  have okc := ok.1
  have hk6 := okc_kn6 okc
  have hS144 := okc_S144 okc
  have hS1 := okc_S1 okc
  have hnr := okc_nr12 okc
  have hnt := okc_nt60 okc
  have hnz := okc_nz50 okc
  have hsd := okc_sdb okc
  refine x_start_i (lv := [(0, .ref (ad 0)), (1, .int k), (2, .int v), (3, .int p0)]) (own := RX7) (by decide) rfl hD (Nat.le_of_ble_eq_true rfl) rfl ?_
  intro p e s m args below meth c C
  refine x_aload_n (q := 1) C dX7_place_0 rfl 0 rfl rfl ?_
  refine xg_X7_knobs (q := 4) C tfl_X7_10 dX7_place_1 rfl ?_
  refine x_iload_n (q := 5) C dX7_place_4 rfl 1 rfl rfl ?_
  refine x_iload_n (q := 6) C dX7_place_5 rfl 2 rfl rfl ?_
  refine x_Vf (q := 9) (As := [.int k, .int v]) (rest := []) C (c_X2_hasValue hD ok k v ) xs_X2_hasValue tim_X2_hasValue tsel_X2_hasValue tml_X7_73 (by decide) 1 rfl (ci := 2) rfl rfl rfl (Nat.le_of_ble_eq_true rfl) dX7_place_6 rfl ?_
  refine x_if_eq_b (q := 12) (tgt := 23) C dX7_place_9 (by decide) rfl (fun c9 => ?_) (fun c9 => ?_)
  · refine x_sipush (q := 26) (v := (-1000)) C dX7_place_23 (by decide) rfl ?_
    exact x_iret C dX7_place_26 ⟨if_f (fun h => by first | exact c9 h.1 | exact c20 h.2), if_f (fun h => by first | exact c9 h.1 | exact c20 h.2)⟩
  · have hV9 := c9
    obtain ⟨a, b, ha, hb, rfl, rfl⟩ := isV_nat okc c9
    have hza := okc_sz2 okc ha
    refine x_iload_n (q := 13) C dX7_place_12 rfl 3 rfl rfl ?_
    refine x_bipush (q := 15) (v := (-100)) C dX7_place_13 (by decide) rfl ?_
    refine x_bipush (q := 17) (v := nI 100) C dX7_place_15 (by decide) rfl ?_
    refine x_Sf (q := 20) (As := [.int p0, .int ((-100)), .int (nI 100)]) (rest := []) C (c_X7_isWithin hD p0 ((-100)) (nI 100) ) xs_X7_isWithin tst_X7_isWithin tml_X7_58 (by decide) rfl rfl (Nat.le_of_ble_eq_true rfl) dX7_place_17 rfl ?_
    refine x_if_ne_b (q := 23) (tgt := 27) C dX7_place_20 (by decide) rfl (fun c20 => ?_) (fun c20 => ?_)
    · refine x_aload_n (q := 28) C dX7_place_27 rfl 0 rfl rfl ?_
      refine xg_X7_knobs (q := 31) C tfl_X7_10 dX7_place_28 rfl ?_
      refine x_iload_n (q := 32) C dX7_place_31 rfl 1 rfl rfl ?_
      refine x_iload_n (q := 33) C dX7_place_32 rfl 2 rfl rfl ?_
      refine x_iload_n (q := 34) C dX7_place_33 rfl 3 rfl rfl ?_
      refine x_Vf (q := 37) (As := [.int (nI a), .int (nI b), .int p0]) (rest := []) C (c_X2_changePlace hD a b (by omega) (by omega) p0) xs_X2_changePlace tim_X2_changePlace tsel_X2_changePlace tml_X7_77 (by decide) 1 rfl (ci := 2) rfl rfl rfl (Nat.le_of_ble_eq_true rfl) dX7_place_34 rfl ?_
      exact x_iret C dX7_place_37 ⟨by rw [Fplace, if_pos ⟨hV9, c20⟩, cl_nI (by omega), cl_nI (by omega)], by rw [Gplace, if_pos ⟨hV9, c20⟩, cl_nI (by omega), cl_nI (by omega)]⟩
    · refine x_sipush (q := 26) (v := (-1000)) C dX7_place_23 (by decide) rfl ?_
      exact x_iret C dX7_place_26 ⟨if_f (fun h => by first | exact c9 h.1 | exact c20 h.2), if_f (fun h => by first | exact c9 h.1 | exact c20 h.2)⟩

set_option maxRecDepth 100000 in
set_option maxHeartbeats 4000000 in
theorem c_X7_steep (hD : ∀ P T, va_D A (wX ad cI cZ P T)) {P T : St} (ok : okX P) (k x : Int32) : XMI l D (tyz cI cZ) (wX ad cI cZ) A yX7_steep cX7_steep 3 (some .int) rmX7_steep [.ref (ad 0), .int k, .int x] P T (fun r P' _ => r = Fsteep P k x ∧ P' = Gsteep P k x) := by
  have okc := ok.1
  have hk6 := okc_kn6 okc
  have hS144 := okc_S144 okc
  have hS1 := okc_S1 okc
  have hnr := okc_nr12 okc
  have hnt := okc_nt60 okc
  have hnz := okc_nz50 okc
  have hsd := okc_sdb okc
  refine x_start_i (lv := [(0, .ref (ad 0)), (1, .int k), (2, .int x)]) (own := RX7) (by decide) rfl hD (Nat.le_of_ble_eq_true rfl) rfl ?_
  intro p e s m args below meth c C
  refine x_aload_n (q := 1) C dX7_steep_0 rfl 0 rfl rfl ?_
  refine xg_X7_knobs (q := 4) C tfl_X7_10 dX7_steep_1 rfl ?_
  refine x_iload_n (q := 5) C dX7_steep_4 rfl 1 rfl rfl ?_
  refine x_Vf (q := 8) (As := [.int k]) (rest := []) C (c_X2_hasKnob hD k ) xs_X2_hasKnob tim_X2_hasKnob tsel_X2_hasKnob tml_X7_81 (by decide) 1 rfl (ci := 2) rfl rfl rfl (Nat.le_of_ble_eq_true rfl) dX7_steep_5 rfl ?_
  refine x_if_eq_b (q := 11) (tgt := 21) C dX7_steep_8 (by decide) rfl (fun c8 => ?_) (fun c8 => ?_)
  · refine x_iconst (q := 22) (v := (-1)) C dX7_steep_21 (by decide) rfl ?_
    exact x_iret C dX7_steep_22 ⟨if_f (fun h => by first | exact c8 h.1 | exact c18 h.2), if_f (fun h => by first | exact c8 h.1 | exact c18 h.2)⟩
  · have hK8 := c8
    obtain ⟨a, ha, rfl⟩ := isK_nat okc c8
    refine x_iload_n (q := 12) C dX7_steep_11 rfl 2 rfl rfl ?_
    refine x_iconst (q := 13) (v := nI 0) C dX7_steep_12 (by decide) rfl ?_
    refine x_bipush (q := 15) (v := nI 100) C dX7_steep_13 (by decide) rfl ?_
    refine x_Sf (q := 18) (As := [.int x, .int (nI 0), .int (nI 100)]) (rest := []) C (c_X7_isWithin hD x (nI 0) (nI 100) ) xs_X7_isWithin tst_X7_isWithin tml_X7_58 (by decide) rfl rfl (Nat.le_of_ble_eq_true rfl) dX7_steep_15 rfl ?_
    refine x_if_ne_b (q := 21) (tgt := 23) C dX7_steep_18 (by decide) rfl (fun c18 => ?_) (fun c18 => ?_)
    · refine x_aload_n (q := 24) C dX7_steep_23 rfl 0 rfl rfl ?_
      refine xg_X7_knobs (q := 27) C tfl_X7_10 dX7_steep_24 rfl ?_
      refine x_iload_n (q := 28) C dX7_steep_27 rfl 1 rfl rfl ?_
      refine x_iload_n (q := 29) C dX7_steep_28 rfl 2 rfl rfl ?_
      refine x_Vf (q := 32) (As := [.int (nI a), .int x]) (rest := []) C (c_X2_changeSteepness hD a (by omega) x) xs_X2_changeSteepness tim_X2_changeSteepness tsel_X2_changeSteepness tml_X7_84 (by decide) 1 rfl (ci := 2) rfl rfl rfl (Nat.le_of_ble_eq_true rfl) dX7_steep_29 rfl ?_
      exact x_iret C dX7_steep_32 ⟨by rw [Fsteep, if_pos ⟨hK8, c18⟩, cl_nI (by omega)], by rw [Gsteep, if_pos ⟨hK8, c18⟩, cl_nI (by omega)]⟩
    · refine x_iconst (q := 22) (v := (-1)) C dX7_steep_21 (by decide) rfl ?_
      exact x_iret C dX7_steep_22 ⟨if_f (fun h => by first | exact c8 h.1 | exact c18 h.2), if_f (fun h => by first | exact c8 h.1 | exact c18 h.2)⟩

set_option maxRecDepth 100000 in
set_option maxHeartbeats 4000000 in
theorem c_X7_rule (hD : ∀ P T, va_D A (wX ad cI cZ P T)) {P T : St} (ok : okX P) (nb a v b x : Int32) (hnb : vp_nar .boolean nb = nb) : XMI l D (tyz cI cZ) (wX ad cI cZ) A yX7_rule cX7_rule 6 (some .int) rmX7_rule [.ref (ad 0), .int nb, .int a, .int v, .int b, .int x] P T (fun r P' _ => r = Frule P a v b x ∧ P' = GruleX P nb a v b x) := by
  have okc := ok.1
  have hk6 := okc_kn6 okc
  have hS144 := okc_S144 okc
  have hS1 := okc_S1 okc
  have hnr := okc_nr12 okc
  have hnt := okc_nt60 okc
  have hnz := okc_nz50 okc
  have hsd := okc_sdb okc
  refine x_start_i (lv := [(0, .ref (ad 0)), (1, .int nb), (2, .int a), (3, .int v), (4, .int b), (5, .int x)]) (own := RX7) (by decide) rfl hD (Nat.le_of_ble_eq_true rfl) rfl ?_
  intro p e s m args below meth c C
  refine x_aload_n (q := 1) C dX7_rule_0 rfl 0 rfl rfl ?_
  refine xg_X7_knobs (q := 4) C tfl_X7_10 dX7_rule_1 rfl ?_
  refine x_iload_n (q := 5) C dX7_rule_4 rfl 2 rfl rfl ?_
  refine x_iload_n (q := 6) C dX7_rule_5 rfl 3 rfl rfl ?_
  refine x_Vf (q := 9) (As := [.int a, .int v]) (rest := []) C (c_X2_hasValue hD ok a v ) xs_X2_hasValue tim_X2_hasValue tsel_X2_hasValue tml_X7_73 (by decide) 1 rfl (ci := 2) rfl rfl rfl (Nat.le_of_ble_eq_true rfl) dX7_rule_6 rfl ?_
  refine x_if_eq_b (q := 12) (tgt := 32) C dX7_rule_9 (by decide) rfl (fun c9 => ?_) (fun c9 => ?_)
  · refine x_iconst (q := 33) (v := (-1)) C dX7_rule_32 (by decide) rfl ?_
    exact x_iret C dX7_rule_33 ⟨if_f (fun h => by first | exact c9 h.1 | exact c23 h.2.1 | exact h.2.2 c29), if_f (fun h => by first | exact c9 h.1 | exact c23 h.2.1 | exact h.2.2 c29)⟩
  · refine x_aload_n (q := 13) C dX7_rule_12 rfl 0 rfl rfl ?_
    refine xg_X7_knobs (q := 16) C tfl_X7_10 dX7_rule_13 rfl ?_
    refine x_iload (q := 18) C dX7_rule_16 4 rfl rfl ?_
    refine x_iload (q := 20) C dX7_rule_18 5 rfl rfl ?_
    refine x_Vf (q := 23) (As := [.int b, .int x]) (rest := []) C (c_X2_hasValue hD ok b x ) xs_X2_hasValue tim_X2_hasValue tsel_X2_hasValue tml_X7_73 (by decide) 1 rfl (ci := 2) rfl rfl rfl (Nat.le_of_ble_eq_true rfl) dX7_rule_20 rfl ?_
    refine x_if_eq_b (q := 26) (tgt := 32) C dX7_rule_23 (by decide) rfl (fun c23 => ?_) (fun c23 => ?_)
    · refine x_iconst (q := 33) (v := (-1)) C dX7_rule_32 (by decide) rfl ?_
      exact x_iret C dX7_rule_33 ⟨if_f (fun h => by first | exact c9 h.1 | exact c23 h.2.1 | exact h.2.2 c29), if_f (fun h => by first | exact c9 h.1 | exact c23 h.2.1 | exact h.2.2 c29)⟩
    · refine x_iload_n (q := 27) C dX7_rule_26 rfl 2 rfl rfl ?_
      refine x_iload (q := 29) C dX7_rule_27 4 rfl rfl ?_
      refine x_icmp_ne (q := 32) (tgt := 34) C dX7_rule_29 (by decide) rfl (fun c29 => ?_) (fun c29 => ?_)
      · refine x_aload_n (q := 35) C dX7_rule_34 rfl 0 rfl rfl ?_
        refine xg_X7_rules (q := 38) C tfl_X7_19 dX7_rule_35 rfl ?_
        refine x_Vf (q := 41) (As := []) (rest := []) C (c_X5_isFull hD ) xs_X5_isFull tim_X5_isFull tsel_X5_isFull tml_X7_88 (by decide) 2 rfl (ci := 5) rfl rfl rfl (Nat.le_of_ble_eq_true rfl) dX7_rule_38 rfl ?_
        refine x_if_eq_b (q := 44) (tgt := 47) C dX7_rule_41 (by decide) rfl (fun c41 => ?_) (fun c41 => ?_)
        · have hn12 : nr P < 12 := Nat.not_le.mp (fun h => c41 (by rw [okc_nr okc]; exact nI_le h (by omega)))
          refine x_aload_n (q := 48) C dX7_rule_47 rfl 0 rfl rfl ?_
          refine xg_X7_rules (q := 51) C tfl_X7_19 dX7_rule_48 rfl ?_
          refine x_iload_n (q := 52) C dX7_rule_51 rfl 1 rfl rfl ?_
          refine x_iload_n (q := 53) C dX7_rule_52 rfl 2 rfl rfl ?_
          refine x_iload_n (q := 54) C dX7_rule_53 rfl 3 rfl rfl ?_
          refine x_iload (q := 56) C dX7_rule_54 4 rfl rfl ?_
          refine x_iload (q := 58) C dX7_rule_56 5 rfl rfl ?_
          refine x_Vg (q := 61) (As := [.int nb, .int a, .int v, .int b, .int x]) (rest := []) C (c_X5_add hD ok nb a v b x hnb (by omega)) xs_X5_add tim_X5_add tsel_X5_add tml_X7_92 (by decide) 2 rfl (ci := 5) rfl rfl rfl (Nat.le_of_ble_eq_true rfl) dX7_rule_58 rfl ?_
          refine x_aload_n (q := 62) C dX7_rule_61 rfl 0 rfl rfl ?_
          refine xg_X7_rules (q := 65) C tfl_X7_19 dX7_rule_62 rfl ?_
          refine x_Vf (q := 68) (As := []) (rest := []) C (c_X5_howMany hD ) xs_X5_howMany tim_X5_howMany tsel_X5_howMany tml_X7_95 (by decide) 2 rfl (ci := 5) rfl rfl rfl (Nat.le_of_ble_eq_true rfl) dX7_rule_65 rfl ?_
          refine x_tope (nI (nr P + 1)) rfl ?_
          exact x_iret C dX7_rule_68 ⟨by rw [Frule, if_pos ⟨c9, c23, c29⟩, if_neg c41], by rw [GruleX, if_pos ⟨c9, c23, c29⟩, if_neg c41]; rfl⟩
        · refine x_bipush (q := 46) (v := (-3)) C dX7_rule_44 (by decide) rfl ?_
          exact x_iret C dX7_rule_46 ⟨by rw [Frule, if_pos ⟨c9, c23, c29⟩, if_pos c41], by rw [GruleX, if_pos ⟨c9, c23, c29⟩, if_pos c41]⟩
      · refine x_iconst (q := 33) (v := (-1)) C dX7_rule_32 (by decide) rfl ?_
        exact x_iret C dX7_rule_33 ⟨if_f (fun h => by first | exact c9 h.1 | exact c23 h.2.1 | exact h.2.2 c29), if_f (fun h => by first | exact c9 h.1 | exact c23 h.2.1 | exact h.2.2 c29)⟩

set_option maxRecDepth 100000 in
set_option maxHeartbeats 4000000 in
theorem c_X7_noRule (hD : ∀ P T, va_D A (wX ad cI cZ P T)) {P T : St} (ok : okX P) : XMI l D (tyz cI cZ) (wX ad cI cZ) A yX7_noRule cX7_noRule 1 (some .int) rmX7_noRule [.ref (ad 0)] P T (fun r P' _ => r = FnoRule P ∧ P' = GnoRule P) := by
  have okc := ok.1
  have hk6 := okc_kn6 okc
  have hS144 := okc_S144 okc
  have hS1 := okc_S1 okc
  have hnr := okc_nr12 okc
  have hnt := okc_nt60 okc
  have hnz := okc_nz50 okc
  have hsd := okc_sdb okc
  refine x_start_i (lv := [(0, .ref (ad 0))]) (own := RX7) (by decide) rfl hD (Nat.le_of_ble_eq_true rfl) rfl ?_
  intro p e s m args below meth c C
  refine x_aload_n (q := 1) C dX7_noRule_0 rfl 0 rfl rfl ?_
  refine xg_X7_rules (q := 4) C tfl_X7_19 dX7_noRule_1 rfl ?_
  refine x_Vf (q := 7) (As := []) (rest := []) C (c_X5_howMany hD ) xs_X5_howMany tim_X5_howMany tsel_X5_howMany tml_X7_95 (by decide) 2 rfl (ci := 5) rfl rfl rfl (Nat.le_of_ble_eq_true rfl) dX7_noRule_4 rfl ?_
  refine x_topn (nr P) (okc_nr okc) ?_
  refine x_if_ne_n (q := 10) (tgt := 13) C dX7_noRule_7 (by omega) (by decide) rfl (fun c7 => ?_) (fun c7 => ?_)
  · refine x_aload_n (q := 14) C dX7_noRule_13 rfl 0 rfl rfl ?_
    refine xg_X7_rules (q := 17) C tfl_X7_19 dX7_noRule_14 rfl ?_
    refine x_Vg (q := 20) (As := []) (rest := []) C (c_X5_dropLatest hD ok (by omega)) xs_X5_dropLatest tim_X5_dropLatest tsel_X5_dropLatest tml_X7_99 (by decide) 2 rfl (ci := 5) rfl rfl rfl (Nat.le_of_ble_eq_true rfl) dX7_noRule_17 rfl ?_
    refine x_aload_n (q := 21) C dX7_noRule_20 rfl 0 rfl rfl ?_
    refine xg_X7_rules (q := 24) C tfl_X7_19 dX7_noRule_21 rfl ?_
    refine x_Vf (q := 27) (As := []) (rest := []) C (c_X5_howMany hD ) xs_X5_howMany tim_X5_howMany tsel_X5_howMany tml_X7_95 (by decide) 2 rfl (ci := 5) rfl rfl rfl (Nat.le_of_ble_eq_true rfl) dX7_noRule_24 rfl ?_
    refine x_tope (nI (nr P - 1)) rfl ?_
    exact x_iret C dX7_noRule_27 ⟨if_f c7, if_f c7⟩
  · refine x_bipush (q := 12) (v := (-2)) C dX7_noRule_10 (by decide) rfl ?_
    exact x_iret C dX7_noRule_12 ⟨if_t c7, if_t c7⟩

set_option maxRecDepth 100000 in
set_option maxHeartbeats 4000000 in
theorem c_X7_effect (hD : ∀ P T, va_D A (wX ad cI cZ P T)) {P T : St} (ok : okX P) (a v b x e0 : Int32) : XMI l D (tyz cI cZ) (wX ad cI cZ) A yX7_effect cX7_effect 6 (some .int) rmX7_effect [.ref (ad 0), .int a, .int v, .int b, .int x, .int e0] P T (fun r P' _ => r = Feff P a v b x e0 ∧ P' = Geff P a v b x e0) := by
  have okc := ok.1
  have hk6 := okc_kn6 okc
  have hS144 := okc_S144 okc
  have hS1 := okc_S1 okc
  have hnr := okc_nr12 okc
  have hnt := okc_nt60 okc
  have hnz := okc_nz50 okc
  have hsd := okc_sdb okc
  refine x_start_i (lv := [(0, .ref (ad 0)), (1, .int a), (2, .int v), (3, .int b), (4, .int x), (5, .int e0)]) (own := RX7) (by decide) rfl hD (Nat.le_of_ble_eq_true rfl) rfl ?_
  intro p e s m args below meth c C
  refine x_aload_n (q := 1) C dX7_effect_0 rfl 0 rfl rfl ?_
  refine xg_X7_knobs (q := 4) C tfl_X7_10 dX7_effect_1 rfl ?_
  refine x_iload_n (q := 5) C dX7_effect_4 rfl 1 rfl rfl ?_
  refine x_iload_n (q := 6) C dX7_effect_5 rfl 2 rfl rfl ?_
  refine x_Vf (q := 9) (As := [.int a, .int v]) (rest := []) C (c_X2_hasValue hD ok a v ) xs_X2_hasValue tim_X2_hasValue tsel_X2_hasValue tml_X7_73 (by decide) 1 rfl (ci := 2) rfl rfl rfl (Nat.le_of_ble_eq_true rfl) dX7_effect_6 rfl ?_
  refine x_if_eq_b (q := 12) (tgt := 26) C dX7_effect_9 (by decide) rfl (fun c9 => ?_) (fun c9 => ?_)
  · refine x_sipush (q := 29) (v := (-10000)) C dX7_effect_26 (by decide) rfl ?_
    exact x_iret C dX7_effect_29 (by first | exact ⟨if_f (fun h => c9 h.1), if_f (fun h => c9 h.1)⟩ | exact ⟨if_f (fun h => c23 h.2), if_f (fun h => c23 h.2)⟩ | exact ⟨by rw [Feff, if_pos ⟨hV9, c23⟩, if_neg c32, if_neg (fun h => by first | exact c57 h.1 | exact c62 h.2)], by rw [Geff, if_pos ⟨hV9, c23⟩, if_neg c32, if_neg (fun h => by first | exact c57 h.1 | exact c62 h.2)]⟩)
  · have hV9 := c9
    obtain ⟨a1, v1, ha1, hv1, rfl, rfl⟩ := isV_nat okc c9
    have hza1 := okc_sz2 okc ha1
    refine x_iload (q := 14) C dX7_effect_12 5 rfl rfl ?_
    refine x_sipush (q := 17) (v := (-1000)) C dX7_effect_14 (by decide) rfl ?_
    refine x_sipush (q := 20) (v := nI 1000) C dX7_effect_17 (by decide) rfl ?_
    refine x_Sf (q := 23) (As := [.int e0, .int ((-1000)), .int (nI 1000)]) (rest := []) C (c_X7_isWithin hD e0 ((-1000)) (nI 1000) ) xs_X7_isWithin tst_X7_isWithin tml_X7_58 (by decide) rfl rfl (Nat.le_of_ble_eq_true rfl) dX7_effect_20 rfl ?_
    refine x_if_ne_b (q := 26) (tgt := 30) C dX7_effect_23 (by decide) rfl (fun c23 => ?_) (fun c23 => ?_)
    · refine x_iload_n (q := 31) C dX7_effect_30 rfl 3 rfl rfl ?_
      refine x_iconst (q := 32) (v := (-1)) C dX7_effect_31 (by decide) rfl ?_
      refine x_icmp_ne (q := 35) (tgt := 47) C dX7_effect_32 (by decide) rfl (fun c32 => ?_) (fun c32 => ?_)
      · refine x_aload_n (q := 48) C dX7_effect_47 rfl 0 rfl rfl ?_
        refine xg_X7_knobs (q := 51) C tfl_X7_10 dX7_effect_48 rfl ?_
        refine x_iload_n (q := 52) C dX7_effect_51 rfl 3 rfl rfl ?_
        refine x_iload (q := 54) C dX7_effect_52 4 rfl rfl ?_
        refine x_Vf (q := 57) (As := [.int b, .int x]) (rest := []) C (c_X2_hasValue hD ok b x ) xs_X2_hasValue tim_X2_hasValue tsel_X2_hasValue tml_X7_73 (by decide) 1 rfl (ci := 2) rfl rfl rfl (Nat.le_of_ble_eq_true rfl) dX7_effect_54 rfl ?_
        refine x_if_eq_b (q := 60) (tgt := 65) C dX7_effect_57 (by decide) rfl (fun c57 => ?_) (fun c57 => ?_)
        · refine x_sipush (q := 68) (v := (-10000)) C dX7_effect_65 (by decide) rfl ?_
          exact x_iret C dX7_effect_68 (by first | exact ⟨if_f (fun h => c9 h.1), if_f (fun h => c9 h.1)⟩ | exact ⟨if_f (fun h => c23 h.2), if_f (fun h => c23 h.2)⟩ | exact ⟨by rw [Feff, if_pos ⟨hV9, c23⟩, if_neg c32, if_neg (fun h => by first | exact c57 h.1 | exact c62 h.2)], by rw [Geff, if_pos ⟨hV9, c23⟩, if_neg c32, if_neg (fun h => by first | exact c57 h.1 | exact c62 h.2)]⟩)
        · have hV57 := c57
          obtain ⟨b1, x1, hb1, hx1, rfl, rfl⟩ := isV_nat okc c57
          have hzb1 := okc_sz2 okc hb1
          refine x_iload_n (q := 61) C dX7_effect_60 rfl 1 rfl rfl ?_
          refine x_iload_n (q := 62) C dX7_effect_61 rfl 3 rfl rfl ?_
          refine x_icmp_lt_n (q := 65) (tgt := 69) C dX7_effect_62 (by omega) (by omega) (by decide) rfl (fun c62 => ?_) (fun c62 => ?_)
          · replace c62 : nI a1 < nI b1 := nI_lt c62 (by omega)
            refine x_aload_n (q := 70) C dX7_effect_69 rfl 0 rfl rfl ?_
            refine xg_X7_effects (q := 73) C tfl_X7_26 dX7_effect_70 rfl ?_
            refine x_iload_n (q := 74) C dX7_effect_73 rfl 1 rfl rfl ?_
            refine x_iload_n (q := 75) C dX7_effect_74 rfl 2 rfl rfl ?_
            refine x_iload_n (q := 76) C dX7_effect_75 rfl 3 rfl rfl ?_
            refine x_iload (q := 78) C dX7_effect_76 4 rfl rfl ?_
            refine x_iload (q := 80) C dX7_effect_78 5 rfl rfl ?_
            refine x_Vf (q := 83) (As := [.int (nI a1), .int (nI v1), .int (nI b1), .int (nI x1), .int e0]) (rest := []) C (c_X1_changeJoint hD a1 v1 b1 x1 (by omega) (by omega) (by omega) (by omega) e0) xs_X1_changeJoint tim_X1_changeJoint tsel_X1_changeJoint tml_X7_105 (by decide) 3 rfl (ci := 1) rfl rfl rfl (Nat.le_of_ble_eq_true rfl) dX7_effect_80 rfl ?_
            exact x_iret C dX7_effect_83 ⟨by rw [Feff, if_pos ⟨hV9, c23⟩, if_neg c32, if_pos ⟨hV57, c62⟩, cl_nI (by omega), cl_nI (by omega), cl_nI (by omega), cl_nI (by omega)], by rw [Geff, if_pos ⟨hV9, c23⟩, if_neg c32, if_pos ⟨hV57, c62⟩, cl_nI (by omega), cl_nI (by omega), cl_nI (by omega), cl_nI (by omega)]⟩
          · replace c62 : ¬ nI a1 < nI b1 := fun h => c62 ((nI_ltI (by omega) (by omega)).mp h)
            refine x_sipush (q := 68) (v := (-10000)) C dX7_effect_65 (by decide) rfl ?_
            exact x_iret C dX7_effect_68 (by first | exact ⟨if_f (fun h => c9 h.1), if_f (fun h => c9 h.1)⟩ | exact ⟨if_f (fun h => c23 h.2), if_f (fun h => c23 h.2)⟩ | exact ⟨by rw [Feff, if_pos ⟨hV9, c23⟩, if_neg c32, if_neg (fun h => by first | exact c57 h.1 | exact c62 h.2)], by rw [Geff, if_pos ⟨hV9, c23⟩, if_neg c32, if_neg (fun h => by first | exact c57 h.1 | exact c62 h.2)]⟩)
      · refine x_aload_n (q := 36) C dX7_effect_35 rfl 0 rfl rfl ?_
        refine xg_X7_effects (q := 39) C tfl_X7_26 dX7_effect_36 rfl ?_
        refine x_iload_n (q := 40) C dX7_effect_39 rfl 1 rfl rfl ?_
        refine x_iload_n (q := 41) C dX7_effect_40 rfl 2 rfl rfl ?_
        refine x_iload (q := 43) C dX7_effect_41 5 rfl rfl ?_
        refine x_Vf (q := 46) (As := [.int (nI a1), .int (nI v1), .int e0]) (rest := []) C (c_X1_changeSingle hD a1 v1 (by omega) (by omega) e0) xs_X1_changeSingle tim_X1_changeSingle tsel_X1_changeSingle tml_X7_102 (by decide) 3 rfl (ci := 1) rfl rfl rfl (Nat.le_of_ble_eq_true rfl) dX7_effect_43 rfl ?_
        exact x_iret C dX7_effect_46 ⟨by rw [Feff, if_pos ⟨hV9, c23⟩, if_pos c32, cl_nI (by omega), cl_nI (by omega)], by rw [Geff, if_pos ⟨hV9, c23⟩, if_pos c32, cl_nI (by omega), cl_nI (by omega)]⟩
    · refine x_sipush (q := 29) (v := (-10000)) C dX7_effect_26 (by decide) rfl ?_
      exact x_iret C dX7_effect_29 (by first | exact ⟨if_f (fun h => c9 h.1), if_f (fun h => c9 h.1)⟩ | exact ⟨if_f (fun h => c23 h.2), if_f (fun h => c23 h.2)⟩ | exact ⟨by rw [Feff, if_pos ⟨hV9, c23⟩, if_neg c32, if_neg (fun h => by first | exact c57 h.1 | exact c62 h.2)], by rw [Geff, if_pos ⟨hV9, c23⟩, if_neg c32, if_neg (fun h => by first | exact c57 h.1 | exact c62 h.2)]⟩)

set_option maxRecDepth 100000 in
set_option maxHeartbeats 4000000 in
theorem c_X7_base (hD : ∀ P T, va_D A (wX ad cI cZ P T)) {P T : St} (x : Int32) : XMI l D (tyz cI cZ) (wX ad cI cZ) A yX7_base cX7_base 2 (some .int) rmX7_base [.ref (ad 0), .int x] P T (fun r P' _ => r = Fbase P x ∧ P' = Gbase P x) := by
  refine x_start_i (lv := [(0, .ref (ad 0)), (1, .int x)]) (own := RX7) (by decide) rfl hD (Nat.le_of_ble_eq_true rfl) rfl ?_
  intro p e s m args below meth c C
  refine x_iload_n (q := 1) C dX7_base_0 rfl 1 rfl rfl ?_
  refine x_sipush (q := 4) (v := (-1000)) C dX7_base_1 (by decide) rfl ?_
  refine x_sipush (q := 7) (v := nI 1000) C dX7_base_4 (by decide) rfl ?_
  refine x_Sf (q := 10) (As := [.int x, .int ((-1000)), .int (nI 1000)]) (rest := []) C (c_X7_isWithin hD x ((-1000)) (nI 1000) ) xs_X7_isWithin tst_X7_isWithin tml_X7_58 (by decide) rfl rfl (Nat.le_of_ble_eq_true rfl) dX7_base_7 rfl ?_
  refine x_if_ne_b (q := 13) (tgt := 17) C dX7_base_10 (by decide) rfl (fun c10 => ?_) (fun c10 => ?_)
  · refine x_aload_n (q := 18) C dX7_base_17 rfl 0 rfl rfl ?_
    refine xg_X7_effects (q := 21) C tfl_X7_26 dX7_base_18 rfl ?_
    refine x_iload_n (q := 22) C dX7_base_21 rfl 1 rfl rfl ?_
    refine x_Vf (q := 25) (As := [.int x]) (rest := []) C (c_X1_changeBase hD x) xs_X1_changeBase tim_X1_changeBase tsel_X1_changeBase tml_X7_109 (by decide) 3 rfl (ci := 1) rfl rfl rfl (Nat.le_of_ble_eq_true rfl) dX7_base_22 rfl ?_
    exact x_iret C dX7_base_25 ⟨if_t c10, if_t c10⟩
  · refine x_sipush (q := 16) (v := (-10000)) C dX7_base_13 (by decide) rfl ?_
    exact x_iret C dX7_base_16 ⟨if_f c10, if_f c10⟩

set_option maxRecDepth 100000 in
set_option maxHeartbeats 4000000 in
theorem c_X7_noise (hD : ∀ P T, va_D A (wX ad cI cZ P T)) {P T : St} (x : Int32) : XMI l D (tyz cI cZ) (wX ad cI cZ) A yX7_noise cX7_noise 2 (some .int) rmX7_noise [.ref (ad 0), .int x] P T (fun r P' _ => r = Fnoise P x ∧ P' = Gnoise P x) := by
  refine x_start_i (lv := [(0, .ref (ad 0)), (1, .int x)]) (own := RX7) (by decide) rfl hD (Nat.le_of_ble_eq_true rfl) rfl ?_
  intro p e s m args below meth c C
  refine x_iload_n (q := 1) C dX7_noise_0 rfl 1 rfl rfl ?_
  refine x_iconst (q := 2) (v := nI 0) C dX7_noise_1 (by decide) rfl ?_
  refine x_bipush (q := 4) (v := nI 50) C dX7_noise_2 (by decide) rfl ?_
  refine x_Sf (q := 7) (As := [.int x, .int (nI 0), .int (nI 50)]) (rest := []) C (c_X7_isWithin hD x (nI 0) (nI 50) ) xs_X7_isWithin tst_X7_isWithin tml_X7_58 (by decide) rfl rfl (Nat.le_of_ble_eq_true rfl) dX7_noise_4 rfl ?_
  refine x_if_ne_b (q := 10) (tgt := 12) C dX7_noise_7 (by decide) rfl (fun c7 => ?_) (fun c7 => ?_)
  · refine x_aload_n (q := 13) C dX7_noise_12 rfl 0 rfl rfl ?_
    refine xg_X7_trials (q := 16) C tfl_X7_33 dX7_noise_13 rfl ?_
    refine x_iload_n (q := 17) C dX7_noise_16 rfl 1 rfl rfl ?_
    refine x_Vf (q := 20) (As := [.int x]) (rest := []) C (c_X6_changeNoise hD x) xs_X6_changeNoise tim_X6_changeNoise tsel_X6_changeNoise tml_X7_112 (by decide) 4 rfl (ci := 6) rfl rfl rfl (Nat.le_of_ble_eq_true rfl) dX7_noise_17 rfl ?_
    exact x_iret C dX7_noise_20 ⟨if_t c7, if_t c7⟩
  · refine x_iconst (q := 11) (v := (-1)) C dX7_noise_10 (by decide) rfl ?_
    exact x_iret C dX7_noise_11 ⟨if_f c7, if_f c7⟩

set_option maxRecDepth 100000 in
set_option maxHeartbeats 4000000 in
theorem c_X7_seed (hD : ∀ P T, va_D A (wX ad cI cZ P T)) {P T : St} (x : Int32) : XMI l D (tyz cI cZ) (wX ad cI cZ) A yX7_seed cX7_seed 2 (some .int) rmX7_seed [.ref (ad 0), .int x] P T (fun r P' _ => r = Fseed x ∧ P' = Gseed P x) := by
  refine x_start_i (lv := [(0, .ref (ad 0)), (1, .int x)]) (own := RX7) (by decide) rfl hD (Nat.le_of_ble_eq_true rfl) rfl ?_
  intro p e s m args below meth c C
  refine x_iload_n (q := 1) C dX7_seed_0 rfl 1 rfl rfl ?_
  refine x_iconst (q := 2) (v := nI 0) C dX7_seed_1 (by decide) rfl ?_
  refine x_ldc (q := 4) C tk_X7_115 dX7_seed_2 rfl ?_
  refine x_topn (1073741823) (by decide) ?_
  refine x_Sf (q := 7) (As := [.int x, .int (nI 0), .int (nI 1073741823)]) (rest := []) C (c_X7_isWithin hD x (nI 0) (nI 1073741823) ) xs_X7_isWithin tst_X7_isWithin tml_X7_58 (by decide) rfl rfl (Nat.le_of_ble_eq_true rfl) dX7_seed_4 rfl ?_
  refine x_if_ne_b (q := 10) (tgt := 12) C dX7_seed_7 (by decide) rfl (fun c7 => ?_) (fun c7 => ?_)
  · refine x_aload_n (q := 13) C dX7_seed_12 rfl 0 rfl rfl ?_
    refine xg_X7_trials (q := 16) C tfl_X7_33 dX7_seed_13 rfl ?_
    refine x_iload_n (q := 17) C dX7_seed_16 rfl 1 rfl rfl ?_
    refine x_Vg (q := 20) (As := [.int x]) (rest := []) C (c_X6_changeSeed hD x) xs_X6_changeSeed tim_X6_changeSeed tsel_X6_changeSeed tml_X7_116 (by decide) 4 rfl (ci := 6) rfl rfl rfl (Nat.le_of_ble_eq_true rfl) dX7_seed_17 rfl ?_
    refine x_iconst (q := 21) (v := nI 0) C dX7_seed_20 (by decide) rfl ?_
    exact x_iret C dX7_seed_21 ⟨if_t c7, if_t c7⟩
  · refine x_iconst (q := 11) (v := (-1)) C dX7_seed_10 (by decide) rfl ?_
    exact x_iret C dX7_seed_11 ⟨if_f c7, if_f c7⟩

set_option maxRecDepth 100000 in
set_option maxHeartbeats 4000000 in
theorem c_X7_with (hD : ∀ P T, va_D A (wX ad cI cZ P T)) {P T : St} (ok : okX P) (x k v : Int32) : XMI l D (tyz cI cZ) (wX ad cI cZ) A yX7_with cX7_with 4 (some .int) rmX7_with [.ref (ad 0), .int x, .int k, .int v] P T (fun r P' _ => r = Fwith P x k v ∧ P' = P) := by
  have okc := ok.1
  have hk6 := okc_kn6 okc
  have hS144 := okc_S144 okc
  have hS1 := okc_S1 okc
  have hnr := okc_nr12 okc
  have hnt := okc_nt60 okc
  have hnz := okc_nz50 okc
  have hsd := okc_sdb okc
  refine x_start_i (lv := [(0, .ref (ad 0)), (1, .int x), (2, .int k), (3, .int v)]) (own := RX7) (by decide) rfl hD (Nat.le_of_ble_eq_true rfl) rfl ?_
  intro p e s m args below meth c C
  refine x_aload_n (q := 1) C dX7_with_0 rfl 0 rfl rfl ?_
  refine xg_X7_knobs (q := 4) C tfl_X7_10 dX7_with_1 rfl ?_
  refine x_iload_n (q := 5) C dX7_with_4 rfl 1 rfl rfl ?_
  refine x_Vf (q := 8) (As := [.int x]) (rest := []) C (c_X2_hasSetting hD x ) xs_X2_hasSetting tim_X2_hasSetting tsel_X2_hasSetting tml_X7_120 (by decide) 1 rfl (ci := 2) rfl rfl rfl (Nat.le_of_ble_eq_true rfl) dX7_with_5 rfl ?_
  refine x_if_eq_b (q := 11) (tgt := 23) C dX7_with_8 (by decide) rfl (fun c8 => ?_) (fun c8 => ?_)
  · refine x_iconst (q := 24) (v := (-1)) C dX7_with_23 (by decide) rfl ?_
    exact x_iret C dX7_with_24 ⟨if_f (fun h => by first | exact c8 h.1 | exact c20 h.2), rfl⟩
  · have hS8 := c8
    obtain ⟨x1, hx1, rfl⟩ := isS_nat okc c8
    refine x_aload_n (q := 12) C dX7_with_11 rfl 0 rfl rfl ?_
    refine xg_X7_knobs (q := 15) C tfl_X7_10 dX7_with_12 rfl ?_
    refine x_iload_n (q := 16) C dX7_with_15 rfl 2 rfl rfl ?_
    refine x_iload_n (q := 17) C dX7_with_16 rfl 3 rfl rfl ?_
    refine x_Vf (q := 20) (As := [.int k, .int v]) (rest := []) C (c_X2_hasValue hD ok k v ) xs_X2_hasValue tim_X2_hasValue tsel_X2_hasValue tml_X7_73 (by decide) 1 rfl (ci := 2) rfl rfl rfl (Nat.le_of_ble_eq_true rfl) dX7_with_17 rfl ?_
    refine x_if_ne_b (q := 23) (tgt := 25) C dX7_with_20 (by decide) rfl (fun c20 => ?_) (fun c20 => ?_)
    · have hV20 := c20
      obtain ⟨a, b, ha, hb, rfl, rfl⟩ := isV_nat okc c20
      have hza := okc_sz2 okc ha
      refine x_aload_n (q := 26) C dX7_with_25 rfl 0 rfl rfl ?_
      refine xg_X7_knobs (q := 29) C tfl_X7_10 dX7_with_26 rfl ?_
      refine x_iload_n (q := 30) C dX7_with_29 rfl 1 rfl rfl ?_
      refine x_iload_n (q := 31) C dX7_with_30 rfl 2 rfl rfl ?_
      refine x_iload_n (q := 32) C dX7_with_31 rfl 3 rfl rfl ?_
      refine x_Vf (q := 35) (As := [.int (nI x1), .int (nI a), .int (nI b)]) (rest := []) C (c_X2_moved hD ok x1 a b (by omega) (by omega)) xs_X2_moved tim_X2_moved tsel_X2_moved tml_X7_123 (by decide) 1 rfl (ci := 2) rfl rfl rfl (Nat.le_of_ble_eq_true rfl) dX7_with_32 rfl ?_
      exact x_iret C dX7_with_35 ⟨by rw [Fwith, if_pos ⟨hS8, hV20⟩, cl_nI (by omega), cl_nI (by omega), cl_nI (by omega)], rfl⟩
    · refine x_iconst (q := 24) (v := (-1)) C dX7_with_23 (by decide) rfl ?_
      exact x_iret C dX7_with_24 ⟨if_f (fun h => by first | exact c8 h.1 | exact c20 h.2), rfl⟩

set_option maxRecDepth 100000 in
set_option maxHeartbeats 4000000 in
theorem c_X7_value (hD : ∀ P T, va_D A (wX ad cI cZ P T)) {P T : St} (ok : okX P) (x k : Int32) : XMI l D (tyz cI cZ) (wX ad cI cZ) A yX7_value cX7_value 3 (some .int) rmX7_value [.ref (ad 0), .int x, .int k] P T (fun r P' _ => r = Fvalue P x k ∧ P' = P) := by
  have okc := ok.1
  have hk6 := okc_kn6 okc
  have hS144 := okc_S144 okc
  have hS1 := okc_S1 okc
  have hnr := okc_nr12 okc
  have hnt := okc_nt60 okc
  have hnz := okc_nz50 okc
  have hsd := okc_sdb okc
  refine x_start_i (lv := [(0, .ref (ad 0)), (1, .int x), (2, .int k)]) (own := RX7) (by decide) rfl hD (Nat.le_of_ble_eq_true rfl) rfl ?_
  intro p e s m args below meth c C
  refine x_aload_n (q := 1) C dX7_value_0 rfl 0 rfl rfl ?_
  refine xg_X7_knobs (q := 4) C tfl_X7_10 dX7_value_1 rfl ?_
  refine x_iload_n (q := 5) C dX7_value_4 rfl 1 rfl rfl ?_
  refine x_Vf (q := 8) (As := [.int x]) (rest := []) C (c_X2_hasSetting hD x ) xs_X2_hasSetting tim_X2_hasSetting tsel_X2_hasSetting tml_X7_120 (by decide) 1 rfl (ci := 2) rfl rfl rfl (Nat.le_of_ble_eq_true rfl) dX7_value_5 rfl ?_
  refine x_if_eq_b (q := 11) (tgt := 22) C dX7_value_8 (by decide) rfl (fun c8 => ?_) (fun c8 => ?_)
  · refine x_iconst (q := 23) (v := (-1)) C dX7_value_22 (by decide) rfl ?_
    exact x_iret C dX7_value_23 ⟨if_f (fun h => by first | exact c8 h.1 | exact c19 h.2), rfl⟩
  · have hS8 := c8
    obtain ⟨x1, hx1, rfl⟩ := isS_nat okc c8
    refine x_aload_n (q := 12) C dX7_value_11 rfl 0 rfl rfl ?_
    refine xg_X7_knobs (q := 15) C tfl_X7_10 dX7_value_12 rfl ?_
    refine x_iload_n (q := 16) C dX7_value_15 rfl 2 rfl rfl ?_
    refine x_Vf (q := 19) (As := [.int k]) (rest := []) C (c_X2_hasKnob hD k ) xs_X2_hasKnob tim_X2_hasKnob tsel_X2_hasKnob tml_X7_81 (by decide) 1 rfl (ci := 2) rfl rfl rfl (Nat.le_of_ble_eq_true rfl) dX7_value_16 rfl ?_
    refine x_if_ne_b (q := 22) (tgt := 24) C dX7_value_19 (by decide) rfl (fun c19 => ?_) (fun c19 => ?_)
    · have hK19 := c19
      obtain ⟨a, ha, rfl⟩ := isK_nat okc c19
      refine x_aload_n (q := 25) C dX7_value_24 rfl 0 rfl rfl ?_
      refine xg_X7_knobs (q := 28) C tfl_X7_10 dX7_value_25 rfl ?_
      refine x_iload_n (q := 29) C dX7_value_28 rfl 1 rfl rfl ?_
      refine x_iload_n (q := 30) C dX7_value_29 rfl 2 rfl rfl ?_
      refine x_Vf (q := 33) (As := [.int (nI x1), .int (nI a)]) (rest := []) C (c_X2_valueIn hD ok x1 a (by omega) (by omega)) xs_X2_valueIn tim_X2_valueIn tsel_X2_valueIn tml_X7_126 (by decide) 1 rfl (ci := 2) rfl rfl rfl (Nat.le_of_ble_eq_true rfl) dX7_value_30 rfl ?_
      exact x_iret C dX7_value_33 ⟨by rw [Fvalue, if_pos ⟨hS8, hK19⟩, cl_nI (by omega), cl_nI (by omega)], rfl⟩
    · refine x_iconst (q := 23) (v := (-1)) C dX7_value_22 (by decide) rfl ?_
      exact x_iret C dX7_value_23 ⟨if_f (fun h => by first | exact c8 h.1 | exact c19 h.2), rfl⟩

set_option maxRecDepth 100000 in
set_option maxHeartbeats 4000000 in
theorem c_X7_allowed (hD : ∀ P T, va_D A (wX ad cI cZ P T)) {P T : St} (ok : okX P) (x : Int32) : XMI l D (tyz cI cZ) (wX ad cI cZ) A yX7_allowed cX7_allowed 2 (some .int) rmX7_allowed [.ref (ad 0), .int x] P T (fun r P' _ => r = FallX P x ∧ P' = P) := by
  have okc := ok.1
  have hk6 := okc_kn6 okc
  have hS144 := okc_S144 okc
  have hS1 := okc_S1 okc
  have hnr := okc_nr12 okc
  have hnt := okc_nt60 okc
  have hnz := okc_nz50 okc
  have hsd := okc_sdb okc
  refine x_start_i (lv := [(0, .ref (ad 0)), (1, .int x)]) (own := RX7) (by decide) rfl hD (Nat.le_of_ble_eq_true rfl) rfl ?_
  intro p e s m args below meth c C
  refine x_aload_n (q := 1) C dX7_allowed_0 rfl 0 rfl rfl ?_
  refine xg_X7_knobs (q := 4) C tfl_X7_10 dX7_allowed_1 rfl ?_
  refine x_iload_n (q := 5) C dX7_allowed_4 rfl 1 rfl rfl ?_
  refine x_Vf (q := 8) (As := [.int x]) (rest := []) C (c_X2_hasSetting hD x ) xs_X2_hasSetting tim_X2_hasSetting tsel_X2_hasSetting tml_X7_120 (by decide) 1 rfl (ci := 2) rfl rfl rfl (Nat.le_of_ble_eq_true rfl) dX7_allowed_5 rfl ?_
  refine x_if_ne_b (q := 11) (tgt := 13) C dX7_allowed_8 (by decide) rfl (fun c8 => ?_) (fun c8 => ?_)
  · have hS8 := c8
    obtain ⟨x1, hx1, rfl⟩ := isS_nat okc c8
    refine x_aload_n (q := 14) C dX7_allowed_13 rfl 0 rfl rfl ?_
    refine xg_X7_rules (q := 17) C tfl_X7_19 dX7_allowed_14 rfl ?_
    refine x_iload_n (q := 18) C dX7_allowed_17 rfl 1 rfl rfl ?_
    refine x_aload_n (q := 19) C dX7_allowed_18 rfl 0 rfl rfl ?_
    refine xg_X7_knobs (q := 22) C tfl_X7_10 dX7_allowed_19 rfl ?_
    refine x_Vf (q := 25) (As := [.int (nI x1), .ref (ad 1)]) (rest := []) C (c_X5_allow hD ok x1 (by omega)) xs_X5_allow tim_X5_allow tsel_X5_allow tml_X7_129 (by decide) 2 rfl (ci := 5) rfl rfl rfl (Nat.le_of_ble_eq_true rfl) dX7_allowed_22 rfl ?_
    refine x_if_eq_b (q := 28) (tgt := 32) C dX7_allowed_25 (by decide) rfl (fun c25 => ?_) (fun c25 => ?_)
    · refine x_iconst (q := 33) (v := nI 0) C dX7_allowed_32 (by decide) rfl ?_
      exact x_iret C dX7_allowed_33 ⟨by rw [FallX, if_pos hS8, cl_nI (by omega)]; exact bI_f c25, rfl⟩
    · refine x_iconst (q := 29) (v := nI 1) C dX7_allowed_28 (by decide) rfl ?_
      refine x_goto (tgt := 33) C dX7_allowed_29 (by decide) ?_
      exact x_iret C dX7_allowed_33 ⟨by rw [FallX, if_pos hS8, cl_nI (by omega)]; exact bI_t c25, rfl⟩
  · refine x_iconst (q := 12) (v := (-1)) C dX7_allowed_11 (by decide) rfl ?_
    exact x_iret C dX7_allowed_12 ⟨if_f c8, rfl⟩

set_option maxRecDepth 100000 in
set_option maxHeartbeats 4000000 in
theorem c_X7_book (hD : ∀ P T, va_D A (wX ad cI cZ P T)) {P T : St} (ok : okX P) : XMI l D (tyz cI cZ) (wX ad cI cZ) A yX7_book cX7_book 1 (some .int) rmX7_book [.ref (ad 0)] P T (fun r P' _ => r = nI (alL P (nS P)).length ∧ P' = P) := by
  have okc := ok.1
  have hk6 := okc_kn6 okc
  have hS144 := okc_S144 okc
  have hS1 := okc_S1 okc
  have hnr := okc_nr12 okc
  have hnt := okc_nt60 okc
  have hnz := okc_nz50 okc
  have hsd := okc_sdb okc
  refine x_start_i (lv := [(0, .ref (ad 0))]) (own := RX7) (by decide) rfl hD (Nat.le_of_ble_eq_true rfl) rfl ?_
  intro p e s m args below meth c C
  refine x_aload_n (q := 1) C dX7_book_0 rfl 0 rfl rfl ?_
  refine xg_X7_open (q := 4) C tfl_X7_40 dX7_book_1 rfl ?_
  refine x_aload_n (q := 5) C dX7_book_4 rfl 0 rfl rfl ?_
  refine xg_X7_knobs (q := 8) C tfl_X7_10 dX7_book_5 rfl ?_
  refine x_aload_n (q := 9) C dX7_book_8 rfl 0 rfl rfl ?_
  refine xg_X7_rules (q := 12) C tfl_X7_19 dX7_book_9 rfl ?_
  refine x_Vv (q := 15) (As := [.ref (ad 1), .ref (ad 2)]) (rest := []) C (c_X3_gather hD ok) xs_X3_gather tim_X3_gather tsel_X3_gather tml_X7_133 (by decide) 5 rfl (ci := 3) rfl rfl rfl (Nat.le_of_ble_eq_true rfl) dX7_book_12 rfl (fun Pz T12 hg => ?_)
  obtain ⟨hPz, hT12, hO12⟩ := hg
  rw [hPz]; clear hPz Pz
  refine x_aload_n (q := 16) C dX7_book_15 rfl 0 rfl rfl ?_
  refine xg_X7_open (q := 19) C tfl_X7_40 dX7_book_16 rfl ?_
  refine x_Vf (q := 22) (As := []) (rest := []) C (c_X3_howMany hD ) xs_X3_howMany tim_X3_howMany tsel_X3_howMany tml_X7_137 (by decide) 5 rfl (ci := 3) rfl rfl rfl (Nat.le_of_ble_eq_true rfl) dX7_book_19 rfl ?_
  exact x_iret C dX7_book_22 ⟨hO12.1, rfl⟩

set_option maxRecDepth 100000 in
set_option maxHeartbeats 4000000 in
theorem c_X7_worth (hD : ∀ P T, va_D A (wX ad cI cZ P T)) {P T : St} (ok : okX P) (x : Int32) : XMI l D (tyz cI cZ) (wX ad cI cZ) A yX7_worth cX7_worth 2 (some .int) rmX7_worth [.ref (ad 0), .int x] P T (fun r P' _ => r = Fworth P x ∧ P' = P) := by
  have okc := ok.1
  have hk6 := okc_kn6 okc
  have hS144 := okc_S144 okc
  have hS1 := okc_S1 okc
  have hnr := okc_nr12 okc
  have hnt := okc_nt60 okc
  have hnz := okc_nz50 okc
  have hsd := okc_sdb okc
  refine x_start_i (lv := [(0, .ref (ad 0)), (1, .int x)]) (own := RX7) (by decide) rfl hD (Nat.le_of_ble_eq_true rfl) rfl ?_
  intro p e s m args below meth c C
  refine x_aload_n (q := 1) C dX7_worth_0 rfl 0 rfl rfl ?_
  refine xg_X7_knobs (q := 4) C tfl_X7_10 dX7_worth_1 rfl ?_
  refine x_iload_n (q := 5) C dX7_worth_4 rfl 1 rfl rfl ?_
  refine x_Vf (q := 8) (As := [.int x]) (rest := []) C (c_X2_hasSetting hD x ) xs_X2_hasSetting tim_X2_hasSetting tsel_X2_hasSetting tml_X7_120 (by decide) 1 rfl (ci := 2) rfl rfl rfl (Nat.le_of_ble_eq_true rfl) dX7_worth_5 rfl ?_
  refine x_if_ne_b (q := 11) (tgt := 14) C dX7_worth_8 (by decide) rfl (fun c8 => ?_) (fun c8 => ?_)
  · have hS8 := c8
    obtain ⟨x1, hx1, rfl⟩ := isS_nat okc c8
    refine x_aload_n (q := 15) C dX7_worth_14 rfl 0 rfl rfl ?_
    refine xg_X7_effects (q := 18) C tfl_X7_26 dX7_worth_15 rfl ?_
    refine x_iload_n (q := 19) C dX7_worth_18 rfl 1 rfl rfl ?_
    refine x_aload_n (q := 20) C dX7_worth_19 rfl 0 rfl rfl ?_
    refine xg_X7_knobs (q := 23) C tfl_X7_10 dX7_worth_20 rfl ?_
    refine x_Vi (q := 26) (As := [.int (nI x1), .ref (ad 1)]) (rest := []) C (c_X1_sumFor hD ok x1 (by omega)) xs_X1_sumFor tim_X1_sumFor tsel_X1_sumFor tml_X7_139 (by decide) 3 rfl (ci := 1) rfl rfl rfl (Nat.le_of_ble_eq_true rfl) dX7_worth_23 rfl (fun rz Pz T23 hT23 => ?_)
    obtain ⟨hrz, hPz, hT23⟩ := hT23
    rw [hrz, hPz]; clear hrz hPz Pz rz
    exact x_iret C dX7_worth_26 ⟨by rw [Fworth, if_pos hS8, cl_nI (by omega)], rfl⟩
  · refine x_ldc (q := 13) C tk_X7_138 dX7_worth_11 rfl ?_
    exact x_iret C dX7_worth_13 ⟨if_f c8, rfl⟩

set_option maxRecDepth 100000 in
set_option maxHeartbeats 4000000 in
theorem c_X7_trial (hD : ∀ P T, va_D A (wX ad cI cZ P T)) {P T : St} (ok : okX P) (x : Int32) : XMI l D (tyz cI cZ) (wX ad cI cZ) A yX7_trial cX7_trial 2 (some .int) rmX7_trial [.ref (ad 0), .int x] P T (fun r P' _ => r = FtrialX P x ∧ P' = GtrialX P x) := by
  have okc := ok.1
  have hk6 := okc_kn6 okc
  have hS144 := okc_S144 okc
  have hS1 := okc_S1 okc
  have hnr := okc_nr12 okc
  have hnt := okc_nt60 okc
  have hnz := okc_nz50 okc
  have hsd := okc_sdb okc
  refine x_start_i (lv := [(0, .ref (ad 0)), (1, .int x)]) (own := RX7) (by decide) rfl hD (Nat.le_of_ble_eq_true rfl) rfl ?_
  intro p e s m args below meth c C
  refine x_aload_n (q := 1) C dX7_trial_0 rfl 0 rfl rfl ?_
  refine xg_X7_knobs (q := 4) C tfl_X7_10 dX7_trial_1 rfl ?_
  refine x_iload_n (q := 5) C dX7_trial_4 rfl 1 rfl rfl ?_
  refine x_Vf (q := 8) (As := [.int x]) (rest := []) C (c_X2_hasSetting hD x ) xs_X2_hasSetting tim_X2_hasSetting tsel_X2_hasSetting tml_X7_120 (by decide) 1 rfl (ci := 2) rfl rfl rfl (Nat.le_of_ble_eq_true rfl) dX7_trial_5 rfl ?_
  refine x_if_ne_b (q := 11) (tgt := 13) C dX7_trial_8 (by decide) rfl (fun c8 => ?_) (fun c8 => ?_)
  · have hS8 := c8
    obtain ⟨x1, hx1, rfl⟩ := isS_nat okc c8
    refine x_aload_n (q := 14) C dX7_trial_13 rfl 0 rfl rfl ?_
    refine xg_X7_rules (q := 17) C tfl_X7_19 dX7_trial_14 rfl ?_
    refine x_iload_n (q := 18) C dX7_trial_17 rfl 1 rfl rfl ?_
    refine x_aload_n (q := 19) C dX7_trial_18 rfl 0 rfl rfl ?_
    refine xg_X7_knobs (q := 22) C tfl_X7_10 dX7_trial_19 rfl ?_
    refine x_Vf (q := 25) (As := [.int (nI x1), .ref (ad 1)]) (rest := []) C (c_X5_allow hD ok x1 (by omega)) xs_X5_allow tim_X5_allow tsel_X5_allow tml_X7_129 (by decide) 2 rfl (ci := 5) rfl rfl rfl (Nat.le_of_ble_eq_true rfl) dX7_trial_22 rfl ?_
    refine x_if_ne_b (q := 28) (tgt := 31) C dX7_trial_25 (by decide) rfl (fun c25 => ?_) (fun c25 => ?_)
    · refine x_aload_n (q := 32) C dX7_trial_31 rfl 0 rfl rfl ?_
      refine xg_X7_trials (q := 35) C tfl_X7_33 dX7_trial_32 rfl ?_
      refine x_Vf (q := 38) (As := []) (rest := []) C (c_X6_isFull hD ) xs_X6_isFull tim_X6_isFull tsel_X6_isFull tml_X7_147 (by decide) 4 rfl (ci := 6) rfl rfl rfl (Nat.le_of_ble_eq_true rfl) dX7_trial_35 rfl ?_
      refine x_if_eq_b (q := 41) (tgt := 44) C dX7_trial_38 (by decide) rfl (fun c38 => ?_) (fun c38 => ?_)
      · have hn60 : nt P < 60 := Nat.not_le.mp (fun h => c38 (by rw [okc_nt okc]; exact nI_le h (by omega)))
        refine x_aload_n (q := 45) C dX7_trial_44 rfl 0 rfl rfl ?_
        refine xg_X7_trials (q := 48) C tfl_X7_33 dX7_trial_45 rfl ?_
        refine x_iload_n (q := 49) C dX7_trial_48 rfl 1 rfl rfl ?_
        refine x_aload_n (q := 50) C dX7_trial_49 rfl 0 rfl rfl ?_
        refine xg_X7_effects (q := 53) C tfl_X7_26 dX7_trial_50 rfl ?_
        refine x_iload_n (q := 54) C dX7_trial_53 rfl 1 rfl rfl ?_
        refine x_aload_n (q := 55) C dX7_trial_54 rfl 0 rfl rfl ?_
        refine xg_X7_knobs (q := 58) C tfl_X7_10 dX7_trial_55 rfl ?_
        refine x_Vi (q := 61) (As := [.int (nI x1), .ref (ad 1)]) (rest := [.int (nI x1), .ref (ad 4)]) C (c_X1_sumFor hD ok x1 (by omega)) xs_X1_sumFor tim_X1_sumFor tsel_X1_sumFor tml_X7_139 (by decide) 3 rfl (ci := 1) rfl rfl rfl (Nat.le_of_ble_eq_true rfl) dX7_trial_58 rfl (fun rz Pz T58 hT58 => ?_)
        obtain ⟨hrz, hPz, hT58⟩ := hT58
        rw [hrz, hPz]; clear hrz hPz Pz rz
        refine x_Vg (q := 64) (As := [.int (nI x1), .int (wo P x1)]) (rest := []) C (c_X6_add hD ok x1 (wo P x1) (by omega)) xs_X6_add tim_X6_add tsel_X6_add tml_X7_148 (by decide) 4 rfl (ci := 6) rfl rfl rfl (Nat.le_of_ble_eq_true rfl) dX7_trial_61 rfl ?_
        refine x_aload_n (q := 65) C dX7_trial_64 rfl 0 rfl rfl ?_
        refine xg_X7_trials (q := 68) C tfl_X7_33 dX7_trial_65 rfl ?_
        refine x_Vf (q := 71) (As := []) (rest := []) C (c_X6_howMany hD ) xs_X6_howMany tim_X6_howMany tsel_X6_howMany tml_X7_151 (by decide) 4 rfl (ci := 6) rfl rfl rfl (Nat.le_of_ble_eq_true rfl) dX7_trial_68 rfl ?_
        refine x_tope (nI (nt P + 1)) rfl ?_
        exact x_iret C dX7_trial_71 ⟨by rw [FtrialX, if_pos hS8, cl_nI (by omega), if_pos c25, if_neg c38], by rw [GtrialX, if_pos hS8, cl_nI (by omega), if_pos c25, if_neg c38]⟩
      · refine x_bipush (q := 43) (v := (-3)) C dX7_trial_41 (by decide) rfl ?_
        exact x_iret C dX7_trial_43 ⟨by rw [FtrialX, if_pos hS8, cl_nI (by omega), if_pos c25, if_pos c38], by rw [GtrialX, if_pos hS8, cl_nI (by omega), if_pos c25, if_pos c38]⟩
    · refine x_bipush (q := 30) (v := (-2)) C dX7_trial_28 (by decide) rfl ?_
      exact x_iret C dX7_trial_30 ⟨by rw [FtrialX, if_pos hS8, cl_nI (by omega), if_neg c25], by rw [GtrialX, if_pos hS8, cl_nI (by omega), if_neg c25]⟩
  · refine x_iconst (q := 12) (v := (-1)) C dX7_trial_11 (by decide) rfl ?_
    exact x_iret C dX7_trial_12 ⟨if_f c8, if_f c8⟩

set_option maxRecDepth 100000 in
set_option maxHeartbeats 4000000 in
theorem c_X7_read (hD : ∀ P T, va_D A (wX ad cI cZ P T)) {P T : St} (ok : okX P) (i x : Int32) : XMI l D (tyz cI cZ) (wX ad cI cZ) A yX7_read cX7_read 3 (some .int) rmX7_read [.ref (ad 0), .int i, .int x] P T (fun r P' _ => r = Fread P i x ∧ P' = P) := by
  have okc := ok.1
  have hk6 := okc_kn6 okc
  have hS144 := okc_S144 okc
  have hS1 := okc_S1 okc
  have hnr := okc_nr12 okc
  have hnt := okc_nt60 okc
  have hnz := okc_nz50 okc
  have hsd := okc_sdb okc
  refine x_start_i (lv := [(0, .ref (ad 0)), (1, .int i), (2, .int x)]) (own := RX7) (by decide) rfl hD (Nat.le_of_ble_eq_true rfl) rfl ?_
  intro p e s m args below meth c C
  refine x_aload_n (q := 1) C dX7_read_0 rfl 0 rfl rfl ?_
  refine xg_X7_trials (q := 4) C tfl_X7_33 dX7_read_1 rfl ?_
  refine x_iload_n (q := 5) C dX7_read_4 rfl 1 rfl rfl ?_
  refine x_Vf (q := 8) (As := [.int i]) (rest := []) C (c_X6_has hD i ) xs_X6_has tim_X6_has tsel_X6_has tml_X7_152 (by decide) 4 rfl (ci := 6) rfl rfl rfl (Nat.le_of_ble_eq_true rfl) dX7_read_5 rfl ?_
  refine x_if_eq_b (q := 11) (tgt := 20) C dX7_read_8 (by decide) rfl (fun c8 => ?_) (fun c8 => ?_)
  · refine x_ldc (q := 22) C tk_X7_138 dX7_read_20 rfl ?_
    exact x_iret C dX7_read_22 ⟨if_f (fun h => by first | exact c8 h.1 | exact c17 h.2), rfl⟩
  · have hT8 := c8
    obtain ⟨i1, hi1, rfl⟩ := isT_nat okc c8
    refine x_iload_n (q := 12) C dX7_read_11 rfl 2 rfl rfl ?_
    refine x_iconst (q := 13) (v := nI 0) C dX7_read_12 (by decide) rfl ?_
    refine x_iconst (q := 14) (v := nI 1) C dX7_read_13 (by decide) rfl ?_
    refine x_Sf (q := 17) (As := [.int x, .int (nI 0), .int (nI 1)]) (rest := []) C (c_X7_isWithin hD x (nI 0) (nI 1) ) xs_X7_isWithin tst_X7_isWithin tml_X7_58 (by decide) rfl rfl (Nat.le_of_ble_eq_true rfl) dX7_read_14 rfl ?_
    refine x_if_ne_b (q := 20) (tgt := 23) C dX7_read_17 (by decide) rfl (fun c17 => ?_) (fun c17 => ?_)
    · refine x_iload_n (q := 24) C dX7_read_23 rfl 2 rfl rfl ?_
      refine x_if_ne (q := 27) (tgt := 38) C dX7_read_24 (by decide) rfl (fun c24 => ?_) (fun c24 => ?_)
      · refine x_aload_n (q := 39) C dX7_read_38 rfl 0 rfl rfl ?_
        refine xg_X7_trials (q := 42) C tfl_X7_33 dX7_read_39 rfl ?_
        refine x_iload_n (q := 43) C dX7_read_42 rfl 1 rfl rfl ?_
        refine x_Vf (q := 46) (As := [.int (nI i1)]) (rest := []) C (c_X6_settingAt hD i1 (by omega)) xs_X6_settingAt tim_X6_settingAt tsel_X6_settingAt tml_X7_158 (by decide) 4 rfl (ci := 6) rfl rfl rfl (Nat.le_of_ble_eq_true rfl) dX7_read_43 rfl ?_
        exact x_iret C dX7_read_46 ⟨by rw [Fread, if_pos ⟨hT8, c17⟩, cl_nI (by omega)]; first | rw [if_pos c24] | rw [if_neg c24], rfl⟩
      · refine x_aload_n (q := 28) C dX7_read_27 rfl 0 rfl rfl ?_
        refine xg_X7_trials (q := 31) C tfl_X7_33 dX7_read_28 rfl ?_
        refine x_iload_n (q := 32) C dX7_read_31 rfl 1 rfl rfl ?_
        refine x_Vf (q := 35) (As := [.int (nI i1)]) (rest := []) C (c_X6_readingAt hD i1 (by omega)) xs_X6_readingAt tim_X6_readingAt tsel_X6_readingAt tml_X7_155 (by decide) 4 rfl (ci := 6) rfl rfl rfl (Nat.le_of_ble_eq_true rfl) dX7_read_32 rfl ?_
        refine x_goto (tgt := 46) C dX7_read_35 (by decide) ?_
        exact x_iret C dX7_read_46 ⟨by rw [Fread, if_pos ⟨hT8, c17⟩, cl_nI (by omega)]; first | rw [if_pos c24] | rw [if_neg c24], rfl⟩
    · refine x_ldc (q := 22) C tk_X7_138 dX7_read_20 rfl ?_
      exact x_iret C dX7_read_22 ⟨if_f (fun h => by first | exact c8 h.1 | exact c17 h.2), rfl⟩

set_option maxRecDepth 100000 in
set_option maxHeartbeats 4000000 in
theorem c_X7_forget (hD : ∀ P T, va_D A (wX ad cI cZ P T)) {P T : St} : XMI l D (tyz cI cZ) (wX ad cI cZ) A yX7_forget cX7_forget 2 (some .int) rmX7_forget [.ref (ad 0)] P T (fun r P' _ => r = P 24 0 ∧ P' = st1 P 24 0 (nI 0)) := by
  refine x_start_i (lv := [(0, .ref (ad 0))]) (own := RX7) (by decide) rfl hD (Nat.le_of_ble_eq_true rfl) rfl ?_
  intro p e s m args below meth c C
  refine x_aload_n (q := 1) C dX7_forget_0 rfl 0 rfl rfl ?_
  refine xg_X7_trials (q := 4) C tfl_X7_33 dX7_forget_1 rfl ?_
  refine x_Vf (q := 7) (As := []) (rest := []) C (c_X6_howMany hD ) xs_X6_howMany tim_X6_howMany tsel_X6_howMany tml_X7_151 (by decide) 4 rfl (ci := 6) rfl rfl rfl (Nat.le_of_ble_eq_true rfl) dX7_forget_4 rfl ?_
  refine x_istore_n (q := 8) (lv' := [(0, .ref (ad 0)), (1, .int (P 24 0))]) C dX7_forget_7 rfl (by decide) rfl rfl rfl ?_
  refine x_aload_n (q := 9) C dX7_forget_8 rfl 0 rfl rfl ?_
  refine xg_X7_trials (q := 12) C tfl_X7_33 dX7_forget_9 rfl ?_
  refine x_Vg (q := 15) (As := []) (rest := []) C (c_X6_clear hD) xs_X6_clear tim_X6_clear tsel_X6_clear tml_X7_66 (by decide) 4 rfl (ci := 6) rfl rfl rfl (Nat.le_of_ble_eq_true rfl) dX7_forget_12 rfl ?_
  refine x_iload_n (q := 16) C dX7_forget_15 rfl 1 rfl rfl ?_
  exact x_iret C dX7_forget_16 ⟨rfl, rfl⟩

set_option maxRecDepth 100000 in
set_option maxHeartbeats 4000000 in
theorem c_X7_bound (hD : ∀ P T, va_D A (wX ad cI cZ P T)) {P T : St} (ok : okX P) (x y : Int32) : XMI l D (tyz cI cZ) (wX ad cI cZ) A yX7_bound cX7_bound 3 (some .int) rmX7_bound [.ref (ad 0), .int x, .int y] P T (fun r P' _ => r = FboundX P x y ∧ P' = P) := by
  have okc := ok.1
  have hk6 := okc_kn6 okc
  have hS144 := okc_S144 okc
  have hS1 := okc_S1 okc
  have hnr := okc_nr12 okc
  have hnt := okc_nt60 okc
  have hnz := okc_nz50 okc
  have hsd := okc_sdb okc
  refine x_start_i (lv := [(0, .ref (ad 0)), (1, .int x), (2, .int y)]) (own := RX7) (by decide) rfl hD (Nat.le_of_ble_eq_true rfl) rfl ?_
  intro p e s m args below meth c C
  refine x_aload_n (q := 1) C dX7_bound_0 rfl 0 rfl rfl ?_
  refine xg_X7_knobs (q := 4) C tfl_X7_10 dX7_bound_1 rfl ?_
  refine x_iload_n (q := 5) C dX7_bound_4 rfl 1 rfl rfl ?_
  refine x_Vf (q := 8) (As := [.int x]) (rest := []) C (c_X2_hasSetting hD x ) xs_X2_hasSetting tim_X2_hasSetting tsel_X2_hasSetting tml_X7_120 (by decide) 1 rfl (ci := 2) rfl rfl rfl (Nat.le_of_ble_eq_true rfl) dX7_bound_5 rfl ?_
  refine x_if_eq_b (q := 11) (tgt := 20) C dX7_bound_8 (by decide) rfl (fun c8 => ?_) (fun c8 => ?_)
  · refine x_ldc (q := 22) C tk_X7_161 dX7_bound_20 rfl ?_
    exact x_iret C dX7_bound_22 ⟨if_f (fun h => by first | exact c8 h.1 | exact c17 h.2), rfl⟩
  · have hS8 := c8
    obtain ⟨x1, hx1, rfl⟩ := isS_nat okc c8
    refine x_iload_n (q := 12) C dX7_bound_11 rfl 2 rfl rfl ?_
    refine x_iconst (q := 13) (v := nI 0) C dX7_bound_12 (by decide) rfl ?_
    refine x_iconst (q := 14) (v := nI 1) C dX7_bound_13 (by decide) rfl ?_
    refine x_Sf (q := 17) (As := [.int y, .int (nI 0), .int (nI 1)]) (rest := []) C (c_X7_isWithin hD y (nI 0) (nI 1) ) xs_X7_isWithin tst_X7_isWithin tml_X7_58 (by decide) rfl rfl (Nat.le_of_ble_eq_true rfl) dX7_bound_14 rfl ?_
    refine x_if_ne_b (q := 20) (tgt := 23) C dX7_bound_17 (by decide) rfl (fun c17 => ?_) (fun c17 => ?_)
    · refine x_aload_n (q := 24) C dX7_bound_23 rfl 0 rfl rfl ?_
      refine xg_X7_bounds (q := 27) C tfl_X7_47 dX7_bound_24 rfl ?_
      refine x_iload_n (q := 28) C dX7_bound_27 rfl 1 rfl rfl ?_
      refine x_aload_n (q := 29) C dX7_bound_28 rfl 0 rfl rfl ?_
      refine xg_X7_trials (q := 32) C tfl_X7_33 dX7_bound_29 rfl ?_
      refine x_aload_n (q := 33) C dX7_bound_32 rfl 0 rfl rfl ?_
      refine xg_X7_knobs (q := 36) C tfl_X7_10 dX7_bound_33 rfl ?_
      refine x_Vv (q := 39) (As := [.int (nI x1), .ref (ad 4), .ref (ad 1)]) (rest := []) C (c_X0_measure hD ok x1 (by omega)) xs_X0_measure tim_X0_measure tsel_X0_measure tml_X7_162 (by decide) 6 rfl (ci := 0) rfl rfl rfl (Nat.le_of_ble_eq_true rfl) dX7_bound_36 rfl (fun Pz T36 hg => ?_)
      obtain ⟨hPz, hT36, hF36, hR36⟩ := hg
      rw [hPz]; clear hPz Pz
      refine x_iload_n (q := 40) C dX7_bound_39 rfl 2 rfl rfl ?_
      refine x_if_ne (q := 43) (tgt := 54) C dX7_bound_40 (by decide) rfl (fun c40 => ?_) (fun c40 => ?_)
      · refine x_aload_n (q := 55) C dX7_bound_54 rfl 0 rfl rfl ?_
        refine xg_X7_bounds (q := 58) C tfl_X7_47 dX7_bound_55 rfl ?_
        refine x_iload_n (q := 59) C dX7_bound_58 rfl 1 rfl rfl ?_
        refine x_Vf (q := 62) (As := [.int (nI x1)]) (rest := []) C (c_X0_roofOf hD x1 (by omega)) xs_X0_roofOf tim_X0_roofOf tsel_X0_roofOf tml_X7_169 (by decide) 6 rfl (ci := 0) rfl rfl rfl (Nat.le_of_ble_eq_true rfl) dX7_bound_59 rfl ?_
        exact x_iret C dX7_bound_62 ⟨by rw [FboundX, if_pos ⟨hS8, c17⟩, cl_nI (by omega)]; first | (rw [if_pos c40]; exact hF36.1) | (rw [if_neg c40]; exact hR36.1), rfl⟩
      · refine x_aload_n (q := 44) C dX7_bound_43 rfl 0 rfl rfl ?_
        refine xg_X7_bounds (q := 47) C tfl_X7_47 dX7_bound_44 rfl ?_
        refine x_iload_n (q := 48) C dX7_bound_47 rfl 1 rfl rfl ?_
        refine x_Vf (q := 51) (As := [.int (nI x1)]) (rest := []) C (c_X0_floorOf hD x1 (by omega)) xs_X0_floorOf tim_X0_floorOf tsel_X0_floorOf tml_X7_166 (by decide) 6 rfl (ci := 0) rfl rfl rfl (Nat.le_of_ble_eq_true rfl) dX7_bound_48 rfl ?_
        refine x_goto (tgt := 62) C dX7_bound_51 (by decide) ?_
        exact x_iret C dX7_bound_62 ⟨by rw [FboundX, if_pos ⟨hS8, c17⟩, cl_nI (by omega)]; first | (rw [if_pos c40]; exact hF36.1) | (rw [if_neg c40]; exact hR36.1), rfl⟩
    · refine x_ldc (q := 22) C tk_X7_161 dX7_bound_20 rfl ?_
      exact x_iret C dX7_bound_22 ⟨if_f (fun h => by first | exact c8 h.1 | exact c17 h.2), rfl⟩

end BENCHA
