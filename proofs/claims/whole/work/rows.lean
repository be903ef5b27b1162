section
-- ===== PART A: goes FIRST, ahead of the names: the tables' words, and 'selects' of the private methods out of them =====
/-- a private method of a class that the tables say can be made, by its rows of tables_1 -/
def lw_okq (q : MethodName × Nat) : Prop := (q.1.cls ≠ "java/lang/invoke/MethodHandle" ∧ q.1.cls ≠ "java/lang/invoke/VarHandle") ∧ Cond.instantiable q.1.cls q.2 ∈ tables_1 ∧ Cond.privateMethod q.1 ∈ tables_1 ∧ Cond.instanceMethod q.1 ∈ tables_1
theorem lw_p0 : lw_okq (⟨"KnobBench$Rules", "isAgainst", "(IILKnobBench$Knobs;)Z"⟩, 6) := ⟨⟨by decide +kernel, by decide +kernel⟩, List.mem_of_getElem? (i := 50) (by decide +kernel), List.mem_of_getElem? (i := 328) (by decide +kernel), List.mem_of_getElem? (i := 329) (by decide +kernel)⟩
theorem lw_p1 : lw_okq (⟨"KnobBench", "bestSetting", "()I"⟩, 7) := ⟨⟨by decide +kernel, by decide +kernel⟩, List.mem_of_getElem? (i := 13) (by decide +kernel), List.mem_of_getElem? (i := 369) (by decide +kernel), List.mem_of_getElem? (i := 370) (by decide +kernel)⟩
theorem lw_p2 : lw_okq (⟨"KnobBench$Trials", "drawNoise", "()I"⟩, 5) := ⟨⟨by decide +kernel, by decide +kernel⟩, List.mem_of_getElem? (i := 95) (by decide +kernel), List.mem_of_getElem? (i := 389) (by decide +kernel), List.mem_of_getElem? (i := 390) (by decide +kernel)⟩
theorem lw_p3 : lw_okq (⟨"KnobBench$Bounds", "tighten", "(IILKnobBench$Trials;LKnobBench$Knobs;)V"⟩, 2) := ⟨⟨by decide +kernel, by decide +kernel⟩, List.mem_of_getElem? (i := 133) (by decide +kernel), List.mem_of_getElem? (i := 432) (by decide +kernel), List.mem_of_getElem? (i := 433) (by decide +kernel)⟩
theorem lw_p4 : lw_okq (⟨"KnobBench", "isToldSmoothnessTrue", "()Z"⟩, 7) := ⟨⟨by decide +kernel, by decide +kernel⟩, List.mem_of_getElem? (i := 13) (by decide +kernel), List.mem_of_getElem? (i := 467) (by decide +kernel), List.mem_of_getElem? (i := 468) (by decide +kernel)⟩
theorem lw_p5 : lw_okq (⟨"KnobBench$Bounds", "greatestFloor", "(LKnobBench$Open;)I"⟩, 2) := ⟨⟨by decide +kernel, by decide +kernel⟩, List.mem_of_getElem? (i := 133) (by decide +kernel), List.mem_of_getElem? (i := 492) (by decide +kernel), List.mem_of_getElem? (i := 493) (by decide +kernel)⟩
theorem lw_p6 : lw_okq (⟨"KnobBench", "nextToSearch", "()I"⟩, 7) := ⟨⟨by decide +kernel, by decide +kernel⟩, List.mem_of_getElem? (i := 13) (by decide +kernel), List.mem_of_getElem? (i := 506) (by decide +kernel), List.mem_of_getElem? (i := 507) (by decide +kernel)⟩
theorem lw_p7 : lw_okq (⟨"KnobBench", "areTwoSettings", "(II)Z"⟩, 7) := ⟨⟨by decide +kernel, by decide +kernel⟩, List.mem_of_getElem? (i := 13) (by decide +kernel), List.mem_of_getElem? (i := 538) (by decide +kernel), List.mem_of_getElem? (i := 539) (by decide +kernel)⟩
theorem lw_p8 : lw_okq (⟨"KnobBench", "wereBothTried", "(II)Z"⟩, 7) := ⟨⟨by decide +kernel, by decide +kernel⟩, List.mem_of_getElem? (i := 13) (by decide +kernel), List.mem_of_getElem? (i := 542) (by decide +kernel), List.mem_of_getElem? (i := 543) (by decide +kernel)⟩
theorem lw_p9 : lw_okq (⟨"KnobBench$Ranks", "gather", "(ILKnobBench$Trials;)V"⟩, 5) := ⟨⟨by decide +kernel, by decide +kernel⟩, List.mem_of_getElem? (i := 146) (by decide +kernel), List.mem_of_getElem? (i := 550) (by decide +kernel), List.mem_of_getElem? (i := 551) (by decide +kernel)⟩
theorem lw_p10 : lw_okq (⟨"KnobBench$Ranks", "rankAt", "(I)I"⟩, 5) := ⟨⟨by decide +kernel, by decide +kernel⟩, List.mem_of_getElem? (i := 146) (by decide +kernel), List.mem_of_getElem? (i := 557) (by decide +kernel), List.mem_of_getElem? (i := 558) (by decide +kernel)⟩
theorem lw_p11 : lw_okq (⟨"KnobBench$Ranks", "spreadWays", "(I)V"⟩, 5) := ⟨⟨by decide +kernel, by decide +kernel⟩, List.mem_of_getElem? (i := 146) (by decide +kernel), List.mem_of_getElem? (i := 561) (by decide +kernel), List.mem_of_getElem? (i := 562) (by decide +kernel)⟩
theorem lw_p12 : lw_okq (⟨"KnobBench$Ranks", "waysFrom", "(II)I"⟩, 5) := ⟨⟨by decide +kernel, by decide +kernel⟩, List.mem_of_getElem? (i := 146) (by decide +kernel), List.mem_of_getElem? (i := 566) (by decide +kernel), List.mem_of_getElem? (i := 567) (by decide +kernel)⟩
theorem lw_p13 : lw_okq (⟨"KnobBenchModel", "isValue", "(II)Z"⟩, 20) := ⟨⟨by decide +kernel, by decide +kernel⟩, List.mem_of_getElem? (i := 597) (by decide +kernel), List.mem_of_getElem? (i := 677) (by decide +kernel), List.mem_of_getElem? (i := 678) (by decide +kernel)⟩
theorem lw_p14 : lw_okq (⟨"KnobBenchModel", "isKnob", "(I)Z"⟩, 20) := ⟨⟨by decide +kernel, by decide +kernel⟩, List.mem_of_getElem? (i := 597) (by decide +kernel), List.mem_of_getElem? (i := 681) (by decide +kernel), List.mem_of_getElem? (i := 682) (by decide +kernel)⟩
theorem lw_p15 : lw_okq (⟨"KnobBenchModel", "isSetting", "(I)Z"⟩, 20) := ⟨⟨by decide +kernel, by decide +kernel⟩, List.mem_of_getElem? (i := 597) (by decide +kernel), List.mem_of_getElem? (i := 723) (by decide +kernel), List.mem_of_getElem? (i := 724) (by decide +kernel)⟩
def lw_privs_1 : List (MethodName × Nat) := [(⟨"KnobBench$Rules", "isAgainst", "(IILKnobBench$Knobs;)Z"⟩, 6), (⟨"KnobBench", "bestSetting", "()I"⟩, 7), (⟨"KnobBench$Trials", "drawNoise", "()I"⟩, 5), (⟨"KnobBench$Bounds", "tighten", "(IILKnobBench$Trials;LKnobBench$Knobs;)V"⟩, 2), (⟨"KnobBench", "isToldSmoothnessTrue", "()Z"⟩, 7), (⟨"KnobBench$Bounds", "greatestFloor", "(LKnobBench$Open;)I"⟩, 2), (⟨"KnobBench", "nextToSearch", "()I"⟩, 7), (⟨"KnobBench", "areTwoSettings", "(II)Z"⟩, 7), (⟨"KnobBench", "wereBothTried", "(II)Z"⟩, 7), (⟨"KnobBench$Ranks", "gather", "(ILKnobBench$Trials;)V"⟩, 5), (⟨"KnobBench$Ranks", "rankAt", "(I)I"⟩, 5), (⟨"KnobBench$Ranks", "spreadWays", "(I)V"⟩, 5), (⟨"KnobBench$Ranks", "waysFrom", "(II)I"⟩, 5), (⟨"KnobBenchModel", "isValue", "(II)Z"⟩, 20), (⟨"KnobBenchModel", "isKnob", "(I)Z"⟩, 20), (⟨"KnobBenchModel", "isSetting", "(I)Z"⟩, 20)]
theorem lw_r1 : ∀ q ∈ lw_privs_1, lw_okq q := List.forall_mem_cons.mpr ⟨lw_p0, List.forall_mem_cons.mpr ⟨lw_p1, List.forall_mem_cons.mpr ⟨lw_p2, List.forall_mem_cons.mpr ⟨lw_p3, List.forall_mem_cons.mpr ⟨lw_p4, List.forall_mem_cons.mpr ⟨lw_p5, List.forall_mem_cons.mpr ⟨lw_p6, List.forall_mem_cons.mpr ⟨lw_p7, List.forall_mem_cons.mpr ⟨lw_p8, List.forall_mem_cons.mpr ⟨lw_p9, List.forall_mem_cons.mpr ⟨lw_p10, List.forall_mem_cons.mpr ⟨lw_p11, List.forall_mem_cons.mpr ⟨lw_p12, List.forall_mem_cons.mpr ⟨lw_p13, List.forall_mem_cons.mpr ⟨lw_p14, List.forall_mem_cons.mpr ⟨lw_p15, fun _ h => absurd h List.not_mem_nil⟩⟩⟩⟩⟩⟩⟩⟩⟩⟩⟩⟩⟩⟩⟩⟩
theorem lw_p16 : lw_okq (⟨"KnobBenchModel", "put", "(III)I"⟩, 20) := ⟨⟨by decide +kernel, by decide +kernel⟩, List.mem_of_getElem? (i := 597) (by decide +kernel), List.mem_of_getElem? (i := 727) (by decide +kernel), List.mem_of_getElem? (i := 728) (by decide +kernel)⟩
theorem lw_p17 : lw_okq (⟨"KnobBenchModel", "get", "(II)I"⟩, 20) := ⟨⟨by decide +kernel, by decide +kernel⟩, List.mem_of_getElem? (i := 597) (by decide +kernel), List.mem_of_getElem? (i := 731) (by decide +kernel), List.mem_of_getElem? (i := 732) (by decide +kernel)⟩
theorem lw_p18 : lw_okq (⟨"KnobBenchModel", "step", "(I)I"⟩, 20) := ⟨⟨by decide +kernel, by decide +kernel⟩, List.mem_of_getElem? (i := 597) (by decide +kernel), List.mem_of_getElem? (i := 735) (by decide +kernel), List.mem_of_getElem? (i := 736) (by decide +kernel)⟩
theorem lw_p19 : lw_okq (⟨"KnobBenchModel", "isAllowed", "(I)Z"⟩, 20) := ⟨⟨by decide +kernel, by decide +kernel⟩, List.mem_of_getElem? (i := 597) (by decide +kernel), List.mem_of_getElem? (i := 747) (by decide +kernel), List.mem_of_getElem? (i := 748) (by decide +kernel)⟩
theorem lw_p20 : lw_okq (⟨"KnobBenchModel", "worthOf", "(I)I"⟩, 20) := ⟨⟨by decide +kernel, by decide +kernel⟩, List.mem_of_getElem? (i := 597) (by decide +kernel), List.mem_of_getElem? (i := 759) (by decide +kernel), List.mem_of_getElem? (i := 760) (by decide +kernel)⟩
theorem lw_p21 : lw_okq (⟨"KnobBenchModel", "tries", "(I)V"⟩, 20) := ⟨⟨by decide +kernel, by decide +kernel⟩, List.mem_of_getElem? (i := 597) (by decide +kernel), List.mem_of_getElem? (i := 773) (by decide +kernel), List.mem_of_getElem? (i := 774) (by decide +kernel)⟩
theorem lw_p22 : lw_okq (⟨"KnobBenchModel", "floor", "(I)I"⟩, 20) := ⟨⟨by decide +kernel, by decide +kernel⟩, List.mem_of_getElem? (i := 597) (by decide +kernel), List.mem_of_getElem? (i := 793) (by decide +kernel), List.mem_of_getElem? (i := 794) (by decide +kernel)⟩
theorem lw_p23 : lw_okq (⟨"KnobBenchModel", "off", "(II)I"⟩, 20) := ⟨⟨by decide +kernel, by decide +kernel⟩, List.mem_of_getElem? (i := 597) (by decide +kernel), List.mem_of_getElem? (i := 798) (by decide +kernel), List.mem_of_getElem? (i := 799) (by decide +kernel)⟩
theorem lw_p24 : lw_okq (⟨"KnobBenchModel", "roof", "(I)I"⟩, 20) := ⟨⟨by decide +kernel, by decide +kernel⟩, List.mem_of_getElem? (i := 597) (by decide +kernel), List.mem_of_getElem? (i := 802) (by decide +kernel), List.mem_of_getElem? (i := 803) (by decide +kernel)⟩
theorem lw_p25 : lw_okq (⟨"KnobBenchModel", "leftMany", "()I"⟩, 20) := ⟨⟨by decide +kernel, by decide +kernel⟩, List.mem_of_getElem? (i := 597) (by decide +kernel), List.mem_of_getElem? (i := 811) (by decide +kernel), List.mem_of_getElem? (i := 812) (by decide +kernel)⟩
theorem lw_p26 : lw_okq (⟨"KnobBenchModel", "topFloor", "()I"⟩, 20) := ⟨⟨by decide +kernel, by decide +kernel⟩, List.mem_of_getElem? (i := 597) (by decide +kernel), List.mem_of_getElem? (i := 815) (by decide +kernel), List.mem_of_getElem? (i := 816) (by decide +kernel)⟩
theorem lw_p27 : lw_okq (⟨"KnobBenchModel", "next", "()I"⟩, 20) := ⟨⟨by decide +kernel, by decide +kernel⟩, List.mem_of_getElem? (i := 597) (by decide +kernel), List.mem_of_getElem? (i := 820) (by decide +kernel), List.mem_of_getElem? (i := 821) (by decide +kernel)⟩
theorem lw_p28 : lw_okq (⟨"KnobBenchModel", "isSmooth", "()Z"⟩, 20) := ⟨⟨by decide +kernel, by decide +kernel⟩, List.mem_of_getElem? (i := 597) (by decide +kernel), List.mem_of_getElem? (i := 824) (by decide +kernel), List.mem_of_getElem? (i := 825) (by decide +kernel)⟩
theorem lw_p29 : lw_okq (⟨"KnobBenchModel", "firstOf", "(I)I"⟩, 20) := ⟨⟨by decide +kernel, by decide +kernel⟩, List.mem_of_getElem? (i := 597) (by decide +kernel), List.mem_of_getElem? (i := 834) (by decide +kernel), List.mem_of_getElem? (i := 835) (by decide +kernel)⟩
theorem lw_p30 : lw_okq (⟨"KnobBenchModel", "chances", "(II)I"⟩, 20) := ⟨⟨by decide +kernel, by decide +kernel⟩, List.mem_of_getElem? (i := 597) (by decide +kernel), List.mem_of_getElem? (i := 857) (by decide +kernel), List.mem_of_getElem? (i := 858) (by decide +kernel)⟩
theorem lw_p31 : lw_okq (⟨"KnobBenchModel", "gather", "(I)I"⟩, 20) := ⟨⟨by decide +kernel, by decide +kernel⟩, List.mem_of_getElem? (i := 597) (by decide +kernel), List.mem_of_getElem? (i := 861) (by decide +kernel), List.mem_of_getElem? (i := 862) (by decide +kernel)⟩
def lw_privs_2 : List (MethodName × Nat) := [(⟨"KnobBenchModel", "put", "(III)I"⟩, 20), (⟨"KnobBenchModel", "get", "(II)I"⟩, 20), (⟨"KnobBenchModel", "step", "(I)I"⟩, 20), (⟨"KnobBenchModel", "isAllowed", "(I)Z"⟩, 20), (⟨"KnobBenchModel", "worthOf", "(I)I"⟩, 20), (⟨"KnobBenchModel", "tries", "(I)V"⟩, 20), (⟨"KnobBenchModel", "floor", "(I)I"⟩, 20), (⟨"KnobBenchModel", "off", "(II)I"⟩, 20), (⟨"KnobBenchModel", "roof", "(I)I"⟩, 20), (⟨"KnobBenchModel", "leftMany", "()I"⟩, 20), (⟨"KnobBenchModel", "topFloor", "()I"⟩, 20), (⟨"KnobBenchModel", "next", "()I"⟩, 20), (⟨"KnobBenchModel", "isSmooth", "()Z"⟩, 20), (⟨"KnobBenchModel", "firstOf", "(I)I"⟩, 20), (⟨"KnobBenchModel", "chances", "(II)I"⟩, 20), (⟨"KnobBenchModel", "gather", "(I)I"⟩, 20)]
theorem lw_r2 : ∀ q ∈ lw_privs_2, lw_okq q := List.forall_mem_cons.mpr ⟨lw_p16, List.forall_mem_cons.mpr ⟨lw_p17, List.forall_mem_cons.mpr ⟨lw_p18, List.forall_mem_cons.mpr ⟨lw_p19, List.forall_mem_cons.mpr ⟨lw_p20, List.forall_mem_cons.mpr ⟨lw_p21, List.forall_mem_cons.mpr ⟨lw_p22, List.forall_mem_cons.mpr ⟨lw_p23, List.forall_mem_cons.mpr ⟨lw_p24, List.forall_mem_cons.mpr ⟨lw_p25, List.forall_mem_cons.mpr ⟨lw_p26, List.forall_mem_cons.mpr ⟨lw_p27, List.forall_mem_cons.mpr ⟨lw_p28, List.forall_mem_cons.mpr ⟨lw_p29, List.forall_mem_cons.mpr ⟨lw_p30, List.forall_mem_cons.mpr ⟨lw_p31, fun _ h => absurd h List.not_mem_nil⟩⟩⟩⟩⟩⟩⟩⟩⟩⟩⟩⟩⟩⟩⟩⟩
theorem lw_p32 : lw_okq (⟨"KnobBenchModel", "rank", "(I)I"⟩, 20) := ⟨⟨by decide +kernel, by decide +kernel⟩, List.mem_of_getElem? (i := 597) (by decide +kernel), List.mem_of_getElem? (i := 865) (by decide +kernel), List.mem_of_getElem? (i := 866) (by decide +kernel)⟩
def lw_privs_3 : List (MethodName × Nat) := [(⟨"KnobBenchModel", "rank", "(I)I"⟩, 20)]
theorem lw_r3 : ∀ q ∈ lw_privs_3, lw_okq q := List.forall_mem_cons.mpr ⟨lw_p32, fun _ h => absurd h List.not_mem_nil⟩
def lw_privs : List (MethodName × Nat) := lw_privs_1 ++ (lw_privs_2 ++ (lw_privs_3))
def lw_tbl : List Cond := k2_sels lw_privs ++ tables_1
theorem lw_privs_ok : ∀ q ∈ lw_privs, lw_okq q := by
  show ∀ q ∈ lw_privs_1 ++ (lw_privs_2 ++ (lw_privs_3)), lw_okq q
  exact List.forall_mem_append.mpr ⟨lw_r1, List.forall_mem_append.mpr ⟨lw_r2, lw_r3⟩⟩
end
section
/-! plain facts on numbers and arrays, to paste: each family by itself; over the kit's rows on nI and upd -/
/-! ===== order of ints, in all its forms, and through longs ===== -/
theorem fa_lt (a b : Int32) : a < b ↔ a.toInt < b.toInt := Int32.lt_iff_toInt_lt
theorem fa_le (a b : Int32) : a ≤ b ↔ a.toInt ≤ b.toInt := Int32.le_iff_toInt_le
theorem fa_eq (a b : Int32) : a = b ↔ a.toInt = b.toInt := Int32.toInt_inj.symm
theorem fa_lt64 (a b : Int64) : a < b ↔ a.toInt < b.toInt := Int64.lt_iff_toInt_lt
theorem fa_le64 (a b : Int64) : a ≤ b ↔ a.toInt ≤ b.toInt := Int64.le_iff_toInt_le
theorem fa_eq64 (a b : Int64) : a = b ↔ a.toInt = b.toInt := Int64.toInt_inj.symm
/-- a comparison of two ints taken as longs -/
theorem fa_wide_lt (a b : Int32) : a.toInt64 < b.toInt64 ↔ a < b := by rw [fa_lt64, fa_lt, Int32.toInt_toInt64, Int32.toInt_toInt64]
theorem fa_wide_le (a b : Int32) : a.toInt64 ≤ b.toInt64 ↔ a ≤ b := by rw [fa_le64, fa_le, Int32.toInt_toInt64, Int32.toInt_toInt64]
theorem fa_wide_eq (a b : Int32) : a.toInt64 = b.toInt64 ↔ a = b := by rw [fa_eq64, fa_eq, Int32.toInt_toInt64, Int32.toInt_toInt64]
/-- one strict comparison gives all the others -/
theorem fa_of_lt {a b : Int32} (h : a < b) : a ≤ b ∧ ¬ b ≤ a ∧ ¬ b < a ∧ a ≠ b ∧ b ≠ a := by
  rw [fa_lt] at h
  refine ⟨?_, ?_, ?_, ?_, ?_⟩
  · rw [fa_le]; omega
  · rw [fa_le]; omega
  · rw [fa_lt]; omega
  · intro e; rw [fa_eq] at e; omega
  · intro e; rw [fa_eq] at e; omega
theorem fa_of_nlt {a b : Int32} (h : ¬ a < b) : b ≤ a := by
  rw [fa_lt] at h
  rw [fa_le]
  omega
theorem fa_of_nle {a b : Int32} (h : ¬ a ≤ b) : b < a := by
  rw [fa_le] at h
  rw [fa_lt]
  omega
theorem fa_le_ne {a b : Int32} (h : a ≤ b) (h2 : a ≠ b) : a < b := by
  rw [fa_le] at h
  rw [fa_lt]
  have h3 : a.toInt ≠ b.toInt := fun e => h2 ((fa_eq a b).mpr e)
  omega
theorem fa_three (a b : Int32) : a < b ∨ a = b ∨ b < a := by
  rw [fa_lt, fa_lt, fa_eq]
  omega
theorem fa_trans {a b c : Int32} (h : a < b) (h2 : b ≤ c) : a < c := by
  rw [fa_lt] at *
  rw [fa_le] at h2
  omega
/-! ===== small literals as numbers ===== -/
theorem fa_lit (n : Nat) : (OfNat.ofNat n : Int32) = nI n := rfl
theorem fa_litL (n : Nat) : (OfNat.ofNat n : Int64) = lN n := rfl
/-! ===== bits of a number: 'or', masks, one bit ===== -/
theorem fa_and (a b : Nat) : nI a &&& nI b = nI (a &&& b) := by
  apply Int32.toBitVec_inj.1
  show BitVec.ofNat 32 a &&& BitVec.ofNat 32 b = BitVec.ofNat 32 (a &&& b)
  apply BitVec.eq_of_getLsbD_eq
  intro i hi
  simp [hi]
theorem fa_or (a b : Nat) : nI a ||| nI b = nI (a ||| b) := by
  apply Int32.toBitVec_inj.1
  show BitVec.ofNat 32 a ||| BitVec.ofNat 32 b = BitVec.ofNat 32 (a ||| b)
  apply BitVec.eq_of_getLsbD_eq
  intro i hi
  simp [hi]
/-- a remainder by a power of two, as a mask -/
theorem fa_mask (n k : Nat) : nI n &&& nI (2 ^ k - 1) = nI (n % 2 ^ k) := by rw [fa_and, Nat.and_two_pow_sub_one_eq_mod]
/-- 'or' of a high part and a low one that don't meet is their sum -/
theorem fa_or_sum {a k : Nat} (b : Nat) (h : a < 2 ^ k) : nI (2 ^ k * b) ||| nI a = nI (2 ^ k * b + a) := by rw [fa_or, Nat.two_pow_add_eq_or_of_lt h]
/-- one bit, by 'and' with a power of two -/
theorem fa_bit {n j : Nat} (hj : j < 31) : nI n &&& nI (2 ^ j) = 0 ↔ n.testBit j = false := by
  have h2 : (2 : Nat) ^ j < 2 ^ 31 := Nat.pow_lt_pow_right (by decide) hj
  have hle : n &&& 2 ^ j ≤ 2 ^ j := Nat.and_le_right
  have e : n &&& 2 ^ j = 0 ↔ n.testBit j = false := by
    constructor
    · intro h
      have h1 : (n &&& 2 ^ j).testBit j = false := by rw [h]; simp
      rw [Nat.testBit_and] at h1
      first | simpa using h1 | simpa [Nat.testBit_two_pow_self] using h1 | simpa [Nat.testBit_two_pow] using h1
    · intro h
      apply Nat.eq_of_testBit_eq
      intro i
      rw [Nat.testBit_and]
      by_cases hi : j = i
      · subst hi; simp [h]
      · first | (simp [Nat.testBit_two_pow, hi]; done) | (simp [Nat.testBit_two_pow_of_ne hi]; done)
  rw [fa_and]
  constructor
  · intro h
    apply e.mp
    rcases Nat.eq_zero_or_pos (n &&& 2 ^ j) with z | z
    · exact z
    · exact absurd h (nI_ne0 z (Nat.lt_of_le_of_lt hle h2))
  · intro h
    rw [e.mpr h]; exact nI_0
/-- a remainder by a power of two of a number that isn't negative, as Java divides -/
theorem fa_rem {a k : Nat} (ha : a < 2 ^ 31) (hk : k < 31) : nI a - nI a / nI (2 ^ k) * nI (2 ^ k) = nI (a % 2 ^ k) := pk_rem ha (Nat.two_pow_pos k) (Nat.pow_lt_pow_right (by decide) hk)
/-! ===== cuts to a byte, a short ===== -/
theorem fa_byte_xor (x y : Int32) : (x ^^^ y).toInt8 = x.toInt8 ^^^ y.toInt8 := by
  apply Int8.toBitVec_inj.1
  apply BitVec.eq_of_getLsbD_eq
  intro i hi
  first | (simp [hi]; done) | (simp [hi, BitVec.getLsbD_setWidth, BitVec.getLsbD_signExtend]; done)
theorem fa_short_xor (x y : Int32) : (x ^^^ y).toInt16 = x.toInt16 ^^^ y.toInt16 := by
  apply Int16.toBitVec_inj.1
  apply BitVec.eq_of_getLsbD_eq
  intro i hi
  first | (simp [hi]; done) | (simp [hi, BitVec.getLsbD_setWidth, BitVec.getLsbD_signExtend]; done)
/-- the cut to a byte sees the low byte alone -/
theorem fa_byte_low (x : Int32) : (x &&& 255).toInt8 = x.toInt8 := by
  apply Int8.toBitVec_inj.1
  apply BitVec.eq_of_getLsbD_eq
  intro i hi
  have h2 : (255 : Int32).toBitVec.getLsbD i = true := by
    have : ∀ j : Fin 8, (255 : Int32).toBitVec.getLsbD j.val = true := by decide +kernel
    exact this ⟨i, hi⟩
  have h4 : (x &&& 255).toBitVec.getLsbD i = x.toBitVec.getLsbD i := by
    show (x.toBitVec &&& (255 : Int32).toBitVec).getLsbD i = _
    rw [BitVec.getLsbD_and, h2, Bool.and_true]
  have h3 : i < 32 := by omega
  first
    | (show (((x &&& 255).toBitVec).signExtend 8).getLsbD i = (x.toBitVec.signExtend 8).getLsbD i; rw [BitVec.getLsbD_signExtend, BitVec.getLsbD_signExtend, if_pos h3, if_pos h3, h4])
    | (show (((x &&& 255).toBitVec).setWidth 8).getLsbD i = (x.toBitVec.setWidth 8).getLsbD i; rw [BitVec.getLsbD_setWidth, BitVec.getLsbD_setWidth, h4])
    | (simp [hi, h3, h4]; done)
theorem fa_short_low (x : Int32) : (x &&& 65535).toInt16 = x.toInt16 := by
  apply Int16.toBitVec_inj.1
  apply BitVec.eq_of_getLsbD_eq
  intro i hi
  have h2 : (65535 : Int32).toBitVec.getLsbD i = true := by
    have : ∀ j : Fin 16, (65535 : Int32).toBitVec.getLsbD j.val = true := by decide +kernel
    exact this ⟨i, hi⟩
  have h4 : (x &&& 65535).toBitVec.getLsbD i = x.toBitVec.getLsbD i := by
    show (x.toBitVec &&& (65535 : Int32).toBitVec).getLsbD i = _
    rw [BitVec.getLsbD_and, h2, Bool.and_true]
  have h3 : i < 32 := by omega
  first
    | (show (((x &&& 65535).toBitVec).signExtend 16).getLsbD i = (x.toBitVec.signExtend 16).getLsbD i; rw [BitVec.getLsbD_signExtend, BitVec.getLsbD_signExtend, if_pos h3, if_pos h3, h4])
    | (show (((x &&& 65535).toBitVec).setWidth 16).getLsbD i = (x.toBitVec.setWidth 16).getLsbD i; rw [BitVec.getLsbD_setWidth, BitVec.getLsbD_setWidth, h4])
    | (simp [hi, h3, h4]; done)
/-- a small number is its own byte, its own short -/
theorem fa_byte_small {n : Nat} (h : n < 128) : (nI n).toInt8.toInt32 = nI n := by
  have : ∀ j : Fin 128, (nI j.val).toInt8.toInt32 = nI j.val := by decide +kernel
  exact this ⟨n, h⟩
/-! ===== absolute difference ===== -/
theorem fa_absdiff {a b : Nat} (ha : a < 2 ^ 31) (hb : b < 2 ^ 31) : (if nI a < nI b then nI b - nI a else nI a - nI b) = nI (if a < b then b - a else a - b) := by
  by_cases h : a < b
  · rw [if_pos (nI_lt h hb), if_pos h]
    exact pk_sub (Nat.le_of_lt h)
  · rw [if_neg (nI_nlt (Nat.le_of_not_lt h) ha), if_neg h]
    exact pk_sub (Nat.le_of_not_lt h)
/-! ===== an array behind i stores, a conditional store, a row copied ===== -/
/-- f where k < i, what stood there else -/
def fa_fill {α : Type} (f g : Nat → α) (i : Nat) : Nat → α := fun k => if k < i then f k else g k
theorem fa_fill_0 {α : Type} (f g : Nat → α) : fa_fill f g 0 = g := funext fun k => if_neg (Nat.not_lt_zero k)
theorem fa_fill_in {α : Type} {f g : Nat → α} {i k : Nat} (h : k < i) : fa_fill f g i k = f k := if_pos h
theorem fa_fill_out {α : Type} {f g : Nat → α} {i k : Nat} (h : i ≤ k) : fa_fill f g i k = g k := if_neg (Nat.not_lt.mpr h)
theorem fa_fill_succ (f g : Nat → Int32) (i : Nat) : upd (fa_fill f g i) i (f i) = fa_fill f g (i + 1) := by
  funext k
  by_cases e : k = i
  · subst e
    rw [pk_us]
    exact (if_pos (Nat.lt_succ_self k)).symm
  · rw [pk_un e]
    by_cases h : k < i
    · rw [fa_fill_in h, fa_fill_in (Nat.lt_succ_of_lt h)]
    · rw [fa_fill_out (Nat.le_of_not_lt h), fa_fill_out (by omega)]
/-- a store that changes nothing -/
theorem fa_upd_same {f : Nat → Int32} {i : Nat} {x : Int32} (h : f i = x) : upd f i x = f := by
  funext k
  by_cases e : k = i
  · subst e
    rw [pk_us, h]
  · rw [pk_un e]
/-- a store under a condition, told as one -/
theorem fa_upd_if (c : Prop) [Decidable c] (f : Nat → Int32) (i : Nat) (x : Int32) : (if c then upd f i x else f) = upd f i (if c then x else f i) := by
  by_cases h : c
  · rw [if_pos h, if_pos h]
  · rw [if_neg h, if_neg h, fa_upd_same rfl]
/-- two stores at one place, at two -/
theorem fa_upd_twice (f : Nat → Int32) (i : Nat) (x y : Int32) : upd (upd f i x) i y = upd f i y := by
  funext k
  by_cases e : k = i
  · subst e
    rw [pk_us, pk_us]
  · rw [pk_un e, pk_un e, pk_un e]
theorem fa_upd_swap (f : Nat → Int32) {i j : Nat} (h : i ≠ j) (x y : Int32) : upd (upd f i x) j y = upd (upd f j y) i x := by
  funext k
  by_cases e : k = i
  · subst e
    rw [pk_un h, pk_us, pk_us]
  · by_cases e2 : k = j
    · subst e2
      rw [pk_us, pk_un e, pk_us]
    · rw [pk_un e2, pk_un e, pk_un e, pk_un e2]
/-! ===== the first index with a property; a count ===== -/
/-- the first k < n with p k, n if there is none -/
def fa_first (p : Nat → Bool) : Nat → Nat
  | 0 => 0
  | n + 1 => if fa_first p n < n then fa_first p n else if p n then n else n + 1
theorem fa_first_le (p : Nat → Bool) : ∀ n, fa_first p n ≤ n
  | 0 => Nat.le_refl 0
  | n + 1 => by
    have ih := fa_first_le p n
    unfold fa_first
    split
    · omega
    · split
      · omega
      · omega
theorem fa_first_no (p : Nat → Bool) : ∀ n k, k < fa_first p n → p k = false
  | 0, k, h => absurd h (Nat.not_lt_zero k)
  | n + 1, k, h => by
    have ih := fa_first_no p n
    have hl := fa_first_le p n
    unfold fa_first at h
    split at h
    · exact ih k h
    · rename_i h1
      split at h
      · exact ih k (by omega)
      · rename_i h2
        by_cases e : k = n
        · subst e
          exact Bool.eq_false_iff.mpr h2
        · exact ih k (by omega)
theorem fa_first_yes (p : Nat → Bool) : ∀ n, fa_first p n < n → p (fa_first p n) = true
  | 0, h => absurd h (Nat.not_lt_zero _)
  | n + 1, h => by
    have ih := fa_first_yes p n
    have hl := fa_first_le p n
    unfold fa_first at h ⊢
    split at h
    · rename_i h1
      rw [if_pos h1]
      exact ih h1
    · rename_i h1
      rw [if_neg h1]
      split at h
      · rename_i h2
        rw [if_pos h2]
        exact h2
      · omega
/-- how many k < n have p k -/
def fa_cnt (p : Nat → Bool) : Nat → Nat
  | 0 => 0
  | n + 1 => fa_cnt p n + if p n then 1 else 0
theorem fa_cnt_le (p : Nat → Bool) : ∀ n, fa_cnt p n ≤ n
  | 0 => Nat.le_refl 0
  | n + 1 => by
    have ih := fa_cnt_le p n
    unfold fa_cnt
    split
    · omega
    · omega
theorem fa_cnt_yes {p : Nat → Bool} {n : Nat} (h : p n = true) : fa_cnt p (n + 1) = fa_cnt p n + 1 := by rw [fa_cnt, if_pos h]
theorem fa_cnt_no {p : Nat → Bool} {n : Nat} (h : p n = false) : fa_cnt p (n + 1) = fa_cnt p n := by rw [fa_cnt, if_neg (by rw [h]; decide)]; rfl
theorem fa_cnt_cong {p q : Nat → Bool} : ∀ {n : Nat}, (∀ k, k < n → p k = q k) → fa_cnt p n = fa_cnt q n
  | 0, _ => rfl
  | n + 1, h => by rw [fa_cnt, fa_cnt, fa_cnt_cong (fun k hk => h k (Nat.lt_succ_of_lt hk)), h n (Nat.lt_succ_self n)]
/-! ===== an answer carried into a post; a branch on a boolean answer ===== -/
theorem fa_post {α : Type} {P : α → Prop} {x y : α} (h : x = y) (hp : P y) : P x := h ▸ hp
theorem fa_post2 {α β : Type} {P : α → β → Prop} {x y : α} {u v : β} (h : x = y) (h2 : u = v) (hp : P y v) : P x u := h ▸ h2 ▸ hp
theorem fa_bool {r : Int32} {b : Bool} (h : r = if b then 1 else 0) : (r = 0 ↔ b = false) ∧ (¬ r = 0 ↔ b = true) := by
  subst h
  cases b
  · exact ⟨⟨fun _ => rfl, fun _ => rfl⟩, ⟨fun h => absurd rfl h, fun h => absurd h (by decide)⟩⟩
  · exact ⟨⟨fun h => absurd h (by decide), fun h => absurd h (by decide)⟩, ⟨fun _ => rfl, fun _ => by decide⟩⟩
/-- a boolean's narrowing changes nothing -/
theorem fa_bool_and {r : Int32} (h : r = 0 ∨ r = 1) : r &&& 1 = r := by
  rcases h with rfl | rfl
  · decide
  · decide
theorem fa_bool_prop {c : Prop} [Decidable c] {r : Int32} (h : r = if c then 1 else 0) : (r = 0 ↔ ¬ c) ∧ (¬ r = 0 ↔ c) := by
  subst h
  by_cases hc : c
  · rw [if_pos hc]
    exact ⟨⟨fun h => absurd h (by decide), fun h => absurd hc h⟩, ⟨fun _ => hc, fun _ => by decide⟩⟩
  · rw [if_neg hc]
    exact ⟨⟨fun _ => hc, fun _ => rfl⟩, ⟨fun h => absurd rfl h, fun h => absurd h hc⟩⟩
end
section
/-! plain facts to paste, each family by itself; over the kit's nI, lN and upd -/
/-! ===== drawers: more things than places ===== -/
theorem fb_holes : ∀ (m n : Nat) (f : Nat → Nat), (∀ i, i < n → f i < m) → (∀ i j, i < j → j < n → f i ≠ f j) → n ≤ m := by
  intro m
  induction m with
  | zero =>
    intro n f h1 _
    rcases Nat.eq_zero_or_pos n with h | h
    · omega
    · exact absurd (h1 0 h) (Nat.not_lt_zero _)
  | succ m ih =>
    intro n f h1 h2
    by_cases hx : ∃ i, i < n ∧ f i = m
    · obtain ⟨a, ha, hfa⟩ := hx
      have hg := ih (n - 1) (fun i => if i < a then f i else f (i + 1)) (by
        intro i hi
        by_cases q : i < a
        · simp only [if_pos q]
          have b1 := h1 i (by omega)
          have b2 := h2 i a q ha
          omega
        · simp only [if_neg q]
          have b1 := h1 (i + 1) (by omega)
          have b2 := h2 a (i + 1) (by omega) (by omega)
          omega) (by
        intro i j hij hj
        by_cases q : i < a
        · by_cases r : j < a
          · simp only [if_pos q, if_pos r]
            exact h2 i j hij (by omega)
          · simp only [if_pos q, if_neg r]
            exact h2 i (j + 1) (by omega) (by omega)
        · have r : ¬ j < a := by omega
          simp only [if_neg q, if_neg r]
          exact h2 (i + 1) (j + 1) (by omega) (by omega))
      omega
    · have hg := ih n f (fun i hi => by
        have b1 := h1 i hi
        have b2 : f i ≠ m := fun e => hx ⟨i, hi, e⟩
        omega) h2
      omega
/-- two of them in one place -/
theorem fb_twice {m n : Nat} {f : Nat → Nat} (h : ∀ i, i < n → f i < m) (hm : m < n) : ∃ i j, i < j ∧ j < n ∧ f i = f j := by
  refine Classical.byContradiction fun hx => ?_
  have := fb_holes m n f h (fun i j hij hj e => hx ⟨i, j, hij, hj, e⟩)
  omega
/-- as many as places, none twice: each place is taken -/
theorem fb_onto {n : Nat} {f : Nat → Nat} (h : ∀ i, i < n → f i < n) (h2 : ∀ i j, i < j → j < n → f i ≠ f j) {y : Nat} (hy : y < n) : ∃ i, i < n ∧ f i = y := by
  refine Classical.byContradiction fun hx => ?_
  have hne : ∀ i, i < n → f i ≠ y := fun i hi e => hx ⟨i, hi, e⟩
  have := fb_holes (n - 1) n (fun i => if f i < y then f i else f i - 1) (by
    intro i hi
    have b1 := h i hi
    have b2 := hne i hi
    by_cases q : f i < y
    · simp only [if_pos q]; omega
    · simp only [if_neg q]; omega) (by
    intro i j hij hj
    have b1 := hne i (by omega)
    have b2 := hne j hj
    have b3 := h2 i j hij hj
    by_cases q : f i < y
    · by_cases r : f j < y
      · simp only [if_pos q, if_pos r]; exact b3
      · simp only [if_pos q, if_neg r]; omega
    · by_cases r : f j < y
      · simp only [if_neg q, if_pos r]; omega
      · simp only [if_neg q, if_neg r]; omega)
  omega
/-! ===== how many places have a property ===== -/
def fb_ct (p : Nat → Bool) : Nat → Nat
  | 0 => 0
  | n + 1 => fb_ct p n + (if p n then 1 else 0)
theorem fb_ct_succ (p : Nat → Bool) (n : Nat) : fb_ct p (n + 1) = fb_ct p n + (if p n then 1 else 0) := rfl
theorem fb_ct_le (p : Nat → Bool) : ∀ n, fb_ct p n ≤ n
  | 0 => Nat.le_refl _
  | n + 1 => by
    have h := fb_ct_le p n
    rw [fb_ct_succ]
    split <;> omega
theorem fb_ct_step (p : Nat → Bool) (m : Nat) : ∀ n, fb_ct p m ≤ fb_ct p (m + n)
  | 0 => Nat.le_refl _
  | n + 1 => by
    have h := fb_ct_step p m n
    show fb_ct p m ≤ fb_ct p (m + n + 1)
    rw [fb_ct_succ]
    omega
theorem fb_ct_mono (p : Nat → Bool) {m n : Nat} (h : m ≤ n) : fb_ct p m ≤ fb_ct p n := by
  have := fb_ct_step p m (n - m)
  rwa [Nat.add_sub_cancel' h] at this
theorem fb_ct_cong {p q : Nat → Bool} : ∀ {n : Nat}, (∀ k, k < n → p k = q k) → fb_ct p n = fb_ct q n
  | 0, _ => rfl
  | n + 1, h => by
    rw [fb_ct_succ, fb_ct_succ, fb_ct_cong (fun k hk => h k (by omega)), h n (by omega)]
/-- one place changed -/
theorem fb_ct_out (p : Nat → Bool) (b : Bool) {i n : Nat} (h : n ≤ i) : fb_ct (fun k => if k = i then b else p k) n = fb_ct p n :=
  fb_ct_cong fun k hk => if_neg (by omega)
theorem fb_ct_upd (p : Nat → Bool) (b : Bool) {i : Nat} : ∀ {n : Nat}, i < n → fb_ct (fun k => if k = i then b else p k) n + (if p i then 1 else 0) = fb_ct p n + (if b then 1 else 0)
  | 0, h => absurd h (Nat.not_lt_zero i)
  | n + 1, h => by
    rw [fb_ct_succ, fb_ct_succ]
    rcases Nat.lt_or_ge i n with q | q
    · have := fb_ct_upd p b q
      have e : (if n = i then b else p n) = p n := if_neg (by omega)
      rw [e]
      omega
    · have e : i = n := by omega
      subst e
      rw [fb_ct_out p b (Nat.le_refl _)]
      simp only [if_true]
      omega
theorem fb_ct_sub {p q : Nat → Bool} : ∀ {n : Nat}, (∀ k, k < n → p k = true → q k = true) → fb_ct p n ≤ fb_ct q n
  | 0, _ => Nat.le_refl _
  | n + 1, h => by
    have h1 := fb_ct_sub (n := n) (p := p) (q := q) (fun k hk => h k (by omega))
    have h2 := h n (by omega)
    rw [fb_ct_succ, fb_ct_succ]
    cases hp : p n <;> cases hq : q n <;> simp_all <;> omega
theorem fb_ct_or {p q : Nat → Bool} : ∀ {n : Nat}, (∀ k, k < n → ¬ (p k = true ∧ q k = true)) → fb_ct (fun k => p k || q k) n = fb_ct p n + fb_ct q n
  | 0, _ => rfl
  | n + 1, h => by
    have h1 := fb_ct_or (n := n) (p := p) (q := q) (fun k hk => h k (by omega))
    have h2 := h n (by omega)
    rw [fb_ct_succ, fb_ct_succ, fb_ct_succ, h1]
    cases hp : p n <;> cases hq : q n <;> simp_all <;> omega
theorem fb_ct_not (p : Nat → Bool) : ∀ n, fb_ct p n + fb_ct (fun k => !p k) n = n
  | 0 => rfl
  | n + 1 => by
    have h := fb_ct_not p n
    rw [fb_ct_succ, fb_ct_succ]
    cases p n <;> simp <;> omega
theorem fb_ct_split (p : Nat → Bool) (m : Nat) : ∀ n, fb_ct p (m + n) = fb_ct p m + fb_ct (fun k => p (m + k)) n
  | 0 => rfl
  | n + 1 => by
    have h := fb_ct_split p m n
    show fb_ct p (m + n + 1) = _
    rw [fb_ct_succ, fb_ct_succ, h, Nat.add_assoc]
theorem fb_ct_zero {p : Nat → Bool} : ∀ {n : Nat}, fb_ct p n = 0 ↔ ∀ k, k < n → p k = false
  | 0 => ⟨fun _ k hk => absurd hk (Nat.not_lt_zero k), fun _ => rfl⟩
  | n + 1 => by
    have h := fb_ct_zero (p := p) (n := n)
    rw [fb_ct_succ]
    constructor
    · intro e k hk
      have e1 : fb_ct p n = 0 := by omega
      rcases Nat.lt_or_ge k n with q | q
      · exact h.mp e1 k q
      · have ek : k = n := by omega
        subst ek
        cases hp : p k
        · rfl
        · simp [hp] at e
    · intro a
      rw [h.mpr (fun k hk => a k (by omega)), a n (by omega)]
      rfl
theorem fb_ct_pos {p : Nat → Bool} {n : Nat} : 0 < fb_ct p n ↔ ∃ k, k < n ∧ p k = true := by
  constructor
  · intro h
    refine Classical.byContradiction fun hx => ?_
    have := fb_ct_zero.mpr (fun k hk => by
      cases hp : p k
      · rfl
      · exact absurd ⟨k, hk, hp⟩ hx : ∀ k, k < n → p k = false)
    omega
  · rintro ⟨k, hk, hp⟩
    rcases Nat.eq_zero_or_pos (fb_ct p n) with e | e
    · have := fb_ct_zero.mp e k hk
      rw [this] at hp
      cases hp
    · exact e
theorem fb_ct_all {p : Nat → Bool} {n : Nat} : fb_ct p n = n ↔ ∀ k, k < n → p k = true := by
  have h := fb_ct_not p n
  constructor
  · intro e k hk
    have z : fb_ct (fun k => !p k) n = 0 := by omega
    have := fb_ct_zero.mp z k hk
    cases hp : p k
    · simp [hp] at this
    · rfl
  · intro a
    have z : fb_ct (fun k => !p k) n = 0 := fb_ct_zero.mpr (fun k hk => by simp [a k hk])
    omega
/-- the k-th place with the property -/
theorem fb_ct_kth {p : Nat → Bool} {k : Nat} : ∀ {n : Nat}, k < fb_ct p n → ∃ i, i < n ∧ p i = true ∧ fb_ct p i = k
  | 0, h => absurd h (Nat.not_lt_zero k)
  | n + 1, h => by
    rcases Nat.lt_or_ge k (fb_ct p n) with q | q
    · obtain ⟨i, h1, h2⟩ := fb_ct_kth q
      exact ⟨i, by omega, h2⟩
    · rw [fb_ct_succ] at h
      cases hp : p n
      · simp [hp] at h; omega
      · simp [hp] at h
        exact ⟨n, by omega, hp, by omega⟩
theorem fb_ct_kth_one {p : Nat → Bool} {i j : Nat} (hi : p i = true) (hj : p j = true) (e : fb_ct p i = fb_ct p j) : i = j := by
  have key : ∀ a b : Nat, a < b → p a = true → fb_ct p a < fb_ct p b := by
    intro a b hab ha
    have h := fb_ct_mono p (show a + 1 ≤ b from hab)
    rw [fb_ct_succ, ha] at h
    simp at h
    omega
  rcases Nat.lt_trichotomy i j with q | q | q
  · have := key i j q hi; omega
  · exact q
  · have := key j i q hj; omega
/-! ===== sums over a range: one place changed, parts, bounds ===== -/
def fb_sm (f : Nat → Nat) : Nat → Nat
  | 0 => 0
  | n + 1 => fb_sm f n + f n
theorem fb_sm_succ (f : Nat → Nat) (n : Nat) : fb_sm f (n + 1) = fb_sm f n + f n := rfl
theorem fb_sm_cong {f g : Nat → Nat} : ∀ {n : Nat}, (∀ k, k < n → f k = g k) → fb_sm f n = fb_sm g n
  | 0, _ => rfl
  | n + 1, h => by rw [fb_sm_succ, fb_sm_succ, fb_sm_cong (fun k hk => h k (by omega)), h n (by omega)]
theorem fb_sm_out (f : Nat → Nat) (v : Nat) {i n : Nat} (h : n ≤ i) : fb_sm (fun k => if k = i then v else f k) n = fb_sm f n :=
  fb_sm_cong fun k hk => if_neg (by omega)
theorem fb_sm_upd (f : Nat → Nat) (v : Nat) {i : Nat} : ∀ {n : Nat}, i < n → fb_sm (fun k => if k = i then v else f k) n + f i = fb_sm f n + v
  | 0, h => absurd h (Nat.not_lt_zero i)
  | n + 1, h => by
    rw [fb_sm_succ, fb_sm_succ]
    rcases Nat.lt_or_ge i n with q | q
    · have := fb_sm_upd f v q
      have e : (if n = i then v else f n) = f n := if_neg (by omega)
      rw [e]
      omega
    · have e : i = n := by omega
      subst e
      rw [fb_sm_out f v (Nat.le_refl _)]
      simp only [if_true]
      omega
theorem fb_sm_add (f g : Nat → Nat) : ∀ n, fb_sm (fun k => f k + g k) n = fb_sm f n + fb_sm g n
  | 0 => rfl
  | n + 1 => by
    have h := fb_sm_add f g n
    rw [fb_sm_succ, fb_sm_succ, fb_sm_succ, h]
    omega
theorem fb_sm_le {f g : Nat → Nat} : ∀ {n : Nat}, (∀ k, k < n → f k ≤ g k) → fb_sm f n ≤ fb_sm g n
  | 0, _ => Nat.le_refl _
  | n + 1, h => by
    have h1 := fb_sm_le (n := n) (f := f) (g := g) (fun k hk => h k (by omega))
    have h2 := h n (by omega)
    rw [fb_sm_succ, fb_sm_succ]
    omega
theorem fb_sm_const (c : Nat) : ∀ n, fb_sm (fun _ => c) n = n * c
  | 0 => by rw [Nat.zero_mul]; rfl
  | n + 1 => by rw [fb_sm_succ, fb_sm_const c n, Nat.succ_mul]
theorem fb_sm_bound {f : Nat → Nat} {c n : Nat} (h : ∀ k, k < n → f k ≤ c) : fb_sm f n ≤ n * c := by
  rw [← fb_sm_const c n]
  exact fb_sm_le h
theorem fb_sm_mono (f : Nat → Nat) (m : Nat) : ∀ n, fb_sm f m ≤ fb_sm f (m + n)
  | 0 => Nat.le_refl _
  | n + 1 => by
    have h := fb_sm_mono f m n
    show fb_sm f m ≤ fb_sm f (m + n + 1)
    rw [fb_sm_succ]
    omega
theorem fb_sm_part (f : Nat → Nat) {i n : Nat} (h : i < n) : fb_sm f i + f i ≤ fb_sm f n := by
  have := fb_sm_mono f (i + 1) (n - (i + 1))
  rw [fb_sm_succ, show i + 1 + (n - (i + 1)) = n by omega] at this
  exact this
theorem fb_sm_split (f : Nat → Nat) (m : Nat) : ∀ n, fb_sm f (m + n) = fb_sm f m + fb_sm (fun k => f (m + k)) n
  | 0 => rfl
  | n + 1 => by
    have h := fb_sm_split f m n
    show fb_sm f (m + n + 1) = _
    rw [fb_sm_succ, fb_sm_succ, h, Nat.add_assoc]
theorem fb_sm_zero {f : Nat → Nat} {n : Nat} (h : fb_sm f n = 0) : ∀ k, k < n → f k = 0 := fun k hk => by
  have := fb_sm_part f hk
  omega
/-- the same over whole numbers -/
def fb_si (f : Nat → Int) : Nat → Int
  | 0 => 0
  | n + 1 => fb_si f n + f n
theorem fb_si_succ (f : Nat → Int) (n : Nat) : fb_si f (n + 1) = fb_si f n + f n := rfl
theorem fb_si_cong {f g : Nat → Int} : ∀ {n : Nat}, (∀ k, k < n → f k = g k) → fb_si f n = fb_si g n
  | 0, _ => rfl
  | n + 1, h => by rw [fb_si_succ, fb_si_succ, fb_si_cong (fun k hk => h k (by omega)), h n (by omega)]
theorem fb_si_out (f : Nat → Int) (v : Int) {i n : Nat} (h : n ≤ i) : fb_si (fun k => if k = i then v else f k) n = fb_si f n :=
  fb_si_cong fun k hk => if_neg (by omega)
theorem fb_si_upd (f : Nat → Int) (v : Int) {i : Nat} : ∀ {n : Nat}, i < n → fb_si (fun k => if k = i then v else f k) n = fb_si f n - f i + v
  | 0, h => absurd h (Nat.not_lt_zero i)
  | n + 1, h => by
    rw [fb_si_succ, fb_si_succ]
    rcases Nat.lt_or_ge i n with q | q
    · have := fb_si_upd f v q
      have e : (if n = i then v else f n) = f n := if_neg (by omega)
      rw [e]
      omega
    · have e : i = n := by omega
      subst e
      rw [fb_si_out f v (Nat.le_refl _)]
      simp only [if_true]
      omega
theorem fb_si_add (f g : Nat → Int) : ∀ n, fb_si (fun k => f k + g k) n = fb_si f n + fb_si g n
  | 0 => rfl
  | n + 1 => by
    have h := fb_si_add f g n
    rw [fb_si_succ, fb_si_succ, fb_si_succ, h]
    omega
theorem fb_si_sub (f g : Nat → Int) : ∀ n, fb_si (fun k => f k - g k) n = fb_si f n - fb_si g n
  | 0 => rfl
  | n + 1 => by
    have h := fb_si_sub f g n
    rw [fb_si_succ, fb_si_succ, fb_si_succ, h]
    omega
theorem fb_si_mul (c : Int) (f : Nat → Int) : ∀ n, fb_si (fun k => c * f k) n = c * fb_si f n
  | 0 => (Int.mul_zero c).symm
  | n + 1 => by
    have h := fb_si_mul c f n
    rw [fb_si_succ, fb_si_succ, h, Int.mul_add]
theorem fb_si_split (f : Nat → Int) (m : Nat) : ∀ n, fb_si f (m + n) = fb_si f m + fb_si (fun k => f (m + k)) n
  | 0 => (Int.add_zero _).symm
  | n + 1 => by
    have h := fb_si_split f m n
    show fb_si f (m + n + 1) = _
    rw [fb_si_succ, fb_si_succ, h, Int.add_assoc]
theorem fb_si_nat (f : Nat → Nat) : ∀ n, fb_si (fun k => (f k : Int)) n = (fb_sm f n : Int)
  | 0 => rfl
  | n + 1 => by
    have h := fb_si_nat f n
    rw [fb_si_succ, fb_sm_succ, h]
    omega
theorem fb_si_bound {f : Nat → Int} {c : Int} (hc : 0 ≤ c) : ∀ {n : Nat}, (∀ k, k < n → -c ≤ f k ∧ f k ≤ c) → -(n * c) ≤ fb_si f n ∧ fb_si f n ≤ n * c
  | 0, _ => by simp [fb_si]
  | n + 1, h => by
    have h1 := fb_si_bound (n := n) (f := f) hc (fun k hk => h k (by omega))
    have h2 := h n (by omega)
    have e : ((n + 1 : Nat) : Int) * c = n * c + c := by rw [Int.natCast_add, Int.add_mul]; simp
    rw [fb_si_succ, e]
    omega
/-! ===== bits of a long that isn't negative ===== -/
theorem fb_andL (a b : Nat) : lN a &&& lN b = lN (a &&& b) := by
  apply Int64.toBitVec_inj.1
  show BitVec.ofNat 64 a &&& BitVec.ofNat 64 b = BitVec.ofNat 64 (a &&& b)
  apply BitVec.eq_of_getLsbD_eq
  intro i hi
  simp [hi]
theorem fb_orL (a b : Nat) : lN a ||| lN b = lN (a ||| b) := by
  apply Int64.toBitVec_inj.1
  show BitVec.ofNat 64 a ||| BitVec.ofNat 64 b = BitVec.ofNat 64 (a ||| b)
  apply BitVec.eq_of_getLsbD_eq
  intro i hi
  simp [hi]
theorem fb_xorL (a b : Nat) : lN a ^^^ lN b = lN (a ^^^ b) := by
  apply Int64.toBitVec_inj.1
  show BitVec.ofNat 64 a ^^^ BitVec.ofNat 64 b = BitVec.ofNat 64 (a ^^^ b)
  apply BitVec.eq_of_getLsbD_eq
  intro i hi
  simp [hi]
theorem fb_xorI (a b : Nat) : nI a ^^^ nI b = nI (a ^^^ b) := by
  apply Int32.toBitVec_inj.1
  show BitVec.ofNat 32 a ^^^ BitVec.ofNat 32 b = BitVec.ofNat 32 (a ^^^ b)
  apply BitVec.eq_of_getLsbD_eq
  intro i hi
  simp [hi]
theorem fb_maskL (n k : Nat) : lN n &&& lN (2 ^ k - 1) = lN (n % 2 ^ k) := by rw [fb_andL, Nat.and_two_pow_sub_one_eq_mod]
theorem fb_or_sumL {a k : Nat} (b : Nat) (h : a < 2 ^ k) : lN (2 ^ k * b) ||| lN a = lN (2 ^ k * b + a) := by rw [fb_orL, Nat.two_pow_add_eq_or_of_lt h]
theorem fb_lN_inj {a b : Nat} (ha : a < 2 ^ 63) (hb : b < 2 ^ 63) : lN a = lN b ↔ a = b := by
  constructor
  · intro h
    have h1 : (BitVec.ofNat 64 a).toNat = (BitVec.ofNat 64 b).toNat := congrArg (fun x : Int64 => x.toBitVec.toNat) h
    rw [BitVec.toNat_ofNat, BitVec.toNat_ofNat, Nat.mod_eq_of_lt (by omega), Nat.mod_eq_of_lt (by omega)] at h1
    exact h1
  · rintro rfl; rfl
theorem fb_bit_nat (n j : Nat) : n &&& 2 ^ j = 0 ↔ n.testBit j = false := by
  constructor
  · intro h
    have h1 : (n &&& 2 ^ j).testBit j = false := by rw [h]; simp
    rw [Nat.testBit_and] at h1
    simpa using h1
  · intro h
    apply Nat.eq_of_testBit_eq
    intro i
    rw [Nat.testBit_and]
    by_cases hi : j = i
    · subst hi; simp [h]
    · first | (simp [Nat.testBit_two_pow, hi]; done) | (simp [Nat.testBit_two_pow_of_ne hi]; done)
/-- one bit of a long -/
theorem fb_bitL {n j : Nat} (hj : j < 63) : lN n &&& lN (2 ^ j) = 0 ↔ n.testBit j = false := by
  have h2 : (2 : Nat) ^ j < 2 ^ 63 := Nat.pow_lt_pow_right (by decide) hj
  have hle : n &&& 2 ^ j ≤ 2 ^ j := Nat.and_le_right
  rw [fb_andL, ← fb_bit_nat, show (0 : Int64) = lN 0 from rfl]
  exact fb_lN_inj (by omega) (by decide)
/-- a bit set, a bit taken off -/
theorem fb_bit_set (n j i : Nat) : (n ||| 2 ^ j).testBit i = (n.testBit i || decide (i = j)) := by
  rw [Nat.testBit_or]
  by_cases h : j = i
  · subst h; simp
  · have h2 : ¬ i = j := fun e => h e.symm
    first | (simp [Nat.testBit_two_pow, h, h2]; done) | (simp [Nat.testBit_two_pow_of_ne h, h2]; done)
theorem fb_bit_flip (n j i : Nat) : (n ^^^ 2 ^ j).testBit i = (n.testBit i ^^ decide (i = j)) := by
  rw [Nat.testBit_xor]
  by_cases h : j = i
  · subst h; simp
  · have h2 : ¬ i = j := fun e => h e.symm
    first | (simp [Nat.testBit_two_pow, h, h2]; done) | (simp [Nat.testBit_two_pow_of_ne h, h2]; done)
/-! ===== a stretch of an array written over by a function ===== -/
def fb_put {α : Type} (f g : Nat → α) (a n : Nat) : Nat → α := fun k => if a ≤ k ∧ k < a + n then g (k - a) else f k
theorem fb_put_0 {α : Type} (f g : Nat → α) (a : Nat) : fb_put f g a 0 = f := funext fun k => if_neg (by omega)
theorem fb_put_in {α : Type} {f g : Nat → α} {a n k : Nat} (h1 : a ≤ k) (h2 : k < a + n) : fb_put f g a n k = g (k - a) := if_pos ⟨h1, h2⟩
theorem fb_put_out {α : Type} {f g : Nat → α} {a n k : Nat} (h : k < a ∨ a + n ≤ k) : fb_put f g a n k = f k := if_neg (by omega)
theorem fb_put_succ (f g : Nat → Int32) (a n : Nat) : upd (fb_put f g a n) (a + n) (g n) = fb_put f g a (n + 1) := by
  funext k
  by_cases h : k = a + n
  · subst h
    simp [upd, fb_put]
  · by_cases h1 : a ≤ k ∧ k < a + n
    · have h2 : a ≤ k ∧ k < a + (n + 1) := by omega
      simp only [upd, fb_put, if_neg h, if_pos h1, if_pos h2]
    · have h2 : ¬ (a ≤ k ∧ k < a + (n + 1)) := by omega
      simp only [upd, fb_put, if_neg h, if_neg h1, if_neg h2]
/-- .. from the far end down -/
theorem fb_put_down (f g : Nat → Int32) {a n m : Nat} (h : m < n) : upd (fb_put f (fun k => g (k + (m + 1))) (a + (m + 1)) (n - (m + 1))) (a + m) (g m) = fb_put f (fun k => g (k + m)) (a + m) (n - m) := by
  funext k
  by_cases h0 : k = a + m
  · subst h0
    simp only [upd, if_true]
    rw [fb_put_in (by omega) (by omega)]
    exact congrArg g (by omega)
  · simp only [upd, if_neg h0]
    by_cases h1 : a + (m + 1) ≤ k ∧ k < a + (m + 1) + (n - (m + 1))
    · rw [fb_put_in h1.1 h1.2, fb_put_in (by omega) (by omega)]
      exact congrArg g (by omega)
    · rw [fb_put_out (by omega), fb_put_out (by omega)]
theorem fb_put_cong {α : Type} {f f2 g g2 : Nat → α} {a n : Nat} (hf : ∀ k, (k < a ∨ a + n ≤ k) → f k = f2 k) (hg : ∀ k, k < n → g k = g2 k) : fb_put f g a n = fb_put f2 g2 a n := by
  funext k
  by_cases h : a ≤ k ∧ k < a + n
  · rw [fb_put_in h.1 h.2, fb_put_in h.1 h.2, hg _ (by omega)]
  · rw [fb_put_out (by omega), fb_put_out (by omega), hf _ (by omega)]
/-! ===== the least, the first, the best so far; that there is one alone ===== -/
theorem fb_first {p : Nat → Prop} [DecidablePred p] : ∀ {n : Nat}, (∃ i, i < n ∧ p i) → ∃ i, i < n ∧ p i ∧ ∀ j, j < i → ¬ p j
  | 0, h => by obtain ⟨i, hi, -⟩ := h; exact absurd hi (Nat.not_lt_zero i)
  | n + 1, h => by
    by_cases q : ∃ i, i < n ∧ p i
    · obtain ⟨i, h1, h2⟩ := fb_first q
      exact ⟨i, by omega, h2⟩
    · obtain ⟨i, h1, h2⟩ := h
      have e : i = n := by
        rcases Nat.lt_or_ge i n with r | r
        · exact absurd ⟨i, r, h2⟩ q
        · omega
      subst e
      exact ⟨i, by omega, h2, fun j hj hp => q ⟨j, hj, hp⟩⟩
theorem fb_first_one {p : Nat → Prop} {i j : Nat} (hi : p i) (hi2 : ∀ k, k < i → ¬ p k) (hj : p j) (hj2 : ∀ k, k < j → ¬ p k) : i = j := by
  rcases Nat.lt_trichotomy i j with q | q | q
  · exact absurd hi (hj2 i q)
  · exact q
  · exact absurd hj (hi2 j q)
theorem fb_last {p : Nat → Prop} [DecidablePred p] : ∀ {n : Nat}, (∃ i, i < n ∧ p i) → ∃ i, i < n ∧ p i ∧ ∀ j, i < j → j < n → ¬ p j
  | 0, h => by obtain ⟨i, hi, -⟩ := h; exact absurd hi (Nat.not_lt_zero i)
  | n + 1, h => by
    by_cases q : p n
    · exact ⟨n, by omega, q, fun j h1 h2 => by omega⟩
    · obtain ⟨i, h1, h2⟩ := h
      have hi : i < n := by
        rcases Nat.lt_or_ge i n with r | r
        · exact r
        · have e : i = n := by omega
          subst e
          exact absurd h2 q
      obtain ⟨i2, a1, a2, a3⟩ := fb_last (n := n) ⟨i, hi, h2⟩
      refine ⟨i2, by omega, a2, fun j b1 b2 => ?_⟩
      rcases Nat.lt_or_ge j n with r | r
      · exact a3 j b1 r
      · have e : j = n := by omega
        subst e
        exact q
/-- the first greatest -/
theorem fb_best (f : Nat → Int) : ∀ {n : Nat}, 0 < n → ∃ i, i < n ∧ (∀ j, j < n → f j ≤ f i) ∧ ∀ j, j < i → f j < f i
  | 0, h => absurd h (Nat.lt_irrefl 0)
  | 1, _ => ⟨0, by omega, fun j hj => by have e : j = 0 := by omega
                                         subst e; exact Int.le_refl _, fun j hj => absurd hj (Nat.not_lt_zero j)⟩
  | n + 2, _ => by
    obtain ⟨i, h1, h2, h3⟩ := fb_best f (n := n + 1) (by omega)
    by_cases q : f i < f (n + 1)
    · refine ⟨n + 1, by omega, fun j hj => ?_, fun j hj => ?_⟩
      · rcases Nat.lt_or_ge j (n + 1) with r | r
        · have := h2 j r; omega
        · have e : j = n + 1 := by omega
          subst e; exact Int.le_refl _
      · have := h2 j hj; omega
    · refine ⟨i, by omega, fun j hj => ?_, h3⟩
      rcases Nat.lt_or_ge j (n + 1) with r | r
      · exact h2 j r
      · have e : j = n + 1 := by omega
        subst e; omega
theorem fb_best_one {f : Nat → Int} {n i j : Nat} (hi : i < n) (hi2 : ∀ k, k < n → f k ≤ f i) (hi3 : ∀ k, k < i → f k < f i) (hj : j < n) (hj2 : ∀ k, k < n → f k ≤ f j) (hj3 : ∀ k, k < j → f k < f j) : i = j := by
  rcases Nat.lt_trichotomy i j with q | q | q
  · have a := hj3 i q
    have b := hi2 j hj
    omega
  · exact q
  · have a := hi3 j q
    have b := hj2 i hi
    omega
/-- the first least -/
theorem fb_low (f : Nat → Int) {n : Nat} (h : 0 < n) : ∃ i, i < n ∧ (∀ j, j < n → f i ≤ f j) ∧ ∀ j, j < i → f i < f j := by
  obtain ⟨i, h1, h2, h3⟩ := fb_best (fun k => -f k) h
  exact ⟨i, h1, fun j hj => by have := h2 j hj; omega, fun j hj => by have := h3 j hj; omega⟩
/-! ===== signed ints as whole numbers, within bounds ===== -/
theorem fb_rng (x : Int32) : -2147483648 ≤ x.toInt ∧ x.toInt < 2147483648 := by
  have h1 := Int32.le_toInt x
  have h2 := Int32.toInt_lt x
  omega
theorem fb_bmod {z : Int} (h1 : -2147483648 ≤ z) (h2 : z < 2147483648) : z.bmod (2 ^ 32) = z := by
  rw [Int.bmod_eq_of_le (by omega) (by omega)]
theorem fb_addI {x y : Int32} (h1 : -2147483648 ≤ x.toInt + y.toInt) (h2 : x.toInt + y.toInt < 2147483648) : (x + y).toInt = x.toInt + y.toInt := by
  rw [Int32.toInt_add, fb_bmod h1 h2]
theorem fb_subI {x y : Int32} (h1 : -2147483648 ≤ x.toInt - y.toInt) (h2 : x.toInt - y.toInt < 2147483648) : (x - y).toInt = x.toInt - y.toInt := by
  rw [Int32.toInt_sub, fb_bmod h1 h2]
theorem fb_mulI {x y : Int32} (h1 : -2147483648 ≤ x.toInt * y.toInt) (h2 : x.toInt * y.toInt < 2147483648) : (x * y).toInt = x.toInt * y.toInt := by
  rw [Int32.toInt_mul, fb_bmod h1 h2]
theorem fb_negI {x : Int32} (h : x.toInt ≠ -2147483648) : (-x).toInt = -x.toInt := by
  have := fb_rng x
  rw [Int32.toInt_neg, fb_bmod (by omega) (by omega)]
theorem fb_ofI {z : Int} (h1 : -2147483648 ≤ z) (h2 : z < 2147483648) : (Int32.ofInt z).toInt = z := by
  rw [Int32.toInt_ofInt, fb_bmod h1 h2]
theorem fb_asI (x : Int32) : Int32.ofInt x.toInt = x := Int32.ofInt_toInt x
theorem fb_rngL (x : Int64) : -9223372036854775808 ≤ x.toInt ∧ x.toInt < 9223372036854775808 := by
  have h1 := Int64.le_toInt x
  have h2 := Int64.toInt_lt x
  omega
theorem fb_bmodL {z : Int} (h1 : -9223372036854775808 ≤ z) (h2 : z < 9223372036854775808) : z.bmod (2 ^ 64) = z := by
  rw [Int.bmod_eq_of_le (by omega) (by omega)]
theorem fb_addL {x y : Int64} (h1 : -9223372036854775808 ≤ x.toInt + y.toInt) (h2 : x.toInt + y.toInt < 9223372036854775808) : (x + y).toInt = x.toInt + y.toInt := by
  rw [Int64.toInt_add, fb_bmodL h1 h2]
theorem fb_subL {x y : Int64} (h1 : -9223372036854775808 ≤ x.toInt - y.toInt) (h2 : x.toInt - y.toInt < 9223372036854775808) : (x - y).toInt = x.toInt - y.toInt := by
  rw [Int64.toInt_sub, fb_bmodL h1 h2]
theorem fb_mulL {x y : Int64} (h1 : -9223372036854775808 ≤ x.toInt * y.toInt) (h2 : x.toInt * y.toInt < 9223372036854775808) : (x * y).toInt = x.toInt * y.toInt := by
  rw [Int64.toInt_mul, fb_bmodL h1 h2]
/-! ===== cuts of what is narrow already ===== -/
theorem fb_byte {x : Int32} (h1 : -128 ≤ x.toInt) (h2 : x.toInt < 128) : x.toInt8.toInt32 = x := by
  apply Int32.toInt_inj.1
  rw [Int8.toInt_toInt32, Int32.toInt_toInt8, Int.bmod_eq_of_le (by omega) (by omega)]
theorem fb_short {x : Int32} (h1 : -32768 ≤ x.toInt) (h2 : x.toInt < 32768) : x.toInt16.toInt32 = x := by
  apply Int32.toInt_inj.1
  rw [Int16.toInt_toInt32, Int32.toInt_toInt16, Int.bmod_eq_of_le (by omega) (by omega)]
theorem fb_byte_rng (x : Int32) : -128 ≤ x.toInt8.toInt32.toInt ∧ x.toInt8.toInt32.toInt < 128 := by
  rw [Int8.toInt_toInt32]
  have h1 := Int8.le_toInt x.toInt8
  have h2 := Int8.toInt_lt x.toInt8
  omega
theorem fb_short_rng (x : Int32) : -32768 ≤ x.toInt16.toInt32.toInt ∧ x.toInt16.toInt32.toInt < 32768 := by
  rw [Int16.toInt_toInt32]
  have h1 := Int16.le_toInt x.toInt16
  have h2 := Int16.toInt_lt x.toInt16
  omega
theorem fb_byte_twice (x : Int32) : x.toInt8.toInt32.toInt8.toInt32 = x.toInt8.toInt32 := fb_byte (fb_byte_rng x).1 (fb_byte_rng x).2
theorem fb_short_twice (x : Int32) : x.toInt16.toInt32.toInt16.toInt32 = x.toInt16.toInt32 := fb_short (fb_short_rng x).1 (fb_short_rng x).2
theorem fb_char {n : Nat} (h : n < 65536) : (nI n).toUInt32.toUInt16.toUInt32.toInt32 = nI n := by
  apply Int32.toBitVec_inj.1
  apply BitVec.eq_of_toNat_eq
  have e1 : (nI n).toBitVec.toNat = n := by
    show (BitVec.ofNat 32 n).toNat = n
    rw [BitVec.toNat_ofNat, Nat.mod_eq_of_lt (by omega)]
  have e2 : ((nI n).toUInt32.toUInt16.toUInt32).toNat = n := by
    rw [UInt16.toNat_toUInt32, UInt32.toNat_toUInt16]
    show (nI n).toBitVec.toNat % 2 ^ 16 = n
    rw [e1, Nat.mod_eq_of_lt (by omega)]
  rw [e1]
  exact e2
end
section
def RX0 : String := "KnobBench$Bounds"
def TX0 : u_T := fun k => match k with
  | 0 => ("KnobBench$Bounds", "floors", "[I", true)
  | _ => ("KnobBench$Bounds", "roofs", "[I", true)
def tyX0 : Nat → FieldType := fun k => match k with
  | 0 => .array .int
  | _ => .array .int
abbrev wsX00 : List Cond := u_ws RX0 TX0 2
theorem nmX0 : ∀ a, a < 2 → ∀ b, b < 2 → a ≠ b → (TX0 a).2.1 ≠ (TX0 b).2.1 := by decide +kernel
theorem tyX0_ok : ∀ k, k < 2 → parseFieldDescriptor (TX0 k).2.2.1 = some (tyX0 k) := by decide +kernel
abbrev cX0_init : ByteArray := prog_2_method_1_code
def yX0_init : MethodName := ⟨RX0, "<init>", "()V"⟩
abbrev cX0_floorOf : ByteArray := prog_2_method_2_code
def yX0_floorOf : MethodName := ⟨RX0, "floorOf", "(I)I"⟩
abbrev cX0_roofOf : ByteArray := prog_2_method_3_code
def yX0_roofOf : MethodName := ⟨RX0, "roofOf", "(I)I"⟩
abbrev cX0_measureAll : ByteArray := prog_2_method_4_code
def yX0_measureAll : MethodName := ⟨RX0, "measureAll", "(LKnobBench$Trials;LKnobBench$Knobs;)V"⟩
abbrev cX0_measure : ByteArray := prog_2_method_5_code
def yX0_measure : MethodName := ⟨RX0, "measure", "(ILKnobBench$Trials;LKnobBench$Knobs;)V"⟩
abbrev cX0_tightenByLatest : ByteArray := prog_2_method_6_code
def yX0_tightenByLatest : MethodName := ⟨RX0, "tightenByLatest", "(LKnobBench$Trials;LKnobBench$Knobs;)V"⟩
abbrev cX0_tighten : ByteArray := prog_2_method_7_code
def yX0_tighten : MethodName := ⟨RX0, "tighten", "(IILKnobBench$Trials;LKnobBench$Knobs;)V"⟩
abbrev cX0_howManyLeft : ByteArray := prog_2_method_8_code
def yX0_howManyLeft : MethodName := ⟨RX0, "howManyLeft", "(LKnobBench$Open;)I"⟩
abbrev cX0_nextOf : ByteArray := prog_2_method_9_code
def yX0_nextOf : MethodName := ⟨RX0, "nextOf", "(LKnobBench$Open;)I"⟩
abbrev cX0_greatestFloor : ByteArray := prog_2_method_10_code
def yX0_greatestFloor : MethodName := ⟨RX0, "greatestFloor", "(LKnobBench$Open;)I"⟩
def RX1 : String := "KnobBench$Effects"
def TX1 : u_T := fun k => match k with
  | 0 => ("KnobBench$Effects", "base", "I", false)
  | 1 => ("KnobBench$Effects", "singles", "[I", true)
  | 2 => ("KnobBench$Effects", "joints", "[I", true)
  | _ => ("KnobBench$Effects", "slots", "[I", true)
def tyX1 : Nat → FieldType := fun k => match k with
  | 0 => .int
  | 1 => .array .int
  | 2 => .array .int
  | _ => .array .int
abbrev wsX10 : List Cond := u_ws RX1 TX1 4
theorem nmX1 : ∀ a, a < 4 → ∀ b, b < 4 → a ≠ b → (TX1 a).2.1 ≠ (TX1 b).2.1 := by decide +kernel
theorem tyX1_ok : ∀ k, k < 4 → parseFieldDescriptor (TX1 k).2.2.1 = some (tyX1 k) := by decide +kernel
abbrev cX1_init : ByteArray := prog_3_method_1_code
def yX1_init : MethodName := ⟨RX1, "<init>", "()V"⟩
abbrev cX1_changeBase : ByteArray := prog_3_method_2_code
def yX1_changeBase : MethodName := ⟨RX1, "changeBase", "(I)I"⟩
abbrev cX1_changeSingle : ByteArray := prog_3_method_3_code
def yX1_changeSingle : MethodName := ⟨RX1, "changeSingle", "(III)I"⟩
abbrev cX1_changeJoint : ByteArray := prog_3_method_4_code
def yX1_changeJoint : MethodName := ⟨RX1, "changeJoint", "(IIIII)I"⟩
abbrev cX1_sumFor : ByteArray := prog_3_method_5_code
def yX1_sumFor : MethodName := ⟨RX1, "sumFor", "(ILKnobBench$Knobs;)I"⟩
def RX2 : String := "KnobBench$Knobs"
def TX2 : u_T := fun k => match k with
  | 0 => ("KnobBench$Knobs", "many", "I", false)
  | 1 => ("KnobBench$Knobs", "settings", "I", false)
  | 2 => ("KnobBench$Knobs", "sizes", "[I", true)
  | 3 => ("KnobBench$Knobs", "strides", "[I", true)
  | 4 => ("KnobBench$Knobs", "places", "[I", true)
  | _ => ("KnobBench$Knobs", "steepness", "[I", true)
def tyX2 : Nat → FieldType := fun k => match k with
  | 0 => .int
  | 1 => .int
  | 2 => .array .int
  | 3 => .array .int
  | 4 => .array .int
  | _ => .array .int
abbrev wsX20 : List Cond := u_ws RX2 TX2 6
theorem nmX2 : ∀ a, a < 6 → ∀ b, b < 6 → a ≠ b → (TX2 a).2.1 ≠ (TX2 b).2.1 := by decide +kernel
theorem tyX2_ok : ∀ k, k < 6 → parseFieldDescriptor (TX2 k).2.2.1 = some (tyX2 k) := by decide +kernel
abbrev cX2_init : ByteArray := prog_4_method_1_code
def yX2_init : MethodName := ⟨RX2, "<init>", "()V"⟩
abbrev cX2_howMany : ByteArray := prog_4_method_2_code
def yX2_howMany : MethodName := ⟨RX2, "howMany", "()I"⟩
abbrev cX2_howManySettings : ByteArray := prog_4_method_3_code
def yX2_howManySettings : MethodName := ⟨RX2, "howManySettings", "()I"⟩
abbrev cX2_hasRoomFor : ByteArray := prog_4_method_4_code
def yX2_hasRoomFor : MethodName := ⟨RX2, "hasRoomFor", "(I)Z"⟩
abbrev cX2_add : ByteArray := prog_4_method_5_code
def yX2_add : MethodName := ⟨RX2, "add", "(I)I"⟩
abbrev cX2_hasKnob : ByteArray := prog_4_method_6_code
def yX2_hasKnob : MethodName := ⟨RX2, "hasKnob", "(I)Z"⟩
abbrev cX2_hasValue : ByteArray := prog_4_method_7_code
def yX2_hasValue : MethodName := ⟨RX2, "hasValue", "(II)Z"⟩
abbrev cX2_hasSetting : ByteArray := prog_4_method_8_code
def yX2_hasSetting : MethodName := ⟨RX2, "hasSetting", "(I)Z"⟩
abbrev cX2_changePlace : ByteArray := prog_4_method_9_code
def yX2_changePlace : MethodName := ⟨RX2, "changePlace", "(III)I"⟩
abbrev cX2_changeSteepness : ByteArray := prog_4_method_10_code
def yX2_changeSteepness : MethodName := ⟨RX2, "changeSteepness", "(II)I"⟩
abbrev cX2_valueIn : ByteArray := prog_4_method_11_code
def yX2_valueIn : MethodName := ⟨RX2, "valueIn", "(II)I"⟩
abbrev cX2_moved : ByteArray := prog_4_method_12_code
def yX2_moved : MethodName := ⟨RX2, "moved", "(III)I"⟩
abbrev cX2_off : ByteArray := prog_4_method_13_code
def yX2_off : MethodName := ⟨RX2, "off", "(II)I"⟩
abbrev cX2_slot : ByteArray := prog_4_method_14_code
def yX2_slot : MethodName := ⟨RX2, "slot", "(II)I"⟩
def RX3 : String := "KnobBench$Open"
def TX3 : u_T := fun k => match k with
  | 0 => ("KnobBench$Open", "many", "I", false)
  | 1 => ("KnobBench$Open", "settings", "[I", true)
  | _ => ("KnobBench$Open", "worths", "[I", true)
def tyX3 : Nat → FieldType := fun k => match k with
  | 0 => .int
  | 1 => .array .int
  | _ => .array .int
abbrev wsX30 : List Cond := u_ws RX3 TX3 3
theorem nmX3 : ∀ a, a < 3 → ∀ b, b < 3 → a ≠ b → (TX3 a).2.1 ≠ (TX3 b).2.1 := by decide +kernel
theorem tyX3_ok : ∀ k, k < 3 → parseFieldDescriptor (TX3 k).2.2.1 = some (tyX3 k) := by decide +kernel
abbrev cX3_init : ByteArray := prog_5_method_1_code
def yX3_init : MethodName := ⟨RX3, "<init>", "()V"⟩
abbrev cX3_howMany : ByteArray := prog_5_method_2_code
def yX3_howMany : MethodName := ⟨RX3, "howMany", "()I"⟩
abbrev cX3_settingAt : ByteArray := prog_5_method_3_code
def yX3_settingAt : MethodName := ⟨RX3, "settingAt", "(I)I"⟩
abbrev cX3_worthAt : ByteArray := prog_5_method_4_code
def yX3_worthAt : MethodName := ⟨RX3, "worthAt", "(I)I"⟩
abbrev cX3_gather : ByteArray := prog_5_method_5_code
def yX3_gather : MethodName := ⟨RX3, "gather", "(LKnobBench$Knobs;LKnobBench$Rules;)V"⟩
abbrev cX3_weigh : ByteArray := prog_5_method_6_code
def yX3_weigh : MethodName := ⟨RX3, "weigh", "(LKnobBench$Knobs;LKnobBench$Effects;)V"⟩
def RX4 : String := "KnobBench$Ranks"
def TX4 : u_T := fun k => match k with
  | 0 => ("KnobBench$Ranks", "many", "I", false)
  | 1 => ("KnobBench$Ranks", "counting", "I", false)
  | 2 => ("KnobBench$Ranks", "all", "I", false)
  | 3 => ("KnobBench$Ranks", "readings", "[I", true)
  | _ => ("KnobBench$Ranks", "ways", "[I", true)
def tyX4 : Nat → FieldType := fun k => match k with
  | 0 => .int
  | 1 => .int
  | 2 => .int
  | 3 => .array .int
  | _ => .array .int
abbrev wsX40 : List Cond := u_ws RX4 TX4 5
theorem nmX4 : ∀ a, a < 5 → ∀ b, b < 5 → a ≠ b → (TX4 a).2.1 ≠ (TX4 b).2.1 := by decide +kernel
theorem tyX4_ok : ∀ k, k < 5 → parseFieldDescriptor (TX4 k).2.2.1 = some (tyX4 k) := by decide +kernel
abbrev cX4_init : ByteArray := prog_6_method_1_code
def yX4_init : MethodName := ⟨RX4, "<init>", "()V"⟩
abbrev cX4_countingWays : ByteArray := prog_6_method_2_code
def yX4_countingWays : MethodName := ⟨RX4, "countingWays", "()I"⟩
abbrev cX4_allWays : ByteArray := prog_6_method_3_code
def yX4_allWays : MethodName := ⟨RX4, "allWays", "()I"⟩
abbrev cX4_compare : ByteArray := prog_6_method_4_code
def yX4_compare : MethodName := ⟨RX4, "compare", "(IILKnobBench$Trials;)V"⟩
abbrev cX4_gather : ByteArray := prog_6_method_5_code
def yX4_gather : MethodName := ⟨RX4, "gather", "(ILKnobBench$Trials;)V"⟩
abbrev cX4_rankAt : ByteArray := prog_6_method_6_code
def yX4_rankAt : MethodName := ⟨RX4, "rankAt", "(I)I"⟩
abbrev cX4_spreadWays : ByteArray := prog_6_method_7_code
def yX4_spreadWays : MethodName := ⟨RX4, "spreadWays", "(I)V"⟩
abbrev cX4_waysFrom : ByteArray := prog_6_method_8_code
def yX4_waysFrom : MethodName := ⟨RX4, "waysFrom", "(II)I"⟩
def RX5 : String := "KnobBench$Rules"
def TX5 : u_T := fun k => match k with
  | 0 => ("KnobBench$Rules", "many", "I", false)
  | 1 => ("KnobBench$Rules", "needs", "[Z", true)
  | 2 => ("KnobBench$Rules", "firstKnobs", "[I", true)
  | 3 => ("KnobBench$Rules", "firstValues", "[I", true)
  | 4 => ("KnobBench$Rules", "secondKnobs", "[I", true)
  | _ => ("KnobBench$Rules", "secondValues", "[I", true)
def tyX5 : Nat → FieldType := fun k => match k with
  | 0 => .int
  | 1 => .array .boolean
  | 2 => .array .int
  | 3 => .array .int
  | 4 => .array .int
  | _ => .array .int
abbrev wsX50 : List Cond := u_ws RX5 TX5 6
theorem nmX5 : ∀ a, a < 6 → ∀ b, b < 6 → a ≠ b → (TX5 a).2.1 ≠ (TX5 b).2.1 := by decide +kernel
theorem tyX5_ok : ∀ k, k < 6 → parseFieldDescriptor (TX5 k).2.2.1 = some (tyX5 k) := by decide +kernel
abbrev cX5_init : ByteArray := prog_7_method_1_code
def yX5_init : MethodName := ⟨RX5, "<init>", "()V"⟩
abbrev cX5_howMany : ByteArray := prog_7_method_2_code
def yX5_howMany : MethodName := ⟨RX5, "howMany", "()I"⟩
abbrev cX5_isFull : ByteArray := prog_7_method_3_code
def yX5_isFull : MethodName := ⟨RX5, "isFull", "()Z"⟩
abbrev cX5_add : ByteArray := prog_7_method_4_code
def yX5_add : MethodName := ⟨RX5, "add", "(ZIIII)V"⟩
abbrev cX5_dropLatest : ByteArray := prog_7_method_5_code
def yX5_dropLatest : MethodName := ⟨RX5, "dropLatest", "()V"⟩
abbrev cX5_allow : ByteArray := prog_7_method_6_code
def yX5_allow : MethodName := ⟨RX5, "allow", "(ILKnobBench$Knobs;)Z"⟩
abbrev cX5_isAgainst : ByteArray := prog_7_method_7_code
def yX5_isAgainst : MethodName := ⟨RX5, "isAgainst", "(IILKnobBench$Knobs;)Z"⟩
def RX6 : String := "KnobBench$Trials"
def TX6 : u_T := fun k => match k with
  | 0 => ("KnobBench$Trials", "many", "I", false)
  | 1 => ("KnobBench$Trials", "noise", "I", false)
  | 2 => ("KnobBench$Trials", "seed", "I", false)
  | 3 => ("KnobBench$Trials", "settings", "[I", true)
  | _ => ("KnobBench$Trials", "readings", "[I", true)
def tyX6 : Nat → FieldType := fun k => match k with
  | 0 => .int
  | 1 => .int
  | 2 => .int
  | 3 => .array .int
  | _ => .array .int
abbrev wsX60 : List Cond := u_ws RX6 TX6 5
theorem nmX6 : ∀ a, a < 5 → ∀ b, b < 5 → a ≠ b → (TX6 a).2.1 ≠ (TX6 b).2.1 := by decide +kernel
theorem tyX6_ok : ∀ k, k < 5 → parseFieldDescriptor (TX6 k).2.2.1 = some (tyX6 k) := by decide +kernel
abbrev cX6_init : ByteArray := prog_8_method_1_code
def yX6_init : MethodName := ⟨RX6, "<init>", "()V"⟩
abbrev cX6_howMany : ByteArray := prog_8_method_2_code
def yX6_howMany : MethodName := ⟨RX6, "howMany", "()I"⟩
abbrev cX6_isFull : ByteArray := prog_8_method_3_code
def yX6_isFull : MethodName := ⟨RX6, "isFull", "()Z"⟩
abbrev cX6_has : ByteArray := prog_8_method_4_code
def yX6_has : MethodName := ⟨RX6, "has", "(I)Z"⟩
abbrev cX6_settingAt : ByteArray := prog_8_method_5_code
def yX6_settingAt : MethodName := ⟨RX6, "settingAt", "(I)I"⟩
abbrev cX6_readingAt : ByteArray := prog_8_method_6_code
def yX6_readingAt : MethodName := ⟨RX6, "readingAt", "(I)I"⟩
abbrev cX6_currentNoise : ByteArray := prog_8_method_7_code
def yX6_currentNoise : MethodName := ⟨RX6, "currentNoise", "()I"⟩
abbrev cX6_changeNoise : ByteArray := prog_8_method_8_code
def yX6_changeNoise : MethodName := ⟨RX6, "changeNoise", "(I)I"⟩
abbrev cX6_changeSeed : ByteArray := prog_8_method_9_code
def yX6_changeSeed : MethodName := ⟨RX6, "changeSeed", "(I)V"⟩
abbrev cX6_clear : ByteArray := prog_8_method_10_code
def yX6_clear : MethodName := ⟨RX6, "clear", "()V"⟩
abbrev cX6_add : ByteArray := prog_8_method_11_code
def yX6_add : MethodName := ⟨RX6, "add", "(II)V"⟩
abbrev cX6_drawNoise : ByteArray := prog_8_method_12_code
def yX6_drawNoise : MethodName := ⟨RX6, "drawNoise", "()I"⟩
abbrev cX6_firstOf : ByteArray := prog_8_method_13_code
def yX6_firstOf : MethodName := ⟨RX6, "firstOf", "(I)I"⟩
abbrev cX6_howManySettings : ByteArray := prog_8_method_14_code
def yX6_howManySettings : MethodName := ⟨RX6, "howManySettings", "()I"⟩
def RX7 : String := "KnobBench"
def TX7 : u_T := fun k => match k with
  | 0 => ("KnobBench", "knobs", "LKnobBench$Knobs;", true)
  | 1 => ("KnobBench", "rules", "LKnobBench$Rules;", true)
  | 2 => ("KnobBench", "effects", "LKnobBench$Effects;", true)
  | 3 => ("KnobBench", "trials", "LKnobBench$Trials;", true)
  | 4 => ("KnobBench", "open", "LKnobBench$Open;", true)
  | 5 => ("KnobBench", "bounds", "LKnobBench$Bounds;", true)
  | _ => ("KnobBench", "ranks", "LKnobBench$Ranks;", true)
def tyX7 : Nat → FieldType := fun k => match k with
  | 0 => .object "KnobBench$Knobs"
  | 1 => .object "KnobBench$Rules"
  | 2 => .object "KnobBench$Effects"
  | 3 => .object "KnobBench$Trials"
  | 4 => .object "KnobBench$Open"
  | 5 => .object "KnobBench$Bounds"
  | _ => .object "KnobBench$Ranks"
abbrev wsX70 : List Cond := u_ws RX7 TX7 7
theorem nmX7 : ∀ a, a < 7 → ∀ b, b < 7 → a ≠ b → (TX7 a).2.1 ≠ (TX7 b).2.1 := by decide +kernel
theorem tyX7_ok : ∀ k, k < 7 → parseFieldDescriptor (TX7 k).2.2.1 = some (tyX7 k) := by decide +kernel
abbrev cX7_init : ByteArray := prog_1_method_1_code
def yX7_init : MethodName := ⟨RX7, "<init>", "()V"⟩
abbrev cX7_knob : ByteArray := prog_1_method_2_code
def yX7_knob : MethodName := ⟨RX7, "knob", "(I)I"⟩
abbrev cX7_place : ByteArray := prog_1_method_3_code
def yX7_place : MethodName := ⟨RX7, "place", "(III)I"⟩
abbrev cX7_steep : ByteArray := prog_1_method_4_code
def yX7_steep : MethodName := ⟨RX7, "steep", "(II)I"⟩
abbrev cX7_rule : ByteArray := prog_1_method_5_code
def yX7_rule : MethodName := ⟨RX7, "rule", "(ZIIII)I"⟩
abbrev cX7_noRule : ByteArray := prog_1_method_6_code
def yX7_noRule : MethodName := ⟨RX7, "noRule", "()I"⟩
abbrev cX7_effect : ByteArray := prog_1_method_7_code
def yX7_effect : MethodName := ⟨RX7, "effect", "(IIIII)I"⟩
abbrev cX7_base : ByteArray := prog_1_method_8_code
def yX7_base : MethodName := ⟨RX7, "base", "(I)I"⟩
abbrev cX7_noise : ByteArray := prog_1_method_9_code
def yX7_noise : MethodName := ⟨RX7, "noise", "(I)I"⟩
abbrev cX7_seed : ByteArray := prog_1_method_10_code
def yX7_seed : MethodName := ⟨RX7, "seed", "(I)I"⟩
abbrev cX7_with : ByteArray := prog_1_method_11_code
def yX7_with : MethodName := ⟨RX7, "with", "(III)I"⟩
abbrev cX7_value : ByteArray := prog_1_method_12_code
def yX7_value : MethodName := ⟨RX7, "value", "(II)I"⟩
abbrev cX7_allowed : ByteArray := prog_1_method_13_code
def yX7_allowed : MethodName := ⟨RX7, "allowed", "(I)I"⟩
abbrev cX7_book : ByteArray := prog_1_method_14_code
def yX7_book : MethodName := ⟨RX7, "book", "()I"⟩
abbrev cX7_worth : ByteArray := prog_1_method_15_code
def yX7_worth : MethodName := ⟨RX7, "worth", "(I)I"⟩
abbrev cX7_best : ByteArray := prog_1_method_16_code
def yX7_best : MethodName := ⟨RX7, "best", "(I)I"⟩
abbrev cX7_trial : ByteArray := prog_1_method_17_code
def yX7_trial : MethodName := ⟨RX7, "trial", "(I)I"⟩
abbrev cX7_read : ByteArray := prog_1_method_18_code
def yX7_read : MethodName := ⟨RX7, "read", "(II)I"⟩
abbrev cX7_forget : ByteArray := prog_1_method_19_code
def yX7_forget : MethodName := ⟨RX7, "forget", "()I"⟩
abbrev cX7_bound : ByteArray := prog_1_method_20_code
def yX7_bound : MethodName := ⟨RX7, "bound", "(II)I"⟩
abbrev cX7_left : ByteArray := prog_1_method_21_code
def yX7_left : MethodName := ⟨RX7, "left", "(I)I"⟩
abbrev cX7_search : ByteArray := prog_1_method_22_code
def yX7_search : MethodName := ⟨RX7, "search", "(I)I"⟩
abbrev cX7_pairs : ByteArray := prog_1_method_23_code
def yX7_pairs : MethodName := ⟨RX7, "pairs", "(IIII)I"⟩
abbrev cX7_excess : ByteArray := prog_1_method_24_code
def yX7_excess : MethodName := ⟨RX7, "excess", "(IIIIIII)I"⟩
abbrev cX7_joint : ByteArray := prog_1_method_25_code
def yX7_joint : MethodName := ⟨RX7, "joint", "(IIIIIII)I"⟩
abbrev cX7_odds : ByteArray := prog_1_method_26_code
def yX7_odds : MethodName := ⟨RX7, "odds", "(III)I"⟩
abbrev cX7_safe : ByteArray := prog_1_method_27_code
def yX7_safe : MethodName := ⟨RX7, "safe", "(IIII)I"⟩
abbrev cX7_back : ByteArray := prog_1_method_28_code
def yX7_back : MethodName := ⟨RX7, "back", "(II)I"⟩
abbrev cX7_count : ByteArray := prog_1_method_29_code
def yX7_count : MethodName := ⟨RX7, "count", "(I)I"⟩
abbrev cX7_isWithin : ByteArray := prog_1_method_30_code
def yX7_isWithin : MethodName := ⟨RX7, "isWithin", "(III)Z"⟩
abbrev cX7_areTwoSettings : ByteArray := prog_1_method_31_code
def yX7_areTwoSettings : MethodName := ⟨RX7, "areTwoSettings", "(II)Z"⟩
abbrev cX7_wereBothTried : ByteArray := prog_1_method_32_code
def yX7_wereBothTried : MethodName := ⟨RX7, "wereBothTried", "(II)Z"⟩
abbrev cX7_bestSetting : ByteArray := prog_1_method_33_code
def yX7_bestSetting : MethodName := ⟨RX7, "bestSetting", "()I"⟩
abbrev cX7_isToldSmoothnessTrue : ByteArray := prog_1_method_34_code
def yX7_isToldSmoothnessTrue : MethodName := ⟨RX7, "isToldSmoothnessTrue", "()Z"⟩
abbrev cX7_nextToSearch : ByteArray := prog_1_method_35_code
def yX7_nextToSearch : MethodName := ⟨RX7, "nextToSearch", "()I"⟩
def RX8 : String := "KnobBenchModel"
def TX8 : u_T := fun k => match k with
  | 0 => ("KnobBenchModel", "knobs", "I", false)
  | 1 => ("KnobBenchModel", "settings", "I", false)
  | 2 => ("KnobBenchModel", "many", "[I", true)
  | 3 => ("KnobBenchModel", "places", "[I", true)
  | 4 => ("KnobBenchModel", "steeps", "[I", true)
  | 5 => ("KnobBenchModel", "rules", "I", false)
  | 6 => ("KnobBenchModel", "ruleOf", "[I", true)
  | 7 => ("KnobBenchModel", "base", "I", false)
  | 8 => ("KnobBenchModel", "single", "[I", true)
  | 9 => ("KnobBenchModel", "joints", "[I", true)
  | 10 => ("KnobBenchModel", "z", "I", false)
  | 11 => ("KnobBenchModel", "seed", "I", false)
  | 12 => ("KnobBenchModel", "trials", "I", false)
  | 13 => ("KnobBenchModel", "tried", "[I", true)
  | 14 => ("KnobBenchModel", "reads", "[I", true)
  | 15 => ("KnobBenchModel", "all", "I", false)
  | 16 => ("KnobBenchModel", "readings", "[I", true)
  | 17 => ("KnobBenchModel", "ways", "[I", true)
  | 18 => ("KnobBenchModel", "counted", "I", false)
  | _ => ("KnobBenchModel", "possible", "I", false)
def tyX8 : Nat → FieldType := fun k => match k with
  | 0 => .int
  | 1 => .int
  | 2 => .array .int
  | 3 => .array .int
  | 4 => .array .int
  | 5 => .int
  | 6 => .array .int
  | 7 => .int
  | 8 => .array .int
  | 9 => .array .int
  | 10 => .int
  | 11 => .int
  | 12 => .int
  | 13 => .array .int
  | 14 => .array .int
  | 15 => .int
  | 16 => .array .int
  | 17 => .array .int
  | 18 => .int
  | _ => .int
abbrev wsX80 : List Cond := u_ws RX8 TX8 20
theorem nmX8 : ∀ a, a < 20 → ∀ b, b < 20 → a ≠ b → (TX8 a).2.1 ≠ (TX8 b).2.1 := by decide +kernel
theorem tyX8_ok : ∀ k, k < 20 → parseFieldDescriptor (TX8 k).2.2.1 = some (tyX8 k) := by decide +kernel
abbrev cX8_init : ByteArray := prog_10_method_1_code
def yX8_init : MethodName := ⟨RX8, "<init>", "()V"⟩
abbrev cX8_in : ByteArray := prog_10_method_2_code
def yX8_in : MethodName := ⟨RX8, "in", "(JJJ)Z"⟩
abbrev cX8_isKnob : ByteArray := prog_10_method_3_code
def yX8_isKnob : MethodName := ⟨RX8, "isKnob", "(I)Z"⟩
abbrev cX8_isValue : ByteArray := prog_10_method_4_code
def yX8_isValue : MethodName := ⟨RX8, "isValue", "(II)Z"⟩
abbrev cX8_isSetting : ByteArray := prog_10_method_5_code
def yX8_isSetting : MethodName := ⟨RX8, "isSetting", "(I)Z"⟩
abbrev cX8_knob : ByteArray := prog_10_method_6_code
def yX8_knob : MethodName := ⟨RX8, "knob", "(I)I"⟩
abbrev cX8_place : ByteArray := prog_10_method_7_code
def yX8_place : MethodName := ⟨RX8, "place", "(III)I"⟩
abbrev cX8_steep : ByteArray := prog_10_method_8_code
def yX8_steep : MethodName := ⟨RX8, "steep", "(II)I"⟩
abbrev cX8_rule : ByteArray := prog_10_method_9_code
def yX8_rule : MethodName := ⟨RX8, "rule", "(ZIIII)I"⟩
abbrev cX8_noRule : ByteArray := prog_10_method_10_code
def yX8_noRule : MethodName := ⟨RX8, "noRule", "()I"⟩
abbrev cX8_effect : ByteArray := prog_10_method_11_code
def yX8_effect : MethodName := ⟨RX8, "effect", "(IIIII)I"⟩
abbrev cX8_base : ByteArray := prog_10_method_12_code
def yX8_base : MethodName := ⟨RX8, "base", "(I)I"⟩
abbrev cX8_noise : ByteArray := prog_10_method_13_code
def yX8_noise : MethodName := ⟨RX8, "noise", "(I)I"⟩
abbrev cX8_seed : ByteArray := prog_10_method_14_code
def yX8_seed : MethodName := ⟨RX8, "seed", "(I)I"⟩
abbrev cX8_step : ByteArray := prog_10_method_15_code
def yX8_step : MethodName := ⟨RX8, "step", "(I)I"⟩
abbrev cX8_get : ByteArray := prog_10_method_16_code
def yX8_get : MethodName := ⟨RX8, "get", "(II)I"⟩
abbrev cX8_put : ByteArray := prog_10_method_17_code
def yX8_put : MethodName := ⟨RX8, "put", "(III)I"⟩
abbrev cX8_with : ByteArray := prog_10_method_18_code
def yX8_with : MethodName := ⟨RX8, "with", "(III)I"⟩
abbrev cX8_value : ByteArray := prog_10_method_19_code
def yX8_value : MethodName := ⟨RX8, "value", "(II)I"⟩
abbrev cX8_isAllowed : ByteArray := prog_10_method_20_code
def yX8_isAllowed : MethodName := ⟨RX8, "isAllowed", "(I)Z"⟩
abbrev cX8_allowed : ByteArray := prog_10_method_21_code
def yX8_allowed : MethodName := ⟨RX8, "allowed", "(I)I"⟩
abbrev cX8_book : ByteArray := prog_10_method_22_code
def yX8_book : MethodName := ⟨RX8, "book", "()I"⟩
abbrev cX8_worthOf : ByteArray := prog_10_method_23_code
def yX8_worthOf : MethodName := ⟨RX8, "worthOf", "(I)I"⟩
abbrev cX8_worth : ByteArray := prog_10_method_24_code
def yX8_worth : MethodName := ⟨RX8, "worth", "(I)I"⟩
abbrev cX8_best : ByteArray := prog_10_method_25_code
def yX8_best : MethodName := ⟨RX8, "best", "(I)I"⟩
abbrev cX8_tries : ByteArray := prog_10_method_26_code
def yX8_tries : MethodName := ⟨RX8, "tries", "(I)V"⟩
abbrev cX8_trial : ByteArray := prog_10_method_27_code
def yX8_trial : MethodName := ⟨RX8, "trial", "(I)I"⟩
abbrev cX8_read : ByteArray := prog_10_method_28_code
def yX8_read : MethodName := ⟨RX8, "read", "(II)I"⟩
abbrev cX8_forget : ByteArray := prog_10_method_29_code
def yX8_forget : MethodName := ⟨RX8, "forget", "()I"⟩
abbrev cX8_off : ByteArray := prog_10_method_30_code
def yX8_off : MethodName := ⟨RX8, "off", "(II)I"⟩
abbrev cX8_floor : ByteArray := prog_10_method_31_code
def yX8_floor : MethodName := ⟨RX8, "floor", "(I)I"⟩
abbrev cX8_roof : ByteArray := prog_10_method_32_code
def yX8_roof : MethodName := ⟨RX8, "roof", "(I)I"⟩
abbrev cX8_bound : ByteArray := prog_10_method_33_code
def yX8_bound : MethodName := ⟨RX8, "bound", "(II)I"⟩
abbrev cX8_topFloor : ByteArray := prog_10_method_34_code
def yX8_topFloor : MethodName := ⟨RX8, "topFloor", "()I"⟩
abbrev cX8_leftMany : ByteArray := prog_10_method_35_code
def yX8_leftMany : MethodName := ⟨RX8, "leftMany", "()I"⟩
abbrev cX8_next : ByteArray := prog_10_method_36_code
def yX8_next : MethodName := ⟨RX8, "next", "()I"⟩
abbrev cX8_isSmooth : ByteArray := prog_10_method_37_code
def yX8_isSmooth : MethodName := ⟨RX8, "isSmooth", "()Z"⟩
abbrev cX8_left : ByteArray := prog_10_method_38_code
def yX8_left : MethodName := ⟨RX8, "left", "(I)I"⟩
abbrev cX8_firstOf : ByteArray := prog_10_method_39_code
def yX8_firstOf : MethodName := ⟨RX8, "firstOf", "(I)I"⟩
abbrev cX8_search : ByteArray := prog_10_method_40_code
def yX8_search : MethodName := ⟨RX8, "search", "(I)I"⟩
abbrev cX8_pairs : ByteArray := prog_10_method_41_code
def yX8_pairs : MethodName := ⟨RX8, "pairs", "(IIII)I"⟩
abbrev cX8_excess : ByteArray := prog_10_method_42_code
def yX8_excess : MethodName := ⟨RX8, "excess", "(IIIIIII)I"⟩
abbrev cX8_joint : ByteArray := prog_10_method_43_code
def yX8_joint : MethodName := ⟨RX8, "joint", "(IIIIIII)I"⟩
abbrev cX8_gather : ByteArray := prog_10_method_44_code
def yX8_gather : MethodName := ⟨RX8, "gather", "(I)I"⟩
abbrev cX8_rank : ByteArray := prog_10_method_45_code
def yX8_rank : MethodName := ⟨RX8, "rank", "(I)I"⟩
abbrev cX8_chances : ByteArray := prog_10_method_46_code
def yX8_chances : MethodName := ⟨RX8, "chances", "(II)I"⟩
abbrev cX8_odds : ByteArray := prog_10_method_47_code
def yX8_odds : MethodName := ⟨RX8, "odds", "(III)I"⟩
abbrev cX8_safe : ByteArray := prog_10_method_48_code
def yX8_safe : MethodName := ⟨RX8, "safe", "(IIII)I"⟩
abbrev cX8_back : ByteArray := prog_10_method_49_code
def yX8_back : MethodName := ⟨RX8, "back", "(II)I"⟩
abbrev cX8_count : ByteArray := prog_10_method_50_code
def yX8_count : MethodName := ⟨RX8, "count", "(I)I"⟩
def RJ9 : String := "java/lang/Math"
def TJ9 : u_T := fun k => match k with
  | _ => ("", "", "", false)
def tyJ9 : Nat → FieldType := fun k => match k with
  | _ => .int
theorem nmJ9 : ∀ a, a < 0 → ∀ b, b < 0 → a ≠ b → (TJ9 a).2.1 ≠ (TJ9 b).2.1 := by decide +kernel
theorem tyJ9_ok : ∀ k, k < 0 → parseFieldDescriptor (TJ9 k).2.2.1 = some (tyJ9 k) := by decide +kernel
abbrev cJ9_abs_0f7a4 : ByteArray := prog_11_method_59_code
def yJ9_abs_0f7a4 : MethodName := ⟨RJ9, "abs", "(I)I"⟩
abbrev cJ9_max_7cf53 : ByteArray := prog_11_method_65_code
def yJ9_max_7cf53 : MethodName := ⟨RJ9, "max", "(II)I"⟩
abbrev cJ9_min_7cf53 : ByteArray := prog_11_method_69_code
def yJ9_min_7cf53 : MethodName := ⟨RJ9, "min", "(II)I"⟩
def RJ7 : String := "java/util/Arrays"
def TJ7 : u_T := fun k => match k with
  | _ => ("", "", "", false)
def tyJ7 : Nat → FieldType := fun k => match k with
  | _ => .int
theorem nmJ7 : ∀ a, a < 0 → ∀ b, b < 0 → a ≠ b → (TJ7 a).2.1 ≠ (TJ7 b).2.1 := by decide +kernel
theorem tyJ7_ok : ∀ k, k < 0 → parseFieldDescriptor (TJ7 k).2.2.1 = some (tyJ7 k) := by decide +kernel
abbrev cJ7_fill_53178 : ByteArray := prog_12_method_103_code
def yJ7_fill_53178 : MethodName := ⟨RJ7, "fill", "([II)V"⟩
def RL : String := "KnobBenchLaw"
abbrev cL_law : ByteArray := code
def yL_law : MethodName := ⟨RL, "law", "([I)Z"⟩
abbrev vwCl : List vw_C := [(RX0, TX0, 2), (RX1, TX1, 4), (RX2, TX2, 6), (RX3, TX3, 3), (RX4, TX4, 5), (RX5, TX5, 6), (RX6, TX6, 5), (RX7, TX7, 7), (RX8, TX8, 20)]
end
section
def tb : List Cond := lw_tbl.filter goodWord
theorem tb_g {w : Cond} (h : w ∈ tb) : (w.onTables && w.keeps) = true ∨ ∃ ty, w = .arrayClass ty := good_of_word (List.mem_filter.mp h).2
theorem tb_l {w : Cond} (h : w ∈ tb) : w ∈ lw_tbl := (List.mem_filter.mp h).1
theorem m0 {w : Cond} (i : Nat) (h : (k2_sels lw_privs)[i]? = some w) (g : goodWord w = true) : w ∈ tb := List.mem_filter.mpr ⟨List.mem_append_left _ (List.mem_of_getElem? h), g⟩
theorem m1 {w : Cond} (i : Nat) (h : tables_1_1[i]? = some w) (g : goodWord w = true) : w ∈ tb := List.mem_filter.mpr ⟨List.mem_append_right _ (List.mem_append_left _ (List.mem_of_getElem? h)), g⟩
theorem m2 {w : Cond} (i : Nat) (h : tables_1_2[i]? = some w) (g : goodWord w = true) : w ∈ tb := List.mem_filter.mpr ⟨List.mem_append_right _ (List.mem_append_right _ (List.mem_append_left _ (List.mem_of_getElem? h))), g⟩
theorem m3 {w : Cond} (i : Nat) (h : tables_1_3[i]? = some w) (g : goodWord w = true) : w ∈ tb := List.mem_filter.mpr ⟨List.mem_append_right _ (List.mem_append_right _ (List.mem_append_right _ (List.mem_append_left _ (List.mem_of_getElem? h)))), g⟩
theorem m4 {w : Cond} (i : Nat) (h : tables_1_4[i]? = some w) (g : goodWord w = true) : w ∈ tb := List.mem_filter.mpr ⟨List.mem_append_right _ (List.mem_append_right _ (List.mem_append_right _ (List.mem_append_right _ (List.mem_of_getElem? h)))), g⟩
theorem tsel_X5_isAgainst : Cond.selects RX5 yX5_isAgainst yX5_isAgainst ∈ tb := m0 0 rfl rfl
theorem tsel_X7_bestSetting : Cond.selects RX7 yX7_bestSetting yX7_bestSetting ∈ tb := m0 1 rfl rfl
theorem tsel_X6_drawNoise : Cond.selects RX6 yX6_drawNoise yX6_drawNoise ∈ tb := m0 2 rfl rfl
theorem tsel_X0_tighten : Cond.selects RX0 yX0_tighten yX0_tighten ∈ tb := m0 3 rfl rfl
theorem tsel_X7_isToldSmoothnessTrue : Cond.selects RX7 yX7_isToldSmoothnessTrue yX7_isToldSmoothnessTrue ∈ tb := m0 4 rfl rfl
theorem tsel_X0_greatestFloor : Cond.selects RX0 yX0_greatestFloor yX0_greatestFloor ∈ tb := m0 5 rfl rfl
theorem tsel_X7_nextToSearch : Cond.selects RX7 yX7_nextToSearch yX7_nextToSearch ∈ tb := m0 6 rfl rfl
theorem tsel_X7_areTwoSettings : Cond.selects RX7 yX7_areTwoSettings yX7_areTwoSettings ∈ tb := m0 7 rfl rfl
theorem tsel_X7_wereBothTried : Cond.selects RX7 yX7_wereBothTried yX7_wereBothTried ∈ tb := m0 8 rfl rfl
theorem tsel_X4_gather : Cond.selects RX4 yX4_gather yX4_gather ∈ tb := m0 9 rfl rfl
theorem tsel_X4_rankAt : Cond.selects RX4 yX4_rankAt yX4_rankAt ∈ tb := m0 10 rfl rfl
theorem tsel_X4_spreadWays : Cond.selects RX4 yX4_spreadWays yX4_spreadWays ∈ tb := m0 11 rfl rfl
theorem tsel_X4_waysFrom : Cond.selects RX4 yX4_waysFrom yX4_waysFrom ∈ tb := m0 12 rfl rfl
theorem tsel_X8_isValue : Cond.selects RX8 yX8_isValue yX8_isValue ∈ tb := m0 13 rfl rfl
theorem tsel_X8_isKnob : Cond.selects RX8 yX8_isKnob yX8_isKnob ∈ tb := m0 14 rfl rfl
theorem tsel_X8_isSetting : Cond.selects RX8 yX8_isSetting yX8_isSetting ∈ tb := m0 15 rfl rfl
theorem tsel_X8_put : Cond.selects RX8 yX8_put yX8_put ∈ tb := m0 16 rfl rfl
theorem tsel_X8_get : Cond.selects RX8 yX8_get yX8_get ∈ tb := m0 17 rfl rfl
theorem tsel_X8_step : Cond.selects RX8 yX8_step yX8_step ∈ tb := m0 18 rfl rfl
theorem tsel_X8_isAllowed : Cond.selects RX8 yX8_isAllowed yX8_isAllowed ∈ tb := m0 19 rfl rfl
theorem tsel_X8_worthOf : Cond.selects RX8 yX8_worthOf yX8_worthOf ∈ tb := m0 20 rfl rfl
theorem tsel_X8_tries : Cond.selects RX8 yX8_tries yX8_tries ∈ tb := m0 21 rfl rfl
theorem tsel_X8_floor : Cond.selects RX8 yX8_floor yX8_floor ∈ tb := m0 22 rfl rfl
theorem tsel_X8_off : Cond.selects RX8 yX8_off yX8_off ∈ tb := m0 23 rfl rfl
theorem tsel_X8_roof : Cond.selects RX8 yX8_roof yX8_roof ∈ tb := m0 24 rfl rfl
theorem tsel_X8_leftMany : Cond.selects RX8 yX8_leftMany yX8_leftMany ∈ tb := m0 25 rfl rfl
theorem tsel_X8_topFloor : Cond.selects RX8 yX8_topFloor yX8_topFloor ∈ tb := m0 26 rfl rfl
theorem tsel_X8_next : Cond.selects RX8 yX8_next yX8_next ∈ tb := m0 27 rfl rfl
theorem tsel_X8_isSmooth : Cond.selects RX8 yX8_isSmooth yX8_isSmooth ∈ tb := m0 28 rfl rfl
theorem tsel_X8_firstOf : Cond.selects RX8 yX8_firstOf yX8_firstOf ∈ tb := m0 29 rfl rfl
theorem tsel_X8_chances : Cond.selects RX8 yX8_chances yX8_chances ∈ tb := m0 30 rfl rfl
theorem tsel_X8_gather : Cond.selects RX8 yX8_gather yX8_gather ∈ tb := m0 31 rfl rfl
theorem tsel_X8_rank : Cond.selects RX8 yX8_rank yX8_rank ∈ tb := m0 32 rfl rfl
theorem tini_L : Cond.initialized RL ∈ tb := m1 0 rfl rfl
theorem tini_X7 : Cond.initialized RX7 ∈ tb := m1 1 rfl rfl
theorem tini_X2 : Cond.initialized RX2 ∈ tb := m1 2 rfl rfl
theorem tini_J7 : Cond.initialized RJ7 ∈ tb := m1 3 rfl rfl
theorem tini_X5 : Cond.initialized RX5 ∈ tb := m1 4 rfl rfl
theorem tini_X1 : Cond.initialized RX1 ∈ tb := m1 5 rfl rfl
theorem tini_X6 : Cond.initialized RX6 ∈ tb := m1 6 rfl rfl
theorem tini_X3 : Cond.initialized RX3 ∈ tb := m1 7 rfl rfl
theorem tini_X0 : Cond.initialized RX0 ∈ tb := m1 8 rfl rfl
theorem tini_X4 : Cond.initialized RX4 ∈ tb := m1 9 rfl rfl
theorem tini_X8 : Cond.initialized RX8 ∈ tb := m1 10 rfl rfl
theorem tini_Math : Cond.initialized "java/lang/Math" ∈ tb := m1 11 rfl rfl
theorem tcl_L_7 : Cond.classLink RL 7 RX7 ∈ tb := m1 12 rfl rfl
theorem tins_X7 : Cond.instantiable RX7 7 ∈ tb := m1 13 rfl rfl
theorem tml_L_9 : Cond.methodLink RL 9 yX7_init ∈ tb := m1 14 rfl rfl
theorem tim_X7_init : Cond.instanceMethod yX7_init ∈ tb := m1 15 rfl rfl
theorem tco_X7_init : Cond.code yX7_init cX7_init 1 none ∈ tb := m1 16 rfl rfl
theorem tml_X7_1 : Cond.methodLink RX7 1 objectInit ∈ tb := m1 17 rfl rfl
theorem tim_Obj : Cond.instanceMethod objectInit ∈ tb := m1 18 rfl rfl
theorem tco_Obj : Cond.code objectInit ⟨#[0xb1]⟩ 1 none ∈ tb := m1 19 rfl rfl
theorem tcl_X7_7 : Cond.classLink RX7 7 RX2 ∈ tb := m1 20 rfl rfl
theorem tins_X2 : Cond.instantiable RX2 6 ∈ tb := m1 21 rfl rfl
theorem tml_X7_9 : Cond.methodLink RX7 9 yX2_init ∈ tb := m1 22 rfl rfl
theorem tim_X2_init : Cond.instanceMethod yX2_init ∈ tb := m1 23 rfl rfl
theorem tco_X2_init : Cond.code yX2_init cX2_init 1 none ∈ tb := m1 24 rfl rfl
theorem tml_X2_3 : Cond.methodLink RX2 3 objectInit ∈ tb := m1 25 rfl rfl
theorem tml_X2_31 : Cond.methodLink RX2 31 yJ7_fill_53178 ∈ tb := m1 26 rfl rfl
theorem tst_J7_fill_53178 : Cond.static yJ7_fill_53178 ∈ tb := m1 27 rfl rfl
theorem tco_J7_fill_53178 : Cond.code yJ7_fill_53178 cJ7_fill_53178 4 none ∈ tb := m1 28 rfl rfl
theorem tfl_X2_9 : Cond.fieldLink RX2 9 "KnobBench$Knobs" "many" "I" ∈ tb := m1 29 rfl rfl
theorem tfl_X2_15 : Cond.fieldLink RX2 15 "KnobBench$Knobs" "settings" "I" ∈ tb := m1 30 rfl rfl
theorem tfl_X2_18 : Cond.fieldLink RX2 18 "KnobBench$Knobs" "sizes" "[I" ∈ tb := m1 31 rfl rfl
theorem tfl_X2_22 : Cond.fieldLink RX2 22 "KnobBench$Knobs" "strides" "[I" ∈ tb := m1 32 rfl rfl
theorem tfl_X2_25 : Cond.fieldLink RX2 25 "KnobBench$Knobs" "places" "[I" ∈ tb := m1 33 rfl rfl
theorem tfl_X2_28 : Cond.fieldLink RX2 28 "KnobBench$Knobs" "steepness" "[I" ∈ tb := m1 34 rfl rfl
theorem tac_int : Cond.arrayClass .int ∈ tb := m1 48 rfl rfl
theorem tcl_X7_16 : Cond.classLink RX7 16 RX5 ∈ tb := m1 49 rfl rfl
theorem tins_X5 : Cond.instantiable RX5 6 ∈ tb := m1 50 rfl rfl
theorem tml_X7_18 : Cond.methodLink RX7 18 yX5_init ∈ tb := m1 51 rfl rfl
theorem tim_X5_init : Cond.instanceMethod yX5_init ∈ tb := m1 52 rfl rfl
theorem tco_X5_init : Cond.code yX5_init cX5_init 1 none ∈ tb := m1 53 rfl rfl
theorem tml_X5_3 : Cond.methodLink RX5 3 objectInit ∈ tb := m1 54 rfl rfl
theorem tfl_X5_9 : Cond.fieldLink RX5 9 "KnobBench$Rules" "many" "I" ∈ tb := m1 55 rfl rfl
theorem tfl_X5_15 : Cond.fieldLink RX5 15 "KnobBench$Rules" "needs" "[Z" ∈ tb := m1 56 rfl rfl
theorem tfl_X5_19 : Cond.fieldLink RX5 19 "KnobBench$Rules" "firstKnobs" "[I" ∈ tb := m1 57 rfl rfl
theorem tfl_X5_23 : Cond.fieldLink RX5 23 "KnobBench$Rules" "firstValues" "[I" ∈ tb := m1 58 rfl rfl
theorem tfl_X5_26 : Cond.fieldLink RX5 26 "KnobBench$Rules" "secondKnobs" "[I" ∈ tb := m1 59 rfl rfl
theorem tfl_X5_29 : Cond.fieldLink RX5 29 "KnobBench$Rules" "secondValues" "[I" ∈ tb := m1 60 rfl rfl
theorem tac_boolean : Cond.arrayClass .boolean ∈ tb := m1 74 rfl rfl
theorem tcl_X7_23 : Cond.classLink RX7 23 RX1 ∈ tb := m1 75 rfl rfl
theorem tins_X1 : Cond.instantiable RX1 4 ∈ tb := m1 76 rfl rfl
theorem tml_X7_25 : Cond.methodLink RX7 25 yX1_init ∈ tb := m1 77 rfl rfl
theorem tim_X1_init : Cond.instanceMethod yX1_init ∈ tb := m1 78 rfl rfl
theorem tco_X1_init : Cond.code yX1_init cX1_init 1 none ∈ tb := m1 79 rfl rfl
theorem tml_X1_3 : Cond.methodLink RX1 3 objectInit ∈ tb := m1 80 rfl rfl
theorem tfl_X1_9 : Cond.fieldLink RX1 9 "KnobBench$Effects" "base" "I" ∈ tb := m1 81 rfl rfl
theorem tfl_X1_15 : Cond.fieldLink RX1 15 "KnobBench$Effects" "singles" "[I" ∈ tb := m1 82 rfl rfl
theorem tfl_X1_19 : Cond.fieldLink RX1 19 "KnobBench$Effects" "joints" "[I" ∈ tb := m1 83 rfl rfl
theorem tfl_X1_22 : Cond.fieldLink RX1 22 "KnobBench$Effects" "slots" "[I" ∈ tb := m1 84 rfl rfl
theorem tcl_X7_30 : Cond.classLink RX7 30 RX6 ∈ tb := m1 94 rfl rfl
theorem tins_X6 : Cond.instantiable RX6 5 ∈ tb := m1 95 rfl rfl
theorem tml_X7_32 : Cond.methodLink RX7 32 yX6_init ∈ tb := m1 96 rfl rfl
theorem tim_X6_init : Cond.instanceMethod yX6_init ∈ tb := m1 97 rfl rfl
theorem tco_X6_init : Cond.code yX6_init cX6_init 1 none ∈ tb := m1 98 rfl rfl
theorem tml_X6_3 : Cond.methodLink RX6 3 objectInit ∈ tb := m1 99 rfl rfl
theorem tfl_X6_9 : Cond.fieldLink RX6 9 "KnobBench$Trials" "many" "I" ∈ tb := m1 100 rfl rfl
theorem tfl_X6_15 : Cond.fieldLink RX6 15 "KnobBench$Trials" "noise" "I" ∈ tb := m1 101 rfl rfl
theorem tfl_X6_18 : Cond.fieldLink RX6 18 "KnobBench$Trials" "seed" "I" ∈ tb := m1 102 rfl rfl
theorem tfl_X6_21 : Cond.fieldLink RX6 21 "KnobBench$Trials" "settings" "[I" ∈ tb := m1 103 rfl rfl
theorem tfl_X6_25 : Cond.fieldLink RX6 25 "KnobBench$Trials" "readings" "[I" ∈ tb := m1 104 rfl rfl
theorem tcl_X7_37 : Cond.classLink RX7 37 RX3 ∈ tb := m1 116 rfl rfl
theorem tins_X3 : Cond.instantiable RX3 3 ∈ tb := m1 117 rfl rfl
theorem tml_X7_39 : Cond.methodLink RX7 39 yX3_init ∈ tb := m1 118 rfl rfl
theorem tim_X3_init : Cond.instanceMethod yX3_init ∈ tb := m1 119 rfl rfl
theorem tco_X3_init : Cond.code yX3_init cX3_init 1 none ∈ tb := m1 120 rfl rfl
theorem tml_X3_3 : Cond.methodLink RX3 3 objectInit ∈ tb := m1 121 rfl rfl
theorem tfl_X3_9 : Cond.fieldLink RX3 9 "KnobBench$Open" "many" "I" ∈ tb := m1 122 rfl rfl
theorem tfl_X3_15 : Cond.fieldLink RX3 15 "KnobBench$Open" "settings" "[I" ∈ tb := m1 123 rfl rfl
theorem tfl_X3_19 : Cond.fieldLink RX3 19 "KnobBench$Open" "worths" "[I" ∈ tb := m1 124 rfl rfl
theorem tcl_X7_44 : Cond.classLink RX7 44 RX0 ∈ tb := m1 132 rfl rfl
theorem tins_X0 : Cond.instantiable RX0 2 ∈ tb := m1 133 rfl rfl
theorem tml_X7_46 : Cond.methodLink RX7 46 yX0_init ∈ tb := m1 134 rfl rfl
theorem tim_X0_init : Cond.instanceMethod yX0_init ∈ tb := m1 135 rfl rfl
theorem tco_X0_init : Cond.code yX0_init cX0_init 1 none ∈ tb := m1 136 rfl rfl
theorem tml_X0_3 : Cond.methodLink RX0 3 objectInit ∈ tb := m1 137 rfl rfl
theorem tfl_X0_9 : Cond.fieldLink RX0 9 "KnobBench$Bounds" "floors" "[I" ∈ tb := m1 138 rfl rfl
theorem tfl_X0_15 : Cond.fieldLink RX0 15 "KnobBench$Bounds" "roofs" "[I" ∈ tb := m1 139 rfl rfl
theorem tcl_X7_51 : Cond.classLink RX7 51 RX4 ∈ tb := m1 145 rfl rfl
theorem tins_X4 : Cond.instantiable RX4 5 ∈ tb := m1 146 rfl rfl
theorem tml_X7_53 : Cond.methodLink RX7 53 yX4_init ∈ tb := m1 147 rfl rfl
theorem tim_X4_init : Cond.instanceMethod yX4_init ∈ tb := m1 148 rfl rfl
theorem tco_X4_init : Cond.code yX4_init cX4_init 1 none ∈ tb := m1 149 rfl rfl
theorem tml_X4_5 : Cond.methodLink RX4 5 objectInit ∈ tb := m1 150 rfl rfl
theorem tfl_X4_11 : Cond.fieldLink RX4 11 "KnobBench$Ranks" "many" "I" ∈ tb := m1 151 rfl rfl
theorem tfl_X4_15 : Cond.fieldLink RX4 15 "KnobBench$Ranks" "counting" "I" ∈ tb := m1 152 rfl rfl
theorem tfl_X4_18 : Cond.fieldLink RX4 18 "KnobBench$Ranks" "all" "I" ∈ tb := m1 153 rfl rfl
theorem tfl_X4_21 : Cond.fieldLink RX4 21 "KnobBench$Ranks" "readings" "[I" ∈ tb := m1 154 rfl rfl
theorem tfl_X4_25 : Cond.fieldLink RX4 25 "KnobBench$Ranks" "ways" "[I" ∈ tb := m1 155 rfl rfl
theorem tfl_X7_10 : Cond.fieldLink RX7 10 "KnobBench" "knobs" "LKnobBench$Knobs;" ∈ tb := m1 167 rfl rfl
theorem tfl_X7_19 : Cond.fieldLink RX7 19 "KnobBench" "rules" "LKnobBench$Rules;" ∈ tb := m1 168 rfl rfl
theorem tfl_X7_26 : Cond.fieldLink RX7 26 "KnobBench" "effects" "LKnobBench$Effects;" ∈ tb := m1 169 rfl rfl
theorem tfl_X7_33 : Cond.fieldLink RX7 33 "KnobBench" "trials" "LKnobBench$Trials;" ∈ tb := m1 170 rfl rfl
theorem tfl_X7_40 : Cond.fieldLink RX7 40 "KnobBench" "open" "LKnobBench$Open;" ∈ tb := m1 171 rfl rfl
theorem tfl_X7_47 : Cond.fieldLink RX7 47 "KnobBench" "bounds" "LKnobBench$Bounds;" ∈ tb := m1 172 rfl rfl
theorem tfl_X7_54 : Cond.fieldLink RX7 54 "KnobBench" "ranks" "LKnobBench$Ranks;" ∈ tb := m1 173 rfl rfl
theorem tml_L_13 : Cond.methodLink RL 13 yX7_knob ∈ tb := m1 189 rfl rfl
theorem tim_X7_knob : Cond.instanceMethod yX7_knob ∈ tb := m1 190 rfl rfl
theorem tsel_X7_knob : Cond.selects RX7 yX7_knob yX7_knob ∈ tb := m1 191 rfl rfl
theorem tco_X7_knob : Cond.code yX7_knob cX7_knob 2 (some .int) ∈ tb := m1 192 rfl rfl
theorem tml_X7_58 : Cond.methodLink RX7 58 yX7_isWithin ∈ tb := m1 193 rfl rfl
theorem tst_X7_isWithin : Cond.static yX7_isWithin ∈ tb := m1 194 rfl rfl
theorem tco_X7_isWithin : Cond.code yX7_isWithin cX7_isWithin 3 (some .boolean) ∈ tb := m1 195 rfl rfl
theorem tml_X7_62 : Cond.methodLink RX7 62 yX2_hasRoomFor ∈ tb := m1 196 rfl rfl
theorem tim_X2_hasRoomFor : Cond.instanceMethod yX2_hasRoomFor ∈ tb := m1 197 rfl rfl
theorem tsel_X2_hasRoomFor : Cond.selects RX2 yX2_hasRoomFor yX2_hasRoomFor ∈ tb := m1 198 rfl rfl
theorem tco_X2_hasRoomFor : Cond.code yX2_hasRoomFor cX2_hasRoomFor 2 (some .boolean) ∈ tb := m1 199 rfl rfl
theorem tml_X7_66 : Cond.methodLink RX7 66 yX6_clear ∈ tb := m1 200 rfl rfl
theorem tim_X6_clear : Cond.instanceMethod yX6_clear ∈ tb := m1 201 rfl rfl
theorem tsel_X6_clear : Cond.selects RX6 yX6_clear yX6_clear ∈ tb := m1 202 rfl rfl
theorem tco_X6_clear : Cond.code yX6_clear cX6_clear 1 none ∈ tb := m1 203 rfl rfl
theorem tml_X7_69 : Cond.methodLink RX7 69 yX2_add ∈ tb := m1 204 rfl rfl
theorem tim_X2_add : Cond.instanceMethod yX2_add ∈ tb := m1 205 rfl rfl
theorem tsel_X2_add : Cond.selects RX2 yX2_add yX2_add ∈ tb := m1 206 rfl rfl
theorem tco_X2_add : Cond.code yX2_add cX2_add 4 (some .int) ∈ tb := m1 207 rfl rfl
theorem tml_X2_37 : Cond.methodLink RX2 37 yX2_slot ∈ tb := m1 208 rfl rfl
theorem tst_X2_slot : Cond.static yX2_slot ∈ tb := m1 209 rfl rfl
theorem tco_X2_slot : Cond.code yX2_slot cX2_slot 2 (some .int) ∈ tb := m1 210 rfl rfl
theorem tml_L_18 : Cond.methodLink RL 18 yX7_place ∈ tb := m1 211 rfl rfl
theorem tim_X7_place : Cond.instanceMethod yX7_place ∈ tb := m1 212 rfl rfl
theorem tsel_X7_place : Cond.selects RX7 yX7_place yX7_place ∈ tb := m1 213 rfl rfl
theorem tco_X7_place : Cond.code yX7_place cX7_place 4 (some .int) ∈ tb := m1 214 rfl rfl
theorem tml_X7_73 : Cond.methodLink RX7 73 yX2_hasValue ∈ tb := m1 215 rfl rfl
theorem tim_X2_hasValue : Cond.instanceMethod yX2_hasValue ∈ tb := m1 216 rfl rfl
theorem tsel_X2_hasValue : Cond.selects RX2 yX2_hasValue yX2_hasValue ∈ tb := m1 217 rfl rfl
theorem tco_X2_hasValue : Cond.code yX2_hasValue cX2_hasValue 3 (some .boolean) ∈ tb := m1 218 rfl rfl
theorem tml_X2_41 : Cond.methodLink RX2 41 yX2_hasKnob ∈ tb := m1 219 rfl rfl
theorem tim_X2_hasKnob : Cond.instanceMethod yX2_hasKnob ∈ tb := m1 220 rfl rfl
theorem tsel_X2_hasKnob : Cond.selects RX2 yX2_hasKnob yX2_hasKnob ∈ tb := m1 221 rfl rfl
theorem tco_X2_hasKnob : Cond.code yX2_hasKnob cX2_hasKnob 2 (some .boolean) ∈ tb := m1 222 rfl rfl
theorem tml_X7_77 : Cond.methodLink RX7 77 yX2_changePlace ∈ tb := m1 223 rfl rfl
theorem tim_X2_changePlace : Cond.instanceMethod yX2_changePlace ∈ tb := m1 224 rfl rfl
theorem tsel_X2_changePlace : Cond.selects RX2 yX2_changePlace yX2_changePlace ∈ tb := m1 225 rfl rfl
theorem tco_X2_changePlace : Cond.code yX2_changePlace cX2_changePlace 5 (some .int) ∈ tb := m1 226 rfl rfl
theorem tml_L_23 : Cond.methodLink RL 23 yX7_steep ∈ tb := m1 227 rfl rfl
theorem tim_X7_steep : Cond.instanceMethod yX7_steep ∈ tb := m1 228 rfl rfl
theorem tsel_X7_steep : Cond.selects RX7 yX7_steep yX7_steep ∈ tb := m1 229 rfl rfl
theorem tco_X7_steep : Cond.code yX7_steep cX7_steep 3 (some .int) ∈ tb := m1 230 rfl rfl
theorem tml_X7_81 : Cond.methodLink RX7 81 yX2_hasKnob ∈ tb := m1 231 rfl rfl
theorem tml_X7_84 : Cond.methodLink RX7 84 yX2_changeSteepness ∈ tb := m1 232 rfl rfl
theorem tim_X2_changeSteepness : Cond.instanceMethod yX2_changeSteepness ∈ tb := m1 233 rfl rfl
theorem tsel_X2_changeSteepness : Cond.selects RX2 yX2_changeSteepness yX2_changeSteepness ∈ tb := m1 234 rfl rfl
theorem tco_X2_changeSteepness : Cond.code yX2_changeSteepness cX2_changeSteepness 4 (some .int) ∈ tb := m1 235 rfl rfl
theorem tml_L_28 : Cond.methodLink RL 28 yX7_rule ∈ tb := m1 236 rfl rfl
theorem tim_X7_rule : Cond.instanceMethod yX7_rule ∈ tb := m1 237 rfl rfl
theorem tsel_X7_rule : Cond.selects RX7 yX7_rule yX7_rule ∈ tb := m1 238 rfl rfl
theorem tco_X7_rule : Cond.code yX7_rule cX7_rule 6 (some .int) ∈ tb := m1 239 rfl rfl
theorem tml_X7_88 : Cond.methodLink RX7 88 yX5_isFull ∈ tb := m2 0 rfl rfl
theorem tim_X5_isFull : Cond.instanceMethod yX5_isFull ∈ tb := m2 1 rfl rfl
theorem tsel_X5_isFull : Cond.selects RX5 yX5_isFull yX5_isFull ∈ tb := m2 2 rfl rfl
theorem tco_X5_isFull : Cond.code yX5_isFull cX5_isFull 1 (some .boolean) ∈ tb := m2 3 rfl rfl
theorem tml_X7_92 : Cond.methodLink RX7 92 yX5_add ∈ tb := m2 4 rfl rfl
theorem tim_X5_add : Cond.instanceMethod yX5_add ∈ tb := m2 5 rfl rfl
theorem tsel_X5_add : Cond.selects RX5 yX5_add yX5_add ∈ tb := m2 6 rfl rfl
theorem tco_X5_add : Cond.code yX5_add cX5_add 6 none ∈ tb := m2 7 rfl rfl
theorem tml_X7_95 : Cond.methodLink RX7 95 yX5_howMany ∈ tb := m2 8 rfl rfl
theorem tim_X5_howMany : Cond.instanceMethod yX5_howMany ∈ tb := m2 9 rfl rfl
theorem tsel_X5_howMany : Cond.selects RX5 yX5_howMany yX5_howMany ∈ tb := m2 10 rfl rfl
theorem tco_X5_howMany : Cond.code yX5_howMany cX5_howMany 1 (some .int) ∈ tb := m2 11 rfl rfl
theorem tml_L_33 : Cond.methodLink RL 33 yX7_noRule ∈ tb := m2 12 rfl rfl
theorem tim_X7_noRule : Cond.instanceMethod yX7_noRule ∈ tb := m2 13 rfl rfl
theorem tsel_X7_noRule : Cond.selects RX7 yX7_noRule yX7_noRule ∈ tb := m2 14 rfl rfl
theorem tco_X7_noRule : Cond.code yX7_noRule cX7_noRule 1 (some .int) ∈ tb := m2 15 rfl rfl
theorem tml_X7_99 : Cond.methodLink RX7 99 yX5_dropLatest ∈ tb := m2 16 rfl rfl
theorem tim_X5_dropLatest : Cond.instanceMethod yX5_dropLatest ∈ tb := m2 17 rfl rfl
theorem tsel_X5_dropLatest : Cond.selects RX5 yX5_dropLatest yX5_dropLatest ∈ tb := m2 18 rfl rfl
theorem tco_X5_dropLatest : Cond.code yX5_dropLatest cX5_dropLatest 1 none ∈ tb := m2 19 rfl rfl
theorem tml_L_38 : Cond.methodLink RL 38 yX7_effect ∈ tb := m2 20 rfl rfl
theorem tim_X7_effect : Cond.instanceMethod yX7_effect ∈ tb := m2 21 rfl rfl
theorem tsel_X7_effect : Cond.selects RX7 yX7_effect yX7_effect ∈ tb := m2 22 rfl rfl
theorem tco_X7_effect : Cond.code yX7_effect cX7_effect 6 (some .int) ∈ tb := m2 23 rfl rfl
theorem tml_X7_102 : Cond.methodLink RX7 102 yX1_changeSingle ∈ tb := m2 24 rfl rfl
theorem tim_X1_changeSingle : Cond.instanceMethod yX1_changeSingle ∈ tb := m2 25 rfl rfl
theorem tsel_X1_changeSingle : Cond.selects RX1 yX1_changeSingle yX1_changeSingle ∈ tb := m2 26 rfl rfl
theorem tco_X1_changeSingle : Cond.code yX1_changeSingle cX1_changeSingle 6 (some .int) ∈ tb := m2 27 rfl rfl
theorem tml_X1_25 : Cond.methodLink RX1 25 yX2_slot ∈ tb := m2 28 rfl rfl
theorem tml_X7_105 : Cond.methodLink RX7 105 yX1_changeJoint ∈ tb := m2 29 rfl rfl
theorem tim_X1_changeJoint : Cond.instanceMethod yX1_changeJoint ∈ tb := m2 30 rfl rfl
theorem tsel_X1_changeJoint : Cond.selects RX1 yX1_changeJoint yX1_changeJoint ∈ tb := m2 31 rfl rfl
theorem tco_X1_changeJoint : Cond.code yX1_changeJoint cX1_changeJoint 8 (some .int) ∈ tb := m2 32 rfl rfl
theorem tml_L_43 : Cond.methodLink RL 43 yX7_base ∈ tb := m2 33 rfl rfl
theorem tim_X7_base : Cond.instanceMethod yX7_base ∈ tb := m2 34 rfl rfl
theorem tsel_X7_base : Cond.selects RX7 yX7_base yX7_base ∈ tb := m2 35 rfl rfl
theorem tco_X7_base : Cond.code yX7_base cX7_base 2 (some .int) ∈ tb := m2 36 rfl rfl
theorem tml_X7_109 : Cond.methodLink RX7 109 yX1_changeBase ∈ tb := m2 37 rfl rfl
theorem tim_X1_changeBase : Cond.instanceMethod yX1_changeBase ∈ tb := m2 38 rfl rfl
theorem tsel_X1_changeBase : Cond.selects RX1 yX1_changeBase yX1_changeBase ∈ tb := m2 39 rfl rfl
theorem tco_X1_changeBase : Cond.code yX1_changeBase cX1_changeBase 3 (some .int) ∈ tb := m2 40 rfl rfl
theorem tml_L_47 : Cond.methodLink RL 47 yX7_noise ∈ tb := m2 41 rfl rfl
theorem tim_X7_noise : Cond.instanceMethod yX7_noise ∈ tb := m2 42 rfl rfl
theorem tsel_X7_noise : Cond.selects RX7 yX7_noise yX7_noise ∈ tb := m2 43 rfl rfl
theorem tco_X7_noise : Cond.code yX7_noise cX7_noise 2 (some .int) ∈ tb := m2 44 rfl rfl
theorem tml_X7_112 : Cond.methodLink RX7 112 yX6_changeNoise ∈ tb := m2 45 rfl rfl
theorem tim_X6_changeNoise : Cond.instanceMethod yX6_changeNoise ∈ tb := m2 46 rfl rfl
theorem tsel_X6_changeNoise : Cond.selects RX6 yX6_changeNoise yX6_changeNoise ∈ tb := m2 47 rfl rfl
theorem tco_X6_changeNoise : Cond.code yX6_changeNoise cX6_changeNoise 3 (some .int) ∈ tb := m2 48 rfl rfl
theorem tml_L_51 : Cond.methodLink RL 51 yX7_seed ∈ tb := m2 49 rfl rfl
theorem tim_X7_seed : Cond.instanceMethod yX7_seed ∈ tb := m2 50 rfl rfl
theorem tsel_X7_seed : Cond.selects RX7 yX7_seed yX7_seed ∈ tb := m2 51 rfl rfl
theorem tco_X7_seed : Cond.code yX7_seed cX7_seed 2 (some .int) ∈ tb := m2 52 rfl rfl
theorem tk_X7_115 : Cond.constant RX7 115 (1073741823) ∈ tb := m2 53 rfl rfl
theorem tml_X7_116 : Cond.methodLink RX7 116 yX6_changeSeed ∈ tb := m2 54 rfl rfl
theorem tim_X6_changeSeed : Cond.instanceMethod yX6_changeSeed ∈ tb := m2 55 rfl rfl
theorem tsel_X6_changeSeed : Cond.selects RX6 yX6_changeSeed yX6_changeSeed ∈ tb := m2 56 rfl rfl
theorem tco_X6_changeSeed : Cond.code yX6_changeSeed cX6_changeSeed 2 none ∈ tb := m2 57 rfl rfl
theorem tml_L_55 : Cond.methodLink RL 55 yX7_with ∈ tb := m2 58 rfl rfl
theorem tim_X7_with : Cond.instanceMethod yX7_with ∈ tb := m2 59 rfl rfl
theorem tsel_X7_with : Cond.selects RX7 yX7_with yX7_with ∈ tb := m2 60 rfl rfl
theorem tco_X7_with : Cond.code yX7_with cX7_with 4 (some .int) ∈ tb := m2 61 rfl rfl
theorem tml_X7_120 : Cond.methodLink RX7 120 yX2_hasSetting ∈ tb := m2 62 rfl rfl
theorem tim_X2_hasSetting : Cond.instanceMethod yX2_hasSetting ∈ tb := m2 63 rfl rfl
theorem tsel_X2_hasSetting : Cond.selects RX2 yX2_hasSetting yX2_hasSetting ∈ tb := m2 64 rfl rfl
theorem tco_X2_hasSetting : Cond.code yX2_hasSetting cX2_hasSetting 2 (some .boolean) ∈ tb := m2 65 rfl rfl
theorem tml_X7_123 : Cond.methodLink RX7 123 yX2_moved ∈ tb := m2 66 rfl rfl
theorem tim_X2_moved : Cond.instanceMethod yX2_moved ∈ tb := m2 67 rfl rfl
theorem tsel_X2_moved : Cond.selects RX2 yX2_moved yX2_moved ∈ tb := m2 68 rfl rfl
theorem tco_X2_moved : Cond.code yX2_moved cX2_moved 4 (some .int) ∈ tb := m2 69 rfl rfl
theorem tml_X2_45 : Cond.methodLink RX2 45 yX2_valueIn ∈ tb := m2 70 rfl rfl
theorem tim_X2_valueIn : Cond.instanceMethod yX2_valueIn ∈ tb := m2 71 rfl rfl
theorem tsel_X2_valueIn : Cond.selects RX2 yX2_valueIn yX2_valueIn ∈ tb := m2 72 rfl rfl
theorem tco_X2_valueIn : Cond.code yX2_valueIn cX2_valueIn 3 (some .int) ∈ tb := m2 73 rfl rfl
theorem tml_L_59 : Cond.methodLink RL 59 yX7_value ∈ tb := m2 74 rfl rfl
theorem tim_X7_value : Cond.instanceMethod yX7_value ∈ tb := m2 75 rfl rfl
theorem tsel_X7_value : Cond.selects RX7 yX7_value yX7_value ∈ tb := m2 76 rfl rfl
theorem tco_X7_value : Cond.code yX7_value cX7_value 3 (some .int) ∈ tb := m2 77 rfl rfl
theorem tml_X7_126 : Cond.methodLink RX7 126 yX2_valueIn ∈ tb := m2 78 rfl rfl
theorem tml_L_63 : Cond.methodLink RL 63 yX7_allowed ∈ tb := m2 79 rfl rfl
theorem tim_X7_allowed : Cond.instanceMethod yX7_allowed ∈ tb := m2 80 rfl rfl
theorem tsel_X7_allowed : Cond.selects RX7 yX7_allowed yX7_allowed ∈ tb := m2 81 rfl rfl
theorem tco_X7_allowed : Cond.code yX7_allowed cX7_allowed 2 (some .int) ∈ tb := m2 82 rfl rfl
theorem tml_X7_129 : Cond.methodLink RX7 129 yX5_allow ∈ tb := m2 83 rfl rfl
theorem tim_X5_allow : Cond.instanceMethod yX5_allow ∈ tb := m2 84 rfl rfl
theorem tsel_X5_allow : Cond.selects RX5 yX5_allow yX5_allow ∈ tb := m2 85 rfl rfl
theorem tco_X5_allow : Cond.code yX5_allow cX5_allow 4 (some .boolean) ∈ tb := m2 86 rfl rfl
theorem tml_X5_32 : Cond.methodLink RX5 32 yX5_isAgainst ∈ tb := m2 87 rfl rfl
theorem tim_X5_isAgainst : Cond.instanceMethod yX5_isAgainst ∈ tb := m2 89 rfl rfl
theorem tco_X5_isAgainst : Cond.code yX5_isAgainst cX5_isAgainst 5 (some .boolean) ∈ tb := m2 90 rfl rfl
theorem tml_X5_36 : Cond.methodLink RX5 36 yX2_valueIn ∈ tb := m2 91 rfl rfl
theorem tml_L_67 : Cond.methodLink RL 67 yX7_book ∈ tb := m2 92 rfl rfl
theorem tim_X7_book : Cond.instanceMethod yX7_book ∈ tb := m2 93 rfl rfl
theorem tsel_X7_book : Cond.selects RX7 yX7_book yX7_book ∈ tb := m2 94 rfl rfl
theorem tco_X7_book : Cond.code yX7_book cX7_book 1 (some .int) ∈ tb := m2 95 rfl rfl
theorem tml_X7_133 : Cond.methodLink RX7 133 yX3_gather ∈ tb := m2 96 rfl rfl
theorem tim_X3_gather : Cond.instanceMethod yX3_gather ∈ tb := m2 97 rfl rfl
theorem tsel_X3_gather : Cond.selects RX3 yX3_gather yX3_gather ∈ tb := m2 98 rfl rfl
theorem tco_X3_gather : Cond.code yX3_gather cX3_gather 4 none ∈ tb := m2 99 rfl rfl
theorem tml_X3_22 : Cond.methodLink RX3 22 yX2_howManySettings ∈ tb := m2 100 rfl rfl
theorem tim_X2_howManySettings : Cond.instanceMethod yX2_howManySettings ∈ tb := m2 101 rfl rfl
theorem tsel_X2_howManySettings : Cond.selects RX2 yX2_howManySettings yX2_howManySettings ∈ tb := m2 102 rfl rfl
theorem tco_X2_howManySettings : Cond.code yX2_howManySettings cX2_howManySettings 1 (some .int) ∈ tb := m2 103 rfl rfl
theorem tml_X3_28 : Cond.methodLink RX3 28 yX5_allow ∈ tb := m2 104 rfl rfl
theorem tml_X7_137 : Cond.methodLink RX7 137 yX3_howMany ∈ tb := m2 105 rfl rfl
theorem tim_X3_howMany : Cond.instanceMethod yX3_howMany ∈ tb := m2 106 rfl rfl
theorem tsel_X3_howMany : Cond.selects RX3 yX3_howMany yX3_howMany ∈ tb := m2 107 rfl rfl
theorem tco_X3_howMany : Cond.code yX3_howMany cX3_howMany 1 (some .int) ∈ tb := m2 108 rfl rfl
theorem tml_L_71 : Cond.methodLink RL 71 yX7_worth ∈ tb := m2 109 rfl rfl
theorem tim_X7_worth : Cond.instanceMethod yX7_worth ∈ tb := m2 110 rfl rfl
theorem tsel_X7_worth : Cond.selects RX7 yX7_worth yX7_worth ∈ tb := m2 111 rfl rfl
theorem tco_X7_worth : Cond.code yX7_worth cX7_worth 2 (some .int) ∈ tb := m2 112 rfl rfl
theorem tk_X7_138 : Cond.constant RX7 138 (-100000) ∈ tb := m2 113 rfl rfl
theorem tml_X7_139 : Cond.methodLink RX7 139 yX1_sumFor ∈ tb := m2 114 rfl rfl
theorem tim_X1_sumFor : Cond.instanceMethod yX1_sumFor ∈ tb := m2 115 rfl rfl
theorem tsel_X1_sumFor : Cond.selects RX1 yX1_sumFor yX1_sumFor ∈ tb := m2 116 rfl rfl
theorem tco_X1_sumFor : Cond.code yX1_sumFor cX1_sumFor 6 (some .int) ∈ tb := m2 117 rfl rfl
theorem tml_X1_31 : Cond.methodLink RX1 31 yX2_howMany ∈ tb := m2 118 rfl rfl
theorem tim_X2_howMany : Cond.instanceMethod yX2_howMany ∈ tb := m2 119 rfl rfl
theorem tsel_X2_howMany : Cond.selects RX2 yX2_howMany yX2_howMany ∈ tb := m2 120 rfl rfl
theorem tco_X2_howMany : Cond.code yX2_howMany cX2_howMany 1 (some .int) ∈ tb := m2 121 rfl rfl
theorem tml_X1_35 : Cond.methodLink RX1 35 yX2_valueIn ∈ tb := m2 122 rfl rfl
theorem tml_L_75 : Cond.methodLink RL 75 yX7_best ∈ tb := m2 123 rfl rfl
theorem tim_X7_best : Cond.instanceMethod yX7_best ∈ tb := m2 124 rfl rfl
theorem tsel_X7_best : Cond.selects RX7 yX7_best yX7_best ∈ tb := m2 125 rfl rfl
theorem tco_X7_best : Cond.code yX7_best cX7_best 3 (some .int) ∈ tb := m2 126 rfl rfl
theorem tk_X7_143 : Cond.constant RX7 143 (-100001) ∈ tb := m2 127 rfl rfl
theorem tml_X7_144 : Cond.methodLink RX7 144 yX7_bestSetting ∈ tb := m2 128 rfl rfl
theorem tim_X7_bestSetting : Cond.instanceMethod yX7_bestSetting ∈ tb := m2 130 rfl rfl
theorem tco_X7_bestSetting : Cond.code yX7_bestSetting cX7_bestSetting 5 (some .int) ∈ tb := m2 131 rfl rfl
theorem tml_X7_225 : Cond.methodLink RX7 225 yX3_settingAt ∈ tb := m2 132 rfl rfl
theorem tim_X3_settingAt : Cond.instanceMethod yX3_settingAt ∈ tb := m2 133 rfl rfl
theorem tsel_X3_settingAt : Cond.selects RX3 yX3_settingAt yX3_settingAt ∈ tb := m2 134 rfl rfl
theorem tco_X3_settingAt : Cond.code yX3_settingAt cX3_settingAt 2 (some .int) ∈ tb := m2 135 rfl rfl
theorem tml_L_79 : Cond.methodLink RL 79 yX7_trial ∈ tb := m2 136 rfl rfl
theorem tim_X7_trial : Cond.instanceMethod yX7_trial ∈ tb := m2 137 rfl rfl
theorem tsel_X7_trial : Cond.selects RX7 yX7_trial yX7_trial ∈ tb := m2 138 rfl rfl
theorem tco_X7_trial : Cond.code yX7_trial cX7_trial 2 (some .int) ∈ tb := m2 139 rfl rfl
theorem tml_X7_147 : Cond.methodLink RX7 147 yX6_isFull ∈ tb := m2 140 rfl rfl
theorem tim_X6_isFull : Cond.instanceMethod yX6_isFull ∈ tb := m2 141 rfl rfl
theorem tsel_X6_isFull : Cond.selects RX6 yX6_isFull yX6_isFull ∈ tb := m2 142 rfl rfl
theorem tco_X6_isFull : Cond.code yX6_isFull cX6_isFull 1 (some .boolean) ∈ tb := m2 143 rfl rfl
theorem tml_X7_148 : Cond.methodLink RX7 148 yX6_add ∈ tb := m2 144 rfl rfl
theorem tim_X6_add : Cond.instanceMethod yX6_add ∈ tb := m2 145 rfl rfl
theorem tsel_X6_add : Cond.selects RX6 yX6_add yX6_add ∈ tb := m2 146 rfl rfl
theorem tco_X6_add : Cond.code yX6_add cX6_add 3 none ∈ tb := m2 147 rfl rfl
theorem tml_X6_28 : Cond.methodLink RX6 28 yX6_drawNoise ∈ tb := m2 148 rfl rfl
theorem tim_X6_drawNoise : Cond.instanceMethod yX6_drawNoise ∈ tb := m2 150 rfl rfl
theorem tco_X6_drawNoise : Cond.code yX6_drawNoise cX6_drawNoise 1 (some .int) ∈ tb := m2 151 rfl rfl
theorem tk_X6_32 : Cond.constantLong RX6 32 (69069) ∈ tb := m2 152 rfl rfl
theorem tk_X6_34 : Cond.constantLong RX6 34 (5) ∈ tb := m2 153 rfl rfl
theorem tk_X6_36 : Cond.constantLong RX6 36 (1073741824) ∈ tb := m2 154 rfl rfl
theorem tml_X7_151 : Cond.methodLink RX7 151 yX6_howMany ∈ tb := m2 155 rfl rfl
theorem tim_X6_howMany : Cond.instanceMethod yX6_howMany ∈ tb := m2 156 rfl rfl
theorem tsel_X6_howMany : Cond.selects RX6 yX6_howMany yX6_howMany ∈ tb := m2 157 rfl rfl
theorem tco_X6_howMany : Cond.code yX6_howMany cX6_howMany 1 (some .int) ∈ tb := m2 158 rfl rfl
theorem tml_L_83 : Cond.methodLink RL 83 yX7_read ∈ tb := m2 159 rfl rfl
theorem tim_X7_read : Cond.instanceMethod yX7_read ∈ tb := m2 160 rfl rfl
theorem tsel_X7_read : Cond.selects RX7 yX7_read yX7_read ∈ tb := m2 161 rfl rfl
theorem tco_X7_read : Cond.code yX7_read cX7_read 3 (some .int) ∈ tb := m2 162 rfl rfl
theorem tml_X7_152 : Cond.methodLink RX7 152 yX6_has ∈ tb := m2 163 rfl rfl
theorem tim_X6_has : Cond.instanceMethod yX6_has ∈ tb := m2 164 rfl rfl
theorem tsel_X6_has : Cond.selects RX6 yX6_has yX6_has ∈ tb := m2 165 rfl rfl
theorem tco_X6_has : Cond.code yX6_has cX6_has 2 (some .boolean) ∈ tb := m2 166 rfl rfl
theorem tml_X7_155 : Cond.methodLink RX7 155 yX6_readingAt ∈ tb := m2 167 rfl rfl
theorem tim_X6_readingAt : Cond.instanceMethod yX6_readingAt ∈ tb := m2 168 rfl rfl
theorem tsel_X6_readingAt : Cond.selects RX6 yX6_readingAt yX6_readingAt ∈ tb := m2 169 rfl rfl
theorem tco_X6_readingAt : Cond.code yX6_readingAt cX6_readingAt 2 (some .int) ∈ tb := m2 170 rfl rfl
theorem tml_X7_158 : Cond.methodLink RX7 158 yX6_settingAt ∈ tb := m2 171 rfl rfl
theorem tim_X6_settingAt : Cond.instanceMethod yX6_settingAt ∈ tb := m2 172 rfl rfl
theorem tsel_X6_settingAt : Cond.selects RX6 yX6_settingAt yX6_settingAt ∈ tb := m2 173 rfl rfl
theorem tco_X6_settingAt : Cond.code yX6_settingAt cX6_settingAt 2 (some .int) ∈ tb := m2 174 rfl rfl
theorem tml_L_87 : Cond.methodLink RL 87 yX7_forget ∈ tb := m2 175 rfl rfl
theorem tim_X7_forget : Cond.instanceMethod yX7_forget ∈ tb := m2 176 rfl rfl
theorem tsel_X7_forget : Cond.selects RX7 yX7_forget yX7_forget ∈ tb := m2 177 rfl rfl
theorem tco_X7_forget : Cond.code yX7_forget cX7_forget 2 (some .int) ∈ tb := m2 178 rfl rfl
theorem tml_L_91 : Cond.methodLink RL 91 yX7_bound ∈ tb := m2 179 rfl rfl
theorem tim_X7_bound : Cond.instanceMethod yX7_bound ∈ tb := m2 180 rfl rfl
theorem tsel_X7_bound : Cond.selects RX7 yX7_bound yX7_bound ∈ tb := m2 181 rfl rfl
theorem tco_X7_bound : Cond.code yX7_bound cX7_bound 3 (some .int) ∈ tb := m2 182 rfl rfl
theorem tk_X7_161 : Cond.constant RX7 161 (-10000000) ∈ tb := m2 183 rfl rfl
theorem tml_X7_162 : Cond.methodLink RX7 162 yX0_measure ∈ tb := m2 184 rfl rfl
theorem tim_X0_measure : Cond.instanceMethod yX0_measure ∈ tb := m2 185 rfl rfl
theorem tsel_X0_measure : Cond.selects RX0 yX0_measure yX0_measure ∈ tb := m2 186 rfl rfl
theorem tco_X0_measure : Cond.code yX0_measure cX0_measure 5 none ∈ tb := m2 187 rfl rfl
theorem tk_X0_28 : Cond.constant RX0 28 (-1000000) ∈ tb := m2 188 rfl rfl
theorem tk_X0_29 : Cond.constant RX0 29 (1000000) ∈ tb := m2 189 rfl rfl
theorem tml_X0_30 : Cond.methodLink RX0 30 yX6_howMany ∈ tb := m2 190 rfl rfl
theorem tml_X0_35 : Cond.methodLink RX0 35 yX0_tighten ∈ tb := m2 191 rfl rfl
theorem tim_X0_tighten : Cond.instanceMethod yX0_tighten ∈ tb := m2 193 rfl rfl
theorem tco_X0_tighten : Cond.code yX0_tighten cX0_tighten 6 none ∈ tb := m2 194 rfl rfl
theorem tml_X0_39 : Cond.methodLink RX0 39 yX6_currentNoise ∈ tb := m2 195 rfl rfl
theorem tim_X6_currentNoise : Cond.instanceMethod yX6_currentNoise ∈ tb := m2 196 rfl rfl
theorem tsel_X6_currentNoise : Cond.selects RX6 yX6_currentNoise yX6_currentNoise ∈ tb := m2 197 rfl rfl
theorem tco_X6_currentNoise : Cond.code yX6_currentNoise cX6_currentNoise 1 (some .int) ∈ tb := m2 198 rfl rfl
theorem tml_X0_42 : Cond.methodLink RX0 42 yX6_settingAt ∈ tb := m2 199 rfl rfl
theorem tml_X0_46 : Cond.methodLink RX0 46 yX2_off ∈ tb := m2 200 rfl rfl
theorem tim_X2_off : Cond.instanceMethod yX2_off ∈ tb := m2 201 rfl rfl
theorem tsel_X2_off : Cond.selects RX2 yX2_off yX2_off ∈ tb := m2 202 rfl rfl
theorem tco_X2_off : Cond.code yX2_off cX2_off 6 (some .int) ∈ tb := m2 203 rfl rfl
theorem tml_X2_48 : Cond.methodLink RX2 48 Lib.Math.abs.name ∈ tb := m2 204 rfl rfl
theorem tst_Mabs : Cond.static Lib.Math.abs.name ∈ tb := m2 205 rfl rfl
theorem tco_Mabs : Cond.code Lib.Math.abs.name Lib.Math.abs.code 1 (some .int) ∈ tb := m2 206 rfl rfl
theorem tml_X0_50 : Cond.methodLink RX0 50 yX6_readingAt ∈ tb := m2 207 rfl rfl
theorem tml_X0_53 : Cond.methodLink RX0 53 Lib.Math.max.name ∈ tb := m2 208 rfl rfl
theorem tst_Mmax : Cond.static Lib.Math.max.name ∈ tb := m2 209 rfl rfl
theorem tco_Mmax : Cond.code Lib.Math.max.name Lib.Math.max.code 2 (some .int) ∈ tb := m2 210 rfl rfl
theorem tml_X0_58 : Cond.methodLink RX0 58 Lib.Math.min.name ∈ tb := m2 211 rfl rfl
theorem tst_Mmin : Cond.static Lib.Math.min.name ∈ tb := m2 212 rfl rfl
theorem tco_Mmin : Cond.code Lib.Math.min.name Lib.Math.min.code 2 (some .int) ∈ tb := m2 213 rfl rfl
theorem tml_X7_166 : Cond.methodLink RX7 166 yX0_floorOf ∈ tb := m2 214 rfl rfl
theorem tim_X0_floorOf : Cond.instanceMethod yX0_floorOf ∈ tb := m2 215 rfl rfl
theorem tsel_X0_floorOf : Cond.selects RX0 yX0_floorOf yX0_floorOf ∈ tb := m2 216 rfl rfl
theorem tco_X0_floorOf : Cond.code yX0_floorOf cX0_floorOf 2 (some .int) ∈ tb := m2 217 rfl rfl
theorem tml_X7_169 : Cond.methodLink RX7 169 yX0_roofOf ∈ tb := m2 218 rfl rfl
theorem tim_X0_roofOf : Cond.instanceMethod yX0_roofOf ∈ tb := m2 219 rfl rfl
theorem tsel_X0_roofOf : Cond.selects RX0 yX0_roofOf yX0_roofOf ∈ tb := m2 220 rfl rfl
theorem tco_X0_roofOf : Cond.code yX0_roofOf cX0_roofOf 2 (some .int) ∈ tb := m2 221 rfl rfl
theorem tml_L_95 : Cond.methodLink RL 95 yX7_left ∈ tb := m2 222 rfl rfl
theorem tim_X7_left : Cond.instanceMethod yX7_left ∈ tb := m2 223 rfl rfl
theorem tsel_X7_left : Cond.selects RX7 yX7_left yX7_left ∈ tb := m2 224 rfl rfl
theorem tco_X7_left : Cond.code yX7_left cX7_left 2 (some .int) ∈ tb := m2 225 rfl rfl
theorem tml_X7_172 : Cond.methodLink RX7 172 yX7_isToldSmoothnessTrue ∈ tb := m2 226 rfl rfl
theorem tim_X7_isToldSmoothnessTrue : Cond.instanceMethod yX7_isToldSmoothnessTrue ∈ tb := m2 228 rfl rfl
theorem tco_X7_isToldSmoothnessTrue : Cond.code yX7_isToldSmoothnessTrue cX7_isToldSmoothnessTrue 4 (some .boolean) ∈ tb := m2 229 rfl rfl
theorem tml_X7_226 : Cond.methodLink RX7 226 yX3_weigh ∈ tb := m2 230 rfl rfl
theorem tim_X3_weigh : Cond.instanceMethod yX3_weigh ∈ tb := m2 231 rfl rfl
theorem tsel_X3_weigh : Cond.selects RX3 yX3_weigh yX3_weigh ∈ tb := m2 232 rfl rfl
theorem tco_X3_weigh : Cond.code yX3_weigh cX3_weigh 4 none ∈ tb := m2 233 rfl rfl
theorem tml_X3_34 : Cond.methodLink RX3 34 yX1_sumFor ∈ tb := m2 234 rfl rfl
theorem tml_X7_230 : Cond.methodLink RX7 230 yX3_worthAt ∈ tb := m2 235 rfl rfl
theorem tim_X3_worthAt : Cond.instanceMethod yX3_worthAt ∈ tb := m2 236 rfl rfl
theorem tsel_X3_worthAt : Cond.selects RX3 yX3_worthAt yX3_worthAt ∈ tb := m2 237 rfl rfl
theorem tco_X3_worthAt : Cond.code yX3_worthAt cX3_worthAt 2 (some .int) ∈ tb := m2 238 rfl rfl
theorem tml_X7_233 : Cond.methodLink RX7 233 Lib.Math.abs.name ∈ tb := m2 239 rfl rfl
theorem tml_X7_238 : Cond.methodLink RX7 238 yX2_off ∈ tb := m3 0 rfl rfl
theorem tml_X7_175 : Cond.methodLink RX7 175 yX0_measureAll ∈ tb := m3 1 rfl rfl
theorem tim_X0_measureAll : Cond.instanceMethod yX0_measureAll ∈ tb := m3 2 rfl rfl
theorem tsel_X0_measureAll : Cond.selects RX0 yX0_measureAll yX0_measureAll ∈ tb := m3 3 rfl rfl
theorem tco_X0_measureAll : Cond.code yX0_measureAll cX0_measureAll 4 none ∈ tb := m3 4 rfl rfl
theorem tml_X0_18 : Cond.methodLink RX0 18 yX2_howManySettings ∈ tb := m3 5 rfl rfl
theorem tml_X0_24 : Cond.methodLink RX0 24 yX0_measure ∈ tb := m3 6 rfl rfl
theorem tml_X7_179 : Cond.methodLink RX7 179 yX0_howManyLeft ∈ tb := m3 7 rfl rfl
theorem tim_X0_howManyLeft : Cond.instanceMethod yX0_howManyLeft ∈ tb := m3 8 rfl rfl
theorem tsel_X0_howManyLeft : Cond.selects RX0 yX0_howManyLeft yX0_howManyLeft ∈ tb := m3 9 rfl rfl
theorem tco_X0_howManyLeft : Cond.code yX0_howManyLeft cX0_howManyLeft 5 (some .int) ∈ tb := m3 10 rfl rfl
theorem tml_X0_61 : Cond.methodLink RX0 61 yX0_greatestFloor ∈ tb := m3 11 rfl rfl
theorem tim_X0_greatestFloor : Cond.instanceMethod yX0_greatestFloor ∈ tb := m3 13 rfl rfl
theorem tco_X0_greatestFloor : Cond.code yX0_greatestFloor cX0_greatestFloor 4 (some .int) ∈ tb := m3 14 rfl rfl
theorem tml_X0_65 : Cond.methodLink RX0 65 yX3_howMany ∈ tb := m3 15 rfl rfl
theorem tml_X0_68 : Cond.methodLink RX0 68 yX3_settingAt ∈ tb := m3 16 rfl rfl
theorem tml_X7_183 : Cond.methodLink RX7 183 yX0_nextOf ∈ tb := m3 17 rfl rfl
theorem tim_X0_nextOf : Cond.instanceMethod yX0_nextOf ∈ tb := m3 18 rfl rfl
theorem tsel_X0_nextOf : Cond.selects RX0 yX0_nextOf yX0_nextOf ∈ tb := m3 19 rfl rfl
theorem tco_X0_nextOf : Cond.code yX0_nextOf cX0_nextOf 6 (some .int) ∈ tb := m3 20 rfl rfl
theorem tml_L_99 : Cond.methodLink RL 99 yX7_search ∈ tb := m3 21 rfl rfl
theorem tim_X7_search : Cond.instanceMethod yX7_search ∈ tb := m3 22 rfl rfl
theorem tsel_X7_search : Cond.selects RX7 yX7_search yX7_search ∈ tb := m3 23 rfl rfl
theorem tco_X7_search : Cond.code yX7_search cX7_search 4 (some .int) ∈ tb := m3 24 rfl rfl
theorem tml_X7_186 : Cond.methodLink RX7 186 yX7_nextToSearch ∈ tb := m3 25 rfl rfl
theorem tim_X7_nextToSearch : Cond.instanceMethod yX7_nextToSearch ∈ tb := m3 27 rfl rfl
theorem tco_X7_nextToSearch : Cond.code yX7_nextToSearch cX7_nextToSearch 2 (some .int) ∈ tb := m3 28 rfl rfl
theorem tml_X7_201 : Cond.methodLink RX7 201 yX6_currentNoise ∈ tb := m3 29 rfl rfl
theorem tml_X7_192 : Cond.methodLink RX7 192 yX6_firstOf ∈ tb := m3 30 rfl rfl
theorem tim_X6_firstOf : Cond.instanceMethod yX6_firstOf ∈ tb := m3 31 rfl rfl
theorem tsel_X6_firstOf : Cond.selects RX6 yX6_firstOf yX6_firstOf ∈ tb := m3 32 rfl rfl
theorem tco_X6_firstOf : Cond.code yX6_firstOf cX6_firstOf 3 (some .int) ∈ tb := m3 33 rfl rfl
theorem tml_X7_189 : Cond.methodLink RX7 189 yX0_tightenByLatest ∈ tb := m3 34 rfl rfl
theorem tim_X0_tightenByLatest : Cond.instanceMethod yX0_tightenByLatest ∈ tb := m3 35 rfl rfl
theorem tsel_X0_tightenByLatest : Cond.selects RX0 yX0_tightenByLatest yX0_tightenByLatest ∈ tb := m3 36 rfl rfl
theorem tco_X0_tightenByLatest : Cond.code yX0_tightenByLatest cX0_tightenByLatest 4 none ∈ tb := m3 37 rfl rfl
theorem tml_L_103 : Cond.methodLink RL 103 yX7_pairs ∈ tb := m3 38 rfl rfl
theorem tim_X7_pairs : Cond.instanceMethod yX7_pairs ∈ tb := m3 39 rfl rfl
theorem tsel_X7_pairs : Cond.selects RX7 yX7_pairs yX7_pairs ∈ tb := m3 40 rfl rfl
theorem tco_X7_pairs : Cond.code yX7_pairs cX7_pairs 10 (some .int) ∈ tb := m3 41 rfl rfl
theorem tml_L_108 : Cond.methodLink RL 108 yX7_excess ∈ tb := m3 42 rfl rfl
theorem tim_X7_excess : Cond.instanceMethod yX7_excess ∈ tb := m3 43 rfl rfl
theorem tsel_X7_excess : Cond.selects RX7 yX7_excess yX7_excess ∈ tb := m3 44 rfl rfl
theorem tco_X7_excess : Cond.code yX7_excess cX7_excess 14 (some .int) ∈ tb := m3 45 rfl rfl
theorem tk_X7_195 : Cond.constant RX7 195 (-10000001) ∈ tb := m3 46 rfl rfl
theorem tk_X7_196 : Cond.constant RX7 196 (-10000002) ∈ tb := m3 47 rfl rfl
theorem tml_L_113 : Cond.methodLink RL 113 yX7_joint ∈ tb := m3 48 rfl rfl
theorem tim_X7_joint : Cond.instanceMethod yX7_joint ∈ tb := m3 49 rfl rfl
theorem tsel_X7_joint : Cond.selects RX7 yX7_joint yX7_joint ∈ tb := m3 50 rfl rfl
theorem tco_X7_joint : Cond.code yX7_joint cX7_joint 10 (some .int) ∈ tb := m3 51 rfl rfl
theorem tml_X7_197 : Cond.methodLink RX7 197 yX7_excess ∈ tb := m3 52 rfl rfl
theorem tml_L_117 : Cond.methodLink RL 117 yX7_odds ∈ tb := m3 53 rfl rfl
theorem tim_X7_odds : Cond.instanceMethod yX7_odds ∈ tb := m3 54 rfl rfl
theorem tsel_X7_odds : Cond.selects RX7 yX7_odds yX7_odds ∈ tb := m3 55 rfl rfl
theorem tco_X7_odds : Cond.code yX7_odds cX7_odds 4 (some .int) ∈ tb := m3 56 rfl rfl
theorem tml_X7_204 : Cond.methodLink RX7 204 yX7_areTwoSettings ∈ tb := m3 57 rfl rfl
theorem tim_X7_areTwoSettings : Cond.instanceMethod yX7_areTwoSettings ∈ tb := m3 59 rfl rfl
theorem tco_X7_areTwoSettings : Cond.code yX7_areTwoSettings cX7_areTwoSettings 3 (some .boolean) ∈ tb := m3 60 rfl rfl
theorem tml_X7_207 : Cond.methodLink RX7 207 yX7_wereBothTried ∈ tb := m3 61 rfl rfl
theorem tim_X7_wereBothTried : Cond.instanceMethod yX7_wereBothTried ∈ tb := m3 63 rfl rfl
theorem tco_X7_wereBothTried : Cond.code yX7_wereBothTried cX7_wereBothTried 3 (some .boolean) ∈ tb := m3 64 rfl rfl
theorem tml_X7_210 : Cond.methodLink RX7 210 yX4_compare ∈ tb := m3 65 rfl rfl
theorem tim_X4_compare : Cond.instanceMethod yX4_compare ∈ tb := m3 66 rfl rfl
theorem tsel_X4_compare : Cond.selects RX4 yX4_compare yX4_compare ∈ tb := m3 67 rfl rfl
theorem tco_X4_compare : Cond.code yX4_compare cX4_compare 7 none ∈ tb := m3 68 rfl rfl
theorem tml_X4_28 : Cond.methodLink RX4 28 yX4_gather ∈ tb := m3 69 rfl rfl
theorem tim_X4_gather : Cond.instanceMethod yX4_gather ∈ tb := m3 71 rfl rfl
theorem tco_X4_gather : Cond.code yX4_gather cX4_gather 5 none ∈ tb := m3 72 rfl rfl
theorem tml_X4_44 : Cond.methodLink RX4 44 yX6_howMany ∈ tb := m3 73 rfl rfl
theorem tml_X4_50 : Cond.methodLink RX4 50 yX6_settingAt ∈ tb := m3 74 rfl rfl
theorem tml_X4_53 : Cond.methodLink RX4 53 yX6_readingAt ∈ tb := m3 75 rfl rfl
theorem tml_X4_32 : Cond.methodLink RX4 32 yX4_rankAt ∈ tb := m3 76 rfl rfl
theorem tim_X4_rankAt : Cond.instanceMethod yX4_rankAt ∈ tb := m3 78 rfl rfl
theorem tco_X4_rankAt : Cond.code yX4_rankAt cX4_rankAt 4 (some .int) ∈ tb := m3 79 rfl rfl
theorem tml_X4_36 : Cond.methodLink RX4 36 yX4_spreadWays ∈ tb := m3 80 rfl rfl
theorem tim_X4_spreadWays : Cond.instanceMethod yX4_spreadWays ∈ tb := m3 82 rfl rfl
theorem tco_X4_spreadWays : Cond.code yX4_spreadWays cX4_spreadWays 6 none ∈ tb := m3 83 rfl rfl
theorem tml_X4_56 : Cond.methodLink RX4 56 yJ7_fill_53178 ∈ tb := m3 84 rfl rfl
theorem tml_X4_40 : Cond.methodLink RX4 40 yX4_waysFrom ∈ tb := m3 85 rfl rfl
theorem tim_X4_waysFrom : Cond.instanceMethod yX4_waysFrom ∈ tb := m3 87 rfl rfl
theorem tco_X4_waysFrom : Cond.code yX4_waysFrom cX4_waysFrom 5 (some .int) ∈ tb := m3 88 rfl rfl
theorem tml_X7_214 : Cond.methodLink RX7 214 yX4_countingWays ∈ tb := m3 89 rfl rfl
theorem tim_X4_countingWays : Cond.instanceMethod yX4_countingWays ∈ tb := m3 90 rfl rfl
theorem tsel_X4_countingWays : Cond.selects RX4 yX4_countingWays yX4_countingWays ∈ tb := m3 91 rfl rfl
theorem tco_X4_countingWays : Cond.code yX4_countingWays cX4_countingWays 1 (some .int) ∈ tb := m3 92 rfl rfl
theorem tml_X7_217 : Cond.methodLink RX7 217 yX4_allWays ∈ tb := m3 93 rfl rfl
theorem tim_X4_allWays : Cond.instanceMethod yX4_allWays ∈ tb := m3 94 rfl rfl
theorem tsel_X4_allWays : Cond.selects RX4 yX4_allWays yX4_allWays ∈ tb := m3 95 rfl rfl
theorem tco_X4_allWays : Cond.code yX4_allWays cX4_allWays 1 (some .int) ∈ tb := m3 96 rfl rfl
theorem tml_L_121 : Cond.methodLink RL 121 yX7_safe ∈ tb := m3 97 rfl rfl
theorem tim_X7_safe : Cond.instanceMethod yX7_safe ∈ tb := m3 98 rfl rfl
theorem tsel_X7_safe : Cond.selects RX7 yX7_safe yX7_safe ∈ tb := m3 99 rfl rfl
theorem tco_X7_safe : Cond.code yX7_safe cX7_safe 5 (some .int) ∈ tb := m3 100 rfl rfl
theorem tml_L_125 : Cond.methodLink RL 125 yX7_back ∈ tb := m3 101 rfl rfl
theorem tim_X7_back : Cond.instanceMethod yX7_back ∈ tb := m3 102 rfl rfl
theorem tsel_X7_back : Cond.selects RX7 yX7_back yX7_back ∈ tb := m3 103 rfl rfl
theorem tco_X7_back : Cond.code yX7_back cX7_back 7 (some .int) ∈ tb := m3 104 rfl rfl
theorem tml_X7_220 : Cond.methodLink RX7 220 yX2_howMany ∈ tb := m3 105 rfl rfl
theorem tml_L_129 : Cond.methodLink RL 129 yX7_count ∈ tb := m3 106 rfl rfl
theorem tim_X7_count : Cond.instanceMethod yX7_count ∈ tb := m3 107 rfl rfl
theorem tsel_X7_count : Cond.selects RX7 yX7_count yX7_count ∈ tb := m3 108 rfl rfl
theorem tco_X7_count : Cond.code yX7_count cX7_count 2 (some .int) ∈ tb := m3 109 rfl rfl
theorem tml_X7_221 : Cond.methodLink RX7 221 yX2_howManySettings ∈ tb := m3 110 rfl rfl
theorem tml_X7_224 : Cond.methodLink RX7 224 yX6_howManySettings ∈ tb := m3 111 rfl rfl
theorem tim_X6_howManySettings : Cond.instanceMethod yX6_howManySettings ∈ tb := m3 112 rfl rfl
theorem tsel_X6_howManySettings : Cond.selects RX6 yX6_howManySettings yX6_howManySettings ∈ tb := m3 113 rfl rfl
theorem tco_X6_howManySettings : Cond.code yX6_howManySettings cX6_howManySettings 3 (some .int) ∈ tb := m3 114 rfl rfl
theorem tml_X6_38 : Cond.methodLink RX6 38 yX6_firstOf ∈ tb := m3 115 rfl rfl
theorem tcl_L_10 : Cond.classLink RL 10 RX8 ∈ tb := m3 116 rfl rfl
theorem tins_X8 : Cond.instantiable RX8 20 ∈ tb := m3 117 rfl rfl
theorem tml_L_12 : Cond.methodLink RL 12 yX8_init ∈ tb := m3 118 rfl rfl
theorem tim_X8_init : Cond.instanceMethod yX8_init ∈ tb := m3 119 rfl rfl
theorem tco_X8_init : Cond.code yX8_init cX8_init 1 none ∈ tb := m3 120 rfl rfl
theorem tml_X8_1 : Cond.methodLink RX8 1 objectInit ∈ tb := m3 121 rfl rfl
theorem tfl_X8_47 : Cond.fieldLink RX8 47 "KnobBenchModel" "knobs" "I" ∈ tb := m3 122 rfl rfl
theorem tfl_X8_7 : Cond.fieldLink RX8 7 "KnobBenchModel" "settings" "I" ∈ tb := m3 123 rfl rfl
theorem tfl_X8_13 : Cond.fieldLink RX8 13 "KnobBenchModel" "many" "[I" ∈ tb := m3 124 rfl rfl
theorem tfl_X8_17 : Cond.fieldLink RX8 17 "KnobBenchModel" "places" "[I" ∈ tb := m3 125 rfl rfl
theorem tfl_X8_20 : Cond.fieldLink RX8 20 "KnobBenchModel" "steeps" "[I" ∈ tb := m3 126 rfl rfl
theorem tfl_X8_73 : Cond.fieldLink RX8 73 "KnobBenchModel" "rules" "I" ∈ tb := m3 127 rfl rfl
theorem tfl_X8_23 : Cond.fieldLink RX8 23 "KnobBenchModel" "ruleOf" "[I" ∈ tb := m3 128 rfl rfl
theorem tfl_X8_80 : Cond.fieldLink RX8 80 "KnobBenchModel" "base" "I" ∈ tb := m3 129 rfl rfl
theorem tfl_X8_26 : Cond.fieldLink RX8 26 "KnobBenchModel" "single" "[I" ∈ tb := m3 130 rfl rfl
theorem tfl_X8_29 : Cond.fieldLink RX8 29 "KnobBenchModel" "joints" "[I" ∈ tb := m3 131 rfl rfl
theorem tfl_X8_85 : Cond.fieldLink RX8 85 "KnobBenchModel" "z" "I" ∈ tb := m3 132 rfl rfl
theorem tfl_X8_32 : Cond.fieldLink RX8 32 "KnobBenchModel" "seed" "I" ∈ tb := m3 133 rfl rfl
theorem tfl_X8_62 : Cond.fieldLink RX8 62 "KnobBenchModel" "trials" "I" ∈ tb := m3 134 rfl rfl
theorem tfl_X8_35 : Cond.fieldLink RX8 35 "KnobBenchModel" "tried" "[I" ∈ tb := m3 135 rfl rfl
theorem tfl_X8_38 : Cond.fieldLink RX8 38 "KnobBenchModel" "reads" "[I" ∈ tb := m3 136 rfl rfl
theorem tfl_X8_164 : Cond.fieldLink RX8 164 "KnobBenchModel" "all" "I" ∈ tb := m3 137 rfl rfl
theorem tfl_X8_41 : Cond.fieldLink RX8 41 "KnobBenchModel" "readings" "[I" ∈ tb := m3 138 rfl rfl
theorem tfl_X8_44 : Cond.fieldLink RX8 44 "KnobBenchModel" "ways" "[I" ∈ tb := m3 139 rfl rfl
theorem tfl_X8_173 : Cond.fieldLink RX8 173 "KnobBenchModel" "counted" "I" ∈ tb := m3 140 rfl rfl
theorem tfl_X8_176 : Cond.fieldLink RX8 176 "KnobBenchModel" "possible" "I" ∈ tb := m3 141 rfl rfl
theorem tml_L_17 : Cond.methodLink RL 17 yX8_knob ∈ tb := m3 183 rfl rfl
theorem tim_X8_knob : Cond.instanceMethod yX8_knob ∈ tb := m3 184 rfl rfl
theorem tsel_X8_knob : Cond.selects RX8 yX8_knob yX8_knob ∈ tb := m3 185 rfl rfl
theorem tco_X8_knob : Cond.code yX8_knob cX8_knob 3 (some .int) ∈ tb := m3 186 rfl rfl
theorem tk_X8_58 : Cond.constantLong RX8 58 (2) ∈ tb := m3 187 rfl rfl
theorem tk_X8_60 : Cond.constantLong RX8 60 (4) ∈ tb := m3 188 rfl rfl
theorem tml_X8_50 : Cond.methodLink RX8 50 yX8_in ∈ tb := m3 189 rfl rfl
theorem tst_X8_in : Cond.static yX8_in ∈ tb := m3 190 rfl rfl
theorem tco_X8_in : Cond.code yX8_in cX8_in 6 (some .boolean) ∈ tb := m3 191 rfl rfl
theorem tml_L_22 : Cond.methodLink RL 22 yX8_place ∈ tb := m3 192 rfl rfl
theorem tim_X8_place : Cond.instanceMethod yX8_place ∈ tb := m3 193 rfl rfl
theorem tsel_X8_place : Cond.selects RX8 yX8_place yX8_place ∈ tb := m3 194 rfl rfl
theorem tco_X8_place : Cond.code yX8_place cX8_place 5 (some .int) ∈ tb := m3 195 rfl rfl
theorem tml_X8_65 : Cond.methodLink RX8 65 yX8_isValue ∈ tb := m3 196 rfl rfl
theorem tim_X8_isValue : Cond.instanceMethod yX8_isValue ∈ tb := m3 198 rfl rfl
theorem tco_X8_isValue : Cond.code yX8_isValue cX8_isValue 3 (some .boolean) ∈ tb := m3 199 rfl rfl
theorem tml_X8_54 : Cond.methodLink RX8 54 yX8_isKnob ∈ tb := m3 200 rfl rfl
theorem tim_X8_isKnob : Cond.instanceMethod yX8_isKnob ∈ tb := m3 202 rfl rfl
theorem tco_X8_isKnob : Cond.code yX8_isKnob cX8_isKnob 2 (some .boolean) ∈ tb := m3 203 rfl rfl
theorem tk_X8_69 : Cond.constantLong RX8 69 (-100) ∈ tb := m3 204 rfl rfl
theorem tk_X8_71 : Cond.constantLong RX8 71 (100) ∈ tb := m3 205 rfl rfl
theorem tml_L_27 : Cond.methodLink RL 27 yX8_steep ∈ tb := m3 206 rfl rfl
theorem tim_X8_steep : Cond.instanceMethod yX8_steep ∈ tb := m3 207 rfl rfl
theorem tsel_X8_steep : Cond.selects RX8 yX8_steep yX8_steep ∈ tb := m3 208 rfl rfl
theorem tco_X8_steep : Cond.code yX8_steep cX8_steep 4 (some .int) ∈ tb := m3 209 rfl rfl
theorem tml_L_32 : Cond.methodLink RL 32 yX8_rule ∈ tb := m3 210 rfl rfl
theorem tim_X8_rule : Cond.instanceMethod yX8_rule ∈ tb := m3 211 rfl rfl
theorem tsel_X8_rule : Cond.selects RX8 yX8_rule yX8_rule ∈ tb := m3 212 rfl rfl
theorem tco_X8_rule : Cond.code yX8_rule cX8_rule 7 (some .int) ∈ tb := m3 213 rfl rfl
theorem tml_L_37 : Cond.methodLink RL 37 yX8_noRule ∈ tb := m3 214 rfl rfl
theorem tim_X8_noRule : Cond.instanceMethod yX8_noRule ∈ tb := m3 215 rfl rfl
theorem tsel_X8_noRule : Cond.selects RX8 yX8_noRule yX8_noRule ∈ tb := m3 216 rfl rfl
theorem tco_X8_noRule : Cond.code yX8_noRule cX8_noRule 1 (some .int) ∈ tb := m3 217 rfl rfl
theorem tml_L_42 : Cond.methodLink RL 42 yX8_effect ∈ tb := m3 218 rfl rfl
theorem tim_X8_effect : Cond.instanceMethod yX8_effect ∈ tb := m3 219 rfl rfl
theorem tsel_X8_effect : Cond.selects RX8 yX8_effect yX8_effect ∈ tb := m3 220 rfl rfl
theorem tco_X8_effect : Cond.code yX8_effect cX8_effect 9 (some .int) ∈ tb := m3 221 rfl rfl
theorem tk_X8_76 : Cond.constantLong RX8 76 (-1000) ∈ tb := m3 222 rfl rfl
theorem tk_X8_78 : Cond.constantLong RX8 78 (1000) ∈ tb := m3 223 rfl rfl
theorem tml_L_46 : Cond.methodLink RL 46 yX8_base ∈ tb := m3 224 rfl rfl
theorem tim_X8_base : Cond.instanceMethod yX8_base ∈ tb := m3 225 rfl rfl
theorem tsel_X8_base : Cond.selects RX8 yX8_base yX8_base ∈ tb := m3 226 rfl rfl
theorem tco_X8_base : Cond.code yX8_base cX8_base 3 (some .int) ∈ tb := m3 227 rfl rfl
theorem tml_L_50 : Cond.methodLink RL 50 yX8_noise ∈ tb := m3 228 rfl rfl
theorem tim_X8_noise : Cond.instanceMethod yX8_noise ∈ tb := m3 229 rfl rfl
theorem tsel_X8_noise : Cond.selects RX8 yX8_noise yX8_noise ∈ tb := m3 230 rfl rfl
theorem tco_X8_noise : Cond.code yX8_noise cX8_noise 3 (some .int) ∈ tb := m3 231 rfl rfl
theorem tk_X8_83 : Cond.constantLong RX8 83 (50) ∈ tb := m3 232 rfl rfl
theorem tml_L_54 : Cond.methodLink RL 54 yX8_seed ∈ tb := m3 233 rfl rfl
theorem tim_X8_seed : Cond.instanceMethod yX8_seed ∈ tb := m3 234 rfl rfl
theorem tsel_X8_seed : Cond.selects RX8 yX8_seed yX8_seed ∈ tb := m3 235 rfl rfl
theorem tco_X8_seed : Cond.code yX8_seed cX8_seed 2 (some .int) ∈ tb := m3 236 rfl rfl
theorem tk_X8_88 : Cond.constantLong RX8 88 (1073741823) ∈ tb := m3 237 rfl rfl
theorem tml_L_58 : Cond.methodLink RL 58 yX8_with ∈ tb := m3 238 rfl rfl
theorem tim_X8_with : Cond.instanceMethod yX8_with ∈ tb := m3 239 rfl rfl
theorem tsel_X8_with : Cond.selects RX8 yX8_with yX8_with ∈ tb := m4 0 rfl rfl
theorem tco_X8_with : Cond.code yX8_with cX8_with 4 (some .int) ∈ tb := m4 1 rfl rfl
theorem tml_X8_98 : Cond.methodLink RX8 98 yX8_isSetting ∈ tb := m4 2 rfl rfl
theorem tim_X8_isSetting : Cond.instanceMethod yX8_isSetting ∈ tb := m4 4 rfl rfl
theorem tco_X8_isSetting : Cond.code yX8_isSetting cX8_isSetting 2 (some .boolean) ∈ tb := m4 5 rfl rfl
theorem tml_X8_101 : Cond.methodLink RX8 101 yX8_put ∈ tb := m4 6 rfl rfl
theorem tim_X8_put : Cond.instanceMethod yX8_put ∈ tb := m4 8 rfl rfl
theorem tco_X8_put : Cond.code yX8_put cX8_put 4 (some .int) ∈ tb := m4 9 rfl rfl
theorem tml_X8_94 : Cond.methodLink RX8 94 yX8_get ∈ tb := m4 10 rfl rfl
theorem tim_X8_get : Cond.instanceMethod yX8_get ∈ tb := m4 12 rfl rfl
theorem tco_X8_get : Cond.code yX8_get cX8_get 3 (some .int) ∈ tb := m4 13 rfl rfl
theorem tml_X8_90 : Cond.methodLink RX8 90 yX8_step ∈ tb := m4 14 rfl rfl
theorem tim_X8_step : Cond.instanceMethod yX8_step ∈ tb := m4 16 rfl rfl
theorem tco_X8_step : Cond.code yX8_step cX8_step 4 (some .int) ∈ tb := m4 17 rfl rfl
theorem tml_L_62 : Cond.methodLink RL 62 yX8_value ∈ tb := m4 18 rfl rfl
theorem tim_X8_value : Cond.instanceMethod yX8_value ∈ tb := m4 19 rfl rfl
theorem tsel_X8_value : Cond.selects RX8 yX8_value yX8_value ∈ tb := m4 20 rfl rfl
theorem tco_X8_value : Cond.code yX8_value cX8_value 3 (some .int) ∈ tb := m4 21 rfl rfl
theorem tml_L_66 : Cond.methodLink RL 66 yX8_allowed ∈ tb := m4 22 rfl rfl
theorem tim_X8_allowed : Cond.instanceMethod yX8_allowed ∈ tb := m4 23 rfl rfl
theorem tsel_X8_allowed : Cond.selects RX8 yX8_allowed yX8_allowed ∈ tb := m4 24 rfl rfl
theorem tco_X8_allowed : Cond.code yX8_allowed cX8_allowed 2 (some .int) ∈ tb := m4 25 rfl rfl
theorem tml_X8_105 : Cond.methodLink RX8 105 yX8_isAllowed ∈ tb := m4 26 rfl rfl
theorem tim_X8_isAllowed : Cond.instanceMethod yX8_isAllowed ∈ tb := m4 28 rfl rfl
theorem tco_X8_isAllowed : Cond.code yX8_isAllowed cX8_isAllowed 7 (some .boolean) ∈ tb := m4 29 rfl rfl
theorem tml_L_70 : Cond.methodLink RL 70 yX8_book ∈ tb := m4 30 rfl rfl
theorem tim_X8_book : Cond.instanceMethod yX8_book ∈ tb := m4 31 rfl rfl
theorem tsel_X8_book : Cond.selects RX8 yX8_book yX8_book ∈ tb := m4 32 rfl rfl
theorem tco_X8_book : Cond.code yX8_book cX8_book 3 (some .int) ∈ tb := m4 33 rfl rfl
theorem tml_L_74 : Cond.methodLink RL 74 yX8_worth ∈ tb := m4 34 rfl rfl
theorem tim_X8_worth : Cond.instanceMethod yX8_worth ∈ tb := m4 35 rfl rfl
theorem tsel_X8_worth : Cond.selects RX8 yX8_worth yX8_worth ∈ tb := m4 36 rfl rfl
theorem tco_X8_worth : Cond.code yX8_worth cX8_worth 2 (some .int) ∈ tb := m4 37 rfl rfl
theorem tml_X8_108 : Cond.methodLink RX8 108 yX8_worthOf ∈ tb := m4 38 rfl rfl
theorem tim_X8_worthOf : Cond.instanceMethod yX8_worthOf ∈ tb := m4 40 rfl rfl
theorem tco_X8_worthOf : Cond.code yX8_worthOf cX8_worthOf 6 (some .int) ∈ tb := m4 41 rfl rfl
theorem tk_X8_111 : Cond.constant RX8 111 (-100000) ∈ tb := m4 42 rfl rfl
theorem tml_L_78 : Cond.methodLink RL 78 yX8_best ∈ tb := m4 43 rfl rfl
theorem tim_X8_best : Cond.instanceMethod yX8_best ∈ tb := m4 44 rfl rfl
theorem tsel_X8_best : Cond.selects RX8 yX8_best yX8_best ∈ tb := m4 45 rfl rfl
theorem tco_X8_best : Cond.code yX8_best cX8_best 4 (some .int) ∈ tb := m4 46 rfl rfl
theorem tk_X8_112 : Cond.constant RX8 112 (-100001) ∈ tb := m4 47 rfl rfl
theorem tml_L_82 : Cond.methodLink RL 82 yX8_trial ∈ tb := m4 48 rfl rfl
theorem tim_X8_trial : Cond.instanceMethod yX8_trial ∈ tb := m4 49 rfl rfl
theorem tsel_X8_trial : Cond.selects RX8 yX8_trial yX8_trial ∈ tb := m4 50 rfl rfl
theorem tco_X8_trial : Cond.code yX8_trial cX8_trial 2 (some .int) ∈ tb := m4 51 rfl rfl
theorem tml_X8_119 : Cond.methodLink RX8 119 yX8_tries ∈ tb := m4 52 rfl rfl
theorem tim_X8_tries : Cond.instanceMethod yX8_tries ∈ tb := m4 54 rfl rfl
theorem tco_X8_tries : Cond.code yX8_tries cX8_tries 2 none ∈ tb := m4 55 rfl rfl
theorem tk_X8_113 : Cond.constantLong RX8 113 (69069) ∈ tb := m4 56 rfl rfl
theorem tk_X8_115 : Cond.constantLong RX8 115 (5) ∈ tb := m4 57 rfl rfl
theorem tk_X8_117 : Cond.constantLong RX8 117 (1073741824) ∈ tb := m4 58 rfl rfl
theorem tml_L_86 : Cond.methodLink RL 86 yX8_read ∈ tb := m4 59 rfl rfl
theorem tim_X8_read : Cond.instanceMethod yX8_read ∈ tb := m4 60 rfl rfl
theorem tsel_X8_read : Cond.selects RX8 yX8_read yX8_read ∈ tb := m4 61 rfl rfl
theorem tco_X8_read : Cond.code yX8_read cX8_read 3 (some .int) ∈ tb := m4 62 rfl rfl
theorem tml_L_90 : Cond.methodLink RL 90 yX8_forget ∈ tb := m4 63 rfl rfl
theorem tim_X8_forget : Cond.instanceMethod yX8_forget ∈ tb := m4 64 rfl rfl
theorem tsel_X8_forget : Cond.selects RX8 yX8_forget yX8_forget ∈ tb := m4 65 rfl rfl
theorem tco_X8_forget : Cond.code yX8_forget cX8_forget 2 (some .int) ∈ tb := m4 66 rfl rfl
theorem tml_L_94 : Cond.methodLink RL 94 yX8_bound ∈ tb := m4 67 rfl rfl
theorem tim_X8_bound : Cond.instanceMethod yX8_bound ∈ tb := m4 68 rfl rfl
theorem tsel_X8_bound : Cond.selects RX8 yX8_bound yX8_bound ∈ tb := m4 69 rfl rfl
theorem tco_X8_bound : Cond.code yX8_bound cX8_bound 3 (some .int) ∈ tb := m4 70 rfl rfl
theorem tk_X8_128 : Cond.constant RX8 128 (-10000000) ∈ tb := m4 71 rfl rfl
theorem tml_X8_129 : Cond.methodLink RX8 129 yX8_floor ∈ tb := m4 72 rfl rfl
theorem tim_X8_floor : Cond.instanceMethod yX8_floor ∈ tb := m4 74 rfl rfl
theorem tco_X8_floor : Cond.code yX8_floor cX8_floor 5 (some .int) ∈ tb := m4 75 rfl rfl
theorem tk_X8_123 : Cond.constant RX8 123 (-1000000) ∈ tb := m4 76 rfl rfl
theorem tml_X8_124 : Cond.methodLink RX8 124 yX8_off ∈ tb := m4 77 rfl rfl
theorem tim_X8_off : Cond.instanceMethod yX8_off ∈ tb := m4 79 rfl rfl
theorem tco_X8_off : Cond.code yX8_off cX8_off 6 (some .int) ∈ tb := m4 80 rfl rfl
theorem tml_X8_132 : Cond.methodLink RX8 132 yX8_roof ∈ tb := m4 81 rfl rfl
theorem tim_X8_roof : Cond.instanceMethod yX8_roof ∈ tb := m4 83 rfl rfl
theorem tco_X8_roof : Cond.code yX8_roof cX8_roof 5 (some .int) ∈ tb := m4 84 rfl rfl
theorem tk_X8_127 : Cond.constant RX8 127 (1000000) ∈ tb := m4 85 rfl rfl
theorem tml_L_98 : Cond.methodLink RL 98 yX8_left ∈ tb := m4 86 rfl rfl
theorem tim_X8_left : Cond.instanceMethod yX8_left ∈ tb := m4 87 rfl rfl
theorem tsel_X8_left : Cond.selects RX8 yX8_left yX8_left ∈ tb := m4 88 rfl rfl
theorem tco_X8_left : Cond.code yX8_left cX8_left 2 (some .int) ∈ tb := m4 89 rfl rfl
theorem tml_X8_140 : Cond.methodLink RX8 140 yX8_leftMany ∈ tb := m4 90 rfl rfl
theorem tim_X8_leftMany : Cond.instanceMethod yX8_leftMany ∈ tb := m4 92 rfl rfl
theorem tco_X8_leftMany : Cond.code yX8_leftMany cX8_leftMany 4 (some .int) ∈ tb := m4 93 rfl rfl
theorem tml_X8_136 : Cond.methodLink RX8 136 yX8_topFloor ∈ tb := m4 94 rfl rfl
theorem tim_X8_topFloor : Cond.instanceMethod yX8_topFloor ∈ tb := m4 96 rfl rfl
theorem tco_X8_topFloor : Cond.code yX8_topFloor cX8_topFloor 4 (some .int) ∈ tb := m4 97 rfl rfl
theorem tk_X8_135 : Cond.constant RX8 135 (-100000000) ∈ tb := m4 98 rfl rfl
theorem tml_X8_143 : Cond.methodLink RX8 143 yX8_next ∈ tb := m4 99 rfl rfl
theorem tim_X8_next : Cond.instanceMethod yX8_next ∈ tb := m4 101 rfl rfl
theorem tco_X8_next : Cond.code yX8_next cX8_next 5 (some .int) ∈ tb := m4 102 rfl rfl
theorem tml_X8_146 : Cond.methodLink RX8 146 yX8_isSmooth ∈ tb := m4 103 rfl rfl
theorem tim_X8_isSmooth : Cond.instanceMethod yX8_isSmooth ∈ tb := m4 105 rfl rfl
theorem tco_X8_isSmooth : Cond.code yX8_isSmooth cX8_isSmooth 5 (some .boolean) ∈ tb := m4 106 rfl rfl
theorem tml_L_102 : Cond.methodLink RL 102 yX8_search ∈ tb := m4 107 rfl rfl
theorem tim_X8_search : Cond.instanceMethod yX8_search ∈ tb := m4 108 rfl rfl
theorem tsel_X8_search : Cond.selects RX8 yX8_search yX8_search ∈ tb := m4 109 rfl rfl
theorem tco_X8_search : Cond.code yX8_search cX8_search 4 (some .int) ∈ tb := m4 110 rfl rfl
theorem tk_X8_150 : Cond.constantLong RX8 150 (30) ∈ tb := m4 111 rfl rfl
theorem tml_X8_152 : Cond.methodLink RX8 152 yX8_book ∈ tb := m4 112 rfl rfl
theorem tml_X8_155 : Cond.methodLink RX8 155 yX8_firstOf ∈ tb := m4 113 rfl rfl
theorem tim_X8_firstOf : Cond.instanceMethod yX8_firstOf ∈ tb := m4 115 rfl rfl
theorem tco_X8_firstOf : Cond.code yX8_firstOf cX8_firstOf 4 (some .int) ∈ tb := m4 116 rfl rfl
theorem tml_L_107 : Cond.methodLink RL 107 yX8_pairs ∈ tb := m4 117 rfl rfl
theorem tim_X8_pairs : Cond.instanceMethod yX8_pairs ∈ tb := m4 118 rfl rfl
theorem tsel_X8_pairs : Cond.selects RX8 yX8_pairs yX8_pairs ∈ tb := m4 119 rfl rfl
theorem tco_X8_pairs : Cond.code yX8_pairs cX8_pairs 10 (some .int) ∈ tb := m4 120 rfl rfl
theorem tml_L_112 : Cond.methodLink RL 112 yX8_excess ∈ tb := m4 121 rfl rfl
theorem tim_X8_excess : Cond.instanceMethod yX8_excess ∈ tb := m4 122 rfl rfl
theorem tsel_X8_excess : Cond.selects RX8 yX8_excess yX8_excess ∈ tb := m4 123 rfl rfl
theorem tco_X8_excess : Cond.code yX8_excess cX8_excess 13 (some .int) ∈ tb := m4 124 rfl rfl
theorem tk_X8_158 : Cond.constant RX8 158 (-10000001) ∈ tb := m4 125 rfl rfl
theorem tk_X8_159 : Cond.constant RX8 159 (-10000002) ∈ tb := m4 126 rfl rfl
theorem tml_L_116 : Cond.methodLink RL 116 yX8_joint ∈ tb := m4 127 rfl rfl
theorem tim_X8_joint : Cond.instanceMethod yX8_joint ∈ tb := m4 128 rfl rfl
theorem tsel_X8_joint : Cond.selects RX8 yX8_joint yX8_joint ∈ tb := m4 129 rfl rfl
theorem tco_X8_joint : Cond.code yX8_joint cX8_joint 9 (some .int) ∈ tb := m4 130 rfl rfl
theorem tml_X8_160 : Cond.methodLink RX8 160 yX8_excess ∈ tb := m4 131 rfl rfl
theorem tml_L_120 : Cond.methodLink RL 120 yX8_odds ∈ tb := m4 132 rfl rfl
theorem tim_X8_odds : Cond.instanceMethod yX8_odds ∈ tb := m4 133 rfl rfl
theorem tsel_X8_odds : Cond.selects RX8 yX8_odds yX8_odds ∈ tb := m4 134 rfl rfl
theorem tco_X8_odds : Cond.code yX8_odds cX8_odds 5 (some .int) ∈ tb := m4 135 rfl rfl
theorem tml_X8_179 : Cond.methodLink RX8 179 yX8_chances ∈ tb := m4 136 rfl rfl
theorem tim_X8_chances : Cond.instanceMethod yX8_chances ∈ tb := m4 138 rfl rfl
theorem tco_X8_chances : Cond.code yX8_chances cX8_chances 10 (some .int) ∈ tb := m4 139 rfl rfl
theorem tml_X8_167 : Cond.methodLink RX8 167 yX8_gather ∈ tb := m4 140 rfl rfl
theorem tim_X8_gather : Cond.instanceMethod yX8_gather ∈ tb := m4 142 rfl rfl
theorem tco_X8_gather : Cond.code yX8_gather cX8_gather 4 (some .int) ∈ tb := m4 143 rfl rfl
theorem tml_X8_170 : Cond.methodLink RX8 170 yX8_rank ∈ tb := m4 144 rfl rfl
theorem tim_X8_rank : Cond.instanceMethod yX8_rank ∈ tb := m4 146 rfl rfl
theorem tco_X8_rank : Cond.code yX8_rank cX8_rank 4 (some .int) ∈ tb := m4 147 rfl rfl
theorem tml_L_124 : Cond.methodLink RL 124 yX8_safe ∈ tb := m4 148 rfl rfl
theorem tim_X8_safe : Cond.instanceMethod yX8_safe ∈ tb := m4 149 rfl rfl
theorem tsel_X8_safe : Cond.selects RX8 yX8_safe yX8_safe ∈ tb := m4 150 rfl rfl
theorem tco_X8_safe : Cond.code yX8_safe cX8_safe 6 (some .int) ∈ tb := m4 151 rfl rfl
theorem tml_L_128 : Cond.methodLink RL 128 yX8_back ∈ tb := m4 152 rfl rfl
theorem tim_X8_back : Cond.instanceMethod yX8_back ∈ tb := m4 153 rfl rfl
theorem tsel_X8_back : Cond.selects RX8 yX8_back yX8_back ∈ tb := m4 154 rfl rfl
theorem tco_X8_back : Cond.code yX8_back cX8_back 6 (some .int) ∈ tb := m4 155 rfl rfl
theorem tml_L_132 : Cond.methodLink RL 132 yX8_count ∈ tb := m4 156 rfl rfl
theorem tim_X8_count : Cond.instanceMethod yX8_count ∈ tb := m4 157 rfl rfl
theorem tsel_X8_count : Cond.selects RX8 yX8_count yX8_count ∈ tb := m4 158 rfl rfl
theorem tco_X8_count : Cond.code yX8_count cX8_count 4 (some .int) ∈ tb := m4 159 rfl rfl
set_option maxRecDepth 20000 in
theorem inX0 : ∀ w ∈ u_ws RX0 TX0 2, w ∈ tb := by decide +kernel
set_option maxRecDepth 20000 in
theorem inX1 : ∀ w ∈ u_ws RX1 TX1 4, w ∈ tb := by decide +kernel
set_option maxRecDepth 20000 in
theorem inX2 : ∀ w ∈ u_ws RX2 TX2 6, w ∈ tb := by decide +kernel
set_option maxRecDepth 20000 in
theorem inX3 : ∀ w ∈ u_ws RX3 TX3 3, w ∈ tb := by decide +kernel
set_option maxRecDepth 20000 in
theorem inX4 : ∀ w ∈ u_ws RX4 TX4 5, w ∈ tb := by decide +kernel
set_option maxRecDepth 20000 in
theorem inX5 : ∀ w ∈ u_ws RX5 TX5 6, w ∈ tb := by decide +kernel
set_option maxRecDepth 20000 in
theorem inX6 : ∀ w ∈ u_ws RX6 TX6 5, w ∈ tb := by decide +kernel
set_option maxRecDepth 20000 in
theorem inX7 : ∀ w ∈ u_ws RX7 TX7 7, w ∈ tb := by decide +kernel
set_option maxRecDepth 20000 in
theorem inX8 : ∀ w ∈ u_ws RX8 TX8 20, w ∈ tb := by decide +kernel
end
section
theorem dX0_init_0 : decode cX0_init 0 = .ok (.aload_n 0, 1) := by decide +kernel
theorem dX0_init_1 : decode cX0_init 1 = .ok (.invokespecial 3, 3) := by decide +kernel
theorem dX0_init_4 : decode cX0_init 4 = .ok (.aload_n 0, 1) := by decide +kernel
theorem dX0_init_5 : decode cX0_init 5 = .ok (.sipush 144, 3) := by decide +kernel
theorem dX0_init_8 : decode cX0_init 8 = .ok (.newarray .int, 2) := by decide +kernel
theorem dX0_init_10 : decode cX0_init 10 = .ok (.putfield 9, 3) := by decide +kernel
theorem dX0_init_13 : decode cX0_init 13 = .ok (.aload_n 0, 1) := by decide +kernel
theorem dX0_init_14 : decode cX0_init 14 = .ok (.sipush 144, 3) := by decide +kernel
theorem dX0_init_17 : decode cX0_init 17 = .ok (.newarray .int, 2) := by decide +kernel
theorem dX0_init_19 : decode cX0_init 19 = .ok (.putfield 15, 3) := by decide +kernel
theorem dX0_init_22 : decode cX0_init 22 = .ok (.return_, 1) := by decide +kernel
theorem dX0_floorOf_0 : decode cX0_floorOf 0 = .ok (.aload_n 0, 1) := by decide +kernel
theorem dX0_floorOf_1 : decode cX0_floorOf 1 = .ok (.getfield 9, 3) := by decide +kernel
theorem dX0_floorOf_4 : decode cX0_floorOf 4 = .ok (.iload_n 1, 1) := by decide +kernel
theorem dX0_floorOf_5 : decode cX0_floorOf 5 = .ok (.iaload, 1) := by decide +kernel
theorem dX0_floorOf_6 : decode cX0_floorOf 6 = .ok (.ireturn, 1) := by decide +kernel
theorem dX0_roofOf_0 : decode cX0_roofOf 0 = .ok (.aload_n 0, 1) := by decide +kernel
theorem dX0_roofOf_1 : decode cX0_roofOf 1 = .ok (.getfield 15, 3) := by decide +kernel
theorem dX0_roofOf_4 : decode cX0_roofOf 4 = .ok (.iload_n 1, 1) := by decide +kernel
theorem dX0_roofOf_5 : decode cX0_roofOf 5 = .ok (.iaload, 1) := by decide +kernel
theorem dX0_roofOf_6 : decode cX0_roofOf 6 = .ok (.ireturn, 1) := by decide +kernel
theorem dX0_measureAll_0 : decode cX0_measureAll 0 = .ok (.iconst 0, 1) := by decide +kernel
theorem dX0_measureAll_1 : decode cX0_measureAll 1 = .ok (.istore_n 3, 1) := by decide +kernel
theorem dX0_measureAll_2 : decode cX0_measureAll 2 = .ok (.iload_n 3, 1) := by decide +kernel
theorem dX0_measureAll_3 : decode cX0_measureAll 3 = .ok (.aload_n 2, 1) := by decide +kernel
theorem dX0_measureAll_4 : decode cX0_measureAll 4 = .ok (.invokevirtual 18, 3) := by decide +kernel
theorem dX0_measureAll_7 : decode cX0_measureAll 7 = .ok (.if_icmp .ge 16, 3) := by decide +kernel
theorem dX0_measureAll_10 : decode cX0_measureAll 10 = .ok (.aload_n 0, 1) := by decide +kernel
theorem dX0_measureAll_11 : decode cX0_measureAll 11 = .ok (.iload_n 3, 1) := by decide +kernel
theorem dX0_measureAll_12 : decode cX0_measureAll 12 = .ok (.aload_n 1, 1) := by decide +kernel
theorem dX0_measureAll_13 : decode cX0_measureAll 13 = .ok (.aload_n 2, 1) := by decide +kernel
theorem dX0_measureAll_14 : decode cX0_measureAll 14 = .ok (.invokevirtual 24, 3) := by decide +kernel
theorem dX0_measureAll_17 : decode cX0_measureAll 17 = .ok (.iinc 3 1, 3) := by decide +kernel
theorem dX0_measureAll_20 : decode cX0_measureAll 20 = .ok (.goto (-18), 3) := by decide +kernel
theorem dX0_measureAll_23 : decode cX0_measureAll 23 = .ok (.return_, 1) := by decide +kernel
theorem dX0_measure_0 : decode cX0_measure 0 = .ok (.aload_n 0, 1) := by decide +kernel
theorem dX0_measure_1 : decode cX0_measure 1 = .ok (.getfield 9, 3) := by decide +kernel
theorem dX0_measure_4 : decode cX0_measure 4 = .ok (.iload_n 1, 1) := by decide +kernel
theorem dX0_measure_5 : decode cX0_measure 5 = .ok (.ldc 28, 2) := by decide +kernel
theorem dX0_measure_7 : decode cX0_measure 7 = .ok (.iastore, 1) := by decide +kernel
theorem dX0_measure_8 : decode cX0_measure 8 = .ok (.aload_n 0, 1) := by decide +kernel
theorem dX0_measure_9 : decode cX0_measure 9 = .ok (.getfield 15, 3) := by decide +kernel
theorem dX0_measure_12 : decode cX0_measure 12 = .ok (.iload_n 1, 1) := by decide +kernel
theorem dX0_measure_13 : decode cX0_measure 13 = .ok (.ldc 29, 2) := by decide +kernel
theorem dX0_measure_15 : decode cX0_measure 15 = .ok (.iastore, 1) := by decide +kernel
theorem dX0_measure_16 : decode cX0_measure 16 = .ok (.iconst 0, 1) := by decide +kernel
theorem dX0_measure_17 : decode cX0_measure 17 = .ok (.istore 4, 2) := by decide +kernel
theorem dX0_measure_19 : decode cX0_measure 19 = .ok (.iload 4, 2) := by decide +kernel
theorem dX0_measure_21 : decode cX0_measure 21 = .ok (.aload_n 2, 1) := by decide +kernel
theorem dX0_measure_22 : decode cX0_measure 22 = .ok (.invokevirtual 30, 3) := by decide +kernel
theorem dX0_measure_25 : decode cX0_measure 25 = .ok (.if_icmp .ge 18, 3) := by decide +kernel
theorem dX0_measure_28 : decode cX0_measure 28 = .ok (.aload_n 0, 1) := by decide +kernel
theorem dX0_measure_29 : decode cX0_measure 29 = .ok (.iload_n 1, 1) := by decide +kernel
theorem dX0_measure_30 : decode cX0_measure 30 = .ok (.iload 4, 2) := by decide +kernel
theorem dX0_measure_32 : decode cX0_measure 32 = .ok (.aload_n 2, 1) := by decide +kernel
theorem dX0_measure_33 : decode cX0_measure 33 = .ok (.aload_n 3, 1) := by decide +kernel
theorem dX0_measure_34 : decode cX0_measure 34 = .ok (.invokevirtual 35, 3) := by decide +kernel
theorem dX0_measure_37 : decode cX0_measure 37 = .ok (.iinc 4 1, 3) := by decide +kernel
theorem dX0_measure_40 : decode cX0_measure 40 = .ok (.goto (-21), 3) := by decide +kernel
theorem dX0_measure_43 : decode cX0_measure 43 = .ok (.return_, 1) := by decide +kernel
theorem dX0_tightenByLatest_0 : decode cX0_tightenByLatest 0 = .ok (.iconst 0, 1) := by decide +kernel
theorem dX0_tightenByLatest_1 : decode cX0_tightenByLatest 1 = .ok (.istore_n 3, 1) := by decide +kernel
theorem dX0_tightenByLatest_2 : decode cX0_tightenByLatest 2 = .ok (.iload_n 3, 1) := by decide +kernel
theorem dX0_tightenByLatest_3 : decode cX0_tightenByLatest 3 = .ok (.aload_n 2, 1) := by decide +kernel
theorem dX0_tightenByLatest_4 : decode cX0_tightenByLatest 4 = .ok (.invokevirtual 18, 3) := by decide +kernel
theorem dX0_tightenByLatest_7 : decode cX0_tightenByLatest 7 = .ok (.if_icmp .ge 22, 3) := by decide +kernel
theorem dX0_tightenByLatest_10 : decode cX0_tightenByLatest 10 = .ok (.aload_n 0, 1) := by decide +kernel
theorem dX0_tightenByLatest_11 : decode cX0_tightenByLatest 11 = .ok (.iload_n 3, 1) := by decide +kernel
theorem dX0_tightenByLatest_12 : decode cX0_tightenByLatest 12 = .ok (.aload_n 1, 1) := by decide +kernel
theorem dX0_tightenByLatest_13 : decode cX0_tightenByLatest 13 = .ok (.invokevirtual 30, 3) := by decide +kernel
theorem dX0_tightenByLatest_16 : decode cX0_tightenByLatest 16 = .ok (.iconst 1, 1) := by decide +kernel
theorem dX0_tightenByLatest_17 : decode cX0_tightenByLatest 17 = .ok (.isub, 1) := by decide +kernel
theorem dX0_tightenByLatest_18 : decode cX0_tightenByLatest 18 = .ok (.aload_n 1, 1) := by decide +kernel
theorem dX0_tightenByLatest_19 : decode cX0_tightenByLatest 19 = .ok (.aload_n 2, 1) := by decide +kernel
theorem dX0_tightenByLatest_20 : decode cX0_tightenByLatest 20 = .ok (.invokevirtual 35, 3) := by decide +kernel
theorem dX0_tightenByLatest_23 : decode cX0_tightenByLatest 23 = .ok (.iinc 3 1, 3) := by decide +kernel
theorem dX0_tightenByLatest_26 : decode cX0_tightenByLatest 26 = .ok (.goto (-24), 3) := by decide +kernel
theorem dX0_tightenByLatest_29 : decode cX0_tightenByLatest 29 = .ok (.return_, 1) := by decide +kernel
theorem dX0_tighten_0 : decode cX0_tighten 0 = .ok (.aload_n 3, 1) := by decide +kernel
theorem dX0_tighten_1 : decode cX0_tighten 1 = .ok (.invokevirtual 39, 3) := by decide +kernel
theorem dX0_tighten_4 : decode cX0_tighten 4 = .ok (.aload 4, 2) := by decide +kernel
theorem dX0_tighten_6 : decode cX0_tighten 6 = .ok (.iload_n 1, 1) := by decide +kernel
theorem dX0_tighten_7 : decode cX0_tighten 7 = .ok (.aload_n 3, 1) := by decide +kernel
theorem dX0_tighten_8 : decode cX0_tighten 8 = .ok (.iload_n 2, 1) := by decide +kernel
theorem dX0_tighten_9 : decode cX0_tighten 9 = .ok (.invokevirtual 42, 3) := by decide +kernel
theorem dX0_tighten_12 : decode cX0_tighten 12 = .ok (.invokevirtual 46, 3) := by decide +kernel
theorem dX0_tighten_15 : decode cX0_tighten 15 = .ok (.iadd, 1) := by decide +kernel
theorem dX0_tighten_16 : decode cX0_tighten 16 = .ok (.istore 5, 2) := by decide +kernel
theorem dX0_tighten_18 : decode cX0_tighten 18 = .ok (.aload_n 0, 1) := by decide +kernel
theorem dX0_tighten_19 : decode cX0_tighten 19 = .ok (.getfield 9, 3) := by decide +kernel
theorem dX0_tighten_22 : decode cX0_tighten 22 = .ok (.iload_n 1, 1) := by decide +kernel
theorem dX0_tighten_23 : decode cX0_tighten 23 = .ok (.aload_n 0, 1) := by decide +kernel
theorem dX0_tighten_24 : decode cX0_tighten 24 = .ok (.getfield 9, 3) := by decide +kernel
theorem dX0_tighten_27 : decode cX0_tighten 27 = .ok (.iload_n 1, 1) := by decide +kernel
theorem dX0_tighten_28 : decode cX0_tighten 28 = .ok (.iaload, 1) := by decide +kernel
theorem dX0_tighten_29 : decode cX0_tighten 29 = .ok (.aload_n 3, 1) := by decide +kernel
theorem dX0_tighten_30 : decode cX0_tighten 30 = .ok (.iload_n 2, 1) := by decide +kernel
theorem dX0_tighten_31 : decode cX0_tighten 31 = .ok (.invokevirtual 50, 3) := by decide +kernel
theorem dX0_tighten_34 : decode cX0_tighten 34 = .ok (.iload 5, 2) := by decide +kernel
theorem dX0_tighten_36 : decode cX0_tighten 36 = .ok (.isub, 1) := by decide +kernel
theorem dX0_tighten_37 : decode cX0_tighten 37 = .ok (.invokestatic 53, 3) := by decide +kernel
theorem dX0_tighten_40 : decode cX0_tighten 40 = .ok (.iastore, 1) := by decide +kernel
theorem dX0_tighten_41 : decode cX0_tighten 41 = .ok (.aload_n 0, 1) := by decide +kernel
theorem dX0_tighten_42 : decode cX0_tighten 42 = .ok (.getfield 15, 3) := by decide +kernel
theorem dX0_tighten_45 : decode cX0_tighten 45 = .ok (.iload_n 1, 1) := by decide +kernel
theorem dX0_tighten_46 : decode cX0_tighten 46 = .ok (.aload_n 0, 1) := by decide +kernel
theorem dX0_tighten_47 : decode cX0_tighten 47 = .ok (.getfield 15, 3) := by decide +kernel
theorem dX0_tighten_50 : decode cX0_tighten 50 = .ok (.iload_n 1, 1) := by decide +kernel
theorem dX0_tighten_51 : decode cX0_tighten 51 = .ok (.iaload, 1) := by decide +kernel
theorem dX0_tighten_52 : decode cX0_tighten 52 = .ok (.aload_n 3, 1) := by decide +kernel
theorem dX0_tighten_53 : decode cX0_tighten 53 = .ok (.iload_n 2, 1) := by decide +kernel
theorem dX0_tighten_54 : decode cX0_tighten 54 = .ok (.invokevirtual 50, 3) := by decide +kernel
theorem dX0_tighten_57 : decode cX0_tighten 57 = .ok (.iload 5, 2) := by decide +kernel
theorem dX0_tighten_59 : decode cX0_tighten 59 = .ok (.iadd, 1) := by decide +kernel
theorem dX0_tighten_60 : decode cX0_tighten 60 = .ok (.invokestatic 58, 3) := by decide +kernel
theorem dX0_tighten_63 : decode cX0_tighten 63 = .ok (.iastore, 1) := by decide +kernel
theorem dX0_tighten_64 : decode cX0_tighten 64 = .ok (.return_, 1) := by decide +kernel
theorem dX0_howManyLeft_0 : decode cX0_howManyLeft 0 = .ok (.aload_n 0, 1) := by decide +kernel
theorem dX0_howManyLeft_1 : decode cX0_howManyLeft 1 = .ok (.aload_n 1, 1) := by decide +kernel
theorem dX0_howManyLeft_2 : decode cX0_howManyLeft 2 = .ok (.invokevirtual 61, 3) := by decide +kernel
theorem dX0_howManyLeft_5 : decode cX0_howManyLeft 5 = .ok (.istore_n 2, 1) := by decide +kernel
theorem dX0_howManyLeft_6 : decode cX0_howManyLeft 6 = .ok (.iconst 0, 1) := by decide +kernel
theorem dX0_howManyLeft_7 : decode cX0_howManyLeft 7 = .ok (.istore_n 3, 1) := by decide +kernel
theorem dX0_howManyLeft_8 : decode cX0_howManyLeft 8 = .ok (.iconst 0, 1) := by decide +kernel
theorem dX0_howManyLeft_9 : decode cX0_howManyLeft 9 = .ok (.istore 4, 2) := by decide +kernel
theorem dX0_howManyLeft_11 : decode cX0_howManyLeft 11 = .ok (.iload 4, 2) := by decide +kernel
theorem dX0_howManyLeft_13 : decode cX0_howManyLeft 13 = .ok (.aload_n 1, 1) := by decide +kernel
theorem dX0_howManyLeft_14 : decode cX0_howManyLeft 14 = .ok (.invokevirtual 65, 3) := by decide +kernel
theorem dX0_howManyLeft_17 : decode cX0_howManyLeft 17 = .ok (.if_icmp .ge 27, 3) := by decide +kernel
theorem dX0_howManyLeft_20 : decode cX0_howManyLeft 20 = .ok (.aload_n 0, 1) := by decide +kernel
theorem dX0_howManyLeft_21 : decode cX0_howManyLeft 21 = .ok (.getfield 15, 3) := by decide +kernel
theorem dX0_howManyLeft_24 : decode cX0_howManyLeft 24 = .ok (.aload_n 1, 1) := by decide +kernel
theorem dX0_howManyLeft_25 : decode cX0_howManyLeft 25 = .ok (.iload 4, 2) := by decide +kernel
theorem dX0_howManyLeft_27 : decode cX0_howManyLeft 27 = .ok (.invokevirtual 68, 3) := by decide +kernel
theorem dX0_howManyLeft_30 : decode cX0_howManyLeft 30 = .ok (.iaload, 1) := by decide +kernel
theorem dX0_howManyLeft_31 : decode cX0_howManyLeft 31 = .ok (.iload_n 2, 1) := by decide +kernel
theorem dX0_howManyLeft_32 : decode cX0_howManyLeft 32 = .ok (.if_icmp .lt 6, 3) := by decide +kernel
theorem dX0_howManyLeft_35 : decode cX0_howManyLeft 35 = .ok (.iinc 3 1, 3) := by decide +kernel
theorem dX0_howManyLeft_38 : decode cX0_howManyLeft 38 = .ok (.iinc 4 1, 3) := by decide +kernel
theorem dX0_howManyLeft_41 : decode cX0_howManyLeft 41 = .ok (.goto (-30), 3) := by decide +kernel
theorem dX0_howManyLeft_44 : decode cX0_howManyLeft 44 = .ok (.iload_n 3, 1) := by decide +kernel
theorem dX0_howManyLeft_45 : decode cX0_howManyLeft 45 = .ok (.ireturn, 1) := by decide +kernel
theorem dX0_nextOf_0 : decode cX0_nextOf 0 = .ok (.aload_n 0, 1) := by decide +kernel
theorem dX0_nextOf_1 : decode cX0_nextOf 1 = .ok (.aload_n 1, 1) := by decide +kernel
theorem dX0_nextOf_2 : decode cX0_nextOf 2 = .ok (.invokevirtual 61, 3) := by decide +kernel
theorem dX0_nextOf_5 : decode cX0_nextOf 5 = .ok (.istore_n 2, 1) := by decide +kernel
theorem dX0_nextOf_6 : decode cX0_nextOf 6 = .ok (.bipush (-4), 2) := by decide +kernel
theorem dX0_nextOf_8 : decode cX0_nextOf 8 = .ok (.istore_n 3, 1) := by decide +kernel
theorem dX0_nextOf_9 : decode cX0_nextOf 9 = .ok (.iconst 0, 1) := by decide +kernel
theorem dX0_nextOf_10 : decode cX0_nextOf 10 = .ok (.istore 4, 2) := by decide +kernel
theorem dX0_nextOf_12 : decode cX0_nextOf 12 = .ok (.iload 4, 2) := by decide +kernel
theorem dX0_nextOf_14 : decode cX0_nextOf 14 = .ok (.aload_n 1, 1) := by decide +kernel
theorem dX0_nextOf_15 : decode cX0_nextOf 15 = .ok (.invokevirtual 65, 3) := by decide +kernel
theorem dX0_nextOf_18 : decode cX0_nextOf 18 = .ok (.if_icmp .ge 53, 3) := by decide +kernel
theorem dX0_nextOf_21 : decode cX0_nextOf 21 = .ok (.aload_n 1, 1) := by decide +kernel
theorem dX0_nextOf_22 : decode cX0_nextOf 22 = .ok (.iload 4, 2) := by decide +kernel
theorem dX0_nextOf_24 : decode cX0_nextOf 24 = .ok (.invokevirtual 68, 3) := by decide +kernel
theorem dX0_nextOf_27 : decode cX0_nextOf 27 = .ok (.istore 5, 2) := by decide +kernel
theorem dX0_nextOf_29 : decode cX0_nextOf 29 = .ok (.aload_n 0, 1) := by decide +kernel
theorem dX0_nextOf_30 : decode cX0_nextOf 30 = .ok (.getfield 15, 3) := by decide +kernel
theorem dX0_nextOf_33 : decode cX0_nextOf 33 = .ok (.iload 5, 2) := by decide +kernel
theorem dX0_nextOf_35 : decode cX0_nextOf 35 = .ok (.iaload, 1) := by decide +kernel
theorem dX0_nextOf_36 : decode cX0_nextOf 36 = .ok (.iload_n 2, 1) := by decide +kernel
theorem dX0_nextOf_37 : decode cX0_nextOf 37 = .ok (.if_icmp .lt 28, 3) := by decide +kernel
theorem dX0_nextOf_40 : decode cX0_nextOf 40 = .ok (.iload_n 3, 1) := by decide +kernel
theorem dX0_nextOf_41 : decode cX0_nextOf 41 = .ok (.bipush (-4), 2) := by decide +kernel
theorem dX0_nextOf_43 : decode cX0_nextOf 43 = .ok (.if_icmp .eq 19, 3) := by decide +kernel
theorem dX0_nextOf_46 : decode cX0_nextOf 46 = .ok (.aload_n 0, 1) := by decide +kernel
theorem dX0_nextOf_47 : decode cX0_nextOf 47 = .ok (.getfield 15, 3) := by decide +kernel
theorem dX0_nextOf_50 : decode cX0_nextOf 50 = .ok (.iload 5, 2) := by decide +kernel
theorem dX0_nextOf_52 : decode cX0_nextOf 52 = .ok (.iaload, 1) := by decide +kernel
theorem dX0_nextOf_53 : decode cX0_nextOf 53 = .ok (.aload_n 0, 1) := by decide +kernel
theorem dX0_nextOf_54 : decode cX0_nextOf 54 = .ok (.getfield 15, 3) := by decide +kernel
theorem dX0_nextOf_57 : decode cX0_nextOf 57 = .ok (.iload_n 3, 1) := by decide +kernel
theorem dX0_nextOf_58 : decode cX0_nextOf 58 = .ok (.iaload, 1) := by decide +kernel
theorem dX0_nextOf_59 : decode cX0_nextOf 59 = .ok (.if_icmp .le 6, 3) := by decide +kernel
theorem dX0_nextOf_62 : decode cX0_nextOf 62 = .ok (.iload 5, 2) := by decide +kernel
theorem dX0_nextOf_64 : decode cX0_nextOf 64 = .ok (.istore_n 3, 1) := by decide +kernel
theorem dX0_nextOf_65 : decode cX0_nextOf 65 = .ok (.iinc 4 1, 3) := by decide +kernel
theorem dX0_nextOf_68 : decode cX0_nextOf 68 = .ok (.goto (-56), 3) := by decide +kernel
theorem dX0_nextOf_71 : decode cX0_nextOf 71 = .ok (.iload_n 3, 1) := by decide +kernel
theorem dX0_nextOf_72 : decode cX0_nextOf 72 = .ok (.ireturn, 1) := by decide +kernel
theorem dX0_greatestFloor_0 : decode cX0_greatestFloor 0 = .ok (.ldc 28, 2) := by decide +kernel
theorem dX0_greatestFloor_2 : decode cX0_greatestFloor 2 = .ok (.istore_n 2, 1) := by decide +kernel
theorem dX0_greatestFloor_3 : decode cX0_greatestFloor 3 = .ok (.iconst 0, 1) := by decide +kernel
theorem dX0_greatestFloor_4 : decode cX0_greatestFloor 4 = .ok (.istore_n 3, 1) := by decide +kernel
theorem dX0_greatestFloor_5 : decode cX0_greatestFloor 5 = .ok (.iload_n 3, 1) := by decide +kernel
theorem dX0_greatestFloor_6 : decode cX0_greatestFloor 6 = .ok (.aload_n 1, 1) := by decide +kernel
theorem dX0_greatestFloor_7 : decode cX0_greatestFloor 7 = .ok (.invokevirtual 65, 3) := by decide +kernel
theorem dX0_greatestFloor_10 : decode cX0_greatestFloor 10 = .ok (.if_icmp .ge 24, 3) := by decide +kernel
theorem dX0_greatestFloor_13 : decode cX0_greatestFloor 13 = .ok (.iload_n 2, 1) := by decide +kernel
theorem dX0_greatestFloor_14 : decode cX0_greatestFloor 14 = .ok (.aload_n 0, 1) := by decide +kernel
theorem dX0_greatestFloor_15 : decode cX0_greatestFloor 15 = .ok (.getfield 9, 3) := by decide +kernel
theorem dX0_greatestFloor_18 : decode cX0_greatestFloor 18 = .ok (.aload_n 1, 1) := by decide +kernel
theorem dX0_greatestFloor_19 : decode cX0_greatestFloor 19 = .ok (.iload_n 3, 1) := by decide +kernel
theorem dX0_greatestFloor_20 : decode cX0_greatestFloor 20 = .ok (.invokevirtual 68, 3) := by decide +kernel
theorem dX0_greatestFloor_23 : decode cX0_greatestFloor 23 = .ok (.iaload, 1) := by decide +kernel
theorem dX0_greatestFloor_24 : decode cX0_greatestFloor 24 = .ok (.invokestatic 53, 3) := by decide +kernel
theorem dX0_greatestFloor_27 : decode cX0_greatestFloor 27 = .ok (.istore_n 2, 1) := by decide +kernel
theorem dX0_greatestFloor_28 : decode cX0_greatestFloor 28 = .ok (.iinc 3 1, 3) := by decide +kernel
theorem dX0_greatestFloor_31 : decode cX0_greatestFloor 31 = .ok (.goto (-26), 3) := by decide +kernel
theorem dX0_greatestFloor_34 : decode cX0_greatestFloor 34 = .ok (.iload_n 2, 1) := by decide +kernel
theorem dX0_greatestFloor_35 : decode cX0_greatestFloor 35 = .ok (.ireturn, 1) := by decide +kernel
theorem dX1_init_0 : decode cX1_init 0 = .ok (.aload_n 0, 1) := by decide +kernel
theorem dX1_init_1 : decode cX1_init 1 = .ok (.invokespecial 3, 3) := by decide +kernel
theorem dX1_init_4 : decode cX1_init 4 = .ok (.aload_n 0, 1) := by decide +kernel
theorem dX1_init_5 : decode cX1_init 5 = .ok (.iconst 0, 1) := by decide +kernel
theorem dX1_init_6 : decode cX1_init 6 = .ok (.putfield 9, 3) := by decide +kernel
theorem dX1_init_9 : decode cX1_init 9 = .ok (.aload_n 0, 1) := by decide +kernel
theorem dX1_init_10 : decode cX1_init 10 = .ok (.bipush 24, 2) := by decide +kernel
theorem dX1_init_12 : decode cX1_init 12 = .ok (.newarray .int, 2) := by decide +kernel
theorem dX1_init_14 : decode cX1_init 14 = .ok (.putfield 15, 3) := by decide +kernel
theorem dX1_init_17 : decode cX1_init 17 = .ok (.aload_n 0, 1) := by decide +kernel
theorem dX1_init_18 : decode cX1_init 18 = .ok (.sipush 576, 3) := by decide +kernel
theorem dX1_init_21 : decode cX1_init 21 = .ok (.newarray .int, 2) := by decide +kernel
theorem dX1_init_23 : decode cX1_init 23 = .ok (.putfield 19, 3) := by decide +kernel
theorem dX1_init_26 : decode cX1_init 26 = .ok (.aload_n 0, 1) := by decide +kernel
theorem dX1_init_27 : decode cX1_init 27 = .ok (.bipush 6, 2) := by decide +kernel
theorem dX1_init_29 : decode cX1_init 29 = .ok (.newarray .int, 2) := by decide +kernel
theorem dX1_init_31 : decode cX1_init 31 = .ok (.putfield 22, 3) := by decide +kernel
theorem dX1_init_34 : decode cX1_init 34 = .ok (.return_, 1) := by decide +kernel
theorem dX1_changeBase_0 : decode cX1_changeBase 0 = .ok (.aload_n 0, 1) := by decide +kernel
theorem dX1_changeBase_1 : decode cX1_changeBase 1 = .ok (.getfield 9, 3) := by decide +kernel
theorem dX1_changeBase_4 : decode cX1_changeBase 4 = .ok (.istore_n 2, 1) := by decide +kernel
theorem dX1_changeBase_5 : decode cX1_changeBase 5 = .ok (.aload_n 0, 1) := by decide +kernel
theorem dX1_changeBase_6 : decode cX1_changeBase 6 = .ok (.iload_n 1, 1) := by decide +kernel
theorem dX1_changeBase_7 : decode cX1_changeBase 7 = .ok (.putfield 9, 3) := by decide +kernel
theorem dX1_changeBase_10 : decode cX1_changeBase 10 = .ok (.iload_n 2, 1) := by decide +kernel
theorem dX1_changeBase_11 : decode cX1_changeBase 11 = .ok (.ireturn, 1) := by decide +kernel
theorem dX1_changeSingle_0 : decode cX1_changeSingle 0 = .ok (.iload_n 1, 1) := by decide +kernel
theorem dX1_changeSingle_1 : decode cX1_changeSingle 1 = .ok (.iload_n 2, 1) := by decide +kernel
theorem dX1_changeSingle_2 : decode cX1_changeSingle 2 = .ok (.invokestatic 25, 3) := by decide +kernel
theorem dX1_changeSingle_5 : decode cX1_changeSingle 5 = .ok (.istore 4, 2) := by decide +kernel
theorem dX1_changeSingle_7 : decode cX1_changeSingle 7 = .ok (.aload_n 0, 1) := by decide +kernel
theorem dX1_changeSingle_8 : decode cX1_changeSingle 8 = .ok (.getfield 15, 3) := by decide +kernel
theorem dX1_changeSingle_11 : decode cX1_changeSingle 11 = .ok (.iload 4, 2) := by decide +kernel
theorem dX1_changeSingle_13 : decode cX1_changeSingle 13 = .ok (.iaload, 1) := by decide +kernel
theorem dX1_changeSingle_14 : decode cX1_changeSingle 14 = .ok (.istore 5, 2) := by decide +kernel
theorem dX1_changeSingle_16 : decode cX1_changeSingle 16 = .ok (.aload_n 0, 1) := by decide +kernel
theorem dX1_changeSingle_17 : decode cX1_changeSingle 17 = .ok (.getfield 15, 3) := by decide +kernel
theorem dX1_changeSingle_20 : decode cX1_changeSingle 20 = .ok (.iload 4, 2) := by decide +kernel
theorem dX1_changeSingle_22 : decode cX1_changeSingle 22 = .ok (.iload_n 3, 1) := by decide +kernel
theorem dX1_changeSingle_23 : decode cX1_changeSingle 23 = .ok (.iastore, 1) := by decide +kernel
theorem dX1_changeSingle_24 : decode cX1_changeSingle 24 = .ok (.iload 5, 2) := by decide +kernel
theorem dX1_changeSingle_26 : decode cX1_changeSingle 26 = .ok (.ireturn, 1) := by decide +kernel
theorem dX1_changeJoint_0 : decode cX1_changeJoint 0 = .ok (.iload_n 1, 1) := by decide +kernel
theorem dX1_changeJoint_1 : decode cX1_changeJoint 1 = .ok (.iload_n 2, 1) := by decide +kernel
theorem dX1_changeJoint_2 : decode cX1_changeJoint 2 = .ok (.invokestatic 25, 3) := by decide +kernel
theorem dX1_changeJoint_5 : decode cX1_changeJoint 5 = .ok (.bipush 24, 2) := by decide +kernel
theorem dX1_changeJoint_7 : decode cX1_changeJoint 7 = .ok (.imul, 1) := by decide +kernel
theorem dX1_changeJoint_8 : decode cX1_changeJoint 8 = .ok (.iload_n 3, 1) := by decide +kernel
theorem dX1_changeJoint_9 : decode cX1_changeJoint 9 = .ok (.iload 4, 2) := by decide +kernel
theorem dX1_changeJoint_11 : decode cX1_changeJoint 11 = .ok (.invokestatic 25, 3) := by decide +kernel
theorem dX1_changeJoint_14 : decode cX1_changeJoint 14 = .ok (.iadd, 1) := by decide +kernel
theorem dX1_changeJoint_15 : decode cX1_changeJoint 15 = .ok (.istore 6, 2) := by decide +kernel
theorem dX1_changeJoint_17 : decode cX1_changeJoint 17 = .ok (.aload_n 0, 1) := by decide +kernel
theorem dX1_changeJoint_18 : decode cX1_changeJoint 18 = .ok (.getfield 19, 3) := by decide +kernel
theorem dX1_changeJoint_21 : decode cX1_changeJoint 21 = .ok (.iload 6, 2) := by decide +kernel
theorem dX1_changeJoint_23 : decode cX1_changeJoint 23 = .ok (.iaload, 1) := by decide +kernel
theorem dX1_changeJoint_24 : decode cX1_changeJoint 24 = .ok (.istore 7, 2) := by decide +kernel
theorem dX1_changeJoint_26 : decode cX1_changeJoint 26 = .ok (.aload_n 0, 1) := by decide +kernel
theorem dX1_changeJoint_27 : decode cX1_changeJoint 27 = .ok (.getfield 19, 3) := by decide +kernel
theorem dX1_changeJoint_30 : decode cX1_changeJoint 30 = .ok (.iload 6, 2) := by decide +kernel
theorem dX1_changeJoint_32 : decode cX1_changeJoint 32 = .ok (.iload 5, 2) := by decide +kernel
theorem dX1_changeJoint_34 : decode cX1_changeJoint 34 = .ok (.iastore, 1) := by decide +kernel
theorem dX1_changeJoint_35 : decode cX1_changeJoint 35 = .ok (.iload 7, 2) := by decide +kernel
theorem dX1_changeJoint_37 : decode cX1_changeJoint 37 = .ok (.ireturn, 1) := by decide +kernel
theorem dX1_sumFor_0 : decode cX1_sumFor 0 = .ok (.aload_n 0, 1) := by decide +kernel
theorem dX1_sumFor_1 : decode cX1_sumFor 1 = .ok (.getfield 9, 3) := by decide +kernel
theorem dX1_sumFor_4 : decode cX1_sumFor 4 = .ok (.istore_n 3, 1) := by decide +kernel
theorem dX1_sumFor_5 : decode cX1_sumFor 5 = .ok (.iconst 0, 1) := by decide +kernel
theorem dX1_sumFor_6 : decode cX1_sumFor 6 = .ok (.istore 4, 2) := by decide +kernel
theorem dX1_sumFor_8 : decode cX1_sumFor 8 = .ok (.iload 4, 2) := by decide +kernel
theorem dX1_sumFor_10 : decode cX1_sumFor 10 = .ok (.aload_n 2, 1) := by decide +kernel
theorem dX1_sumFor_11 : decode cX1_sumFor 11 = .ok (.invokevirtual 31, 3) := by decide +kernel
theorem dX1_sumFor_14 : decode cX1_sumFor 14 = .ok (.if_icmp .ge 85, 3) := by decide +kernel
theorem dX1_sumFor_17 : decode cX1_sumFor 17 = .ok (.aload_n 0, 1) := by decide +kernel
theorem dX1_sumFor_18 : decode cX1_sumFor 18 = .ok (.getfield 22, 3) := by decide +kernel
theorem dX1_sumFor_21 : decode cX1_sumFor 21 = .ok (.iload 4, 2) := by decide +kernel
theorem dX1_sumFor_23 : decode cX1_sumFor 23 = .ok (.iload 4, 2) := by decide +kernel
theorem dX1_sumFor_25 : decode cX1_sumFor 25 = .ok (.aload_n 2, 1) := by decide +kernel
theorem dX1_sumFor_26 : decode cX1_sumFor 26 = .ok (.iload_n 1, 1) := by decide +kernel
theorem dX1_sumFor_27 : decode cX1_sumFor 27 = .ok (.iload 4, 2) := by decide +kernel
theorem dX1_sumFor_29 : decode cX1_sumFor 29 = .ok (.invokevirtual 35, 3) := by decide +kernel
theorem dX1_sumFor_32 : decode cX1_sumFor 32 = .ok (.invokestatic 25, 3) := by decide +kernel
theorem dX1_sumFor_35 : decode cX1_sumFor 35 = .ok (.iastore, 1) := by decide +kernel
theorem dX1_sumFor_36 : decode cX1_sumFor 36 = .ok (.iload_n 3, 1) := by decide +kernel
theorem dX1_sumFor_37 : decode cX1_sumFor 37 = .ok (.aload_n 0, 1) := by decide +kernel
theorem dX1_sumFor_38 : decode cX1_sumFor 38 = .ok (.getfield 15, 3) := by decide +kernel
theorem dX1_sumFor_41 : decode cX1_sumFor 41 = .ok (.aload_n 0, 1) := by decide +kernel
theorem dX1_sumFor_42 : decode cX1_sumFor 42 = .ok (.getfield 22, 3) := by decide +kernel
theorem dX1_sumFor_45 : decode cX1_sumFor 45 = .ok (.iload 4, 2) := by decide +kernel
theorem dX1_sumFor_47 : decode cX1_sumFor 47 = .ok (.iaload, 1) := by decide +kernel
theorem dX1_sumFor_48 : decode cX1_sumFor 48 = .ok (.iaload, 1) := by decide +kernel
theorem dX1_sumFor_49 : decode cX1_sumFor 49 = .ok (.iadd, 1) := by decide +kernel
theorem dX1_sumFor_50 : decode cX1_sumFor 50 = .ok (.istore_n 3, 1) := by decide +kernel
theorem dX1_sumFor_51 : decode cX1_sumFor 51 = .ok (.iconst 0, 1) := by decide +kernel
theorem dX1_sumFor_52 : decode cX1_sumFor 52 = .ok (.istore 5, 2) := by decide +kernel
theorem dX1_sumFor_54 : decode cX1_sumFor 54 = .ok (.iload 5, 2) := by decide +kernel
theorem dX1_sumFor_56 : decode cX1_sumFor 56 = .ok (.iload 4, 2) := by decide +kernel
theorem dX1_sumFor_58 : decode cX1_sumFor 58 = .ok (.if_icmp .ge 35, 3) := by decide +kernel
theorem dX1_sumFor_61 : decode cX1_sumFor 61 = .ok (.iload_n 3, 1) := by decide +kernel
theorem dX1_sumFor_62 : decode cX1_sumFor 62 = .ok (.aload_n 0, 1) := by decide +kernel
theorem dX1_sumFor_63 : decode cX1_sumFor 63 = .ok (.getfield 19, 3) := by decide +kernel
theorem dX1_sumFor_66 : decode cX1_sumFor 66 = .ok (.aload_n 0, 1) := by decide +kernel
theorem dX1_sumFor_67 : decode cX1_sumFor 67 = .ok (.getfield 22, 3) := by decide +kernel
theorem dX1_sumFor_70 : decode cX1_sumFor 70 = .ok (.iload 5, 2) := by decide +kernel
theorem dX1_sumFor_72 : decode cX1_sumFor 72 = .ok (.iaload, 1) := by decide +kernel
theorem dX1_sumFor_73 : decode cX1_sumFor 73 = .ok (.bipush 24, 2) := by decide +kernel
theorem dX1_sumFor_75 : decode cX1_sumFor 75 = .ok (.imul, 1) := by decide +kernel
theorem dX1_sumFor_76 : decode cX1_sumFor 76 = .ok (.aload_n 0, 1) := by decide +kernel
theorem dX1_sumFor_77 : decode cX1_sumFor 77 = .ok (.getfield 22, 3) := by decide +kernel
theorem dX1_sumFor_80 : decode cX1_sumFor 80 = .ok (.iload 4, 2) := by decide +kernel
theorem dX1_sumFor_82 : decode cX1_sumFor 82 = .ok (.iaload, 1) := by decide +kernel
theorem dX1_sumFor_83 : decode cX1_sumFor 83 = .ok (.iadd, 1) := by decide +kernel
theorem dX1_sumFor_84 : decode cX1_sumFor 84 = .ok (.iaload, 1) := by decide +kernel
theorem dX1_sumFor_85 : decode cX1_sumFor 85 = .ok (.iadd, 1) := by decide +kernel
theorem dX1_sumFor_86 : decode cX1_sumFor 86 = .ok (.istore_n 3, 1) := by decide +kernel
theorem dX1_sumFor_87 : decode cX1_sumFor 87 = .ok (.iinc 5 1, 3) := by decide +kernel
theorem dX1_sumFor_90 : decode cX1_sumFor 90 = .ok (.goto (-36), 3) := by decide +kernel
theorem dX1_sumFor_93 : decode cX1_sumFor 93 = .ok (.iinc 4 1, 3) := by decide +kernel
theorem dX1_sumFor_96 : decode cX1_sumFor 96 = .ok (.goto (-88), 3) := by decide +kernel
theorem dX1_sumFor_99 : decode cX1_sumFor 99 = .ok (.iload_n 3, 1) := by decide +kernel
theorem dX1_sumFor_100 : decode cX1_sumFor 100 = .ok (.ireturn, 1) := by decide +kernel
theorem dX2_init_0 : decode cX2_init 0 = .ok (.aload_n 0, 1) := by decide +kernel
theorem dX2_init_1 : decode cX2_init 1 = .ok (.invokespecial 3, 3) := by decide +kernel
theorem dX2_init_4 : decode cX2_init 4 = .ok (.aload_n 0, 1) := by decide +kernel
theorem dX2_init_5 : decode cX2_init 5 = .ok (.iconst 0, 1) := by decide +kernel
theorem dX2_init_6 : decode cX2_init 6 = .ok (.putfield 9, 3) := by decide +kernel
theorem dX2_init_9 : decode cX2_init 9 = .ok (.aload_n 0, 1) := by decide +kernel
theorem dX2_init_10 : decode cX2_init 10 = .ok (.iconst 1, 1) := by decide +kernel
theorem dX2_init_11 : decode cX2_init 11 = .ok (.putfield 15, 3) := by decide +kernel
theorem dX2_init_14 : decode cX2_init 14 = .ok (.aload_n 0, 1) := by decide +kernel
theorem dX2_init_15 : decode cX2_init 15 = .ok (.bipush 6, 2) := by decide +kernel
theorem dX2_init_17 : decode cX2_init 17 = .ok (.newarray .int, 2) := by decide +kernel
theorem dX2_init_19 : decode cX2_init 19 = .ok (.putfield 18, 3) := by decide +kernel
theorem dX2_init_22 : decode cX2_init 22 = .ok (.aload_n 0, 1) := by decide +kernel
theorem dX2_init_23 : decode cX2_init 23 = .ok (.bipush 6, 2) := by decide +kernel
theorem dX2_init_25 : decode cX2_init 25 = .ok (.newarray .int, 2) := by decide +kernel
theorem dX2_init_27 : decode cX2_init 27 = .ok (.putfield 22, 3) := by decide +kernel
theorem dX2_init_30 : decode cX2_init 30 = .ok (.aload_n 0, 1) := by decide +kernel
theorem dX2_init_31 : decode cX2_init 31 = .ok (.bipush 24, 2) := by decide +kernel
theorem dX2_init_33 : decode cX2_init 33 = .ok (.newarray .int, 2) := by decide +kernel
theorem dX2_init_35 : decode cX2_init 35 = .ok (.putfield 25, 3) := by decide +kernel
theorem dX2_init_38 : decode cX2_init 38 = .ok (.aload_n 0, 1) := by decide +kernel
theorem dX2_init_39 : decode cX2_init 39 = .ok (.bipush 6, 2) := by decide +kernel
theorem dX2_init_41 : decode cX2_init 41 = .ok (.newarray .int, 2) := by decide +kernel
theorem dX2_init_43 : decode cX2_init 43 = .ok (.putfield 28, 3) := by decide +kernel
theorem dX2_init_46 : decode cX2_init 46 = .ok (.aload_n 0, 1) := by decide +kernel
theorem dX2_init_47 : decode cX2_init 47 = .ok (.getfield 18, 3) := by decide +kernel
theorem dX2_init_50 : decode cX2_init 50 = .ok (.iconst 1, 1) := by decide +kernel
theorem dX2_init_51 : decode cX2_init 51 = .ok (.invokestatic 31, 3) := by decide +kernel
theorem dX2_init_54 : decode cX2_init 54 = .ok (.aload_n 0, 1) := by decide +kernel
theorem dX2_init_55 : decode cX2_init 55 = .ok (.getfield 22, 3) := by decide +kernel
theorem dX2_init_58 : decode cX2_init 58 = .ok (.iconst 1, 1) := by decide +kernel
theorem dX2_init_59 : decode cX2_init 59 = .ok (.invokestatic 31, 3) := by decide +kernel
theorem dX2_init_62 : decode cX2_init 62 = .ok (.return_, 1) := by decide +kernel
theorem dX2_howMany_0 : decode cX2_howMany 0 = .ok (.aload_n 0, 1) := by decide +kernel
theorem dX2_howMany_1 : decode cX2_howMany 1 = .ok (.getfield 9, 3) := by decide +kernel
theorem dX2_howMany_4 : decode cX2_howMany 4 = .ok (.ireturn, 1) := by decide +kernel
theorem dX2_howManySettings_0 : decode cX2_howManySettings 0 = .ok (.aload_n 0, 1) := by decide +kernel
theorem dX2_howManySettings_1 : decode cX2_howManySettings 1 = .ok (.getfield 15, 3) := by decide +kernel
theorem dX2_howManySettings_4 : decode cX2_howManySettings 4 = .ok (.ireturn, 1) := by decide +kernel
theorem dX2_hasRoomFor_0 : decode cX2_hasRoomFor 0 = .ok (.aload_n 0, 1) := by decide +kernel
theorem dX2_hasRoomFor_1 : decode cX2_hasRoomFor 1 = .ok (.getfield 9, 3) := by decide +kernel
theorem dX2_hasRoomFor_4 : decode cX2_hasRoomFor 4 = .ok (.bipush 6, 2) := by decide +kernel
theorem dX2_hasRoomFor_6 : decode cX2_hasRoomFor 6 = .ok (.if_icmp .ge 19, 3) := by decide +kernel
theorem dX2_hasRoomFor_9 : decode cX2_hasRoomFor 9 = .ok (.aload_n 0, 1) := by decide +kernel
theorem dX2_hasRoomFor_10 : decode cX2_hasRoomFor 10 = .ok (.getfield 15, 3) := by decide +kernel
theorem dX2_hasRoomFor_13 : decode cX2_hasRoomFor 13 = .ok (.iload_n 1, 1) := by decide +kernel
theorem dX2_hasRoomFor_14 : decode cX2_hasRoomFor 14 = .ok (.imul, 1) := by decide +kernel
theorem dX2_hasRoomFor_15 : decode cX2_hasRoomFor 15 = .ok (.sipush 144, 3) := by decide +kernel
theorem dX2_hasRoomFor_18 : decode cX2_hasRoomFor 18 = .ok (.if_icmp .gt 7, 3) := by decide +kernel
theorem dX2_hasRoomFor_21 : decode cX2_hasRoomFor 21 = .ok (.iconst 1, 1) := by decide +kernel
theorem dX2_hasRoomFor_22 : decode cX2_hasRoomFor 22 = .ok (.goto 4, 3) := by decide +kernel
theorem dX2_hasRoomFor_25 : decode cX2_hasRoomFor 25 = .ok (.iconst 0, 1) := by decide +kernel
theorem dX2_hasRoomFor_26 : decode cX2_hasRoomFor 26 = .ok (.ireturn, 1) := by decide +kernel
theorem dX2_add_0 : decode cX2_add 0 = .ok (.aload_n 0, 1) := by decide +kernel
theorem dX2_add_1 : decode cX2_add 1 = .ok (.getfield 9, 3) := by decide +kernel
theorem dX2_add_4 : decode cX2_add 4 = .ok (.istore_n 2, 1) := by decide +kernel
theorem dX2_add_5 : decode cX2_add 5 = .ok (.aload_n 0, 1) := by decide +kernel
theorem dX2_add_6 : decode cX2_add 6 = .ok (.getfield 18, 3) := by decide +kernel
theorem dX2_add_9 : decode cX2_add 9 = .ok (.iload_n 2, 1) := by decide +kernel
theorem dX2_add_10 : decode cX2_add 10 = .ok (.iload_n 1, 1) := by decide +kernel
theorem dX2_add_11 : decode cX2_add 11 = .ok (.iastore, 1) := by decide +kernel
theorem dX2_add_12 : decode cX2_add 12 = .ok (.aload_n 0, 1) := by decide +kernel
theorem dX2_add_13 : decode cX2_add 13 = .ok (.getfield 22, 3) := by decide +kernel
theorem dX2_add_16 : decode cX2_add 16 = .ok (.iload_n 2, 1) := by decide +kernel
theorem dX2_add_17 : decode cX2_add 17 = .ok (.aload_n 0, 1) := by decide +kernel
theorem dX2_add_18 : decode cX2_add 18 = .ok (.getfield 15, 3) := by decide +kernel
theorem dX2_add_21 : decode cX2_add 21 = .ok (.iastore, 1) := by decide +kernel
theorem dX2_add_22 : decode cX2_add 22 = .ok (.iconst 0, 1) := by decide +kernel
theorem dX2_add_23 : decode cX2_add 23 = .ok (.istore_n 3, 1) := by decide +kernel
theorem dX2_add_24 : decode cX2_add 24 = .ok (.iload_n 3, 1) := by decide +kernel
theorem dX2_add_25 : decode cX2_add 25 = .ok (.iload_n 1, 1) := by decide +kernel
theorem dX2_add_26 : decode cX2_add 26 = .ok (.if_icmp .ge 20, 3) := by decide +kernel
theorem dX2_add_29 : decode cX2_add 29 = .ok (.aload_n 0, 1) := by decide +kernel
theorem dX2_add_30 : decode cX2_add 30 = .ok (.getfield 25, 3) := by decide +kernel
theorem dX2_add_33 : decode cX2_add 33 = .ok (.iload_n 2, 1) := by decide +kernel
theorem dX2_add_34 : decode cX2_add 34 = .ok (.iload_n 3, 1) := by decide +kernel
theorem dX2_add_35 : decode cX2_add 35 = .ok (.invokestatic 37, 3) := by decide +kernel
theorem dX2_add_38 : decode cX2_add 38 = .ok (.iload_n 3, 1) := by decide +kernel
theorem dX2_add_39 : decode cX2_add 39 = .ok (.iastore, 1) := by decide +kernel
theorem dX2_add_40 : decode cX2_add 40 = .ok (.iinc 3 1, 3) := by decide +kernel
theorem dX2_add_43 : decode cX2_add 43 = .ok (.goto (-19), 3) := by decide +kernel
theorem dX2_add_46 : decode cX2_add 46 = .ok (.aload_n 0, 1) := by decide +kernel
theorem dX2_add_47 : decode cX2_add 47 = .ok (.dup, 1) := by decide +kernel
theorem dX2_add_48 : decode cX2_add 48 = .ok (.getfield 15, 3) := by decide +kernel
theorem dX2_add_51 : decode cX2_add 51 = .ok (.iload_n 1, 1) := by decide +kernel
theorem dX2_add_52 : decode cX2_add 52 = .ok (.imul, 1) := by decide +kernel
theorem dX2_add_53 : decode cX2_add 53 = .ok (.putfield 15, 3) := by decide +kernel
theorem dX2_add_56 : decode cX2_add 56 = .ok (.aload_n 0, 1) := by decide +kernel
theorem dX2_add_57 : decode cX2_add 57 = .ok (.dup, 1) := by decide +kernel
theorem dX2_add_58 : decode cX2_add 58 = .ok (.getfield 9, 3) := by decide +kernel
theorem dX2_add_61 : decode cX2_add 61 = .ok (.iconst 1, 1) := by decide +kernel
theorem dX2_add_62 : decode cX2_add 62 = .ok (.iadd, 1) := by decide +kernel
theorem dX2_add_63 : decode cX2_add 63 = .ok (.putfield 9, 3) := by decide +kernel
theorem dX2_add_66 : decode cX2_add 66 = .ok (.iload_n 2, 1) := by decide +kernel
theorem dX2_add_67 : decode cX2_add 67 = .ok (.ireturn, 1) := by decide +kernel
theorem dX2_hasKnob_0 : decode cX2_hasKnob 0 = .ok (.iload_n 1, 1) := by decide +kernel
theorem dX2_hasKnob_1 : decode cX2_hasKnob 1 = .ok (.ifCond .lt 15, 3) := by decide +kernel
theorem dX2_hasKnob_4 : decode cX2_hasKnob 4 = .ok (.iload_n 1, 1) := by decide +kernel
theorem dX2_hasKnob_5 : decode cX2_hasKnob 5 = .ok (.aload_n 0, 1) := by decide +kernel
theorem dX2_hasKnob_6 : decode cX2_hasKnob 6 = .ok (.getfield 9, 3) := by decide +kernel
theorem dX2_hasKnob_9 : decode cX2_hasKnob 9 = .ok (.if_icmp .ge 7, 3) := by decide +kernel
theorem dX2_hasKnob_12 : decode cX2_hasKnob 12 = .ok (.iconst 1, 1) := by decide +kernel
theorem dX2_hasKnob_13 : decode cX2_hasKnob 13 = .ok (.goto 4, 3) := by decide +kernel
theorem dX2_hasKnob_16 : decode cX2_hasKnob 16 = .ok (.iconst 0, 1) := by decide +kernel
theorem dX2_hasKnob_17 : decode cX2_hasKnob 17 = .ok (.ireturn, 1) := by decide +kernel
theorem dX2_hasValue_0 : decode cX2_hasValue 0 = .ok (.aload_n 0, 1) := by decide +kernel
theorem dX2_hasValue_1 : decode cX2_hasValue 1 = .ok (.iload_n 1, 1) := by decide +kernel
theorem dX2_hasValue_2 : decode cX2_hasValue 2 = .ok (.invokevirtual 41, 3) := by decide +kernel
theorem dX2_hasValue_5 : decode cX2_hasValue 5 = .ok (.ifCond .eq 21, 3) := by decide +kernel
theorem dX2_hasValue_8 : decode cX2_hasValue 8 = .ok (.iload_n 2, 1) := by decide +kernel
theorem dX2_hasValue_9 : decode cX2_hasValue 9 = .ok (.ifCond .lt 17, 3) := by decide +kernel
theorem dX2_hasValue_12 : decode cX2_hasValue 12 = .ok (.iload_n 2, 1) := by decide +kernel
theorem dX2_hasValue_13 : decode cX2_hasValue 13 = .ok (.aload_n 0, 1) := by decide +kernel
theorem dX2_hasValue_14 : decode cX2_hasValue 14 = .ok (.getfield 18, 3) := by decide +kernel
theorem dX2_hasValue_17 : decode cX2_hasValue 17 = .ok (.iload_n 1, 1) := by decide +kernel
theorem dX2_hasValue_18 : decode cX2_hasValue 18 = .ok (.iaload, 1) := by decide +kernel
theorem dX2_hasValue_19 : decode cX2_hasValue 19 = .ok (.if_icmp .ge 7, 3) := by decide +kernel
theorem dX2_hasValue_22 : decode cX2_hasValue 22 = .ok (.iconst 1, 1) := by decide +kernel
theorem dX2_hasValue_23 : decode cX2_hasValue 23 = .ok (.goto 4, 3) := by decide +kernel
theorem dX2_hasValue_26 : decode cX2_hasValue 26 = .ok (.iconst 0, 1) := by decide +kernel
theorem dX2_hasValue_27 : decode cX2_hasValue 27 = .ok (.ireturn, 1) := by decide +kernel
theorem dX2_hasSetting_0 : decode cX2_hasSetting 0 = .ok (.iload_n 1, 1) := by decide +kernel
theorem dX2_hasSetting_1 : decode cX2_hasSetting 1 = .ok (.ifCond .lt 15, 3) := by decide +kernel
theorem dX2_hasSetting_4 : decode cX2_hasSetting 4 = .ok (.iload_n 1, 1) := by decide +kernel
theorem dX2_hasSetting_5 : decode cX2_hasSetting 5 = .ok (.aload_n 0, 1) := by decide +kernel
theorem dX2_hasSetting_6 : decode cX2_hasSetting 6 = .ok (.getfield 15, 3) := by decide +kernel
theorem dX2_hasSetting_9 : decode cX2_hasSetting 9 = .ok (.if_icmp .ge 7, 3) := by decide +kernel
theorem dX2_hasSetting_12 : decode cX2_hasSetting 12 = .ok (.iconst 1, 1) := by decide +kernel
theorem dX2_hasSetting_13 : decode cX2_hasSetting 13 = .ok (.goto 4, 3) := by decide +kernel
theorem dX2_hasSetting_16 : decode cX2_hasSetting 16 = .ok (.iconst 0, 1) := by decide +kernel
theorem dX2_hasSetting_17 : decode cX2_hasSetting 17 = .ok (.ireturn, 1) := by decide +kernel
theorem dX2_changePlace_0 : decode cX2_changePlace 0 = .ok (.aload_n 0, 1) := by decide +kernel
theorem dX2_changePlace_1 : decode cX2_changePlace 1 = .ok (.getfield 25, 3) := by decide +kernel
theorem dX2_changePlace_4 : decode cX2_changePlace 4 = .ok (.iload_n 1, 1) := by decide +kernel
theorem dX2_changePlace_5 : decode cX2_changePlace 5 = .ok (.iload_n 2, 1) := by decide +kernel
theorem dX2_changePlace_6 : decode cX2_changePlace 6 = .ok (.invokestatic 37, 3) := by decide +kernel
theorem dX2_changePlace_9 : decode cX2_changePlace 9 = .ok (.iaload, 1) := by decide +kernel
theorem dX2_changePlace_10 : decode cX2_changePlace 10 = .ok (.istore 4, 2) := by decide +kernel
theorem dX2_changePlace_12 : decode cX2_changePlace 12 = .ok (.aload_n 0, 1) := by decide +kernel
theorem dX2_changePlace_13 : decode cX2_changePlace 13 = .ok (.getfield 25, 3) := by decide +kernel
theorem dX2_changePlace_16 : decode cX2_changePlace 16 = .ok (.iload_n 1, 1) := by decide +kernel
theorem dX2_changePlace_17 : decode cX2_changePlace 17 = .ok (.iload_n 2, 1) := by decide +kernel
theorem dX2_changePlace_18 : decode cX2_changePlace 18 = .ok (.invokestatic 37, 3) := by decide +kernel
theorem dX2_changePlace_21 : decode cX2_changePlace 21 = .ok (.iload_n 3, 1) := by decide +kernel
theorem dX2_changePlace_22 : decode cX2_changePlace 22 = .ok (.iastore, 1) := by decide +kernel
theorem dX2_changePlace_23 : decode cX2_changePlace 23 = .ok (.iload 4, 2) := by decide +kernel
theorem dX2_changePlace_25 : decode cX2_changePlace 25 = .ok (.ireturn, 1) := by decide +kernel
theorem dX2_changeSteepness_0 : decode cX2_changeSteepness 0 = .ok (.aload_n 0, 1) := by decide +kernel
theorem dX2_changeSteepness_1 : decode cX2_changeSteepness 1 = .ok (.getfield 28, 3) := by decide +kernel
theorem dX2_changeSteepness_4 : decode cX2_changeSteepness 4 = .ok (.iload_n 1, 1) := by decide +kernel
theorem dX2_changeSteepness_5 : decode cX2_changeSteepness 5 = .ok (.iaload, 1) := by decide +kernel
theorem dX2_changeSteepness_6 : decode cX2_changeSteepness 6 = .ok (.istore_n 3, 1) := by decide +kernel
theorem dX2_changeSteepness_7 : decode cX2_changeSteepness 7 = .ok (.aload_n 0, 1) := by decide +kernel
theorem dX2_changeSteepness_8 : decode cX2_changeSteepness 8 = .ok (.getfield 28, 3) := by decide +kernel
theorem dX2_changeSteepness_11 : decode cX2_changeSteepness 11 = .ok (.iload_n 1, 1) := by decide +kernel
theorem dX2_changeSteepness_12 : decode cX2_changeSteepness 12 = .ok (.iload_n 2, 1) := by decide +kernel
theorem dX2_changeSteepness_13 : decode cX2_changeSteepness 13 = .ok (.iastore, 1) := by decide +kernel
theorem dX2_changeSteepness_14 : decode cX2_changeSteepness 14 = .ok (.iload_n 3, 1) := by decide +kernel
theorem dX2_changeSteepness_15 : decode cX2_changeSteepness 15 = .ok (.ireturn, 1) := by decide +kernel
theorem dX2_valueIn_0 : decode cX2_valueIn 0 = .ok (.iload_n 1, 1) := by decide +kernel
theorem dX2_valueIn_1 : decode cX2_valueIn 1 = .ok (.aload_n 0, 1) := by decide +kernel
theorem dX2_valueIn_2 : decode cX2_valueIn 2 = .ok (.getfield 22, 3) := by decide +kernel
theorem dX2_valueIn_5 : decode cX2_valueIn 5 = .ok (.iload_n 2, 1) := by decide +kernel
theorem dX2_valueIn_6 : decode cX2_valueIn 6 = .ok (.iaload, 1) := by decide +kernel
theorem dX2_valueIn_7 : decode cX2_valueIn 7 = .ok (.idiv, 1) := by decide +kernel
theorem dX2_valueIn_8 : decode cX2_valueIn 8 = .ok (.aload_n 0, 1) := by decide +kernel
theorem dX2_valueIn_9 : decode cX2_valueIn 9 = .ok (.getfield 18, 3) := by decide +kernel
theorem dX2_valueIn_12 : decode cX2_valueIn 12 = .ok (.iload_n 2, 1) := by decide +kernel
theorem dX2_valueIn_13 : decode cX2_valueIn 13 = .ok (.iaload, 1) := by decide +kernel
theorem dX2_valueIn_14 : decode cX2_valueIn 14 = .ok (.irem, 1) := by decide +kernel
theorem dX2_valueIn_15 : decode cX2_valueIn 15 = .ok (.ireturn, 1) := by decide +kernel
theorem dX2_moved_0 : decode cX2_moved 0 = .ok (.iload_n 1, 1) := by decide +kernel
theorem dX2_moved_1 : decode cX2_moved 1 = .ok (.iload_n 3, 1) := by decide +kernel
theorem dX2_moved_2 : decode cX2_moved 2 = .ok (.aload_n 0, 1) := by decide +kernel
theorem dX2_moved_3 : decode cX2_moved 3 = .ok (.iload_n 1, 1) := by decide +kernel
theorem dX2_moved_4 : decode cX2_moved 4 = .ok (.iload_n 2, 1) := by decide +kernel
theorem dX2_moved_5 : decode cX2_moved 5 = .ok (.invokevirtual 45, 3) := by decide +kernel
theorem dX2_moved_8 : decode cX2_moved 8 = .ok (.isub, 1) := by decide +kernel
theorem dX2_moved_9 : decode cX2_moved 9 = .ok (.aload_n 0, 1) := by decide +kernel
theorem dX2_moved_10 : decode cX2_moved 10 = .ok (.getfield 22, 3) := by decide +kernel
theorem dX2_moved_13 : decode cX2_moved 13 = .ok (.iload_n 2, 1) := by decide +kernel
theorem dX2_moved_14 : decode cX2_moved 14 = .ok (.iaload, 1) := by decide +kernel
theorem dX2_moved_15 : decode cX2_moved 15 = .ok (.imul, 1) := by decide +kernel
theorem dX2_moved_16 : decode cX2_moved 16 = .ok (.iadd, 1) := by decide +kernel
theorem dX2_moved_17 : decode cX2_moved 17 = .ok (.ireturn, 1) := by decide +kernel
theorem dX2_off_0 : decode cX2_off 0 = .ok (.iconst 0, 1) := by decide +kernel
theorem dX2_off_1 : decode cX2_off 1 = .ok (.istore_n 3, 1) := by decide +kernel
theorem dX2_off_2 : decode cX2_off 2 = .ok (.iconst 0, 1) := by decide +kernel
theorem dX2_off_3 : decode cX2_off 3 = .ok (.istore 4, 2) := by decide +kernel
theorem dX2_off_5 : decode cX2_off 5 = .ok (.iload 4, 2) := by decide +kernel
theorem dX2_off_7 : decode cX2_off 7 = .ok (.aload_n 0, 1) := by decide +kernel
theorem dX2_off_8 : decode cX2_off 8 = .ok (.getfield 9, 3) := by decide +kernel
theorem dX2_off_11 : decode cX2_off 11 = .ok (.if_icmp .ge 62, 3) := by decide +kernel
theorem dX2_off_14 : decode cX2_off 14 = .ok (.aload_n 0, 1) := by decide +kernel
theorem dX2_off_15 : decode cX2_off 15 = .ok (.getfield 25, 3) := by decide +kernel
theorem dX2_off_18 : decode cX2_off 18 = .ok (.iload 4, 2) := by decide +kernel
theorem dX2_off_20 : decode cX2_off 20 = .ok (.aload_n 0, 1) := by decide +kernel
theorem dX2_off_21 : decode cX2_off 21 = .ok (.iload_n 1, 1) := by decide +kernel
theorem dX2_off_22 : decode cX2_off 22 = .ok (.iload 4, 2) := by decide +kernel
theorem dX2_off_24 : decode cX2_off 24 = .ok (.invokevirtual 45, 3) := by decide +kernel
theorem dX2_off_27 : decode cX2_off 27 = .ok (.invokestatic 37, 3) := by decide +kernel
theorem dX2_off_30 : decode cX2_off 30 = .ok (.iaload, 1) := by decide +kernel
theorem dX2_off_31 : decode cX2_off 31 = .ok (.aload_n 0, 1) := by decide +kernel
theorem dX2_off_32 : decode cX2_off 32 = .ok (.getfield 25, 3) := by decide +kernel
theorem dX2_off_35 : decode cX2_off 35 = .ok (.iload 4, 2) := by decide +kernel
theorem dX2_off_37 : decode cX2_off 37 = .ok (.aload_n 0, 1) := by decide +kernel
theorem dX2_off_38 : decode cX2_off 38 = .ok (.iload_n 2, 1) := by decide +kernel
theorem dX2_off_39 : decode cX2_off 39 = .ok (.iload 4, 2) := by decide +kernel
theorem dX2_off_41 : decode cX2_off 41 = .ok (.invokevirtual 45, 3) := by decide +kernel
theorem dX2_off_44 : decode cX2_off 44 = .ok (.invokestatic 37, 3) := by decide +kernel
theorem dX2_off_47 : decode cX2_off 47 = .ok (.iaload, 1) := by decide +kernel
theorem dX2_off_48 : decode cX2_off 48 = .ok (.isub, 1) := by decide +kernel
theorem dX2_off_49 : decode cX2_off 49 = .ok (.istore 5, 2) := by decide +kernel
theorem dX2_off_51 : decode cX2_off 51 = .ok (.iload_n 3, 1) := by decide +kernel
theorem dX2_off_52 : decode cX2_off 52 = .ok (.iload 5, 2) := by decide +kernel
theorem dX2_off_54 : decode cX2_off 54 = .ok (.invokestatic 48, 3) := by decide +kernel
theorem dX2_off_57 : decode cX2_off 57 = .ok (.aload_n 0, 1) := by decide +kernel
theorem dX2_off_58 : decode cX2_off 58 = .ok (.getfield 28, 3) := by decide +kernel
theorem dX2_off_61 : decode cX2_off 61 = .ok (.iload 4, 2) := by decide +kernel
theorem dX2_off_63 : decode cX2_off 63 = .ok (.iaload, 1) := by decide +kernel
theorem dX2_off_64 : decode cX2_off 64 = .ok (.imul, 1) := by decide +kernel
theorem dX2_off_65 : decode cX2_off 65 = .ok (.iadd, 1) := by decide +kernel
theorem dX2_off_66 : decode cX2_off 66 = .ok (.istore_n 3, 1) := by decide +kernel
theorem dX2_off_67 : decode cX2_off 67 = .ok (.iinc 4 1, 3) := by decide +kernel
theorem dX2_off_70 : decode cX2_off 70 = .ok (.goto (-65), 3) := by decide +kernel
theorem dX2_off_73 : decode cX2_off 73 = .ok (.iload_n 3, 1) := by decide +kernel
theorem dX2_off_74 : decode cX2_off 74 = .ok (.ireturn, 1) := by decide +kernel
theorem dX2_slot_0 : decode cX2_slot 0 = .ok (.iload_n 0, 1) := by decide +kernel
theorem dX2_slot_1 : decode cX2_slot 1 = .ok (.iconst 4, 1) := by decide +kernel
theorem dX2_slot_2 : decode cX2_slot 2 = .ok (.imul, 1) := by decide +kernel
theorem dX2_slot_3 : decode cX2_slot 3 = .ok (.iload_n 1, 1) := by decide +kernel
theorem dX2_slot_4 : decode cX2_slot 4 = .ok (.iadd, 1) := by decide +kernel
theorem dX2_slot_5 : decode cX2_slot 5 = .ok (.ireturn, 1) := by decide +kernel
theorem dX3_init_0 : decode cX3_init 0 = .ok (.aload_n 0, 1) := by decide +kernel
theorem dX3_init_1 : decode cX3_init 1 = .ok (.invokespecial 3, 3) := by decide +kernel
theorem dX3_init_4 : decode cX3_init 4 = .ok (.aload_n 0, 1) := by decide +kernel
theorem dX3_init_5 : decode cX3_init 5 = .ok (.iconst 0, 1) := by decide +kernel
theorem dX3_init_6 : decode cX3_init 6 = .ok (.putfield 9, 3) := by decide +kernel
theorem dX3_init_9 : decode cX3_init 9 = .ok (.aload_n 0, 1) := by decide +kernel
theorem dX3_init_10 : decode cX3_init 10 = .ok (.sipush 144, 3) := by decide +kernel
theorem dX3_init_13 : decode cX3_init 13 = .ok (.newarray .int, 2) := by decide +kernel
theorem dX3_init_15 : decode cX3_init 15 = .ok (.putfield 15, 3) := by decide +kernel
theorem dX3_init_18 : decode cX3_init 18 = .ok (.aload_n 0, 1) := by decide +kernel
theorem dX3_init_19 : decode cX3_init 19 = .ok (.sipush 144, 3) := by decide +kernel
theorem dX3_init_22 : decode cX3_init 22 = .ok (.newarray .int, 2) := by decide +kernel
theorem dX3_init_24 : decode cX3_init 24 = .ok (.putfield 19, 3) := by decide +kernel
theorem dX3_init_27 : decode cX3_init 27 = .ok (.return_, 1) := by decide +kernel
theorem dX3_howMany_0 : decode cX3_howMany 0 = .ok (.aload_n 0, 1) := by decide +kernel
theorem dX3_howMany_1 : decode cX3_howMany 1 = .ok (.getfield 9, 3) := by decide +kernel
theorem dX3_howMany_4 : decode cX3_howMany 4 = .ok (.ireturn, 1) := by decide +kernel
theorem dX3_settingAt_0 : decode cX3_settingAt 0 = .ok (.aload_n 0, 1) := by decide +kernel
theorem dX3_settingAt_1 : decode cX3_settingAt 1 = .ok (.getfield 15, 3) := by decide +kernel
theorem dX3_settingAt_4 : decode cX3_settingAt 4 = .ok (.iload_n 1, 1) := by decide +kernel
theorem dX3_settingAt_5 : decode cX3_settingAt 5 = .ok (.iaload, 1) := by decide +kernel
theorem dX3_settingAt_6 : decode cX3_settingAt 6 = .ok (.ireturn, 1) := by decide +kernel
theorem dX3_worthAt_0 : decode cX3_worthAt 0 = .ok (.aload_n 0, 1) := by decide +kernel
theorem dX3_worthAt_1 : decode cX3_worthAt 1 = .ok (.getfield 19, 3) := by decide +kernel
theorem dX3_worthAt_4 : decode cX3_worthAt 4 = .ok (.iload_n 1, 1) := by decide +kernel
theorem dX3_worthAt_5 : decode cX3_worthAt 5 = .ok (.iaload, 1) := by decide +kernel
theorem dX3_worthAt_6 : decode cX3_worthAt 6 = .ok (.ireturn, 1) := by decide +kernel
theorem dX3_gather_0 : decode cX3_gather 0 = .ok (.aload_n 0, 1) := by decide +kernel
theorem dX3_gather_1 : decode cX3_gather 1 = .ok (.iconst 0, 1) := by decide +kernel
theorem dX3_gather_2 : decode cX3_gather 2 = .ok (.putfield 9, 3) := by decide +kernel
theorem dX3_gather_5 : decode cX3_gather 5 = .ok (.iconst 0, 1) := by decide +kernel
theorem dX3_gather_6 : decode cX3_gather 6 = .ok (.istore_n 3, 1) := by decide +kernel
theorem dX3_gather_7 : decode cX3_gather 7 = .ok (.iload_n 3, 1) := by decide +kernel
theorem dX3_gather_8 : decode cX3_gather 8 = .ok (.aload_n 1, 1) := by decide +kernel
theorem dX3_gather_9 : decode cX3_gather 9 = .ok (.invokevirtual 22, 3) := by decide +kernel
theorem dX3_gather_12 : decode cX3_gather 12 = .ok (.if_icmp .ge 38, 3) := by decide +kernel
theorem dX3_gather_15 : decode cX3_gather 15 = .ok (.aload_n 2, 1) := by decide +kernel
theorem dX3_gather_16 : decode cX3_gather 16 = .ok (.iload_n 3, 1) := by decide +kernel
theorem dX3_gather_17 : decode cX3_gather 17 = .ok (.aload_n 1, 1) := by decide +kernel
theorem dX3_gather_18 : decode cX3_gather 18 = .ok (.invokevirtual 28, 3) := by decide +kernel
theorem dX3_gather_21 : decode cX3_gather 21 = .ok (.ifCond .eq 23, 3) := by decide +kernel
theorem dX3_gather_24 : decode cX3_gather 24 = .ok (.aload_n 0, 1) := by decide +kernel
theorem dX3_gather_25 : decode cX3_gather 25 = .ok (.getfield 15, 3) := by decide +kernel
theorem dX3_gather_28 : decode cX3_gather 28 = .ok (.aload_n 0, 1) := by decide +kernel
theorem dX3_gather_29 : decode cX3_gather 29 = .ok (.getfield 9, 3) := by decide +kernel
theorem dX3_gather_32 : decode cX3_gather 32 = .ok (.iload_n 3, 1) := by decide +kernel
theorem dX3_gather_33 : decode cX3_gather 33 = .ok (.iastore, 1) := by decide +kernel
theorem dX3_gather_34 : decode cX3_gather 34 = .ok (.aload_n 0, 1) := by decide +kernel
theorem dX3_gather_35 : decode cX3_gather 35 = .ok (.dup, 1) := by decide +kernel
theorem dX3_gather_36 : decode cX3_gather 36 = .ok (.getfield 9, 3) := by decide +kernel
theorem dX3_gather_39 : decode cX3_gather 39 = .ok (.iconst 1, 1) := by decide +kernel
theorem dX3_gather_40 : decode cX3_gather 40 = .ok (.iadd, 1) := by decide +kernel
theorem dX3_gather_41 : decode cX3_gather 41 = .ok (.putfield 9, 3) := by decide +kernel
theorem dX3_gather_44 : decode cX3_gather 44 = .ok (.iinc 3 1, 3) := by decide +kernel
theorem dX3_gather_47 : decode cX3_gather 47 = .ok (.goto (-40), 3) := by decide +kernel
theorem dX3_gather_50 : decode cX3_gather 50 = .ok (.return_, 1) := by decide +kernel
theorem dX3_weigh_0 : decode cX3_weigh 0 = .ok (.iconst 0, 1) := by decide +kernel
theorem dX3_weigh_1 : decode cX3_weigh 1 = .ok (.istore_n 3, 1) := by decide +kernel
theorem dX3_weigh_2 : decode cX3_weigh 2 = .ok (.iload_n 3, 1) := by decide +kernel
theorem dX3_weigh_3 : decode cX3_weigh 3 = .ok (.aload_n 0, 1) := by decide +kernel
theorem dX3_weigh_4 : decode cX3_weigh 4 = .ok (.getfield 9, 3) := by decide +kernel
theorem dX3_weigh_7 : decode cX3_weigh 7 = .ok (.if_icmp .ge 26, 3) := by decide +kernel
theorem dX3_weigh_10 : decode cX3_weigh 10 = .ok (.aload_n 0, 1) := by decide +kernel
theorem dX3_weigh_11 : decode cX3_weigh 11 = .ok (.getfield 19, 3) := by decide +kernel
theorem dX3_weigh_14 : decode cX3_weigh 14 = .ok (.iload_n 3, 1) := by decide +kernel
theorem dX3_weigh_15 : decode cX3_weigh 15 = .ok (.aload_n 2, 1) := by decide +kernel
theorem dX3_weigh_16 : decode cX3_weigh 16 = .ok (.aload_n 0, 1) := by decide +kernel
theorem dX3_weigh_17 : decode cX3_weigh 17 = .ok (.getfield 15, 3) := by decide +kernel
theorem dX3_weigh_20 : decode cX3_weigh 20 = .ok (.iload_n 3, 1) := by decide +kernel
theorem dX3_weigh_21 : decode cX3_weigh 21 = .ok (.iaload, 1) := by decide +kernel
theorem dX3_weigh_22 : decode cX3_weigh 22 = .ok (.aload_n 1, 1) := by decide +kernel
theorem dX3_weigh_23 : decode cX3_weigh 23 = .ok (.invokevirtual 34, 3) := by decide +kernel
theorem dX3_weigh_26 : decode cX3_weigh 26 = .ok (.iastore, 1) := by decide +kernel
theorem dX3_weigh_27 : decode cX3_weigh 27 = .ok (.iinc 3 1, 3) := by decide +kernel
theorem dX3_weigh_30 : decode cX3_weigh 30 = .ok (.goto (-28), 3) := by decide +kernel
theorem dX3_weigh_33 : decode cX3_weigh 33 = .ok (.return_, 1) := by decide +kernel
theorem dX4_init_0 : decode cX4_init 0 = .ok (.aload_n 0, 1) := by decide +kernel
theorem dX4_init_1 : decode cX4_init 1 = .ok (.invokespecial 5, 3) := by decide +kernel
theorem dX4_init_4 : decode cX4_init 4 = .ok (.aload_n 0, 1) := by decide +kernel
theorem dX4_init_5 : decode cX4_init 5 = .ok (.iconst 0, 1) := by decide +kernel
theorem dX4_init_6 : decode cX4_init 6 = .ok (.putfield 11, 3) := by decide +kernel
theorem dX4_init_9 : decode cX4_init 9 = .ok (.aload_n 0, 1) := by decide +kernel
theorem dX4_init_10 : decode cX4_init 10 = .ok (.iconst 0, 1) := by decide +kernel
theorem dX4_init_11 : decode cX4_init 11 = .ok (.putfield 15, 3) := by decide +kernel
theorem dX4_init_14 : decode cX4_init 14 = .ok (.aload_n 0, 1) := by decide +kernel
theorem dX4_init_15 : decode cX4_init 15 = .ok (.iconst 0, 1) := by decide +kernel
theorem dX4_init_16 : decode cX4_init 16 = .ok (.putfield 18, 3) := by decide +kernel
theorem dX4_init_19 : decode cX4_init 19 = .ok (.aload_n 0, 1) := by decide +kernel
theorem dX4_init_20 : decode cX4_init 20 = .ok (.bipush 16, 2) := by decide +kernel
theorem dX4_init_22 : decode cX4_init 22 = .ok (.newarray .int, 2) := by decide +kernel
theorem dX4_init_24 : decode cX4_init 24 = .ok (.putfield 21, 3) := by decide +kernel
theorem dX4_init_27 : decode cX4_init 27 = .ok (.aload_n 0, 1) := by decide +kernel
theorem dX4_init_28 : decode cX4_init 28 = .ok (.sipush 2169, 3) := by decide +kernel
theorem dX4_init_31 : decode cX4_init 31 = .ok (.newarray .int, 2) := by decide +kernel
theorem dX4_init_33 : decode cX4_init 33 = .ok (.putfield 25, 3) := by decide +kernel
theorem dX4_init_36 : decode cX4_init 36 = .ok (.return_, 1) := by decide +kernel
theorem dX4_countingWays_0 : decode cX4_countingWays 0 = .ok (.aload_n 0, 1) := by decide +kernel
theorem dX4_countingWays_1 : decode cX4_countingWays 1 = .ok (.getfield 15, 3) := by decide +kernel
theorem dX4_countingWays_4 : decode cX4_countingWays 4 = .ok (.ireturn, 1) := by decide +kernel
theorem dX4_allWays_0 : decode cX4_allWays 0 = .ok (.aload_n 0, 1) := by decide +kernel
theorem dX4_allWays_1 : decode cX4_allWays 1 = .ok (.getfield 18, 3) := by decide +kernel
theorem dX4_allWays_4 : decode cX4_allWays 4 = .ok (.ireturn, 1) := by decide +kernel
theorem dX4_compare_0 : decode cX4_compare 0 = .ok (.aload_n 0, 1) := by decide +kernel
theorem dX4_compare_1 : decode cX4_compare 1 = .ok (.iconst 0, 1) := by decide +kernel
theorem dX4_compare_2 : decode cX4_compare 2 = .ok (.putfield 11, 3) := by decide +kernel
theorem dX4_compare_5 : decode cX4_compare 5 = .ok (.aload_n 0, 1) := by decide +kernel
theorem dX4_compare_6 : decode cX4_compare 6 = .ok (.iload_n 1, 1) := by decide +kernel
theorem dX4_compare_7 : decode cX4_compare 7 = .ok (.aload_n 3, 1) := by decide +kernel
theorem dX4_compare_8 : decode cX4_compare 8 = .ok (.invokevirtual 28, 3) := by decide +kernel
theorem dX4_compare_11 : decode cX4_compare 11 = .ok (.aload_n 0, 1) := by decide +kernel
theorem dX4_compare_12 : decode cX4_compare 12 = .ok (.getfield 11, 3) := by decide +kernel
theorem dX4_compare_15 : decode cX4_compare 15 = .ok (.istore 4, 2) := by decide +kernel
theorem dX4_compare_17 : decode cX4_compare 17 = .ok (.aload_n 0, 1) := by decide +kernel
theorem dX4_compare_18 : decode cX4_compare 18 = .ok (.iload_n 2, 1) := by decide +kernel
theorem dX4_compare_19 : decode cX4_compare 19 = .ok (.aload_n 3, 1) := by decide +kernel
theorem dX4_compare_20 : decode cX4_compare 20 = .ok (.invokevirtual 28, 3) := by decide +kernel
theorem dX4_compare_23 : decode cX4_compare 23 = .ok (.iconst 0, 1) := by decide +kernel
theorem dX4_compare_24 : decode cX4_compare 24 = .ok (.istore 5, 2) := by decide +kernel
theorem dX4_compare_26 : decode cX4_compare 26 = .ok (.iload 4, 2) := by decide +kernel
theorem dX4_compare_28 : decode cX4_compare 28 = .ok (.istore 6, 2) := by decide +kernel
theorem dX4_compare_30 : decode cX4_compare 30 = .ok (.iload 6, 2) := by decide +kernel
theorem dX4_compare_32 : decode cX4_compare 32 = .ok (.aload_n 0, 1) := by decide +kernel
theorem dX4_compare_33 : decode cX4_compare 33 = .ok (.getfield 11, 3) := by decide +kernel
theorem dX4_compare_36 : decode cX4_compare 36 = .ok (.if_icmp .ge 20, 3) := by decide +kernel
theorem dX4_compare_39 : decode cX4_compare 39 = .ok (.iload 5, 2) := by decide +kernel
theorem dX4_compare_41 : decode cX4_compare 41 = .ok (.aload_n 0, 1) := by decide +kernel
theorem dX4_compare_42 : decode cX4_compare 42 = .ok (.iload 6, 2) := by decide +kernel
theorem dX4_compare_44 : decode cX4_compare 44 = .ok (.invokevirtual 32, 3) := by decide +kernel
theorem dX4_compare_47 : decode cX4_compare 47 = .ok (.iadd, 1) := by decide +kernel
theorem dX4_compare_48 : decode cX4_compare 48 = .ok (.istore 5, 2) := by decide +kernel
theorem dX4_compare_50 : decode cX4_compare 50 = .ok (.iinc 6 1, 3) := by decide +kernel
theorem dX4_compare_53 : decode cX4_compare 53 = .ok (.goto (-23), 3) := by decide +kernel
theorem dX4_compare_56 : decode cX4_compare 56 = .ok (.aload_n 0, 1) := by decide +kernel
theorem dX4_compare_57 : decode cX4_compare 57 = .ok (.getfield 11, 3) := by decide +kernel
theorem dX4_compare_60 : decode cX4_compare 60 = .ok (.iload 4, 2) := by decide +kernel
theorem dX4_compare_62 : decode cX4_compare 62 = .ok (.isub, 1) := by decide +kernel
theorem dX4_compare_63 : decode cX4_compare 63 = .ok (.istore 6, 2) := by decide +kernel
theorem dX4_compare_65 : decode cX4_compare 65 = .ok (.aload_n 0, 1) := by decide +kernel
theorem dX4_compare_66 : decode cX4_compare 66 = .ok (.iload 6, 2) := by decide +kernel
theorem dX4_compare_68 : decode cX4_compare 68 = .ok (.invokevirtual 36, 3) := by decide +kernel
theorem dX4_compare_71 : decode cX4_compare 71 = .ok (.aload_n 0, 1) := by decide +kernel
theorem dX4_compare_72 : decode cX4_compare 72 = .ok (.aload_n 0, 1) := by decide +kernel
theorem dX4_compare_73 : decode cX4_compare 73 = .ok (.iload 5, 2) := by decide +kernel
theorem dX4_compare_75 : decode cX4_compare 75 = .ok (.iload 6, 2) := by decide +kernel
theorem dX4_compare_77 : decode cX4_compare 77 = .ok (.invokevirtual 40, 3) := by decide +kernel
theorem dX4_compare_80 : decode cX4_compare 80 = .ok (.putfield 15, 3) := by decide +kernel
theorem dX4_compare_83 : decode cX4_compare 83 = .ok (.aload_n 0, 1) := by decide +kernel
theorem dX4_compare_84 : decode cX4_compare 84 = .ok (.aload_n 0, 1) := by decide +kernel
theorem dX4_compare_85 : decode cX4_compare 85 = .ok (.iconst 0, 1) := by decide +kernel
theorem dX4_compare_86 : decode cX4_compare 86 = .ok (.iload 6, 2) := by decide +kernel
theorem dX4_compare_88 : decode cX4_compare 88 = .ok (.invokevirtual 40, 3) := by decide +kernel
theorem dX4_compare_91 : decode cX4_compare 91 = .ok (.putfield 18, 3) := by decide +kernel
theorem dX4_compare_94 : decode cX4_compare 94 = .ok (.return_, 1) := by decide +kernel
theorem dX4_gather_0 : decode cX4_gather 0 = .ok (.aload_n 0, 1) := by decide +kernel
theorem dX4_gather_1 : decode cX4_gather 1 = .ok (.getfield 11, 3) := by decide +kernel
theorem dX4_gather_4 : decode cX4_gather 4 = .ok (.bipush 8, 2) := by decide +kernel
theorem dX4_gather_6 : decode cX4_gather 6 = .ok (.iadd, 1) := by decide +kernel
theorem dX4_gather_7 : decode cX4_gather 7 = .ok (.istore_n 3, 1) := by decide +kernel
theorem dX4_gather_8 : decode cX4_gather 8 = .ok (.iconst 0, 1) := by decide +kernel
theorem dX4_gather_9 : decode cX4_gather 9 = .ok (.istore 4, 2) := by decide +kernel
theorem dX4_gather_11 : decode cX4_gather 11 = .ok (.iload 4, 2) := by decide +kernel
theorem dX4_gather_13 : decode cX4_gather 13 = .ok (.aload_n 2, 1) := by decide +kernel
theorem dX4_gather_14 : decode cX4_gather 14 = .ok (.invokevirtual 44, 3) := by decide +kernel
theorem dX4_gather_17 : decode cX4_gather 17 = .ok (.if_icmp .ge 52, 3) := by decide +kernel
theorem dX4_gather_20 : decode cX4_gather 20 = .ok (.aload_n 0, 1) := by decide +kernel
theorem dX4_gather_21 : decode cX4_gather 21 = .ok (.getfield 11, 3) := by decide +kernel
theorem dX4_gather_24 : decode cX4_gather 24 = .ok (.iload_n 3, 1) := by decide +kernel
theorem dX4_gather_25 : decode cX4_gather 25 = .ok (.if_icmp .ge 44, 3) := by decide +kernel
theorem dX4_gather_28 : decode cX4_gather 28 = .ok (.aload_n 2, 1) := by decide +kernel
theorem dX4_gather_29 : decode cX4_gather 29 = .ok (.iload 4, 2) := by decide +kernel
theorem dX4_gather_31 : decode cX4_gather 31 = .ok (.invokevirtual 50, 3) := by decide +kernel
theorem dX4_gather_34 : decode cX4_gather 34 = .ok (.iload_n 1, 1) := by decide +kernel
theorem dX4_gather_35 : decode cX4_gather 35 = .ok (.if_icmp .ne 28, 3) := by decide +kernel
theorem dX4_gather_38 : decode cX4_gather 38 = .ok (.aload_n 0, 1) := by decide +kernel
theorem dX4_gather_39 : decode cX4_gather 39 = .ok (.getfield 21, 3) := by decide +kernel
theorem dX4_gather_42 : decode cX4_gather 42 = .ok (.aload_n 0, 1) := by decide +kernel
theorem dX4_gather_43 : decode cX4_gather 43 = .ok (.getfield 11, 3) := by decide +kernel
theorem dX4_gather_46 : decode cX4_gather 46 = .ok (.aload_n 2, 1) := by decide +kernel
theorem dX4_gather_47 : decode cX4_gather 47 = .ok (.iload 4, 2) := by decide +kernel
theorem dX4_gather_49 : decode cX4_gather 49 = .ok (.invokevirtual 53, 3) := by decide +kernel
theorem dX4_gather_52 : decode cX4_gather 52 = .ok (.iastore, 1) := by decide +kernel
theorem dX4_gather_53 : decode cX4_gather 53 = .ok (.aload_n 0, 1) := by decide +kernel
theorem dX4_gather_54 : decode cX4_gather 54 = .ok (.dup, 1) := by decide +kernel
theorem dX4_gather_55 : decode cX4_gather 55 = .ok (.getfield 11, 3) := by decide +kernel
theorem dX4_gather_58 : decode cX4_gather 58 = .ok (.iconst 1, 1) := by decide +kernel
theorem dX4_gather_59 : decode cX4_gather 59 = .ok (.iadd, 1) := by decide +kernel
theorem dX4_gather_60 : decode cX4_gather 60 = .ok (.putfield 11, 3) := by decide +kernel
theorem dX4_gather_63 : decode cX4_gather 63 = .ok (.iinc 4 1, 3) := by decide +kernel
theorem dX4_gather_66 : decode cX4_gather 66 = .ok (.goto (-55), 3) := by decide +kernel
theorem dX4_gather_69 : decode cX4_gather 69 = .ok (.return_, 1) := by decide +kernel
theorem dX4_rankAt_0 : decode cX4_rankAt 0 = .ok (.iconst 0, 1) := by decide +kernel
theorem dX4_rankAt_1 : decode cX4_rankAt 1 = .ok (.istore_n 2, 1) := by decide +kernel
theorem dX4_rankAt_2 : decode cX4_rankAt 2 = .ok (.iconst 0, 1) := by decide +kernel
theorem dX4_rankAt_3 : decode cX4_rankAt 3 = .ok (.istore_n 3, 1) := by decide +kernel
theorem dX4_rankAt_4 : decode cX4_rankAt 4 = .ok (.iload_n 3, 1) := by decide +kernel
theorem dX4_rankAt_5 : decode cX4_rankAt 5 = .ok (.aload_n 0, 1) := by decide +kernel
theorem dX4_rankAt_6 : decode cX4_rankAt 6 = .ok (.getfield 11, 3) := by decide +kernel
theorem dX4_rankAt_9 : decode cX4_rankAt 9 = .ok (.if_icmp .ge 53, 3) := by decide +kernel
theorem dX4_rankAt_12 : decode cX4_rankAt 12 = .ok (.aload_n 0, 1) := by decide +kernel
theorem dX4_rankAt_13 : decode cX4_rankAt 13 = .ok (.getfield 21, 3) := by decide +kernel
theorem dX4_rankAt_16 : decode cX4_rankAt 16 = .ok (.iload_n 3, 1) := by decide +kernel
theorem dX4_rankAt_17 : decode cX4_rankAt 17 = .ok (.iaload, 1) := by decide +kernel
theorem dX4_rankAt_18 : decode cX4_rankAt 18 = .ok (.aload_n 0, 1) := by decide +kernel
theorem dX4_rankAt_19 : decode cX4_rankAt 19 = .ok (.getfield 21, 3) := by decide +kernel
theorem dX4_rankAt_22 : decode cX4_rankAt 22 = .ok (.iload_n 1, 1) := by decide +kernel
theorem dX4_rankAt_23 : decode cX4_rankAt 23 = .ok (.iaload, 1) := by decide +kernel
theorem dX4_rankAt_24 : decode cX4_rankAt 24 = .ok (.if_icmp .ge 9, 3) := by decide +kernel
theorem dX4_rankAt_27 : decode cX4_rankAt 27 = .ok (.iinc 2 2, 3) := by decide +kernel
theorem dX4_rankAt_30 : decode cX4_rankAt 30 = .ok (.goto 26, 3) := by decide +kernel
theorem dX4_rankAt_33 : decode cX4_rankAt 33 = .ok (.aload_n 0, 1) := by decide +kernel
theorem dX4_rankAt_34 : decode cX4_rankAt 34 = .ok (.getfield 21, 3) := by decide +kernel
theorem dX4_rankAt_37 : decode cX4_rankAt 37 = .ok (.iload_n 3, 1) := by decide +kernel
theorem dX4_rankAt_38 : decode cX4_rankAt 38 = .ok (.iaload, 1) := by decide +kernel
theorem dX4_rankAt_39 : decode cX4_rankAt 39 = .ok (.aload_n 0, 1) := by decide +kernel
theorem dX4_rankAt_40 : decode cX4_rankAt 40 = .ok (.getfield 21, 3) := by decide +kernel
theorem dX4_rankAt_43 : decode cX4_rankAt 43 = .ok (.iload_n 1, 1) := by decide +kernel
theorem dX4_rankAt_44 : decode cX4_rankAt 44 = .ok (.iaload, 1) := by decide +kernel
theorem dX4_rankAt_45 : decode cX4_rankAt 45 = .ok (.if_icmp .ne 11, 3) := by decide +kernel
theorem dX4_rankAt_48 : decode cX4_rankAt 48 = .ok (.iload_n 3, 1) := by decide +kernel
theorem dX4_rankAt_49 : decode cX4_rankAt 49 = .ok (.iload_n 1, 1) := by decide +kernel
theorem dX4_rankAt_50 : decode cX4_rankAt 50 = .ok (.if_icmp .eq 6, 3) := by decide +kernel
theorem dX4_rankAt_53 : decode cX4_rankAt 53 = .ok (.iinc 2 1, 3) := by decide +kernel
theorem dX4_rankAt_56 : decode cX4_rankAt 56 = .ok (.iinc 3 1, 3) := by decide +kernel
theorem dX4_rankAt_59 : decode cX4_rankAt 59 = .ok (.goto (-55), 3) := by decide +kernel
theorem dX4_rankAt_62 : decode cX4_rankAt 62 = .ok (.iload_n 2, 1) := by decide +kernel
theorem dX4_rankAt_63 : decode cX4_rankAt 63 = .ok (.ireturn, 1) := by decide +kernel
theorem dX4_spreadWays_0 : decode cX4_spreadWays 0 = .ok (.aload_n 0, 1) := by decide +kernel
theorem dX4_spreadWays_1 : decode cX4_spreadWays 1 = .ok (.getfield 25, 3) := by decide +kernel
theorem dX4_spreadWays_4 : decode cX4_spreadWays 4 = .ok (.iconst 0, 1) := by decide +kernel
theorem dX4_spreadWays_5 : decode cX4_spreadWays 5 = .ok (.invokestatic 56, 3) := by decide +kernel
theorem dX4_spreadWays_8 : decode cX4_spreadWays 8 = .ok (.aload_n 0, 1) := by decide +kernel
theorem dX4_spreadWays_9 : decode cX4_spreadWays 9 = .ok (.getfield 25, 3) := by decide +kernel
theorem dX4_spreadWays_12 : decode cX4_spreadWays 12 = .ok (.iconst 0, 1) := by decide +kernel
theorem dX4_spreadWays_13 : decode cX4_spreadWays 13 = .ok (.iconst 1, 1) := by decide +kernel
theorem dX4_spreadWays_14 : decode cX4_spreadWays 14 = .ok (.iastore, 1) := by decide +kernel
theorem dX4_spreadWays_15 : decode cX4_spreadWays 15 = .ok (.iconst 0, 1) := by decide +kernel
theorem dX4_spreadWays_16 : decode cX4_spreadWays 16 = .ok (.istore_n 2, 1) := by decide +kernel
theorem dX4_spreadWays_17 : decode cX4_spreadWays 17 = .ok (.iload_n 2, 1) := by decide +kernel
theorem dX4_spreadWays_18 : decode cX4_spreadWays 18 = .ok (.aload_n 0, 1) := by decide +kernel
theorem dX4_spreadWays_19 : decode cX4_spreadWays 19 = .ok (.getfield 11, 3) := by decide +kernel
theorem dX4_spreadWays_22 : decode cX4_spreadWays 22 = .ok (.if_icmp .ge 85, 3) := by decide +kernel
theorem dX4_spreadWays_25 : decode cX4_spreadWays 25 = .ok (.aload_n 0, 1) := by decide +kernel
theorem dX4_spreadWays_26 : decode cX4_spreadWays 26 = .ok (.iload_n 2, 1) := by decide +kernel
theorem dX4_spreadWays_27 : decode cX4_spreadWays 27 = .ok (.invokevirtual 32, 3) := by decide +kernel
theorem dX4_spreadWays_30 : decode cX4_spreadWays 30 = .ok (.istore_n 3, 1) := by decide +kernel
theorem dX4_spreadWays_31 : decode cX4_spreadWays 31 = .ok (.iload_n 1, 1) := by decide +kernel
theorem dX4_spreadWays_32 : decode cX4_spreadWays 32 = .ok (.iconst 1, 1) := by decide +kernel
theorem dX4_spreadWays_33 : decode cX4_spreadWays 33 = .ok (.isub, 1) := by decide +kernel
theorem dX4_spreadWays_34 : decode cX4_spreadWays 34 = .ok (.istore 4, 2) := by decide +kernel
theorem dX4_spreadWays_36 : decode cX4_spreadWays 36 = .ok (.iload 4, 2) := by decide +kernel
theorem dX4_spreadWays_38 : decode cX4_spreadWays 38 = .ok (.ifCond .lt 63, 3) := by decide +kernel
theorem dX4_spreadWays_41 : decode cX4_spreadWays 41 = .ok (.iconst 0, 1) := by decide +kernel
theorem dX4_spreadWays_42 : decode cX4_spreadWays 42 = .ok (.istore 5, 2) := by decide +kernel
theorem dX4_spreadWays_44 : decode cX4_spreadWays 44 = .ok (.iload 5, 2) := by decide +kernel
theorem dX4_spreadWays_46 : decode cX4_spreadWays 46 = .ok (.iload_n 3, 1) := by decide +kernel
theorem dX4_spreadWays_47 : decode cX4_spreadWays 47 = .ok (.iadd, 1) := by decide +kernel
theorem dX4_spreadWays_48 : decode cX4_spreadWays 48 = .ok (.sipush 241, 3) := by decide +kernel
theorem dX4_spreadWays_51 : decode cX4_spreadWays 51 = .ok (.if_icmp .ge 44, 3) := by decide +kernel
theorem dX4_spreadWays_54 : decode cX4_spreadWays 54 = .ok (.aload_n 0, 1) := by decide +kernel
theorem dX4_spreadWays_55 : decode cX4_spreadWays 55 = .ok (.getfield 25, 3) := by decide +kernel
theorem dX4_spreadWays_58 : decode cX4_spreadWays 58 = .ok (.iload 4, 2) := by decide +kernel
theorem dX4_spreadWays_60 : decode cX4_spreadWays 60 = .ok (.iconst 1, 1) := by decide +kernel
theorem dX4_spreadWays_61 : decode cX4_spreadWays 61 = .ok (.iadd, 1) := by decide +kernel
theorem dX4_spreadWays_62 : decode cX4_spreadWays 62 = .ok (.sipush 241, 3) := by decide +kernel
theorem dX4_spreadWays_65 : decode cX4_spreadWays 65 = .ok (.imul, 1) := by decide +kernel
theorem dX4_spreadWays_66 : decode cX4_spreadWays 66 = .ok (.iload 5, 2) := by decide +kernel
theorem dX4_spreadWays_68 : decode cX4_spreadWays 68 = .ok (.iadd, 1) := by decide +kernel
theorem dX4_spreadWays_69 : decode cX4_spreadWays 69 = .ok (.iload_n 3, 1) := by decide +kernel
theorem dX4_spreadWays_70 : decode cX4_spreadWays 70 = .ok (.iadd, 1) := by decide +kernel
theorem dX4_spreadWays_71 : decode cX4_spreadWays 71 = .ok (.dup2, 1) := by decide +kernel
theorem dX4_spreadWays_72 : decode cX4_spreadWays 72 = .ok (.iaload, 1) := by decide +kernel
theorem dX4_spreadWays_73 : decode cX4_spreadWays 73 = .ok (.aload_n 0, 1) := by decide +kernel
theorem dX4_spreadWays_74 : decode cX4_spreadWays 74 = .ok (.getfield 25, 3) := by decide +kernel
theorem dX4_spreadWays_77 : decode cX4_spreadWays 77 = .ok (.iload 4, 2) := by decide +kernel
theorem dX4_spreadWays_79 : decode cX4_spreadWays 79 = .ok (.sipush 241, 3) := by decide +kernel
theorem dX4_spreadWays_82 : decode cX4_spreadWays 82 = .ok (.imul, 1) := by decide +kernel
theorem dX4_spreadWays_83 : decode cX4_spreadWays 83 = .ok (.iload 5, 2) := by decide +kernel
theorem dX4_spreadWays_85 : decode cX4_spreadWays 85 = .ok (.iadd, 1) := by decide +kernel
theorem dX4_spreadWays_86 : decode cX4_spreadWays 86 = .ok (.iaload, 1) := by decide +kernel
theorem dX4_spreadWays_87 : decode cX4_spreadWays 87 = .ok (.iadd, 1) := by decide +kernel
theorem dX4_spreadWays_88 : decode cX4_spreadWays 88 = .ok (.iastore, 1) := by decide +kernel
theorem dX4_spreadWays_89 : decode cX4_spreadWays 89 = .ok (.iinc 5 1, 3) := by decide +kernel
theorem dX4_spreadWays_92 : decode cX4_spreadWays 92 = .ok (.goto (-48), 3) := by decide +kernel
theorem dX4_spreadWays_95 : decode cX4_spreadWays 95 = .ok (.iinc 4 (-1), 3) := by decide +kernel
theorem dX4_spreadWays_98 : decode cX4_spreadWays 98 = .ok (.goto (-62), 3) := by decide +kernel
theorem dX4_spreadWays_101 : decode cX4_spreadWays 101 = .ok (.iinc 2 1, 3) := by decide +kernel
theorem dX4_spreadWays_104 : decode cX4_spreadWays 104 = .ok (.goto (-87), 3) := by decide +kernel
theorem dX4_spreadWays_107 : decode cX4_spreadWays 107 = .ok (.return_, 1) := by decide +kernel
theorem dX4_waysFrom_0 : decode cX4_waysFrom 0 = .ok (.iconst 0, 1) := by decide +kernel
theorem dX4_waysFrom_1 : decode cX4_waysFrom 1 = .ok (.istore_n 3, 1) := by decide +kernel
theorem dX4_waysFrom_2 : decode cX4_waysFrom 2 = .ok (.iload_n 1, 1) := by decide +kernel
theorem dX4_waysFrom_3 : decode cX4_waysFrom 3 = .ok (.istore 4, 2) := by decide +kernel
theorem dX4_waysFrom_5 : decode cX4_waysFrom 5 = .ok (.iload 4, 2) := by decide +kernel
theorem dX4_waysFrom_7 : decode cX4_waysFrom 7 = .ok (.sipush 241, 3) := by decide +kernel
theorem dX4_waysFrom_10 : decode cX4_waysFrom 10 = .ok (.if_icmp .ge 25, 3) := by decide +kernel
theorem dX4_waysFrom_13 : decode cX4_waysFrom 13 = .ok (.iload_n 3, 1) := by decide +kernel
theorem dX4_waysFrom_14 : decode cX4_waysFrom 14 = .ok (.aload_n 0, 1) := by decide +kernel
theorem dX4_waysFrom_15 : decode cX4_waysFrom 15 = .ok (.getfield 25, 3) := by decide +kernel
theorem dX4_waysFrom_18 : decode cX4_waysFrom 18 = .ok (.iload_n 2, 1) := by decide +kernel
theorem dX4_waysFrom_19 : decode cX4_waysFrom 19 = .ok (.sipush 241, 3) := by decide +kernel
theorem dX4_waysFrom_22 : decode cX4_waysFrom 22 = .ok (.imul, 1) := by decide +kernel
theorem dX4_waysFrom_23 : decode cX4_waysFrom 23 = .ok (.iload 4, 2) := by decide +kernel
theorem dX4_waysFrom_25 : decode cX4_waysFrom 25 = .ok (.iadd, 1) := by decide +kernel
theorem dX4_waysFrom_26 : decode cX4_waysFrom 26 = .ok (.iaload, 1) := by decide +kernel
theorem dX4_waysFrom_27 : decode cX4_waysFrom 27 = .ok (.iadd, 1) := by decide +kernel
theorem dX4_waysFrom_28 : decode cX4_waysFrom 28 = .ok (.istore_n 3, 1) := by decide +kernel
theorem dX4_waysFrom_29 : decode cX4_waysFrom 29 = .ok (.iinc 4 1, 3) := by decide +kernel
theorem dX4_waysFrom_32 : decode cX4_waysFrom 32 = .ok (.goto (-27), 3) := by decide +kernel
theorem dX4_waysFrom_35 : decode cX4_waysFrom 35 = .ok (.iload_n 3, 1) := by decide +kernel
theorem dX4_waysFrom_36 : decode cX4_waysFrom 36 = .ok (.ireturn, 1) := by decide +kernel
theorem dX5_init_0 : decode cX5_init 0 = .ok (.aload_n 0, 1) := by decide +kernel
theorem dX5_init_1 : decode cX5_init 1 = .ok (.invokespecial 3, 3) := by decide +kernel
theorem dX5_init_4 : decode cX5_init 4 = .ok (.aload_n 0, 1) := by decide +kernel
theorem dX5_init_5 : decode cX5_init 5 = .ok (.iconst 0, 1) := by decide +kernel
theorem dX5_init_6 : decode cX5_init 6 = .ok (.putfield 9, 3) := by decide +kernel
theorem dX5_init_9 : decode cX5_init 9 = .ok (.aload_n 0, 1) := by decide +kernel
theorem dX5_init_10 : decode cX5_init 10 = .ok (.bipush 12, 2) := by decide +kernel
theorem dX5_init_12 : decode cX5_init 12 = .ok (.newarray .boolean, 2) := by decide +kernel
theorem dX5_init_14 : decode cX5_init 14 = .ok (.putfield 15, 3) := by decide +kernel
theorem dX5_init_17 : decode cX5_init 17 = .ok (.aload_n 0, 1) := by decide +kernel
theorem dX5_init_18 : decode cX5_init 18 = .ok (.bipush 12, 2) := by decide +kernel
theorem dX5_init_20 : decode cX5_init 20 = .ok (.newarray .int, 2) := by decide +kernel
theorem dX5_init_22 : decode cX5_init 22 = .ok (.putfield 19, 3) := by decide +kernel
theorem dX5_init_25 : decode cX5_init 25 = .ok (.aload_n 0, 1) := by decide +kernel
theorem dX5_init_26 : decode cX5_init 26 = .ok (.bipush 12, 2) := by decide +kernel
theorem dX5_init_28 : decode cX5_init 28 = .ok (.newarray .int, 2) := by decide +kernel
theorem dX5_init_30 : decode cX5_init 30 = .ok (.putfield 23, 3) := by decide +kernel
theorem dX5_init_33 : decode cX5_init 33 = .ok (.aload_n 0, 1) := by decide +kernel
theorem dX5_init_34 : decode cX5_init 34 = .ok (.bipush 12, 2) := by decide +kernel
theorem dX5_init_36 : decode cX5_init 36 = .ok (.newarray .int, 2) := by decide +kernel
theorem dX5_init_38 : decode cX5_init 38 = .ok (.putfield 26, 3) := by decide +kernel
theorem dX5_init_41 : decode cX5_init 41 = .ok (.aload_n 0, 1) := by decide +kernel
theorem dX5_init_42 : decode cX5_init 42 = .ok (.bipush 12, 2) := by decide +kernel
theorem dX5_init_44 : decode cX5_init 44 = .ok (.newarray .int, 2) := by decide +kernel
theorem dX5_init_46 : decode cX5_init 46 = .ok (.putfield 29, 3) := by decide +kernel
theorem dX5_init_49 : decode cX5_init 49 = .ok (.return_, 1) := by decide +kernel
theorem dX5_howMany_0 : decode cX5_howMany 0 = .ok (.aload_n 0, 1) := by decide +kernel
theorem dX5_howMany_1 : decode cX5_howMany 1 = .ok (.getfield 9, 3) := by decide +kernel
theorem dX5_howMany_4 : decode cX5_howMany 4 = .ok (.ireturn, 1) := by decide +kernel
theorem dX5_isFull_0 : decode cX5_isFull 0 = .ok (.aload_n 0, 1) := by decide +kernel
theorem dX5_isFull_1 : decode cX5_isFull 1 = .ok (.getfield 9, 3) := by decide +kernel
theorem dX5_isFull_4 : decode cX5_isFull 4 = .ok (.bipush 12, 2) := by decide +kernel
theorem dX5_isFull_6 : decode cX5_isFull 6 = .ok (.if_icmp .lt 7, 3) := by decide +kernel
theorem dX5_isFull_9 : decode cX5_isFull 9 = .ok (.iconst 1, 1) := by decide +kernel
theorem dX5_isFull_10 : decode cX5_isFull 10 = .ok (.goto 4, 3) := by decide +kernel
theorem dX5_isFull_13 : decode cX5_isFull 13 = .ok (.iconst 0, 1) := by decide +kernel
theorem dX5_isFull_14 : decode cX5_isFull 14 = .ok (.ireturn, 1) := by decide +kernel
theorem dX5_add_0 : decode cX5_add 0 = .ok (.aload_n 0, 1) := by decide +kernel
theorem dX5_add_1 : decode cX5_add 1 = .ok (.getfield 15, 3) := by decide +kernel
theorem dX5_add_4 : decode cX5_add 4 = .ok (.aload_n 0, 1) := by decide +kernel
theorem dX5_add_5 : decode cX5_add 5 = .ok (.getfield 9, 3) := by decide +kernel
theorem dX5_add_8 : decode cX5_add 8 = .ok (.iload_n 1, 1) := by decide +kernel
theorem dX5_add_9 : decode cX5_add 9 = .ok (.bastore, 1) := by decide +kernel
theorem dX5_add_10 : decode cX5_add 10 = .ok (.aload_n 0, 1) := by decide +kernel
theorem dX5_add_11 : decode cX5_add 11 = .ok (.getfield 19, 3) := by decide +kernel
theorem dX5_add_14 : decode cX5_add 14 = .ok (.aload_n 0, 1) := by decide +kernel
theorem dX5_add_15 : decode cX5_add 15 = .ok (.getfield 9, 3) := by decide +kernel
theorem dX5_add_18 : decode cX5_add 18 = .ok (.iload_n 2, 1) := by decide +kernel
theorem dX5_add_19 : decode cX5_add 19 = .ok (.iastore, 1) := by decide +kernel
theorem dX5_add_20 : decode cX5_add 20 = .ok (.aload_n 0, 1) := by decide +kernel
theorem dX5_add_21 : decode cX5_add 21 = .ok (.getfield 23, 3) := by decide +kernel
theorem dX5_add_24 : decode cX5_add 24 = .ok (.aload_n 0, 1) := by decide +kernel
theorem dX5_add_25 : decode cX5_add 25 = .ok (.getfield 9, 3) := by decide +kernel
theorem dX5_add_28 : decode cX5_add 28 = .ok (.iload_n 3, 1) := by decide +kernel
theorem dX5_add_29 : decode cX5_add 29 = .ok (.iastore, 1) := by decide +kernel
theorem dX5_add_30 : decode cX5_add 30 = .ok (.aload_n 0, 1) := by decide +kernel
theorem dX5_add_31 : decode cX5_add 31 = .ok (.getfield 26, 3) := by decide +kernel
theorem dX5_add_34 : decode cX5_add 34 = .ok (.aload_n 0, 1) := by decide +kernel
theorem dX5_add_35 : decode cX5_add 35 = .ok (.getfield 9, 3) := by decide +kernel
theorem dX5_add_38 : decode cX5_add 38 = .ok (.iload 4, 2) := by decide +kernel
theorem dX5_add_40 : decode cX5_add 40 = .ok (.iastore, 1) := by decide +kernel
theorem dX5_add_41 : decode cX5_add 41 = .ok (.aload_n 0, 1) := by decide +kernel
theorem dX5_add_42 : decode cX5_add 42 = .ok (.getfield 29, 3) := by decide +kernel
theorem dX5_add_45 : decode cX5_add 45 = .ok (.aload_n 0, 1) := by decide +kernel
theorem dX5_add_46 : decode cX5_add 46 = .ok (.getfield 9, 3) := by decide +kernel
theorem dX5_add_49 : decode cX5_add 49 = .ok (.iload 5, 2) := by decide +kernel
theorem dX5_add_51 : decode cX5_add 51 = .ok (.iastore, 1) := by decide +kernel
theorem dX5_add_52 : decode cX5_add 52 = .ok (.aload_n 0, 1) := by decide +kernel
theorem dX5_add_53 : decode cX5_add 53 = .ok (.dup, 1) := by decide +kernel
theorem dX5_add_54 : decode cX5_add 54 = .ok (.getfield 9, 3) := by decide +kernel
theorem dX5_add_57 : decode cX5_add 57 = .ok (.iconst 1, 1) := by decide +kernel
theorem dX5_add_58 : decode cX5_add 58 = .ok (.iadd, 1) := by decide +kernel
theorem dX5_add_59 : decode cX5_add 59 = .ok (.putfield 9, 3) := by decide +kernel
theorem dX5_add_62 : decode cX5_add 62 = .ok (.return_, 1) := by decide +kernel
theorem dX5_dropLatest_0 : decode cX5_dropLatest 0 = .ok (.aload_n 0, 1) := by decide +kernel
theorem dX5_dropLatest_1 : decode cX5_dropLatest 1 = .ok (.dup, 1) := by decide +kernel
theorem dX5_dropLatest_2 : decode cX5_dropLatest 2 = .ok (.getfield 9, 3) := by decide +kernel
theorem dX5_dropLatest_5 : decode cX5_dropLatest 5 = .ok (.iconst 1, 1) := by decide +kernel
theorem dX5_dropLatest_6 : decode cX5_dropLatest 6 = .ok (.isub, 1) := by decide +kernel
theorem dX5_dropLatest_7 : decode cX5_dropLatest 7 = .ok (.putfield 9, 3) := by decide +kernel
theorem dX5_dropLatest_10 : decode cX5_dropLatest 10 = .ok (.return_, 1) := by decide +kernel
theorem dX5_allow_0 : decode cX5_allow 0 = .ok (.iconst 0, 1) := by decide +kernel
theorem dX5_allow_1 : decode cX5_allow 1 = .ok (.istore_n 3, 1) := by decide +kernel
theorem dX5_allow_2 : decode cX5_allow 2 = .ok (.iload_n 3, 1) := by decide +kernel
theorem dX5_allow_3 : decode cX5_allow 3 = .ok (.aload_n 0, 1) := by decide +kernel
theorem dX5_allow_4 : decode cX5_allow 4 = .ok (.getfield 9, 3) := by decide +kernel
theorem dX5_allow_7 : decode cX5_allow 7 = .ok (.if_icmp .ge 21, 3) := by decide +kernel
theorem dX5_allow_10 : decode cX5_allow 10 = .ok (.aload_n 0, 1) := by decide +kernel
theorem dX5_allow_11 : decode cX5_allow 11 = .ok (.iload_n 3, 1) := by decide +kernel
theorem dX5_allow_12 : decode cX5_allow 12 = .ok (.iload_n 1, 1) := by decide +kernel
theorem dX5_allow_13 : decode cX5_allow 13 = .ok (.aload_n 2, 1) := by decide +kernel
theorem dX5_allow_14 : decode cX5_allow 14 = .ok (.invokevirtual 32, 3) := by decide +kernel
theorem dX5_allow_17 : decode cX5_allow 17 = .ok (.ifCond .eq 5, 3) := by decide +kernel
theorem dX5_allow_20 : decode cX5_allow 20 = .ok (.iconst 0, 1) := by decide +kernel
theorem dX5_allow_21 : decode cX5_allow 21 = .ok (.ireturn, 1) := by decide +kernel
theorem dX5_allow_22 : decode cX5_allow 22 = .ok (.iinc 3 1, 3) := by decide +kernel
theorem dX5_allow_25 : decode cX5_allow 25 = .ok (.goto (-23), 3) := by decide +kernel
theorem dX5_allow_28 : decode cX5_allow 28 = .ok (.iconst 1, 1) := by decide +kernel
theorem dX5_allow_29 : decode cX5_allow 29 = .ok (.ireturn, 1) := by decide +kernel
theorem dX5_isAgainst_0 : decode cX5_isAgainst 0 = .ok (.aload_n 3, 1) := by decide +kernel
theorem dX5_isAgainst_1 : decode cX5_isAgainst 1 = .ok (.iload_n 2, 1) := by decide +kernel
theorem dX5_isAgainst_2 : decode cX5_isAgainst 2 = .ok (.aload_n 0, 1) := by decide +kernel
theorem dX5_isAgainst_3 : decode cX5_isAgainst 3 = .ok (.getfield 19, 3) := by decide +kernel
theorem dX5_isAgainst_6 : decode cX5_isAgainst 6 = .ok (.iload_n 1, 1) := by decide +kernel
theorem dX5_isAgainst_7 : decode cX5_isAgainst 7 = .ok (.iaload, 1) := by decide +kernel
theorem dX5_isAgainst_8 : decode cX5_isAgainst 8 = .ok (.invokevirtual 36, 3) := by decide +kernel
theorem dX5_isAgainst_11 : decode cX5_isAgainst 11 = .ok (.aload_n 0, 1) := by decide +kernel
theorem dX5_isAgainst_12 : decode cX5_isAgainst 12 = .ok (.getfield 23, 3) := by decide +kernel
theorem dX5_isAgainst_15 : decode cX5_isAgainst 15 = .ok (.iload_n 1, 1) := by decide +kernel
theorem dX5_isAgainst_16 : decode cX5_isAgainst 16 = .ok (.iaload, 1) := by decide +kernel
theorem dX5_isAgainst_17 : decode cX5_isAgainst 17 = .ok (.if_icmp .eq 5, 3) := by decide +kernel
theorem dX5_isAgainst_20 : decode cX5_isAgainst 20 = .ok (.iconst 0, 1) := by decide +kernel
theorem dX5_isAgainst_21 : decode cX5_isAgainst 21 = .ok (.ireturn, 1) := by decide +kernel
theorem dX5_isAgainst_22 : decode cX5_isAgainst 22 = .ok (.aload_n 3, 1) := by decide +kernel
theorem dX5_isAgainst_23 : decode cX5_isAgainst 23 = .ok (.iload_n 2, 1) := by decide +kernel
theorem dX5_isAgainst_24 : decode cX5_isAgainst 24 = .ok (.aload_n 0, 1) := by decide +kernel
theorem dX5_isAgainst_25 : decode cX5_isAgainst 25 = .ok (.getfield 26, 3) := by decide +kernel
theorem dX5_isAgainst_28 : decode cX5_isAgainst 28 = .ok (.iload_n 1, 1) := by decide +kernel
theorem dX5_isAgainst_29 : decode cX5_isAgainst 29 = .ok (.iaload, 1) := by decide +kernel
theorem dX5_isAgainst_30 : decode cX5_isAgainst 30 = .ok (.invokevirtual 36, 3) := by decide +kernel
theorem dX5_isAgainst_33 : decode cX5_isAgainst 33 = .ok (.aload_n 0, 1) := by decide +kernel
theorem dX5_isAgainst_34 : decode cX5_isAgainst 34 = .ok (.getfield 29, 3) := by decide +kernel
theorem dX5_isAgainst_37 : decode cX5_isAgainst 37 = .ok (.iload_n 1, 1) := by decide +kernel
theorem dX5_isAgainst_38 : decode cX5_isAgainst 38 = .ok (.iaload, 1) := by decide +kernel
theorem dX5_isAgainst_39 : decode cX5_isAgainst 39 = .ok (.if_icmp .ne 7, 3) := by decide +kernel
theorem dX5_isAgainst_42 : decode cX5_isAgainst 42 = .ok (.iconst 1, 1) := by decide +kernel
theorem dX5_isAgainst_43 : decode cX5_isAgainst 43 = .ok (.goto 4, 3) := by decide +kernel
theorem dX5_isAgainst_46 : decode cX5_isAgainst 46 = .ok (.iconst 0, 1) := by decide +kernel
theorem dX5_isAgainst_47 : decode cX5_isAgainst 47 = .ok (.istore 4, 2) := by decide +kernel
theorem dX5_isAgainst_49 : decode cX5_isAgainst 49 = .ok (.iload 4, 2) := by decide +kernel
theorem dX5_isAgainst_51 : decode cX5_isAgainst 51 = .ok (.aload_n 0, 1) := by decide +kernel
theorem dX5_isAgainst_52 : decode cX5_isAgainst 52 = .ok (.getfield 15, 3) := by decide +kernel
theorem dX5_isAgainst_55 : decode cX5_isAgainst 55 = .ok (.iload_n 1, 1) := by decide +kernel
theorem dX5_isAgainst_56 : decode cX5_isAgainst 56 = .ok (.baload, 1) := by decide +kernel
theorem dX5_isAgainst_57 : decode cX5_isAgainst 57 = .ok (.if_icmp .eq 7, 3) := by decide +kernel
theorem dX5_isAgainst_60 : decode cX5_isAgainst 60 = .ok (.iconst 1, 1) := by decide +kernel
theorem dX5_isAgainst_61 : decode cX5_isAgainst 61 = .ok (.goto 4, 3) := by decide +kernel
theorem dX5_isAgainst_64 : decode cX5_isAgainst 64 = .ok (.iconst 0, 1) := by decide +kernel
theorem dX5_isAgainst_65 : decode cX5_isAgainst 65 = .ok (.ireturn, 1) := by decide +kernel
theorem dX6_init_0 : decode cX6_init 0 = .ok (.aload_n 0, 1) := by decide +kernel
theorem dX6_init_1 : decode cX6_init 1 = .ok (.invokespecial 3, 3) := by decide +kernel
theorem dX6_init_4 : decode cX6_init 4 = .ok (.aload_n 0, 1) := by decide +kernel
theorem dX6_init_5 : decode cX6_init 5 = .ok (.iconst 0, 1) := by decide +kernel
theorem dX6_init_6 : decode cX6_init 6 = .ok (.putfield 9, 3) := by decide +kernel
theorem dX6_init_9 : decode cX6_init 9 = .ok (.aload_n 0, 1) := by decide +kernel
theorem dX6_init_10 : decode cX6_init 10 = .ok (.iconst 0, 1) := by decide +kernel
theorem dX6_init_11 : decode cX6_init 11 = .ok (.putfield 15, 3) := by decide +kernel
theorem dX6_init_14 : decode cX6_init 14 = .ok (.aload_n 0, 1) := by decide +kernel
theorem dX6_init_15 : decode cX6_init 15 = .ok (.iconst 1, 1) := by decide +kernel
theorem dX6_init_16 : decode cX6_init 16 = .ok (.putfield 18, 3) := by decide +kernel
theorem dX6_init_19 : decode cX6_init 19 = .ok (.aload_n 0, 1) := by decide +kernel
theorem dX6_init_20 : decode cX6_init 20 = .ok (.bipush 60, 2) := by decide +kernel
theorem dX6_init_22 : decode cX6_init 22 = .ok (.newarray .int, 2) := by decide +kernel
theorem dX6_init_24 : decode cX6_init 24 = .ok (.putfield 21, 3) := by decide +kernel
theorem dX6_init_27 : decode cX6_init 27 = .ok (.aload_n 0, 1) := by decide +kernel
theorem dX6_init_28 : decode cX6_init 28 = .ok (.bipush 60, 2) := by decide +kernel
theorem dX6_init_30 : decode cX6_init 30 = .ok (.newarray .int, 2) := by decide +kernel
theorem dX6_init_32 : decode cX6_init 32 = .ok (.putfield 25, 3) := by decide +kernel
theorem dX6_init_35 : decode cX6_init 35 = .ok (.return_, 1) := by decide +kernel
theorem dX6_howMany_0 : decode cX6_howMany 0 = .ok (.aload_n 0, 1) := by decide +kernel
theorem dX6_howMany_1 : decode cX6_howMany 1 = .ok (.getfield 9, 3) := by decide +kernel
theorem dX6_howMany_4 : decode cX6_howMany 4 = .ok (.ireturn, 1) := by decide +kernel
theorem dX6_isFull_0 : decode cX6_isFull 0 = .ok (.aload_n 0, 1) := by decide +kernel
theorem dX6_isFull_1 : decode cX6_isFull 1 = .ok (.getfield 9, 3) := by decide +kernel
theorem dX6_isFull_4 : decode cX6_isFull 4 = .ok (.bipush 60, 2) := by decide +kernel
theorem dX6_isFull_6 : decode cX6_isFull 6 = .ok (.if_icmp .lt 7, 3) := by decide +kernel
theorem dX6_isFull_9 : decode cX6_isFull 9 = .ok (.iconst 1, 1) := by decide +kernel
theorem dX6_isFull_10 : decode cX6_isFull 10 = .ok (.goto 4, 3) := by decide +kernel
theorem dX6_isFull_13 : decode cX6_isFull 13 = .ok (.iconst 0, 1) := by decide +kernel
theorem dX6_isFull_14 : decode cX6_isFull 14 = .ok (.ireturn, 1) := by decide +kernel
theorem dX6_has_0 : decode cX6_has 0 = .ok (.iload_n 1, 1) := by decide +kernel
theorem dX6_has_1 : decode cX6_has 1 = .ok (.ifCond .lt 15, 3) := by decide +kernel
theorem dX6_has_4 : decode cX6_has 4 = .ok (.iload_n 1, 1) := by decide +kernel
theorem dX6_has_5 : decode cX6_has 5 = .ok (.aload_n 0, 1) := by decide +kernel
theorem dX6_has_6 : decode cX6_has 6 = .ok (.getfield 9, 3) := by decide +kernel
theorem dX6_has_9 : decode cX6_has 9 = .ok (.if_icmp .ge 7, 3) := by decide +kernel
theorem dX6_has_12 : decode cX6_has 12 = .ok (.iconst 1, 1) := by decide +kernel
theorem dX6_has_13 : decode cX6_has 13 = .ok (.goto 4, 3) := by decide +kernel
theorem dX6_has_16 : decode cX6_has 16 = .ok (.iconst 0, 1) := by decide +kernel
theorem dX6_has_17 : decode cX6_has 17 = .ok (.ireturn, 1) := by decide +kernel
theorem dX6_settingAt_0 : decode cX6_settingAt 0 = .ok (.aload_n 0, 1) := by decide +kernel
theorem dX6_settingAt_1 : decode cX6_settingAt 1 = .ok (.getfield 21, 3) := by decide +kernel
theorem dX6_settingAt_4 : decode cX6_settingAt 4 = .ok (.iload_n 1, 1) := by decide +kernel
theorem dX6_settingAt_5 : decode cX6_settingAt 5 = .ok (.iaload, 1) := by decide +kernel
theorem dX6_settingAt_6 : decode cX6_settingAt 6 = .ok (.ireturn, 1) := by decide +kernel
theorem dX6_readingAt_0 : decode cX6_readingAt 0 = .ok (.aload_n 0, 1) := by decide +kernel
theorem dX6_readingAt_1 : decode cX6_readingAt 1 = .ok (.getfield 25, 3) := by decide +kernel
theorem dX6_readingAt_4 : decode cX6_readingAt 4 = .ok (.iload_n 1, 1) := by decide +kernel
theorem dX6_readingAt_5 : decode cX6_readingAt 5 = .ok (.iaload, 1) := by decide +kernel
theorem dX6_readingAt_6 : decode cX6_readingAt 6 = .ok (.ireturn, 1) := by decide +kernel
theorem dX6_currentNoise_0 : decode cX6_currentNoise 0 = .ok (.aload_n 0, 1) := by decide +kernel
theorem dX6_currentNoise_1 : decode cX6_currentNoise 1 = .ok (.getfield 15, 3) := by decide +kernel
theorem dX6_currentNoise_4 : decode cX6_currentNoise 4 = .ok (.ireturn, 1) := by decide +kernel
theorem dX6_changeNoise_0 : decode cX6_changeNoise 0 = .ok (.aload_n 0, 1) := by decide +kernel
theorem dX6_changeNoise_1 : decode cX6_changeNoise 1 = .ok (.getfield 15, 3) := by decide +kernel
theorem dX6_changeNoise_4 : decode cX6_changeNoise 4 = .ok (.istore_n 2, 1) := by decide +kernel
theorem dX6_changeNoise_5 : decode cX6_changeNoise 5 = .ok (.aload_n 0, 1) := by decide +kernel
theorem dX6_changeNoise_6 : decode cX6_changeNoise 6 = .ok (.iload_n 1, 1) := by decide +kernel
theorem dX6_changeNoise_7 : decode cX6_changeNoise 7 = .ok (.putfield 15, 3) := by decide +kernel
theorem dX6_changeNoise_10 : decode cX6_changeNoise 10 = .ok (.iload_n 2, 1) := by decide +kernel
theorem dX6_changeNoise_11 : decode cX6_changeNoise 11 = .ok (.ireturn, 1) := by decide +kernel
theorem dX6_changeSeed_0 : decode cX6_changeSeed 0 = .ok (.aload_n 0, 1) := by decide +kernel
theorem dX6_changeSeed_1 : decode cX6_changeSeed 1 = .ok (.iload_n 1, 1) := by decide +kernel
theorem dX6_changeSeed_2 : decode cX6_changeSeed 2 = .ok (.putfield 18, 3) := by decide +kernel
theorem dX6_changeSeed_5 : decode cX6_changeSeed 5 = .ok (.return_, 1) := by decide +kernel
theorem dX6_clear_0 : decode cX6_clear 0 = .ok (.aload_n 0, 1) := by decide +kernel
theorem dX6_clear_1 : decode cX6_clear 1 = .ok (.iconst 0, 1) := by decide +kernel
theorem dX6_clear_2 : decode cX6_clear 2 = .ok (.putfield 9, 3) := by decide +kernel
theorem dX6_clear_5 : decode cX6_clear 5 = .ok (.return_, 1) := by decide +kernel
theorem dX6_add_0 : decode cX6_add 0 = .ok (.aload_n 0, 1) := by decide +kernel
theorem dX6_add_1 : decode cX6_add 1 = .ok (.getfield 21, 3) := by decide +kernel
theorem dX6_add_4 : decode cX6_add 4 = .ok (.aload_n 0, 1) := by decide +kernel
theorem dX6_add_5 : decode cX6_add 5 = .ok (.getfield 9, 3) := by decide +kernel
theorem dX6_add_8 : decode cX6_add 8 = .ok (.iload_n 1, 1) := by decide +kernel
theorem dX6_add_9 : decode cX6_add 9 = .ok (.iastore, 1) := by decide +kernel
theorem dX6_add_10 : decode cX6_add 10 = .ok (.aload_n 0, 1) := by decide +kernel
theorem dX6_add_11 : decode cX6_add 11 = .ok (.getfield 25, 3) := by decide +kernel
theorem dX6_add_14 : decode cX6_add 14 = .ok (.aload_n 0, 1) := by decide +kernel
theorem dX6_add_15 : decode cX6_add 15 = .ok (.getfield 9, 3) := by decide +kernel
theorem dX6_add_18 : decode cX6_add 18 = .ok (.iload_n 2, 1) := by decide +kernel
theorem dX6_add_19 : decode cX6_add 19 = .ok (.aload_n 0, 1) := by decide +kernel
theorem dX6_add_20 : decode cX6_add 20 = .ok (.invokevirtual 28, 3) := by decide +kernel
theorem dX6_add_23 : decode cX6_add 23 = .ok (.iadd, 1) := by decide +kernel
theorem dX6_add_24 : decode cX6_add 24 = .ok (.iastore, 1) := by decide +kernel
theorem dX6_add_25 : decode cX6_add 25 = .ok (.aload_n 0, 1) := by decide +kernel
theorem dX6_add_26 : decode cX6_add 26 = .ok (.dup, 1) := by decide +kernel
theorem dX6_add_27 : decode cX6_add 27 = .ok (.getfield 9, 3) := by decide +kernel
theorem dX6_add_30 : decode cX6_add 30 = .ok (.iconst 1, 1) := by decide +kernel
theorem dX6_add_31 : decode cX6_add 31 = .ok (.iadd, 1) := by decide +kernel
theorem dX6_add_32 : decode cX6_add 32 = .ok (.putfield 9, 3) := by decide +kernel
theorem dX6_add_35 : decode cX6_add 35 = .ok (.return_, 1) := by decide +kernel
theorem dX6_drawNoise_0 : decode cX6_drawNoise 0 = .ok (.aload_n 0, 1) := by decide +kernel
theorem dX6_drawNoise_1 : decode cX6_drawNoise 1 = .ok (.aload_n 0, 1) := by decide +kernel
theorem dX6_drawNoise_2 : decode cX6_drawNoise 2 = .ok (.getfield 18, 3) := by decide +kernel
theorem dX6_drawNoise_5 : decode cX6_drawNoise 5 = .ok (.i2l, 1) := by decide +kernel
theorem dX6_drawNoise_6 : decode cX6_drawNoise 6 = .ok (.ldc2_w 32, 3) := by decide +kernel
theorem dX6_drawNoise_9 : decode cX6_drawNoise 9 = .ok (.lmul, 1) := by decide +kernel
theorem dX6_drawNoise_10 : decode cX6_drawNoise 10 = .ok (.ldc2_w 34, 3) := by decide +kernel
theorem dX6_drawNoise_13 : decode cX6_drawNoise 13 = .ok (.ladd, 1) := by decide +kernel
theorem dX6_drawNoise_14 : decode cX6_drawNoise 14 = .ok (.ldc2_w 36, 3) := by decide +kernel
theorem dX6_drawNoise_17 : decode cX6_drawNoise 17 = .ok (.lrem, 1) := by decide +kernel
theorem dX6_drawNoise_18 : decode cX6_drawNoise 18 = .ok (.l2i, 1) := by decide +kernel
theorem dX6_drawNoise_19 : decode cX6_drawNoise 19 = .ok (.putfield 18, 3) := by decide +kernel
theorem dX6_drawNoise_22 : decode cX6_drawNoise 22 = .ok (.aload_n 0, 1) := by decide +kernel
theorem dX6_drawNoise_23 : decode cX6_drawNoise 23 = .ok (.getfield 18, 3) := by decide +kernel
theorem dX6_drawNoise_26 : decode cX6_drawNoise 26 = .ok (.bipush 64, 2) := by decide +kernel
theorem dX6_drawNoise_28 : decode cX6_drawNoise 28 = .ok (.idiv, 1) := by decide +kernel
theorem dX6_drawNoise_29 : decode cX6_drawNoise 29 = .ok (.iconst 2, 1) := by decide +kernel
theorem dX6_drawNoise_30 : decode cX6_drawNoise 30 = .ok (.aload_n 0, 1) := by decide +kernel
theorem dX6_drawNoise_31 : decode cX6_drawNoise 31 = .ok (.getfield 15, 3) := by decide +kernel
theorem dX6_drawNoise_34 : decode cX6_drawNoise 34 = .ok (.imul, 1) := by decide +kernel
theorem dX6_drawNoise_35 : decode cX6_drawNoise 35 = .ok (.iconst 1, 1) := by decide +kernel
theorem dX6_drawNoise_36 : decode cX6_drawNoise 36 = .ok (.iadd, 1) := by decide +kernel
theorem dX6_drawNoise_37 : decode cX6_drawNoise 37 = .ok (.irem, 1) := by decide +kernel
theorem dX6_drawNoise_38 : decode cX6_drawNoise 38 = .ok (.aload_n 0, 1) := by decide +kernel
theorem dX6_drawNoise_39 : decode cX6_drawNoise 39 = .ok (.getfield 15, 3) := by decide +kernel
theorem dX6_drawNoise_42 : decode cX6_drawNoise 42 = .ok (.isub, 1) := by decide +kernel
theorem dX6_drawNoise_43 : decode cX6_drawNoise 43 = .ok (.ireturn, 1) := by decide +kernel
theorem dX6_firstOf_0 : decode cX6_firstOf 0 = .ok (.iconst 0, 1) := by decide +kernel
theorem dX6_firstOf_1 : decode cX6_firstOf 1 = .ok (.istore_n 2, 1) := by decide +kernel
theorem dX6_firstOf_2 : decode cX6_firstOf 2 = .ok (.iload_n 2, 1) := by decide +kernel
theorem dX6_firstOf_3 : decode cX6_firstOf 3 = .ok (.aload_n 0, 1) := by decide +kernel
theorem dX6_firstOf_4 : decode cX6_firstOf 4 = .ok (.getfield 9, 3) := by decide +kernel
theorem dX6_firstOf_7 : decode cX6_firstOf 7 = .ok (.if_icmp .ge 21, 3) := by decide +kernel
theorem dX6_firstOf_10 : decode cX6_firstOf 10 = .ok (.aload_n 0, 1) := by decide +kernel
theorem dX6_firstOf_11 : decode cX6_firstOf 11 = .ok (.getfield 21, 3) := by decide +kernel
theorem dX6_firstOf_14 : decode cX6_firstOf 14 = .ok (.iload_n 2, 1) := by decide +kernel
theorem dX6_firstOf_15 : decode cX6_firstOf 15 = .ok (.iaload, 1) := by decide +kernel
theorem dX6_firstOf_16 : decode cX6_firstOf 16 = .ok (.iload_n 1, 1) := by decide +kernel
theorem dX6_firstOf_17 : decode cX6_firstOf 17 = .ok (.if_icmp .ne 5, 3) := by decide +kernel
theorem dX6_firstOf_20 : decode cX6_firstOf 20 = .ok (.iload_n 2, 1) := by decide +kernel
theorem dX6_firstOf_21 : decode cX6_firstOf 21 = .ok (.ireturn, 1) := by decide +kernel
theorem dX6_firstOf_22 : decode cX6_firstOf 22 = .ok (.iinc 2 1, 3) := by decide +kernel
theorem dX6_firstOf_25 : decode cX6_firstOf 25 = .ok (.goto (-23), 3) := by decide +kernel
theorem dX6_firstOf_28 : decode cX6_firstOf 28 = .ok (.bipush (-4), 2) := by decide +kernel
theorem dX6_firstOf_30 : decode cX6_firstOf 30 = .ok (.ireturn, 1) := by decide +kernel
theorem dX6_howManySettings_0 : decode cX6_howManySettings 0 = .ok (.iconst 0, 1) := by decide +kernel
theorem dX6_howManySettings_1 : decode cX6_howManySettings 1 = .ok (.istore_n 1, 1) := by decide +kernel
theorem dX6_howManySettings_2 : decode cX6_howManySettings 2 = .ok (.iconst 0, 1) := by decide +kernel
theorem dX6_howManySettings_3 : decode cX6_howManySettings 3 = .ok (.istore_n 2, 1) := by decide +kernel
theorem dX6_howManySettings_4 : decode cX6_howManySettings 4 = .ok (.iload_n 2, 1) := by decide +kernel
theorem dX6_howManySettings_5 : decode cX6_howManySettings 5 = .ok (.aload_n 0, 1) := by decide +kernel
theorem dX6_howManySettings_6 : decode cX6_howManySettings 6 = .ok (.getfield 9, 3) := by decide +kernel
theorem dX6_howManySettings_9 : decode cX6_howManySettings 9 = .ok (.if_icmp .ge 26, 3) := by decide +kernel
theorem dX6_howManySettings_12 : decode cX6_howManySettings 12 = .ok (.aload_n 0, 1) := by decide +kernel
theorem dX6_howManySettings_13 : decode cX6_howManySettings 13 = .ok (.aload_n 0, 1) := by decide +kernel
theorem dX6_howManySettings_14 : decode cX6_howManySettings 14 = .ok (.getfield 21, 3) := by decide +kernel
theorem dX6_howManySettings_17 : decode cX6_howManySettings 17 = .ok (.iload_n 2, 1) := by decide +kernel
theorem dX6_howManySettings_18 : decode cX6_howManySettings 18 = .ok (.iaload, 1) := by decide +kernel
theorem dX6_howManySettings_19 : decode cX6_howManySettings 19 = .ok (.invokevirtual 38, 3) := by decide +kernel
theorem dX6_howManySettings_22 : decode cX6_howManySettings 22 = .ok (.iload_n 2, 1) := by decide +kernel
theorem dX6_howManySettings_23 : decode cX6_howManySettings 23 = .ok (.if_icmp .ne 6, 3) := by decide +kernel
theorem dX6_howManySettings_26 : decode cX6_howManySettings 26 = .ok (.iinc 1 1, 3) := by decide +kernel
theorem dX6_howManySettings_29 : decode cX6_howManySettings 29 = .ok (.iinc 2 1, 3) := by decide +kernel
theorem dX6_howManySettings_32 : decode cX6_howManySettings 32 = .ok (.goto (-28), 3) := by decide +kernel
theorem dX6_howManySettings_35 : decode cX6_howManySettings 35 = .ok (.iload_n 1, 1) := by decide +kernel
theorem dX6_howManySettings_36 : decode cX6_howManySettings 36 = .ok (.ireturn, 1) := by decide +kernel
theorem dJ7_fill_53178_0 : decode cJ7_fill_53178 0 = .ok (.iconst 0, 1) := by decide +kernel
theorem dJ7_fill_53178_1 : decode cJ7_fill_53178 1 = .ok (.istore_n 2, 1) := by decide +kernel
theorem dJ7_fill_53178_2 : decode cJ7_fill_53178 2 = .ok (.aload_n 0, 1) := by decide +kernel
theorem dJ7_fill_53178_3 : decode cJ7_fill_53178 3 = .ok (.arraylength, 1) := by decide +kernel
theorem dJ7_fill_53178_4 : decode cJ7_fill_53178 4 = .ok (.istore_n 3, 1) := by decide +kernel
theorem dJ7_fill_53178_5 : decode cJ7_fill_53178 5 = .ok (.iload_n 2, 1) := by decide +kernel
theorem dJ7_fill_53178_6 : decode cJ7_fill_53178 6 = .ok (.iload_n 3, 1) := by decide +kernel
theorem dJ7_fill_53178_7 : decode cJ7_fill_53178 7 = .ok (.if_icmp .ge 13, 3) := by decide +kernel
theorem dJ7_fill_53178_10 : decode cJ7_fill_53178 10 = .ok (.aload_n 0, 1) := by decide +kernel
theorem dJ7_fill_53178_11 : decode cJ7_fill_53178 11 = .ok (.iload_n 2, 1) := by decide +kernel
theorem dJ7_fill_53178_12 : decode cJ7_fill_53178 12 = .ok (.iload_n 1, 1) := by decide +kernel
theorem dJ7_fill_53178_13 : decode cJ7_fill_53178 13 = .ok (.iastore, 1) := by decide +kernel
theorem dJ7_fill_53178_14 : decode cJ7_fill_53178 14 = .ok (.iinc 2 1, 3) := by decide +kernel
theorem dJ7_fill_53178_17 : decode cJ7_fill_53178 17 = .ok (.goto (-12), 3) := by decide +kernel
theorem dJ7_fill_53178_20 : decode cJ7_fill_53178 20 = .ok (.return_, 1) := by decide +kernel
end
section
abbrev St : Type := Nat → Nat → Int32
/-- one number of the state changes -/
def st1 (P : St) (j i : Nat) (v : Int32) : St := va_up P j (upd (P j) i v)
def bI (P : Prop) [Decidable P] : Int32 := if P then 1 else 0
theorem bI_t {P : Prop} [Decidable P] (h : P) : nI 1 = bI P := by rw [bI, if_pos h]; rfl
theorem bI_f {P : Prop} [Decidable P] (h : ¬ P) : nI 0 = bI P := by rw [bI, if_neg h]; rfl
theorem bI_congr {P Q : Prop} [Decidable P] [Decidable Q] (h : P ↔ Q) : bI P = bI Q := by unfold bI; by_cases hp : P <;> simp [hp, ← h]
theorem bI_0 {P : Prop} [Decidable P] : bI P = 0 ↔ ¬ P := by unfold bI; by_cases hp : P <;> simp [hp]
theorem bI_nar {P : Prop} [Decidable P] : narrow .boolean (.int (bI P)) = .int (bI P) := by unfold bI; by_cases hp : P <;> simp [hp] <;> rfl
theorem bI_vnar {P : Prop} [Decidable P] : vp_nar .boolean (bI P) = bI P := by unfold bI; by_cases hp : P <;> simp [hp] <;> rfl
/-- the locals behind a store -/
def xst (lv : List (Nat × Value)) (i : Nat) (v : Value) : List (Nat × Value) := if lv.any (fun q => q.1 == i) then lv.map (fun q => if q.1 == i then (i, v) else q) else lv ++ [(i, v)]
theorem xst_has {ls : Array Slot} {nL i : Nat} {lv : List (Nat × Value)} {v : Value} (h : lv_has ls nL ((i, v) :: lv.filter (fun q => !(q.1 == i) && !(q.1 + 1 == i && q.2.category == 2)))) (hc : lv.all (fun q => q.2.category == 1) = true) : lv_has ls nL (xst lv i v) := by
  refine ⟨h.1, h.2.1, fun q hq => ?_⟩
  have key : q = (i, v) ∨ (q ∈ lv ∧ ¬ q.1 = i) := by
    unfold xst at hq
    split at hq
    · obtain ⟨r, hr, e⟩ := List.mem_map.mp hq
      by_cases hri : r.1 = i
      · rw [if_pos (by simpa using hri)] at e; exact Or.inl e.symm
      · rw [if_neg (by simpa using hri)] at e; subst e; exact Or.inr ⟨hr, hri⟩
    · rename_i hn
      rcases List.mem_append.mp hq with h1 | h1
      · refine Or.inr ⟨h1, fun e => hn ?_⟩
        exact List.any_eq_true.mpr ⟨q, h1, by simpa using e⟩
      · exact Or.inl (List.mem_singleton.mp h1)
  rcases key with rfl | ⟨h1, h2⟩
  · exact h.2.2 _ List.mem_cons_self
  · refine h.2.2 q (List.mem_cons_of_mem _ (List.mem_filter.mpr ⟨h1, ?_⟩))
    have h3 := List.all_eq_true.mp hc q h1
    have h4 : q.2.category = 1 := by simpa using h3
    simp [h2, h4]
section LAYER
variable {p : Program} {l : Launch} {e : Env} {R : Room} {s : State} {m : MethodId} {args : Array Value} {below : List Frame} {meth : Method} {c : Code} {D : va_G} {tys : List (ClassId × FieldType)} {wf : St → St → va_W} {A : Nat → Prop} {cc : ByteArray} {nL : Nat} {own : String} {Q : State → Prop} {rt : Option FieldType}
variable {pc q : Nat} {lv lv' : List (Nat × Value)} {st : List Value} {P T : St}
def XC (p : Program) (s : State) (m : MethodId) (args : Array Value) (meth : Method) (c : Code) (D : va_G) (tys : List (ClassId × FieldType)) (wf : St → St → va_W) (A : Nat → Prop) (cc : ByteArray) (nL : Nat) (own : String) (rt : Option FieldType) : Prop :=
  p.tables.exec = Jvm.exec ∧ c.code = cc ∧ c.maxLocals = nL ∧ s.vm.findClass own = some m.cls ∧ (∀ w ∈ tb, w.before args s = true) ∧ va_K D vwCl tys s ∧ (∀ P T, va_D A (wf P T)) ∧ meth.sig.returnType = rt ∧ meth.locks = false
/-- the machine at pc, with the locals lv, the stack st, over any heap that holds the state (P, T): comes to Q -/
def XW (p : Program) (l : Launch) (e : Env) (R : Room) (s : State) (m : MethodId) (args : Array Value) (below : List Frame) (meth : Method) (c : Code) (D : va_G) (wf : St → St → va_W) (A : Nat → Prop) (nL : Nat) (Q : State → Prop) (pc : Nat) (lv : List (Nat × Value)) (st : List Value) (P T : St) : Prop :=
  ∀ (H : Heap) (locs : List Loc) (ls : Array Slot), va_P D vwCl (wf P T) H → va_S A s.heap H locs → lv_has ls nL lv → W p l e R s m args below meth c H locs 0 0 Q (F0 m pc ls st)
/-- a method's words: its code, and the tables' -/
abbrev wU (y : MethodName) (bytes : ByteArray) (maxL : Nat) (ret : Option FieldType) : List Cond := Cond.code y bytes maxL ret :: tb
def XPre (D : va_G) (tys : List (ClassId × FieldType)) (wf : St → St → va_W) (av : List Value) (P T : St) : Array Value → State → Prop := va_Pc av (fun U => va_P D vwCl (wf P T) U.heap ∧ va_K D vwCl tys U)
def XB (D : va_G) (tys : List (ClassId × FieldType)) (wf : St → St → va_W) : St × St → State → Prop := fun u t => va_P D vwCl (wf u.1 u.2) t.heap ∧ va_K D vwCl tys t
def XPI (D : va_G) (tys : List (ClassId × FieldType)) (wf : St → St → va_W) (A : Nat → Prop) (post : Int32 → St → St → Prop) : Array Value → State → Outcome → State → Prop := va_Qi (fun r (u : St × St) => post r u.1 u.2) (XB D tys wf) A
def XPV (D : va_G) (tys : List (ClassId × FieldType)) (wf : St → St → va_W) (A : Nat → Prop) (post : St → St → Prop) : Array Value → State → Outcome → State → Prop := va_Qv (fun (u : St × St) => post u.1 u.2) (XB D tys wf) A
/-- a method's contract over a state: with an answer, without -/
def XMI (l : Launch) (D : va_G) (tys : List (ClassId × FieldType)) (wf : St → St → va_W) (A : Nat → Prop) (y : MethodName) (bytes : ByteArray) (maxL : Nat) (ret : Option FieldType) (rm : Room) (av : List Value) (P T : St) (post : Int32 → St → St → Prop) : Prop := Met l y (wU y bytes maxL ret) rm (XPre D tys wf av P T) (XPI D tys wf A post) 0 0 A
def XMV (l : Launch) (D : va_G) (tys : List (ClassId × FieldType)) (wf : St → St → va_W) (A : Nat → Prop) (y : MethodName) (bytes : ByteArray) (maxL : Nat) (ret : Option FieldType) (rm : Room) (av : List Value) (P T : St) (post : St → St → Prop) : Prop := Met l y (wU y bytes maxL ret) rm (XPre D tys wf av P T) (XPV D tys wf A post) 0 0 A
theorem XPre.blind {av : List Value} : FrameBlind (XPre D tys wf av P T) := fun _ U g mk h => ⟨h.1, h.2.1, va_K.moved (u := U) (U := U.calling g mk _) (Vm.Alike.refl U.vm) h.2.2⟩

theorem x_start_i {y : MethodName} {rm : Room} {av : List Value} {post : Int32 → St → St → Prop} (hy : plainName y.cls = true) (hown : y.cls = own) (hD : ∀ P T, va_D A (wf P T)) (hlen : (lg_sl av).length ≤ nL) (hlv : lv_args 0 av = lv)
    (body : ∀ p e s m args below meth c, XC p s m args meth c D tys wf A cc nL own rt → XW p l e rm s m args below meth c D wf A nL (MQ below (XPI D tys wf A post) args s 0 0 A) 0 lv [] P T) : XMI l D tys wf A y cc nL rt rm av P T post := by
  refine Met.ofW (cc := cc) (maxL := nL) (ret := rt) hy rfl ?_
  intro p e s m args below meth c s₁ B hml hv
  obtain ⟨rfl, hP, hK⟩ := hv
  have hts := atoms_spec (ws := wU y cc nL rt) B.pre
  have ho : s.vm.findClass own = some m.cls := by rw [← hown]; exact findClass_of_methodNamed B.named
  have hl := lv_entry av (n := nL) hlen
  rw [lg_entry_eq]
  rw [hlv] at hl
  exact body p e s m _ below meth c ⟨B.exec, B.bytes, hml, ho, fun w h => hts w (List.mem_cons_of_mem _ h), hK, hD, B.returns, B.notSynchronized⟩ s.heap [] _ hP va_S.rf hl
theorem x_start_v {y : MethodName} {rm : Room} {av : List Value} {post : St → St → Prop} (hy : plainName y.cls = true) (hown : y.cls = own) (hD : ∀ P T, va_D A (wf P T)) (hlen : (lg_sl av).length ≤ nL) (hlv : lv_args 0 av = lv)
    (body : ∀ p e s m args below meth c, XC p s m args meth c D tys wf A cc nL own rt → XW p l e rm s m args below meth c D wf A nL (MQ below (XPV D tys wf A post) args s 0 0 A) 0 lv [] P T) : XMV l D tys wf A y cc nL rt rm av P T post := by
  refine Met.ofW (cc := cc) (maxL := nL) (ret := rt) hy rfl ?_
  intro p e s m args below meth c s₁ B hml hv
  obtain ⟨rfl, hP, hK⟩ := hv
  have hts := atoms_spec (ws := wU y cc nL rt) B.pre
  have ho : s.vm.findClass own = some m.cls := by rw [← hown]; exact findClass_of_methodNamed B.named
  have hl := lv_entry av (n := nL) hlen
  rw [lg_entry_eq]
  rw [hlv] at hl
  exact body p e s m _ below meth c ⟨B.exec, B.bytes, hml, ho, fun w h => hts w (List.mem_cons_of_mem _ h), hK, hD, B.returns, B.notSynchronized⟩ s.heap [] _ hP va_S.rf hl
theorem x_iconst {n : Int} {v : Int32} (C : XC p s m args meth c D tys wf A cc nL own rt) (d : decode cc pc = .ok (.iconst n, 1)) (hv : Int32.ofInt n = v) (h : pc + 1 = q) (k : XW p l e R s m args below meth c D wf A nL Q q lv (.int v :: st) P T) : XW p l e R s m args below meth c D wf A nL Q pc lv st P T := by
  subst h
  exact fun H locs ls hP hS hl => lv_iconst C.1 C.2.1 d hv (k H locs ls hP hS hl)
theorem x_bipush {n : Int} {v : Int32} (C : XC p s m args meth c D tys wf A cc nL own rt) (d : decode cc pc = .ok (.bipush n, 2)) (hv : (Int8.ofInt n).toInt32 = v) (h : pc + 2 = q) (k : XW p l e R s m args below meth c D wf A nL Q q lv (.int v :: st) P T) : XW p l e R s m args below meth c D wf A nL Q pc lv st P T := by
  subst h
  exact fun H locs ls hP hS hl => lv_bipush C.1 C.2.1 d hv (k H locs ls hP hS hl)
theorem x_sipush {n : Int} {v : Int32} (C : XC p s m args meth c D tys wf A cc nL own rt) (d : decode cc pc = .ok (.sipush n, 3)) (hv : (Int16.ofInt n).toInt32 = v) (h : pc + 3 = q) (k : XW p l e R s m args below meth c D wf A nL Q q lv (.int v :: st) P T) : XW p l e R s m args below meth c D wf A nL Q pc lv st P T := by
  subst h
  exact fun H locs ls hP hS hl => lv_sipush C.1 C.2.1 d hv (k H locs ls hP hS hl)
theorem x_ldc {i : Nat} {v : Int32} (C : XC p s m args meth c D tys wf A cc nL own rt) (hc : Cond.constant own i v ∈ tb) (d : decode cc pc = .ok (.ldc i, 2)) (h : pc + 2 = q) (k : XW p l e R s m args below meth c D wf A nL Q q lv (.int v :: st) P T) : XW p l e R s m args below meth c D wf A nL Q pc lv st P T := by
  subst h
  exact fun H locs ls hP hS hl => lv_ldc C.1 C.2.1 C.2.2.2.1 (C.2.2.2.2.1 _ hc) d (k H locs ls hP hS hl)
theorem x_ldc2 {i : Nat} {v : Int64} (C : XC p s m args meth c D tys wf A cc nL own rt) (hc : Cond.constantLong own i v ∈ tb) (d : decode cc pc = .ok (.ldc2_w i, 3)) (h : pc + 3 = q) (k : XW p l e R s m args below meth c D wf A nL Q q lv (.long v :: st) P T) : XW p l e R s m args below meth c D wf A nL Q pc lv st P T := by
  subst h
  exact fun H locs ls hP hS hl => lv_ldc2 C.1 C.2.1 C.2.2.2.1 (C.2.2.2.2.1 _ hc) d (k H locs ls hP hS hl)
theorem x_lconst {n : Fin 2} {v : Int64} (C : XC p s m args meth c D tys wf A cc nL own rt) (d : decode cc pc = .ok (.lconst n, 1)) (hv : Int64.ofNat (n : Nat) = v) (h : pc + 1 = q) (k : XW p l e R s m args below meth c D wf A nL Q q lv (.long v :: st) P T) : XW p l e R s m args below meth c D wf A nL Q pc lv st P T := by
  subst h
  exact fun H locs ls hP hS hl => lv_lconst C.1 C.2.1 d hv (k H locs ls hP hS hl)
theorem x_iload_n {kk : Fin 4} {i : Nat} {x : Int32} (C : XC p s m args meth c D tys wf A cc nL own rt) (d : decode cc pc = .ok (.iload_n kk, 1)) (hi : (kk : Nat) = i) (j : Nat) (hj : lv[j]? = some (i, .int x)) (h : pc + 1 = q) (k : XW p l e R s m args below meth c D wf A nL Q q lv (.int x :: st) P T) : XW p l e R s m args below meth c D wf A nL Q pc lv st P T := by
  subst h
  exact fun H locs ls hP hS hl => lv_iload_n C.1 C.2.1 d hi (lv_at hl j hj) (k H locs ls hP hS hl)
theorem x_iload {i : Nat} {x : Int32} (C : XC p s m args meth c D tys wf A cc nL own rt) (d : decode cc pc = .ok (.iload i, 2)) (j : Nat) (hj : lv[j]? = some (i, .int x)) (h : pc + 2 = q) (k : XW p l e R s m args below meth c D wf A nL Q q lv (.int x :: st) P T) : XW p l e R s m args below meth c D wf A nL Q pc lv st P T := by
  subst h
  exact fun H locs ls hP hS hl => lv_iload C.1 C.2.1 d (lv_at hl j hj) (k H locs ls hP hS hl)
theorem x_lload_n {kk : Fin 4} {i : Nat} {x : Int64} (C : XC p s m args meth c D tys wf A cc nL own rt) (d : decode cc pc = .ok (.lload_n kk, 1)) (hi : (kk : Nat) = i) (j : Nat) (hj : lv[j]? = some (i, .long x)) (h : pc + 1 = q) (k : XW p l e R s m args below meth c D wf A nL Q q lv (.long x :: st) P T) : XW p l e R s m args below meth c D wf A nL Q pc lv st P T := by
  subst h
  exact fun H locs ls hP hS hl => lv_lload_n C.1 C.2.1 d hi (lv_at hl j hj) (k H locs ls hP hS hl)
theorem x_lload {i : Nat} {x : Int64} (C : XC p s m args meth c D tys wf A cc nL own rt) (d : decode cc pc = .ok (.lload i, 2)) (j : Nat) (hj : lv[j]? = some (i, .long x)) (h : pc + 2 = q) (k : XW p l e R s m args below meth c D wf A nL Q q lv (.long x :: st) P T) : XW p l e R s m args below meth c D wf A nL Q pc lv st P T := by
  subst h
  exact fun H locs ls hP hS hl => lv_lload C.1 C.2.1 d (lv_at hl j hj) (k H locs ls hP hS hl)
theorem x_aload_n {kk : Fin 4} {i : Nat} {x : Nat} (C : XC p s m args meth c D tys wf A cc nL own rt) (d : decode cc pc = .ok (.aload_n kk, 1)) (hi : (kk : Nat) = i) (j : Nat) (hj : lv[j]? = some (i, .ref x)) (h : pc + 1 = q) (k : XW p l e R s m args below meth c D wf A nL Q q lv (.ref x :: st) P T) : XW p l e R s m args below meth c D wf A nL Q pc lv st P T := by
  subst h
  exact fun H locs ls hP hS hl => lv_aload_n C.1 C.2.1 d hi (lv_at hl j hj) (k H locs ls hP hS hl)
theorem x_aload {i : Nat} {x : Nat} (C : XC p s m args meth c D tys wf A cc nL own rt) (d : decode cc pc = .ok (.aload i, 2)) (j : Nat) (hj : lv[j]? = some (i, .ref x)) (h : pc + 2 = q) (k : XW p l e R s m args below meth c D wf A nL Q q lv (.ref x :: st) P T) : XW p l e R s m args below meth c D wf A nL Q pc lv st P T := by
  subst h
  exact fun H locs ls hP hS hl => lv_aload C.1 C.2.1 d (lv_at hl j hj) (k H locs ls hP hS hl)
theorem x_istore_n {kk : Fin 4} {i : Nat} {x : Int32} (C : XC p s m args meth c D tys wf A cc nL own rt) (d : decode cc pc = .ok (.istore_n kk, 1)) (hi : (kk : Nat) = i) (hn : i < nL) (hc : lv.all (fun q => q.2.category == 1) = true) (hx : xst lv i (.int x) = lv') (h : pc + 1 = q) (k : XW p l e R s m args below meth c D wf A nL Q q lv' st P T) : XW p l e R s m args below meth c D wf A nL Q pc lv (.int x :: st) P T := by
  subst h
  exact fun H locs ls hP hS hl => lv_istore_n C.1 C.2.1 d hi hl hn rfl (fun ls' hl' => k H locs ls' hP hS (hx ▸ xst_has hl' hc))
theorem x_istore {i : Nat} {x : Int32} (C : XC p s m args meth c D tys wf A cc nL own rt) (d : decode cc pc = .ok (.istore i, 2)) (hn : i < nL) (hc : lv.all (fun q => q.2.category == 1) = true) (hx : xst lv i (.int x) = lv') (h : pc + 2 = q) (k : XW p l e R s m args below meth c D wf A nL Q q lv' st P T) : XW p l e R s m args below meth c D wf A nL Q pc lv (.int x :: st) P T := by
  subst h
  exact fun H locs ls hP hS hl => lv_istore C.1 C.2.1 d hl hn rfl (fun ls' hl' => k H locs ls' hP hS (hx ▸ xst_has hl' hc))
theorem x_iinc {i : Nat} {n : Int} {x v : Int32} (C : XC p s m args meth c D tys wf A cc nL own rt) (d : decode cc pc = .ok (.iinc i n, 3)) (j : Nat) (hj : lv[j]? = some (i, .int x)) (hv : x + Int32.ofInt n = v) (hn : i < nL) (hc : lv.all (fun q => q.2.category == 1) = true) (hx : xst lv i (.int v) = lv') (h : pc + 3 = q) (k : XW p l e R s m args below meth c D wf A nL Q q lv' st P T) : XW p l e R s m args below meth c D wf A nL Q pc lv st P T := by
  subst h
  exact fun H locs ls hP hS hl => lv_iinc C.1 C.2.1 d hl hj hv hn rfl (fun ls' hl' => k H locs ls' hP hS (hx ▸ xst_has hl' hc))
theorem x_iadd {x y : Int32} (C : XC p s m args meth c D tys wf A cc nL own rt) (d : decode cc pc = .ok (.iadd, 1)) (h : pc + 1 = q) (k : XW p l e R s m args below meth c D wf A nL Q q lv (.int (x + y) :: st) P T) : XW p l e R s m args below meth c D wf A nL Q pc lv (.int y :: .int x :: st) P T := by
  subst h
  exact fun H locs ls hP hS hl => lv_iadd C.1 C.2.1 d (k H locs ls hP hS hl)
theorem x_isub {x y : Int32} (C : XC p s m args meth c D tys wf A cc nL own rt) (d : decode cc pc = .ok (.isub, 1)) (h : pc + 1 = q) (k : XW p l e R s m args below meth c D wf A nL Q q lv (.int (x - y) :: st) P T) : XW p l e R s m args below meth c D wf A nL Q pc lv (.int y :: .int x :: st) P T := by
  subst h
  exact fun H locs ls hP hS hl => lv_isub C.1 C.2.1 d (k H locs ls hP hS hl)
theorem x_imul {x y : Int32} (C : XC p s m args meth c D tys wf A cc nL own rt) (d : decode cc pc = .ok (.imul, 1)) (h : pc + 1 = q) (k : XW p l e R s m args below meth c D wf A nL Q q lv (.int (x * y) :: st) P T) : XW p l e R s m args below meth c D wf A nL Q pc lv (.int y :: .int x :: st) P T := by
  subst h
  exact fun H locs ls hP hS hl => lv_imul C.1 C.2.1 d (k H locs ls hP hS hl)
theorem x_iand {x y : Int32} (C : XC p s m args meth c D tys wf A cc nL own rt) (d : decode cc pc = .ok (.iand, 1)) (h : pc + 1 = q) (k : XW p l e R s m args below meth c D wf A nL Q q lv (.int (x &&& y) :: st) P T) : XW p l e R s m args below meth c D wf A nL Q pc lv (.int y :: .int x :: st) P T := by
  subst h
  exact fun H locs ls hP hS hl => lv_iand C.1 C.2.1 d (k H locs ls hP hS hl)
theorem x_ineg {x : Int32} (C : XC p s m args meth c D tys wf A cc nL own rt) (d : decode cc pc = .ok (.ineg, 1)) (h : pc + 1 = q) (k : XW p l e R s m args below meth c D wf A nL Q q lv (.int (-x) :: st) P T) : XW p l e R s m args below meth c D wf A nL Q pc lv (.int x :: st) P T := by
  subst h
  exact fun H locs ls hP hS hl => lv_ineg C.1 C.2.1 d (k H locs ls hP hS hl)
theorem x_i2l {x : Int32} (C : XC p s m args meth c D tys wf A cc nL own rt) (d : decode cc pc = .ok (.i2l, 1)) (h : pc + 1 = q) (k : XW p l e R s m args below meth c D wf A nL Q q lv (.long x.toInt64 :: st) P T) : XW p l e R s m args below meth c D wf A nL Q pc lv (.int x :: st) P T := by
  subst h
  exact fun H locs ls hP hS hl => lv_i2l C.1 C.2.1 d rfl (k H locs ls hP hS hl)
theorem x_l2i {x : Int64} (C : XC p s m args meth c D tys wf A cc nL own rt) (d : decode cc pc = .ok (.l2i, 1)) (h : pc + 1 = q) (k : XW p l e R s m args below meth c D wf A nL Q q lv (.int x.toInt32 :: st) P T) : XW p l e R s m args below meth c D wf A nL Q pc lv (.long x :: st) P T := by
  subst h
  exact fun H locs ls hP hS hl => lv_l2i C.1 C.2.1 d rfl (k H locs ls hP hS hl)
theorem x_ladd {x y : Int64} (C : XC p s m args meth c D tys wf A cc nL own rt) (d : decode cc pc = .ok (.ladd, 1)) (h : pc + 1 = q) (k : XW p l e R s m args below meth c D wf A nL Q q lv (.long (x + y) :: st) P T) : XW p l e R s m args below meth c D wf A nL Q pc lv (.long y :: .long x :: st) P T := by
  subst h
  exact fun H locs ls hP hS hl => lv_ladd C.1 C.2.1 d (k H locs ls hP hS hl)
theorem x_lmul {x y : Int64} (C : XC p s m args meth c D tys wf A cc nL own rt) (d : decode cc pc = .ok (.lmul, 1)) (h : pc + 1 = q) (k : XW p l e R s m args below meth c D wf A nL Q q lv (.long (x * y) :: st) P T) : XW p l e R s m args below meth c D wf A nL Q pc lv (.long y :: .long x :: st) P T := by
  subst h
  exact fun H locs ls hP hS hl => lv_lmul C.1 C.2.1 d (k H locs ls hP hS hl)
theorem x_lcmp {x y : Int64} (C : XC p s m args meth c D tys wf A cc nL own rt) (d : decode cc pc = .ok (.lcmp, 1)) (h : pc + 1 = q) (k : XW p l e R s m args below meth c D wf A nL Q q lv (.int (lg_cmp x y) :: st) P T) : XW p l e R s m args below meth c D wf A nL Q pc lv (.long y :: .long x :: st) P T := by
  subst h
  exact fun H locs ls hP hS hl => W.lcmp C.1 C.2.1 d (k H locs ls hP hS hl)
theorem x_dup {v : Value} (C : XC p s m args meth c D tys wf A cc nL own rt) (d : decode cc pc = .ok (.dup, 1)) (hv : v.category = 1) (h : pc + 1 = q) (k : XW p l e R s m args below meth c D wf A nL Q q lv (v :: v :: st) P T) : XW p l e R s m args below meth c D wf A nL Q pc lv (v :: st) P T := by
  subst h
  exact fun H locs ls hP hS hl => lv_dup C.1 C.2.1 d hv (k H locs ls hP hS hl)
theorem x_dup2 {v w : Value} (C : XC p s m args meth c D tys wf A cc nL own rt) (d : decode cc pc = .ok (.dup2, 1)) (hv : v.category = 1) (hw : w.category = 1) (h : pc + 1 = q) (k : XW p l e R s m args below meth c D wf A nL Q q lv (v :: w :: v :: w :: st) P T) : XW p l e R s m args below meth c D wf A nL Q pc lv (v :: w :: st) P T := by
  subst h
  exact fun H locs ls hP hS hl => lv_dup2_11 C.1 C.2.1 d hv hw (k H locs ls hP hS hl)
theorem x_idiv_n {a b : Nat} (C : XC p s m args meth c D tys wf A cc nL own rt) (d : decode cc pc = .ok (.idiv, 1)) (ha : a < 2 ^ 31) (h0 : 0 < b) (hb : b < 2 ^ 31) (h : pc + 1 = q) (k : XW p l e R s m args below meth c D wf A nL Q q lv (.int (nI (a / b)) :: st) P T) : XW p l e R s m args below meth c D wf A nL Q pc lv (.int (nI b) :: .int (nI a) :: st) P T := by
  subst h
  intro H locs ls hP hS hl
  have k := k H locs ls hP hS hl
  rw [← pk_div ha h0 hb] at k
  exact lv_idiv C.1 C.2.1 d (nI_ne0 h0 hb) k
theorem x_irem_n {a b : Nat} (C : XC p s m args meth c D tys wf A cc nL own rt) (d : decode cc pc = .ok (.irem, 1)) (ha : a < 2 ^ 31) (h0 : 0 < b) (hb : b < 2 ^ 31) (h : pc + 1 = q) (k : XW p l e R s m args below meth c D wf A nL Q q lv (.int (nI (a % b)) :: st) P T) : XW p l e R s m args below meth c D wf A nL Q pc lv (.int (nI b) :: .int (nI a) :: st) P T := by
  subst h
  intro H locs ls hP hS hl
  have k := k H locs ls hP hS hl
  rw [← pk_rem ha h0 hb] at k
  exact lv_irem C.1 C.2.1 d (nI_ne0 h0 hb) k
theorem x_lrem {x y : Int64} (C : XC p s m args meth c D tys wf A cc nL own rt) (d : decode cc pc = .ok (.lrem, 1)) (hne : ¬ y = 0) (h : pc + 1 = q) (k : XW p l e R s m args below meth c D wf A nL Q q lv (.long (x - x / y * y) :: st) P T) : XW p l e R s m args below meth c D wf A nL Q pc lv (.long y :: .long x :: st) P T := by
  subst h
  exact fun H locs ls hP hS hl => lv_lrem C.1 C.2.1 d hne (k H locs ls hP hS hl)
theorem x_iadd_n {a b : Nat} (C : XC p s m args meth c D tys wf A cc nL own rt) (d : decode cc pc = .ok (.iadd, 1)) (h : pc + 1 = q) (k : XW p l e R s m args below meth c D wf A nL Q q lv (.int (nI (a + b)) :: st) P T) : XW p l e R s m args below meth c D wf A nL Q pc lv (.int (nI b) :: .int (nI a) :: st) P T := x_iadd C d h (by rw [nI_add a b]; exact k)
theorem x_imul_n {a b : Nat} (C : XC p s m args meth c D tys wf A cc nL own rt) (d : decode cc pc = .ok (.imul, 1)) (h : pc + 1 = q) (k : XW p l e R s m args below meth c D wf A nL Q q lv (.int (nI (a * b)) :: st) P T) : XW p l e R s m args below meth c D wf A nL Q pc lv (.int (nI b) :: .int (nI a) :: st) P T := x_imul C d h (by rw [pk_mul a b]; exact k)
theorem x_isub_n {a b : Nat} (C : XC p s m args meth c D tys wf A cc nL own rt) (d : decode cc pc = .ok (.isub, 1)) (hab : b ≤ a) (h : pc + 1 = q) (k : XW p l e R s m args below meth c D wf A nL Q q lv (.int (nI (a - b)) :: st) P T) : XW p l e R s m args below meth c D wf A nL Q pc lv (.int (nI b) :: .int (nI a) :: st) P T := x_isub C d h (by rw [pk_sub hab]; exact k)
theorem x_icmp_eq {x y : Int32} {off : Int} {tgt : Nat} (C : XC p s m args meth c D tys wf A cc nL own rt) (d : decode cc pc = .ok (.if_icmp .eq off, 3)) (ht : (pc : Int) + off = (tgt : Int)) (h : pc + 3 = q) (kt : x = y → XW p l e R s m args below meth c D wf A nL Q tgt lv st P T) (kf : ¬ (x = y) → XW p l e R s m args below meth c D wf A nL Q q lv st P T) : XW p l e R s m args below meth c D wf A nL Q pc lv (.int y :: .int x :: st) P T := by
  subst h
  exact fun H locs ls hP hS hl => lv_icmp_eq C.1 C.2.1 d ht (fun z => kt z H locs ls hP hS hl) (fun z => kf z H locs ls hP hS hl)
theorem x_if_eq {x : Int32} {off : Int} {tgt : Nat} (C : XC p s m args meth c D tys wf A cc nL own rt) (d : decode cc pc = .ok (.ifCond .eq off, 3)) (ht : (pc : Int) + off = (tgt : Int)) (h : pc + 3 = q) (kt : x = 0 → XW p l e R s m args below meth c D wf A nL Q tgt lv st P T) (kf : ¬ (x = 0) → XW p l e R s m args below meth c D wf A nL Q q lv st P T) : XW p l e R s m args below meth c D wf A nL Q pc lv (.int x :: st) P T := by
  subst h
  exact fun H locs ls hP hS hl => lv_if_eq C.1 C.2.1 d ht (fun z => kt z H locs ls hP hS hl) (fun z => kf z H locs ls hP hS hl)
theorem x_icmp_ne {x y : Int32} {off : Int} {tgt : Nat} (C : XC p s m args meth c D tys wf A cc nL own rt) (d : decode cc pc = .ok (.if_icmp .ne off, 3)) (ht : (pc : Int) + off = (tgt : Int)) (h : pc + 3 = q) (kt : ¬ x = y → XW p l e R s m args below meth c D wf A nL Q tgt lv st P T) (kf : x = y → XW p l e R s m args below meth c D wf A nL Q q lv st P T) : XW p l e R s m args below meth c D wf A nL Q pc lv (.int y :: .int x :: st) P T := by
  subst h
  exact fun H locs ls hP hS hl => lv_icmp_ne C.1 C.2.1 d ht (fun z => kt z H locs ls hP hS hl) (fun z => kf z H locs ls hP hS hl)
theorem x_if_ne {x : Int32} {off : Int} {tgt : Nat} (C : XC p s m args meth c D tys wf A cc nL own rt) (d : decode cc pc = .ok (.ifCond .ne off, 3)) (ht : (pc : Int) + off = (tgt : Int)) (h : pc + 3 = q) (kt : ¬ x = 0 → XW p l e R s m args below meth c D wf A nL Q tgt lv st P T) (kf : x = 0 → XW p l e R s m args below meth c D wf A nL Q q lv st P T) : XW p l e R s m args below meth c D wf A nL Q pc lv (.int x :: st) P T := by
  subst h
  exact fun H locs ls hP hS hl => lv_if_ne C.1 C.2.1 d ht (fun z => kt z H locs ls hP hS hl) (fun z => kf z H locs ls hP hS hl)
theorem x_icmp_lt {x y : Int32} {off : Int} {tgt : Nat} (C : XC p s m args meth c D tys wf A cc nL own rt) (d : decode cc pc = .ok (.if_icmp .lt off, 3)) (ht : (pc : Int) + off = (tgt : Int)) (h : pc + 3 = q) (kt : x < y → XW p l e R s m args below meth c D wf A nL Q tgt lv st P T) (kf : ¬ (x < y) → XW p l e R s m args below meth c D wf A nL Q q lv st P T) : XW p l e R s m args below meth c D wf A nL Q pc lv (.int y :: .int x :: st) P T := by
  subst h
  exact fun H locs ls hP hS hl => lv_icmp_lt C.1 C.2.1 d ht (fun z => kt z H locs ls hP hS hl) (fun z => kf z H locs ls hP hS hl)
theorem x_if_lt {x : Int32} {off : Int} {tgt : Nat} (C : XC p s m args meth c D tys wf A cc nL own rt) (d : decode cc pc = .ok (.ifCond .lt off, 3)) (ht : (pc : Int) + off = (tgt : Int)) (h : pc + 3 = q) (kt : x < 0 → XW p l e R s m args below meth c D wf A nL Q tgt lv st P T) (kf : ¬ (x < 0) → XW p l e R s m args below meth c D wf A nL Q q lv st P T) : XW p l e R s m args below meth c D wf A nL Q pc lv (.int x :: st) P T := by
  subst h
  exact fun H locs ls hP hS hl => lv_if_lt C.1 C.2.1 d ht (fun z => kt z H locs ls hP hS hl) (fun z => kf z H locs ls hP hS hl)
theorem x_icmp_ge {x y : Int32} {off : Int} {tgt : Nat} (C : XC p s m args meth c D tys wf A cc nL own rt) (d : decode cc pc = .ok (.if_icmp .ge off, 3)) (ht : (pc : Int) + off = (tgt : Int)) (h : pc + 3 = q) (kt : y ≤ x → XW p l e R s m args below meth c D wf A nL Q tgt lv st P T) (kf : ¬ (y ≤ x) → XW p l e R s m args below meth c D wf A nL Q q lv st P T) : XW p l e R s m args below meth c D wf A nL Q pc lv (.int y :: .int x :: st) P T := by
  subst h
  exact fun H locs ls hP hS hl => lv_icmp_ge C.1 C.2.1 d ht (fun z => kt z H locs ls hP hS hl) (fun z => kf z H locs ls hP hS hl)
theorem x_if_ge {x : Int32} {off : Int} {tgt : Nat} (C : XC p s m args meth c D tys wf A cc nL own rt) (d : decode cc pc = .ok (.ifCond .ge off, 3)) (ht : (pc : Int) + off = (tgt : Int)) (h : pc + 3 = q) (kt : 0 ≤ x → XW p l e R s m args below meth c D wf A nL Q tgt lv st P T) (kf : ¬ (0 ≤ x) → XW p l e R s m args below meth c D wf A nL Q q lv st P T) : XW p l e R s m args below meth c D wf A nL Q pc lv (.int x :: st) P T := by
  subst h
  exact fun H locs ls hP hS hl => lv_if_ge C.1 C.2.1 d ht (fun z => kt z H locs ls hP hS hl) (fun z => kf z H locs ls hP hS hl)
theorem x_icmp_gt {x y : Int32} {off : Int} {tgt : Nat} (C : XC p s m args meth c D tys wf A cc nL own rt) (d : decode cc pc = .ok (.if_icmp .gt off, 3)) (ht : (pc : Int) + off = (tgt : Int)) (h : pc + 3 = q) (kt : y < x → XW p l e R s m args below meth c D wf A nL Q tgt lv st P T) (kf : ¬ (y < x) → XW p l e R s m args below meth c D wf A nL Q q lv st P T) : XW p l e R s m args below meth c D wf A nL Q pc lv (.int y :: .int x :: st) P T := by
  subst h
  exact fun H locs ls hP hS hl => lv_icmp_gt C.1 C.2.1 d ht (fun z => kt z H locs ls hP hS hl) (fun z => kf z H locs ls hP hS hl)
theorem x_if_gt {x : Int32} {off : Int} {tgt : Nat} (C : XC p s m args meth c D tys wf A cc nL own rt) (d : decode cc pc = .ok (.ifCond .gt off, 3)) (ht : (pc : Int) + off = (tgt : Int)) (h : pc + 3 = q) (kt : 0 < x → XW p l e R s m args below meth c D wf A nL Q tgt lv st P T) (kf : ¬ (0 < x) → XW p l e R s m args below meth c D wf A nL Q q lv st P T) : XW p l e R s m args below meth c D wf A nL Q pc lv (.int x :: st) P T := by
  subst h
  exact fun H locs ls hP hS hl => lv_if_gt C.1 C.2.1 d ht (fun z => kt z H locs ls hP hS hl) (fun z => kf z H locs ls hP hS hl)
theorem x_icmp_le {x y : Int32} {off : Int} {tgt : Nat} (C : XC p s m args meth c D tys wf A cc nL own rt) (d : decode cc pc = .ok (.if_icmp .le off, 3)) (ht : (pc : Int) + off = (tgt : Int)) (h : pc + 3 = q) (kt : x ≤ y → XW p l e R s m args below meth c D wf A nL Q tgt lv st P T) (kf : ¬ (x ≤ y) → XW p l e R s m args below meth c D wf A nL Q q lv st P T) : XW p l e R s m args below meth c D wf A nL Q pc lv (.int y :: .int x :: st) P T := by
  subst h
  exact fun H locs ls hP hS hl => lv_icmp_le C.1 C.2.1 d ht (fun z => kt z H locs ls hP hS hl) (fun z => kf z H locs ls hP hS hl)
theorem x_if_le {x : Int32} {off : Int} {tgt : Nat} (C : XC p s m args meth c D tys wf A cc nL own rt) (d : decode cc pc = .ok (.ifCond .le off, 3)) (ht : (pc : Int) + off = (tgt : Int)) (h : pc + 3 = q) (kt : x ≤ 0 → XW p l e R s m args below meth c D wf A nL Q tgt lv st P T) (kf : ¬ (x ≤ 0) → XW p l e R s m args below meth c D wf A nL Q q lv st P T) : XW p l e R s m args below meth c D wf A nL Q pc lv (.int x :: st) P T := by
  subst h
  exact fun H locs ls hP hS hl => lv_if_le C.1 C.2.1 d ht (fun z => kt z H locs ls hP hS hl) (fun z => kf z H locs ls hP hS hl)
theorem x_icmp_eq_n {a b : Nat} {off : Int} {tgt : Nat} (C : XC p s m args meth c D tys wf A cc nL own rt) (d : decode cc pc = .ok (.if_icmp .eq off, 3)) (ha : a < 2 ^ 31) (hb : b < 2 ^ 31) (ht : (pc : Int) + off = (tgt : Int)) (h : pc + 3 = q) (kt : a = b → XW p l e R s m args below meth c D wf A nL Q tgt lv st P T) (kf : ¬ (a = b) → XW p l e R s m args below meth c D wf A nL Q q lv st P T) : XW p l e R s m args below meth c D wf A nL Q pc lv (.int (nI b) :: .int (nI a) :: st) P T :=
  x_icmp_eq C d ht h (fun z => kt ((nI_eq ha hb).mp z)) (fun z => kf (fun w => z ((nI_eq ha hb).mpr w)))
theorem x_if_eq_n {a : Nat} {off : Int} {tgt : Nat} (C : XC p s m args meth c D tys wf A cc nL own rt) (d : decode cc pc = .ok (.ifCond .eq off, 3)) (ha : a < 2 ^ 31) (ht : (pc : Int) + off = (tgt : Int)) (h : pc + 3 = q) (kt : a = 0 → XW p l e R s m args below meth c D wf A nL Q tgt lv st P T) (kf : ¬ (a = 0) → XW p l e R s m args below meth c D wf A nL Q q lv st P T) : XW p l e R s m args below meth c D wf A nL Q pc lv (.int (nI a) :: st) P T := by
  have hb : 0 < 2 ^ 31 := by decide
  have hiff := (nI_eq ha hb)
  rw [nI_0] at hiff
  exact x_if_eq C d ht h (fun z => kt (hiff.mp z)) (fun z => kf (fun w => z (hiff.mpr w)))
theorem x_icmp_ne_n {a b : Nat} {off : Int} {tgt : Nat} (C : XC p s m args meth c D tys wf A cc nL own rt) (d : decode cc pc = .ok (.if_icmp .ne off, 3)) (ha : a < 2 ^ 31) (hb : b < 2 ^ 31) (ht : (pc : Int) + off = (tgt : Int)) (h : pc + 3 = q) (kt : ¬ a = b → XW p l e R s m args below meth c D wf A nL Q tgt lv st P T) (kf : a = b → XW p l e R s m args below meth c D wf A nL Q q lv st P T) : XW p l e R s m args below meth c D wf A nL Q pc lv (.int (nI b) :: .int (nI a) :: st) P T :=
  x_icmp_ne C d ht h (fun z => kt ((not_congr (nI_eq ha hb)).mp z)) (fun z => kf ((nI_eq ha hb).mp z))
theorem x_if_ne_n {a : Nat} {off : Int} {tgt : Nat} (C : XC p s m args meth c D tys wf A cc nL own rt) (d : decode cc pc = .ok (.ifCond .ne off, 3)) (ha : a < 2 ^ 31) (ht : (pc : Int) + off = (tgt : Int)) (h : pc + 3 = q) (kt : ¬ a = 0 → XW p l e R s m args below meth c D wf A nL Q tgt lv st P T) (kf : a = 0 → XW p l e R s m args below meth c D wf A nL Q q lv st P T) : XW p l e R s m args below meth c D wf A nL Q pc lv (.int (nI a) :: st) P T := by
  have hb : 0 < 2 ^ 31 := by decide
  have hiff := (not_congr (nI_eq ha hb))
  rw [nI_0] at hiff
  exact x_if_ne C d ht h (fun z => kt (hiff.mp z)) (fun z => kf (Decidable.byContradiction fun w => hiff.mpr w z))
theorem x_icmp_lt_n {a b : Nat} {off : Int} {tgt : Nat} (C : XC p s m args meth c D tys wf A cc nL own rt) (d : decode cc pc = .ok (.if_icmp .lt off, 3)) (ha : a < 2 ^ 31) (hb : b < 2 ^ 31) (ht : (pc : Int) + off = (tgt : Int)) (h : pc + 3 = q) (kt : a < b → XW p l e R s m args below meth c D wf A nL Q tgt lv st P T) (kf : ¬ (a < b) → XW p l e R s m args below meth c D wf A nL Q q lv st P T) : XW p l e R s m args below meth c D wf A nL Q pc lv (.int (nI b) :: .int (nI a) :: st) P T :=
  x_icmp_lt C d ht h (fun z => kt ((nI_ltI ha hb).mp z)) (fun z => kf (fun w => z ((nI_ltI ha hb).mpr w)))
theorem x_if_lt_n {a : Nat} {off : Int} {tgt : Nat} (C : XC p s m args meth c D tys wf A cc nL own rt) (d : decode cc pc = .ok (.ifCond .lt off, 3)) (ha : a < 2 ^ 31) (ht : (pc : Int) + off = (tgt : Int)) (h : pc + 3 = q) (kt : a < 0 → XW p l e R s m args below meth c D wf A nL Q tgt lv st P T) (kf : ¬ (a < 0) → XW p l e R s m args below meth c D wf A nL Q q lv st P T) : XW p l e R s m args below meth c D wf A nL Q pc lv (.int (nI a) :: st) P T := by
  have hb : 0 < 2 ^ 31 := by decide
  have hiff := (nI_ltI ha hb)
  rw [nI_0] at hiff
  exact x_if_lt C d ht h (fun z => kt (hiff.mp z)) (fun z => kf (fun w => z (hiff.mpr w)))
theorem x_icmp_ge_n {a b : Nat} {off : Int} {tgt : Nat} (C : XC p s m args meth c D tys wf A cc nL own rt) (d : decode cc pc = .ok (.if_icmp .ge off, 3)) (ha : a < 2 ^ 31) (hb : b < 2 ^ 31) (ht : (pc : Int) + off = (tgt : Int)) (h : pc + 3 = q) (kt : b ≤ a → XW p l e R s m args below meth c D wf A nL Q tgt lv st P T) (kf : ¬ (b ≤ a) → XW p l e R s m args below meth c D wf A nL Q q lv st P T) : XW p l e R s m args below meth c D wf A nL Q pc lv (.int (nI b) :: .int (nI a) :: st) P T :=
  x_icmp_ge C d ht h (fun z => kt ((nI_leI hb ha).mp z)) (fun z => kf (fun w => z ((nI_leI hb ha).mpr w)))
theorem x_if_ge_n {a : Nat} {off : Int} {tgt : Nat} (C : XC p s m args meth c D tys wf A cc nL own rt) (d : decode cc pc = .ok (.ifCond .ge off, 3)) (ha : a < 2 ^ 31) (ht : (pc : Int) + off = (tgt : Int)) (h : pc + 3 = q) (kt : 0 ≤ a → XW p l e R s m args below meth c D wf A nL Q tgt lv st P T) (kf : ¬ (0 ≤ a) → XW p l e R s m args below meth c D wf A nL Q q lv st P T) : XW p l e R s m args below meth c D wf A nL Q pc lv (.int (nI a) :: st) P T := by
  have hb : 0 < 2 ^ 31 := by decide
  have hiff := (nI_leI hb ha)
  rw [nI_0] at hiff
  exact x_if_ge C d ht h (fun z => kt (hiff.mp z)) (fun z => kf (fun w => z (hiff.mpr w)))
theorem x_icmp_gt_n {a b : Nat} {off : Int} {tgt : Nat} (C : XC p s m args meth c D tys wf A cc nL own rt) (d : decode cc pc = .ok (.if_icmp .gt off, 3)) (ha : a < 2 ^ 31) (hb : b < 2 ^ 31) (ht : (pc : Int) + off = (tgt : Int)) (h : pc + 3 = q) (kt : b < a → XW p l e R s m args below meth c D wf A nL Q tgt lv st P T) (kf : ¬ (b < a) → XW p l e R s m args below meth c D wf A nL Q q lv st P T) : XW p l e R s m args below meth c D wf A nL Q pc lv (.int (nI b) :: .int (nI a) :: st) P T :=
  x_icmp_gt C d ht h (fun z => kt ((nI_ltI hb ha).mp z)) (fun z => kf (fun w => z ((nI_ltI hb ha).mpr w)))
theorem x_if_gt_n {a : Nat} {off : Int} {tgt : Nat} (C : XC p s m args meth c D tys wf A cc nL own rt) (d : decode cc pc = .ok (.ifCond .gt off, 3)) (ha : a < 2 ^ 31) (ht : (pc : Int) + off = (tgt : Int)) (h : pc + 3 = q) (kt : 0 < a → XW p l e R s m args below meth c D wf A nL Q tgt lv st P T) (kf : ¬ (0 < a) → XW p l e R s m args below meth c D wf A nL Q q lv st P T) : XW p l e R s m args below meth c D wf A nL Q pc lv (.int (nI a) :: st) P T := by
  have hb : 0 < 2 ^ 31 := by decide
  have hiff := (nI_ltI hb ha)
  rw [nI_0] at hiff
  exact x_if_gt C d ht h (fun z => kt (hiff.mp z)) (fun z => kf (fun w => z (hiff.mpr w)))
theorem x_icmp_le_n {a b : Nat} {off : Int} {tgt : Nat} (C : XC p s m args meth c D tys wf A cc nL own rt) (d : decode cc pc = .ok (.if_icmp .le off, 3)) (ha : a < 2 ^ 31) (hb : b < 2 ^ 31) (ht : (pc : Int) + off = (tgt : Int)) (h : pc + 3 = q) (kt : a ≤ b → XW p l e R s m args below meth c D wf A nL Q tgt lv st P T) (kf : ¬ (a ≤ b) → XW p l e R s m args below meth c D wf A nL Q q lv st P T) : XW p l e R s m args below meth c D wf A nL Q pc lv (.int (nI b) :: .int (nI a) :: st) P T :=
  x_icmp_le C d ht h (fun z => kt ((nI_leI ha hb).mp z)) (fun z => kf (fun w => z ((nI_leI ha hb).mpr w)))
theorem x_if_le_n {a : Nat} {off : Int} {tgt : Nat} (C : XC p s m args meth c D tys wf A cc nL own rt) (d : decode cc pc = .ok (.ifCond .le off, 3)) (ha : a < 2 ^ 31) (ht : (pc : Int) + off = (tgt : Int)) (h : pc + 3 = q) (kt : a ≤ 0 → XW p l e R s m args below meth c D wf A nL Q tgt lv st P T) (kf : ¬ (a ≤ 0) → XW p l e R s m args below meth c D wf A nL Q q lv st P T) : XW p l e R s m args below meth c D wf A nL Q pc lv (.int (nI a) :: st) P T := by
  have hb : 0 < 2 ^ 31 := by decide
  have hiff := (nI_leI ha hb)
  rw [nI_0] at hiff
  exact x_if_le C d ht h (fun z => kt (hiff.mp z)) (fun z => kf (fun w => z (hiff.mpr w)))
theorem x_if_eq_b {B : Prop} [Decidable B] {off : Int} {tgt : Nat} (C : XC p s m args meth c D tys wf A cc nL own rt) (d : decode cc pc = .ok (.ifCond .eq off, 3)) (ht : (pc : Int) + off = (tgt : Int)) (h : pc + 3 = q) (kt : ¬ B → XW p l e R s m args below meth c D wf A nL Q tgt lv st P T) (kf : B → XW p l e R s m args below meth c D wf A nL Q q lv st P T) : XW p l e R s m args below meth c D wf A nL Q pc lv (.int (bI B) :: st) P T :=
  x_if_eq C d ht h (fun z => kt (bI_0.mp z)) (fun z => kf (Decidable.byContradiction fun w => z (bI_0.mpr w)))
theorem x_if_ne_b {B : Prop} [Decidable B] {off : Int} {tgt : Nat} (C : XC p s m args meth c D tys wf A cc nL own rt) (d : decode cc pc = .ok (.ifCond .ne off, 3)) (ht : (pc : Int) + off = (tgt : Int)) (h : pc + 3 = q) (kt : B → XW p l e R s m args below meth c D wf A nL Q tgt lv st P T) (kf : ¬ B → XW p l e R s m args below meth c D wf A nL Q q lv st P T) : XW p l e R s m args below meth c D wf A nL Q pc lv (.int (bI B) :: st) P T :=
  x_if_ne C d ht h (fun z => kt (Decidable.byContradiction fun w => z (bI_0.mpr w))) (fun z => kf (bI_0.mp z))
theorem x_goto {off : Int} {tgt : Nat} (C : XC p s m args meth c D tys wf A cc nL own rt) (d : decode cc pc = .ok (.goto off, 3)) (ht : (pc : Int) + off = (tgt : Int)) (k : XW p l e R s m args below meth c D wf A nL Q tgt lv st P T) : XW p l e R s m args below meth c D wf A nL Q pc lv st P T :=
  fun H locs ls hP hS hl => lv_goto C.1 C.2.1 d ht (k H locs ls hP hS hl)
theorem x_topi {x : Int32} (k : ∀ y : Int32, y = x → XW p l e R s m args below meth c D wf A nL Q pc lv (.int y :: st) P T) : XW p l e R s m args below meth c D wf A nL Q pc lv (.int x :: st) P T := k x rfl
theorem x_topn {x : Int32} (a : Nat) (h : x = nI a) (k : XW p l e R s m args below meth c D wf A nL Q pc lv (.int (nI a) :: st) P T) : XW p l e R s m args below meth c D wf A nL Q pc lv (.int x :: st) P T := h ▸ k
theorem x_tope {x : Int32} (y : Int32) (h : x = y) (k : XW p l e R s m args below meth c D wf A nL Q pc lv (.int y :: st) P T) : XW p l e R s m args below meth c D wf A nL Q pc lv (.int x :: st) P T := h ▸ k
theorem x_namen {a : Nat} (k : ∀ b : Nat, b = a → XW p l e R s m args below meth c D wf A nL Q pc lv (.int (nI b) :: st) P T) : XW p l e R s m args below meth c D wf A nL Q pc lv (.int (nI a) :: st) P T := k a rfl
theorem x_lv (ks : List Nat) (hl : lv_pick lv ks = lv') (k : XW p l e R s m args below meth c D wf A nL Q pc lv' st P T) : XW p l e R s m args below meth c D wf A nL Q pc lv st P T := fun H locs ls hP hS h => k H locs ls hP hS (lv_sub h ks hl)
theorem x_se {P' T' : St} (h1 : P = P') (h2 : T = T') (k : XW p l e R s m args below meth c D wf A nL Q pc lv st P' T') : XW p l e R s m args below meth c D wf A nL Q pc lv st P T := by subst h1; subst h2; exact k
theorem x_get {ref Cn : String} {F : u_T} {N ci idx a : Nat} {fs : List Value} {v : Value} (C : XC p s m args meth c D tys wf A cc nL own rt) (hin : ∀ w ∈ u_ws Cn F N, w ∈ tb) (q0 : Nat) (he : (wf P T)[q0]? = some (a, .inr (ci, fs))) (hc : vwCl[ci]? = some (Cn, F, N)) (j : Nat) (hj : j < N) (hlink : Cond.fieldLink own idx ref (F j).2.1 (F j).2.2.1 ∈ tb) (hsame : (F j).1 = ref) (hv : fs[j]? = some v) (d : decode cc pc = .ok (.getfield idx, 3)) (h : pc + 3 = q) (k : XW p l e R s m args below meth c D wf A nL Q q lv (v :: st) P T) : XW p l e R s m args below meth c D wf A nL Q pc lv (.ref a :: st) P T := by
  subst h
  exact fun H locs ls hP hS hl => va_get C.1 C.2.1 C.2.2.2.2.1 hin C.2.2.2.1 C.2.2.2.2.2.1 hP q0 he hc j hj (C.2.2.2.2.1 _ hlink) (fun _ z => hsame ▸ z) hv d (k H locs ls hP hS hl)
theorem x_put {ref Cn : String} {F : u_T} {N ci idx a : Nat} {fs : List Value} {v : Value} {ty : FieldType} {P' T' : St} (C : XC p s m args meth c D tys wf A cc nL own rt) (hin : ∀ w ∈ u_ws Cn F N, w ∈ tb) (ty0 : Nat → FieldType) (hty : ∀ k, k < N → parseFieldDescriptor (F k).2.2.1 = some (ty0 k)) (hnm : ∀ a, a < N → ∀ b, b < N → a ≠ b → (F a).2.1 ≠ (F b).2.1) (q0 : Nat) (he : (wf P T)[q0]? = some (a, .inr (ci, fs))) (hc : vwCl[ci]? = some (Cn, F, N)) (j : Nat) (hj : j < N) (hlink : Cond.fieldLink own idx ref (F j).2.1 (F j).2.2.1 ∈ tb) (hsame : (F j).1 = ref) (hfin : (F j).2.2.2 = false) (hd : parseFieldDescriptor (F j).2.2.1 = some ty) (hn : narrow ty v = v) (hfit : fits ty v = true) (hl0 : j < fs.length) (hw : (wf P T).set q0 (a, .inr (ci, fs.set j v)) = wf P' T') (d : decode cc pc = .ok (.putfield idx, 3)) (h : pc + 3 = q) (k : XW p l e R s m args below meth c D wf A nL Q q lv st P' T') : XW p l e R s m args below meth c D wf A nL Q pc lv (v :: .ref a :: st) P T := by
  subst h
  exact fun H locs ls hP hS hl => va_put C.1 C.2.1 C.2.2.2.2.1 hin ty0 hty hnm C.2.2.2.1 C.2.2.2.2.2.1 hP (C.2.2.2.2.2.2.1 P T) hS q0 he hc j hj (C.2.2.2.2.1 _ hlink) (fun _ z => hsame ▸ z) hfin hd hn hfit hl0 d (fun H1 locs1 hP1 _ hS1 => k H1 locs1 ls (hw ▸ hP1) hS1 hl)
theorem x_iald {cA : ClassId} {n a i : Nat} {f : Nat → Int32} (C : XC p s m args meth c D tys wf A cc nL own rt) (q0 t0 : Nat) (he : (wf P T)[q0]? = some (a, .inl (cA, n, .inl f))) (ht : tys[t0]? = some (cA, .int)) (hi : i < n) (hn : n < 2 ^ 31) (d : decode cc pc = .ok (.iaload, 1)) (h : pc + 1 = q) (k : XW p l e R s m args below meth c D wf A nL Q q lv (.int (f i) :: st) P T) : XW p l e R s m args below meth c D wf A nL Q pc lv (.int (nI i) :: .ref a :: st) P T := by
  subst h
  intro H locs ls hP hS hl
  have k := k H locs ls hP hS hl
  have e := nI_clamp (n := i) (by omega)
  rw [← e] at k
  exact va_iald C.1 C.2.1 C.2.2.2.2.2.1 hP q0 t0 he ht (vp_in_nI hi hn) d (by simpa [e] using k)
theorem x_alen {cA : ClassId} {n a : Nat} {f : Nat → Int32} {ty : FieldType} (C : XC p s m args meth c D tys wf A cc nL own rt) (q0 t0 : Nat) (he : (wf P T)[q0]? = some (a, .inl (cA, n, .inl f))) (ht : tys[t0]? = some (cA, ty)) (d : decode cc pc = .ok (.arraylength, 1)) (h : pc + 1 = q) (k : XW p l e R s m args below meth c D wf A nL Q q lv (.int (nI n) :: st) P T) : XW p l e R s m args below meth c D wf A nL Q pc lv (.ref a :: st) P T := by
  subst h
  exact fun H locs ls hP hS hl => va_alen C.1 C.2.1 C.2.2.2.2.2.1 hP q0 t0 he ht rfl d (k H locs ls hP hS hl)
theorem x_zald {cA : ClassId} {n a i : Nat} {f : Nat → Int32} (C : XC p s m args meth c D tys wf A cc nL own rt) (q0 t0 : Nat) (he : (wf P T)[q0]? = some (a, .inl (cA, n, .inl f))) (ht : tys[t0]? = some (cA, .boolean)) (hi : i < n) (hn : n < 2 ^ 31) (d : decode cc pc = .ok (.baload, 1)) (h : pc + 1 = q) (k : XW p l e R s m args below meth c D wf A nL Q q lv (.int (f i) :: st) P T) : XW p l e R s m args below meth c D wf A nL Q pc lv (.int (nI i) :: .ref a :: st) P T := by
  subst h
  intro H locs ls hP hS hl
  have k := k H locs ls hP hS hl
  have e := nI_clamp (n := i) (by omega)
  exact va_zald C.1 C.2.1 C.2.2.2.2.2.1 hP q0 t0 he ht (vp_in_nI hi hn) d (by rw [e]; exact k)
theorem x_iast {cA : ClassId} {n a i : Nat} {f : Nat → Int32} {x : Int32} {P' T' : St} (C : XC p s m args meth c D tys wf A cc nL own rt) (q0 t0 : Nat) (he : (wf P T)[q0]? = some (a, .inl (cA, n, .inl f))) (ht : tys[t0]? = some (cA, .int)) (hi : i < n) (hn : n < 2 ^ 31) (hw : (wf P T).set q0 (a, .inl (cA, n, .inl (upd f i x))) = wf P' T') (d : decode cc pc = .ok (.iastore, 1)) (h : pc + 1 = q) (k : XW p l e R s m args below meth c D wf A nL Q q lv st P' T') : XW p l e R s m args below meth c D wf A nL Q pc lv (.int x :: .int (nI i) :: .ref a :: st) P T := by
  subst h
  intro H locs ls hP hS hl
  have e := nI_clamp (n := i) (by omega)
  refine va_iast C.1 C.2.1 C.2.2.2.2.2.1 hP (C.2.2.2.2.2.2.1 P T) hS q0 t0 he ht (vp_in_nI hi hn) d (fun H1 locs1 hP1 _ hS1 => ?_)
  rw [e] at hP1
  exact k H1 locs1 ls (hw ▸ hP1) hS1 hl
theorem x_zast {cA : ClassId} {n a i : Nat} {f : Nat → Int32} {x : Int32} {P' T' : St} (C : XC p s m args meth c D tys wf A cc nL own rt) (q0 t0 : Nat) (he : (wf P T)[q0]? = some (a, .inl (cA, n, .inl f))) (ht : tys[t0]? = some (cA, .boolean)) (hi : i < n) (hn : n < 2 ^ 31) (hx : vp_nar .boolean x = x) (hw : (wf P T).set q0 (a, .inl (cA, n, .inl (upd f i x))) = wf P' T') (d : decode cc pc = .ok (.bastore, 1)) (h : pc + 1 = q) (k : XW p l e R s m args below meth c D wf A nL Q q lv st P' T') : XW p l e R s m args below meth c D wf A nL Q pc lv (.int x :: .int (nI i) :: .ref a :: st) P T := by
  subst h
  intro H locs ls hP hS hl
  have e := nI_clamp (n := i) (by omega)
  refine va_zast C.1 C.2.1 C.2.2.2.2.2.1 hP (C.2.2.2.2.2.2.1 P T) hS q0 t0 he ht (vp_in_nI hi hn) d (fun H1 locs1 hP1 _ hS1 => ?_)
  rw [e, hx] at hP1
  exact k H1 locs1 ls (hw ▸ hP1) hS1 hl
theorem x_iret {v : Int32} {post : Int32 → St → St → Prop} (C : XC p s m args meth c D tys wf A cc nL own (some .int)) (d : decode cc pc = .ok (.ireturn, 1)) (h : post v P T) : XW p l e R s m args below meth c D wf A nL (MQ below (XPI D tys wf A post) args s 0 0 A) pc lv [.int v] P T :=
  fun _ _ _ hP hS _ => W.iret C.1 C.2.1 C.2.2.2.2.2.2.2.1 (fun t ht hW => ⟨⟨v, (P, T), rfl, h, by rw [ht]; exact hP, va_K.moved hW.alike C.2.2.2.2.2.1⟩, hS.F ht⟩) hS.2.2 d C.2.2.2.2.2.2.2.2
theorem x_zret {v : Int32} {post : Int32 → St → St → Prop} (C : XC p s m args meth c D tys wf A cc nL own (some .boolean)) (d : decode cc pc = .ok (.ireturn, 1)) (hn : narrow .boolean (.int v) = .int v) (h : post v P T) : XW p l e R s m args below meth c D wf A nL (MQ below (XPI D tys wf A post) args s 0 0 A) pc lv [.int v] P T :=
  fun _ _ _ hP hS _ => W.zret C.1 C.2.1 C.2.2.2.2.2.2.2.1 hn (fun t ht hW => ⟨⟨v, (P, T), rfl, h, by rw [ht]; exact hP, va_K.moved hW.alike C.2.2.2.2.2.1⟩, hS.F ht⟩) hS.2.2 d C.2.2.2.2.2.2.2.2
theorem x_vret {post : St → St → Prop} (C : XC p s m args meth c D tys wf A cc nL own none) (d : decode cc pc = .ok (.return_, 1)) (h : post P T) : XW p l e R s m args below meth c D wf A nL (MQ below (XPV D tys wf A post) args s 0 0 A) pc lv [] P T :=
  fun _ _ _ hP hS _ => W.vret C.1 C.2.1 C.2.2.2.2.2.2.2.1 (fun t ht hW => ⟨⟨(P, T), rfl, h, by rw [ht]; exact hP, va_K.moved hW.alike C.2.2.2.2.2.1⟩, hS.F ht⟩) hS.2.2 d C.2.2.2.2.2.2.2.2
/-- what is fixed of a method that is called: its code is in the tables, its name, how many it takes, its room -/
def XS (y : MethodName) (bytes : ByteArray) (maxL : Nat) (ret : Option FieldType) (rm : Room) (Cn : String) (n : Nat) : Prop := Cond.code y bytes maxL ret ∈ tb ∧ Cond.initialized Cn ∈ tb ∧ (y.cls = Cn ∧ y.cls ≠ "java/lang/invoke/MethodHandle" ∧ y.cls ≠ "java/lang/invoke/VarHandle" ∧ (parseMethodDescriptor y.desc).map (fun d => d.parameters.length) = some n) ∧ rm.cells = 0 ∧ rm.slots = 0
theorem x_good {ws : List Cond} (h : ∀ w ∈ ws, w ∈ tb) : GoodIn tb ws := fun w hw => ⟨h w hw, tb_g (h w hw)⟩
theorem x_wU {y : MethodName} {bytes : ByteArray} {maxL : Nat} {ret : Option FieldType} (h : Cond.code y bytes maxL ret ∈ tb) : ∀ w ∈ wU y bytes maxL ret, w ∈ tb := fun w hw => (List.mem_cons.mp hw).elim (fun e => e ▸ h) id
theorem x_gV {y : MethodName} {bytes : ByteArray} {maxL idx : Nat} {ret : Option FieldType} {Cn own : String} (h1 : Cond.methodLink own idx y ∈ tb) (h2 : Cond.instanceMethod y ∈ tb) (h3 : Cond.selects Cn y y ∈ tb) (h4 : Cond.initialized Cn ∈ tb) (h : Cond.code y bytes maxL ret ∈ tb) : GoodIn tb (wsV own idx Cn y (wU y bytes maxL ret)) :=
  x_good (fun w hw => (List.mem_append.mp hw).elim (fun z => by
    simp only [List.mem_cons, List.not_mem_nil, or_false] at z
    rcases z with rfl | rfl | rfl | rfl
    · exact h1
    · exact h2
    · exact h3
    · exact h4) (x_wU h w))
theorem x_gS {y : MethodName} {bytes : ByteArray} {maxL idx : Nat} {ret : Option FieldType} {own : String} (h1 : Cond.methodLink own idx y ∈ tb) (h2 : Cond.static y ∈ tb) (h4 : Cond.initialized y.cls ∈ tb) (h : Cond.code y bytes maxL ret ∈ tb) : GoodIn tb (va_wsS own idx y (wU y bytes maxL ret)) :=
  x_good (fun w hw => (List.mem_append.mp hw).elim (fun z => by
    simp only [List.mem_cons, List.not_mem_nil, or_false] at z
    rcases z with rfl | rfl | rfl
    · exact h1
    · exact h2
    · exact h4) (x_wU h w))
theorem x_Vi {y : MethodName} {bytes : ByteArray} {maxL n idx a ci : Nat} {ret : Option FieldType} {rm : Room} {Cn : String} {As rest fs : List Value} {F : u_T} {N : Nat} {post : Int32 → St → St → Prop} (C : XC p s m args meth c D tys wf A cc nL own rt) (hM : XMI l D tys wf A y bytes maxL ret rm (.ref a :: As) P T post) (hs : XS y bytes maxL ret rm Cn n) (hi : Cond.instanceMethod y ∈ tb) (hse : Cond.selects Cn y y ∈ tb) (hml : Cond.methodLink own idx y ∈ tb) (hR : rm.frames + 1 ≤ R.frames ∧ 8 + (maxL + 11) + rm.locals ≤ R.locals) (q0 : Nat) (he : (wf P T)[q0]? = some (a, .inr (ci, fs))) (hc : vwCl[ci]? = some (Cn, F, N)) (hn : As.length = n) (hst : st = As.reverse ++ .ref a :: rest) (hr : (rest.map fun v => v.category).sum ≤ 8) (d : decode cc pc = .ok (.invokevirtual idx, 3)) (h : pc + 3 = q) (k : ∀ (r : Int32) (P' T' : St), post r P' T' → XW p l e R s m args below meth c D wf A nL Q q lv (.int r :: rest) P' T') : XW p l e R s m args below meth c D wf A nL Q pc lv st P T := by
  subst h
  obtain ⟨hco, hini, hd, hrc, hrs⟩ := hs
  intro H locs ls hP hS hl
  have hK := C.2.2.2.2.2.1
  refine va_calli (va_runV (As := As) (rest := rest) ⟨C.1, C.2.1, C.2.2.1, C.2.2.2.1, C.2.2.2.2.1⟩ hM (cwV n C.2.2.2.2.1 (x_gV hml hi hse hini hco) rfl hrc hrs hd hR) ⟨XPre.blind, va_recv hK hP hc he, fun U hU hW => ⟨rfl, by rw [hU]; exact hP, va_K.moved hW.alike hK⟩⟩ rfl hn hl.1 hst (lv_room hr) d ⟨Nat.zero_le _, Nat.zero_le _⟩) hS (fun q _ h => h) (fun q h => h) (fun r u t H1 locs1 ht _ hp hB _ _ hS1 => ?_)
  exact k r u.1 u.2 hp H1 locs1 ls (by rw [← ht]; exact hB.1) hS1 hl
theorem x_Si {y : MethodName} {bytes : ByteArray} {maxL n idx : Nat} {ret : Option FieldType} {rm : Room} {Cn : String} {As rest : List Value} {post : Int32 → St → St → Prop} (C : XC p s m args meth c D tys wf A cc nL own rt) (hM : XMI l D tys wf A y bytes maxL ret rm As P T post) (hs : XS y bytes maxL ret rm Cn n) (hstt : Cond.static y ∈ tb) (hml : Cond.methodLink own idx y ∈ tb) (hR : rm.frames + 1 ≤ R.frames ∧ 8 + (maxL + 11) + rm.locals ≤ R.locals) (hn : As.length = n) (hst : st = As.reverse ++ rest) (hr : (rest.map fun v => v.category).sum ≤ 8) (d : decode cc pc = .ok (.invokestatic idx, 3)) (h : pc + 3 = q) (k : ∀ (r : Int32) (P' T' : St), post r P' T' → XW p l e R s m args below meth c D wf A nL Q q lv (.int r :: rest) P' T') : XW p l e R s m args below meth c D wf A nL Q pc lv st P T := by
  subst h
  obtain ⟨hco, hini, hd, hrc, hrs⟩ := hs
  intro H locs ls hP hS hl
  have hK := C.2.2.2.2.2.1
  refine va_calli (va_runS (As := As) (rest := rest) ⟨C.1, C.2.1, C.2.2.1, C.2.2.2.1, C.2.2.2.2.1⟩ hM (va_cwS n C.2.2.2.2.1 (x_gS hml hstt (hd.1 ▸ hini) hco) rfl hrc hrs hd.2 hR) ⟨XPre.blind, fun U hU hW => ⟨rfl, by rw [hU]; exact hP, va_K.moved hW.alike hK⟩⟩ rfl hn hl.1 hst (lv_room hr) d ⟨Nat.zero_le _, Nat.zero_le _⟩) hS (fun q _ h => h) (fun q h => h) (fun r u t H1 locs1 ht _ hp hB _ _ hS1 => ?_)
  exact k r u.1 u.2 hp H1 locs1 ls (by rw [← ht]; exact hB.1) hS1 hl
theorem x_Vv {y : MethodName} {bytes : ByteArray} {maxL n idx a ci : Nat} {ret : Option FieldType} {rm : Room} {Cn : String} {As rest fs : List Value} {F : u_T} {N : Nat} {post : St → St → Prop} (C : XC p s m args meth c D tys wf A cc nL own rt) (hM : XMV l D tys wf A y bytes maxL ret rm (.ref a :: As) P T post) (hs : XS y bytes maxL ret rm Cn n) (hi : Cond.instanceMethod y ∈ tb) (hse : Cond.selects Cn y y ∈ tb) (hml : Cond.methodLink own idx y ∈ tb) (hR : rm.frames + 1 ≤ R.frames ∧ 8 + (maxL + 11) + rm.locals ≤ R.locals) (q0 : Nat) (he : (wf P T)[q0]? = some (a, .inr (ci, fs))) (hc : vwCl[ci]? = some (Cn, F, N)) (hn : As.length = n) (hst : st = As.reverse ++ .ref a :: rest) (hr : (rest.map fun v => v.category).sum ≤ 8) (d : decode cc pc = .ok (.invokevirtual idx, 3)) (h : pc + 3 = q) (k : ∀ (P' T' : St), post P' T' → XW p l e R s m args below meth c D wf A nL Q q lv rest P' T') : XW p l e R s m args below meth c D wf A nL Q pc lv st P T := by
  subst h
  obtain ⟨hco, hini, hd, hrc, hrs⟩ := hs
  intro H locs ls hP hS hl
  have hK := C.2.2.2.2.2.1
  refine va_callv (va_runV (As := As) (rest := rest) ⟨C.1, C.2.1, C.2.2.1, C.2.2.2.1, C.2.2.2.2.1⟩ hM (cwV n C.2.2.2.2.1 (x_gV hml hi hse hini hco) rfl hrc hrs hd hR) ⟨XPre.blind, va_recv hK hP hc he, fun U hU hW => ⟨rfl, by rw [hU]; exact hP, va_K.moved hW.alike hK⟩⟩ rfl hn hl.1 hst (lv_room hr) d ⟨Nat.zero_le _, Nat.zero_le _⟩) hS (fun q _ h => h) (fun q h => h) (fun u t H1 locs1 ht _ hp hB _ _ hS1 => ?_)
  exact k u.1 u.2 hp H1 locs1 ls (by rw [← ht]; exact hB.1) hS1 hl
theorem x_Sv {y : MethodName} {bytes : ByteArray} {maxL n idx : Nat} {ret : Option FieldType} {rm : Room} {Cn : String} {As rest : List Value} {post : St → St → Prop} (C : XC p s m args meth c D tys wf A cc nL own rt) (hM : XMV l D tys wf A y bytes maxL ret rm As P T post) (hs : XS y bytes maxL ret rm Cn n) (hstt : Cond.static y ∈ tb) (hml : Cond.methodLink own idx y ∈ tb) (hR : rm.frames + 1 ≤ R.frames ∧ 8 + (maxL + 11) + rm.locals ≤ R.locals) (hn : As.length = n) (hst : st = As.reverse ++ rest) (hr : (rest.map fun v => v.category).sum ≤ 8) (d : decode cc pc = .ok (.invokestatic idx, 3)) (h : pc + 3 = q) (k : ∀ (P' T' : St), post P' T' → XW p l e R s m args below meth c D wf A nL Q q lv rest P' T') : XW p l e R s m args below meth c D wf A nL Q pc lv st P T := by
  subst h
  obtain ⟨hco, hini, hd, hrc, hrs⟩ := hs
  intro H locs ls hP hS hl
  have hK := C.2.2.2.2.2.1
  refine va_callv (va_runS (As := As) (rest := rest) ⟨C.1, C.2.1, C.2.2.1, C.2.2.2.1, C.2.2.2.2.1⟩ hM (va_cwS n C.2.2.2.2.1 (x_gS hml hstt (hd.1 ▸ hini) hco) rfl hrc hrs hd.2 hR) ⟨XPre.blind, fun U hU hW => ⟨rfl, by rw [hU]; exact hP, va_K.moved hW.alike hK⟩⟩ rfl hn hl.1 hst (lv_room hr) d ⟨Nat.zero_le _, Nat.zero_le _⟩) hS (fun q _ h => h) (fun q h => h) (fun u t H1 locs1 ht _ hp hB _ _ hS1 => ?_)
  exact k u.1 u.2 hp H1 locs1 ls (by rw [← ht]; exact hB.1) hS1 hl
theorem x_Vf {y : MethodName} {bytes : ByteArray} {maxL n idx a ci : Nat} {ret : Option FieldType} {rm : Room} {Cn : String} {As rest fs : List Value} {F : u_T} {N : Nat} {x : Int32} {P' T' : St} (C : XC p s m args meth c D tys wf A cc nL own rt) (hM : XMI l D tys wf A y bytes maxL ret rm (.ref a :: As) P T (fun r P1 T1 => r = x ∧ P1 = P' ∧ T1 = T')) (hs : XS y bytes maxL ret rm Cn n) (hi : Cond.instanceMethod y ∈ tb) (hse : Cond.selects Cn y y ∈ tb) (hml : Cond.methodLink own idx y ∈ tb) (hR : rm.frames + 1 ≤ R.frames ∧ 8 + (maxL + 11) + rm.locals ≤ R.locals) (q0 : Nat) (he : (wf P T)[q0]? = some (a, .inr (ci, fs))) (hc : vwCl[ci]? = some (Cn, F, N)) (hn : As.length = n) (hst : st = As.reverse ++ .ref a :: rest) (hr : (rest.map fun v => v.category).sum ≤ 8) (d : decode cc pc = .ok (.invokevirtual idx, 3)) (h : pc + 3 = q) (k : XW p l e R s m args below meth c D wf A nL Q q lv (.int x :: rest) P' T') : XW p l e R s m args below meth c D wf A nL Q pc lv st P T :=
  x_Vi C hM hs hi hse hml hR q0 he hc hn hst hr d h (fun r P1 T1 hp => by obtain ⟨h1, h2, h3⟩ := hp; rw [h1, h2, h3]; exact k)
theorem x_Vg {y : MethodName} {bytes : ByteArray} {maxL n idx a ci : Nat} {ret : Option FieldType} {rm : Room} {Cn : String} {As rest fs : List Value} {F : u_T} {N : Nat} {P' T' : St} (C : XC p s m args meth c D tys wf A cc nL own rt) (hM : XMV l D tys wf A y bytes maxL ret rm (.ref a :: As) P T (fun P1 T1 => P1 = P' ∧ T1 = T')) (hs : XS y bytes maxL ret rm Cn n) (hi : Cond.instanceMethod y ∈ tb) (hse : Cond.selects Cn y y ∈ tb) (hml : Cond.methodLink own idx y ∈ tb) (hR : rm.frames + 1 ≤ R.frames ∧ 8 + (maxL + 11) + rm.locals ≤ R.locals) (q0 : Nat) (he : (wf P T)[q0]? = some (a, .inr (ci, fs))) (hc : vwCl[ci]? = some (Cn, F, N)) (hn : As.length = n) (hst : st = As.reverse ++ .ref a :: rest) (hr : (rest.map fun v => v.category).sum ≤ 8) (d : decode cc pc = .ok (.invokevirtual idx, 3)) (h : pc + 3 = q) (k : XW p l e R s m args below meth c D wf A nL Q q lv rest P' T') : XW p l e R s m args below meth c D wf A nL Q pc lv st P T :=
  x_Vv C hM hs hi hse hml hR q0 he hc hn hst hr d h (fun P1 T1 hp => by obtain ⟨h2, h3⟩ := hp; rw [h2, h3]; exact k)
theorem x_Sf {y : MethodName} {bytes : ByteArray} {maxL n idx : Nat} {ret : Option FieldType} {rm : Room} {Cn : String} {As rest : List Value} {x : Int32} {P' T' : St} (C : XC p s m args meth c D tys wf A cc nL own rt) (hM : XMI l D tys wf A y bytes maxL ret rm As P T (fun r P1 T1 => r = x ∧ P1 = P' ∧ T1 = T')) (hs : XS y bytes maxL ret rm Cn n) (hstt : Cond.static y ∈ tb) (hml : Cond.methodLink own idx y ∈ tb) (hR : rm.frames + 1 ≤ R.frames ∧ 8 + (maxL + 11) + rm.locals ≤ R.locals) (hn : As.length = n) (hst : st = As.reverse ++ rest) (hr : (rest.map fun v => v.category).sum ≤ 8) (d : decode cc pc = .ok (.invokestatic idx, 3)) (h : pc + 3 = q) (k : XW p l e R s m args below meth c D wf A nL Q q lv (.int x :: rest) P' T') : XW p l e R s m args below meth c D wf A nL Q pc lv st P T :=
  x_Si C hM hs hstt hml hR hn hst hr d h (fun r P1 T1 hp => by obtain ⟨h1, h2, h3⟩ := hp; rw [h1, h2, h3]; exact k)
theorem x_mmax {x y : Int32} {idx : Nat} (C : XC p s m args meth c D tys wf A cc nL own rt) (h1 : Cond.methodLink own idx Lib.Math.max.name ∈ tb) (h2 : Cond.static Lib.Math.max.name ∈ tb) (h3 : Cond.initialized "java/lang/Math" ∈ tb) (h4 : Cond.code Lib.Math.max.name Lib.Math.max.code 2 (some .int) ∈ tb) (hf : 1 ≤ R.frames) (hr : (st.map fun v => v.category).sum + 13 ≤ R.locals) (d : decode cc pc = .ok (.invokestatic idx, 3)) (h : pc + 3 = q) (k : XW p l e R s m args below meth c D wf A nL Q q lv (.int (if x < y then y else x) :: st) P T) : XW p l e R s m args below meth c D wf A nL Q pc lv (.int y :: .int x :: st) P T := by
  subst h
  exact fun H locs ls hP hS hl => va_mmax C.1 C.2.1 (by rw [C.2.2.1]; exact hl.1.symm) C.2.2.2.1 (C.2.2.2.2.1 _ h1) (C.2.2.2.2.1 _ h2) (C.2.2.2.2.1 _ h3) (C.2.2.2.2.1 _ h4) hf hr (Nat.zero_le _) (Nat.zero_le _) d (k H locs ls hP hS hl)
theorem x_mmin {x y : Int32} {idx : Nat} (C : XC p s m args meth c D tys wf A cc nL own rt) (h1 : Cond.methodLink own idx Lib.Math.min.name ∈ tb) (h2 : Cond.static Lib.Math.min.name ∈ tb) (h3 : Cond.initialized "java/lang/Math" ∈ tb) (h4 : Cond.code Lib.Math.min.name Lib.Math.min.code 2 (some .int) ∈ tb) (hf : 1 ≤ R.frames) (hr : (st.map fun v => v.category).sum + 13 ≤ R.locals) (d : decode cc pc = .ok (.invokestatic idx, 3)) (h : pc + 3 = q) (k : XW p l e R s m args below meth c D wf A nL Q q lv (.int (if y < x then y else x) :: st) P T) : XW p l e R s m args below meth c D wf A nL Q pc lv (.int y :: .int x :: st) P T := by
  subst h
  exact fun H locs ls hP hS hl => va_mmin C.1 C.2.1 (by rw [C.2.2.1]; exact hl.1.symm) C.2.2.2.1 (C.2.2.2.2.1 _ h1) (C.2.2.2.2.1 _ h2) (C.2.2.2.2.1 _ h3) (C.2.2.2.2.1 _ h4) hf hr (Nat.zero_le _) (Nat.zero_le _) d (k H locs ls hP hS hl)
theorem x_mabs {x : Int32} {idx : Nat} (C : XC p s m args meth c D tys wf A cc nL own rt) (h1 : Cond.methodLink own idx Lib.Math.abs.name ∈ tb) (h2 : Cond.static Lib.Math.abs.name ∈ tb) (h3 : Cond.initialized "java/lang/Math" ∈ tb) (h4 : Cond.code Lib.Math.abs.name Lib.Math.abs.code 1 (some .int) ∈ tb) (hf : 1 ≤ R.frames) (hr : (st.map fun v => v.category).sum + 13 ≤ R.locals) (d : decode cc pc = .ok (.invokestatic idx, 3)) (h : pc + 3 = q) (k : XW p l e R s m args below meth c D wf A nL Q q lv (.int (if 0 ≤ x then x else 0 - x) :: st) P T) : XW p l e R s m args below meth c D wf A nL Q pc lv (.int x :: st) P T := by
  subst h
  exact fun H locs ls hP hS hl => va_mabs C.1 C.2.1 (by rw [C.2.2.1]; exact hl.1.symm) C.2.2.2.1 (C.2.2.2.2.1 _ h1) (C.2.2.2.2.1 _ h2) (C.2.2.2.2.1 _ h3) (C.2.2.2.2.1 _ h4) hf hr (Nat.zero_le _) (Nat.zero_le _) d (k H locs ls hP hS hl)
theorem x_tableIn {dflt lo hi : Int} {offs : Array Int} {len : Nat} {x : Int32} {off : Int} {tgt : Nat} (C : XC p s m args meth c D tys wf A cc nL own rt) (d : decode cc pc = .ok (.tableswitch dflt lo hi offs, len)) (h1 : ¬ x.toInt < lo) (h2 : ¬ hi < x.toInt) (ho : offs[(x.toInt - lo).toNat]? = some off) (ht : (pc : Int) + off = (tgt : Int)) (k : XW p l e R s m args below meth c D wf A nL Q tgt lv st P T) : XW p l e R s m args below meth c D wf A nL Q pc lv (.int x :: st) P T :=
  fun H locs ls hP hS hl => lv_tableIn C.1 C.2.1 d h1 h2 ho ht (k H locs ls hP hS hl)
theorem x_tableOut {dflt lo hi : Int} {offs : Array Int} {len : Nat} {x : Int32} {tgt : Nat} (C : XC p s m args meth c D tys wf A cc nL own rt) (d : decode cc pc = .ok (.tableswitch dflt lo hi offs, len)) (h1 : x.toInt < lo ∨ hi < x.toInt) (ht : (pc : Int) + dflt = (tgt : Int)) (k : XW p l e R s m args below meth c D wf A nL Q tgt lv st P T) : XW p l e R s m args below meth c D wf A nL Q pc lv (.int x :: st) P T :=
  fun H locs ls hP hS hl => lv_tableOut C.1 C.2.1 d h1 ht (k H locs ls hP hS hl)
end LAYER
end
section
abbrev tyz (cI cZ : ClassId) : List (ClassId × FieldType) := [(cI, .int), (cZ, .boolean)]
def wX (ad : Nat → Nat) (cI cZ : ClassId) (P T : St) : va_W := [(ad 0, .inr (7, [.ref (ad 1), .ref (ad 2), .ref (ad 3), .ref (ad 4), .ref (ad 5), .ref (ad 6), .ref (ad 7)])), (ad 1, .inr (2, [.int (P 20 0), .int (P 21 0), .ref (ad 8), .ref (ad 9), .ref (ad 10), .ref (ad 11)])), (ad 2, .inr (5, [.int (P 22 0), .ref (ad 12), .ref (ad 13), .ref (ad 14), .ref (ad 15), .ref (ad 16)])), (ad 3, .inr (1, [.int (P 23 0), .ref (ad 17), .ref (ad 18), .ref (ad 19)])), (ad 4, .inr (6, [.int (P 24 0), .int (P 25 0), .int (P 26 0), .ref (ad 20), .ref (ad 21)])), (ad 5, .inr (3, [.int (T 27 0), .ref (ad 22), .ref (ad 23)])), (ad 6, .inr (0, [.ref (ad 24), .ref (ad 25)])), (ad 7, .inr (4, [.int (T 28 0), .int (T 29 0), .int (T 30 0), .ref (ad 26), .ref (ad 27)])), (ad 8, .inl (cI, 6, .inl (P 0))), (ad 9, .inl (cI, 6, .inl (P 1))), (ad 10, .inl (cI, 24, .inl (P 2))), (ad 11, .inl (cI, 6, .inl (P 3))), (ad 12, .inl (cZ, 12, .inl (P 4))), (ad 13, .inl (cI, 12, .inl (P 5))), (ad 14, .inl (cI, 12, .inl (P 6))), (ad 15, .inl (cI, 12, .inl (P 7))), (ad 16, .inl (cI, 12, .inl (P 8))), (ad 17, .inl (cI, 24, .inl (P 9))), (ad 18, .inl (cI, 576, .inl (P 10))), (ad 19, .inl (cI, 6, .inl (T 11))), (ad 20, .inl (cI, 60, .inl (P 12))), (ad 21, .inl (cI, 60, .inl (P 13))), (ad 22, .inl (cI, 144, .inl (T 14))), (ad 23, .inl (cI, 144, .inl (T 15))), (ad 24, .inl (cI, 144, .inl (T 16))), (ad 25, .inl (cI, 144, .inl (T 17))), (ad 26, .inl (cI, 16, .inl (T 18))), (ad 27, .inl (cI, 2169, .inl (T 19)))]
def wN (ad : Nat → Nat) (cI cZ : ClassId) (P T : St) : va_W := [(ad 0, .inr (8, [.int (P 20 0), .int (P 21 0), .ref (ad 1), .ref (ad 2), .ref (ad 3), .int (P 22 0), .ref (ad 4), .int (P 23 0), .ref (ad 5), .ref (ad 6), .int (P 25 0), .int (P 26 0), .int (P 24 0), .ref (ad 7), .ref (ad 8), .int (T 28 0), .ref (ad 9), .ref (ad 10), .int (T 29 0), .int (T 30 0)])), (ad 1, .inl (cI, 6, .inl (P 0))), (ad 2, .inl (cI, 24, .inl (P 2))), (ad 3, .inl (cI, 6, .inl (P 3))), (ad 4, .inl (cI, 60, .inl (P 4))), (ad 5, .inl (cI, 24, .inl (P 9))), (ad 6, .inl (cI, 576, .inl (P 10))), (ad 7, .inl (cI, 60, .inl (P 12))), (ad 8, .inl (cI, 60, .inl (P 13))), (ad 9, .inl (cI, 16, .inl (T 18))), (ad 10, .inl (cI, 2304, .inl (T 19)))]
section FIELDS
variable {p : Program} {l : Launch} {e : Env} {R : Room} {s : State} {m : MethodId} {args : Array Value} {below : List Frame} {meth : Method} {c : Code} {D : va_G} {A : Nat → Prop} {cc : ByteArray} {nL : Nat} {own : String} {Q : State → Prop} {rt : Option FieldType}
variable {pc q idx : Nat} {lv : List (Nat × Value)} {st : List Value} {P T : St} {ad : Nat → Nat} {cI cZ : ClassId}
theorem xg_X7_knobs (C : XC p s m args meth c D (tyz cI cZ) (wX ad cI cZ) A cc nL own rt) (hl : Cond.fieldLink own idx "KnobBench" "knobs" "LKnobBench$Knobs;" ∈ tb) (d : decode cc pc = .ok (.getfield idx, 3)) (h : pc + 3 = q) (k : XW p l e R s m args below meth c D (wX ad cI cZ) A nL Q q lv (.ref (ad 1) :: st) P T) : XW p l e R s m args below meth c D (wX ad cI cZ) A nL Q pc lv (.ref (ad 0) :: st) P T := x_get (Cn := RX7) (F := TX7) (N := 7) (ci := 7) C inX7 0 rfl rfl 0 (by decide) hl rfl rfl d h k
theorem xg_X7_rules (C : XC p s m args meth c D (tyz cI cZ) (wX ad cI cZ) A cc nL own rt) (hl : Cond.fieldLink own idx "KnobBench" "rules" "LKnobBench$Rules;" ∈ tb) (d : decode cc pc = .ok (.getfield idx, 3)) (h : pc + 3 = q) (k : XW p l e R s m args below meth c D (wX ad cI cZ) A nL Q q lv (.ref (ad 2) :: st) P T) : XW p l e R s m args below meth c D (wX ad cI cZ) A nL Q pc lv (.ref (ad 0) :: st) P T := x_get (Cn := RX7) (F := TX7) (N := 7) (ci := 7) C inX7 0 rfl rfl 1 (by decide) hl rfl rfl d h k
theorem xg_X7_effects (C : XC p s m args meth c D (tyz cI cZ) (wX ad cI cZ) A cc nL own rt) (hl : Cond.fieldLink own idx "KnobBench" "effects" "LKnobBench$Effects;" ∈ tb) (d : decode cc pc = .ok (.getfield idx, 3)) (h : pc + 3 = q) (k : XW p l e R s m args below meth c D (wX ad cI cZ) A nL Q q lv (.ref (ad 3) :: st) P T) : XW p l e R s m args below meth c D (wX ad cI cZ) A nL Q pc lv (.ref (ad 0) :: st) P T := x_get (Cn := RX7) (F := TX7) (N := 7) (ci := 7) C inX7 0 rfl rfl 2 (by decide) hl rfl rfl d h k
theorem xg_X7_trials (C : XC p s m args meth c D (tyz cI cZ) (wX ad cI cZ) A cc nL own rt) (hl : Cond.fieldLink own idx "KnobBench" "trials" "LKnobBench$Trials;" ∈ tb) (d : decode cc pc = .ok (.getfield idx, 3)) (h : pc + 3 = q) (k : XW p l e R s m args below meth c D (wX ad cI cZ) A nL Q q lv (.ref (ad 4) :: st) P T) : XW p l e R s m args below meth c D (wX ad cI cZ) A nL Q pc lv (.ref (ad 0) :: st) P T := x_get (Cn := RX7) (F := TX7) (N := 7) (ci := 7) C inX7 0 rfl rfl 3 (by decide) hl rfl rfl d h k
theorem xg_X7_open (C : XC p s m args meth c D (tyz cI cZ) (wX ad cI cZ) A cc nL own rt) (hl : Cond.fieldLink own idx "KnobBench" "open" "LKnobBench$Open;" ∈ tb) (d : decode cc pc = .ok (.getfield idx, 3)) (h : pc + 3 = q) (k : XW p l e R s m args below meth c D (wX ad cI cZ) A nL Q q lv (.ref (ad 5) :: st) P T) : XW p l e R s m args below meth c D (wX ad cI cZ) A nL Q pc lv (.ref (ad 0) :: st) P T := x_get (Cn := RX7) (F := TX7) (N := 7) (ci := 7) C inX7 0 rfl rfl 4 (by decide) hl rfl rfl d h k
theorem xg_X7_bounds (C : XC p s m args meth c D (tyz cI cZ) (wX ad cI cZ) A cc nL own rt) (hl : Cond.fieldLink own idx "KnobBench" "bounds" "LKnobBench$Bounds;" ∈ tb) (d : decode cc pc = .ok (.getfield idx, 3)) (h : pc + 3 = q) (k : XW p l e R s m args below meth c D (wX ad cI cZ) A nL Q q lv (.ref (ad 6) :: st) P T) : XW p l e R s m args below meth c D (wX ad cI cZ) A nL Q pc lv (.ref (ad 0) :: st) P T := x_get (Cn := RX7) (F := TX7) (N := 7) (ci := 7) C inX7 0 rfl rfl 5 (by decide) hl rfl rfl d h k
theorem xg_X7_ranks (C : XC p s m args meth c D (tyz cI cZ) (wX ad cI cZ) A cc nL own rt) (hl : Cond.fieldLink own idx "KnobBench" "ranks" "LKnobBench$Ranks;" ∈ tb) (d : decode cc pc = .ok (.getfield idx, 3)) (h : pc + 3 = q) (k : XW p l e R s m args below meth c D (wX ad cI cZ) A nL Q q lv (.ref (ad 7) :: st) P T) : XW p l e R s m args below meth c D (wX ad cI cZ) A nL Q pc lv (.ref (ad 0) :: st) P T := x_get (Cn := RX7) (F := TX7) (N := 7) (ci := 7) C inX7 0 rfl rfl 6 (by decide) hl rfl rfl d h k
theorem xg_X2_many (C : XC p s m args meth c D (tyz cI cZ) (wX ad cI cZ) A cc nL own rt) (hl : Cond.fieldLink own idx "KnobBench$Knobs" "many" "I" ∈ tb) (d : decode cc pc = .ok (.getfield idx, 3)) (h : pc + 3 = q) (k : XW p l e R s m args below meth c D (wX ad cI cZ) A nL Q q lv (.int (P 20 0) :: st) P T) : XW p l e R s m args below meth c D (wX ad cI cZ) A nL Q pc lv (.ref (ad 1) :: st) P T := x_get (Cn := RX2) (F := TX2) (N := 6) (ci := 2) C inX2 1 rfl rfl 0 (by decide) hl rfl rfl d h k
theorem xp_X2_many {x : Int32} (C : XC p s m args meth c D (tyz cI cZ) (wX ad cI cZ) A cc nL own rt) (hl : Cond.fieldLink own idx "KnobBench$Knobs" "many" "I" ∈ tb) (d : decode cc pc = .ok (.putfield idx, 3)) (h : pc + 3 = q) (k : XW p l e R s m args below meth c D (wX ad cI cZ) A nL Q q lv st (st1 P 20 0 x) T) : XW p l e R s m args below meth c D (wX ad cI cZ) A nL Q pc lv (.int x :: .ref (ad 1) :: st) P T := x_put (Cn := RX2) (F := TX2) (N := 6) (ci := 2) (ty := .int) C inX2 tyX2 tyX2_ok nmX2 1 rfl rfl 0 (by decide) hl rfl rfl (by decide +kernel) rfl rfl (Nat.le_of_ble_eq_true rfl) rfl d h k
theorem xg_X2_settings (C : XC p s m args meth c D (tyz cI cZ) (wX ad cI cZ) A cc nL own rt) (hl : Cond.fieldLink own idx "KnobBench$Knobs" "settings" "I" ∈ tb) (d : decode cc pc = .ok (.getfield idx, 3)) (h : pc + 3 = q) (k : XW p l e R s m args below meth c D (wX ad cI cZ) A nL Q q lv (.int (P 21 0) :: st) P T) : XW p l e R s m args below meth c D (wX ad cI cZ) A nL Q pc lv (.ref (ad 1) :: st) P T := x_get (Cn := RX2) (F := TX2) (N := 6) (ci := 2) C inX2 1 rfl rfl 1 (by decide) hl rfl rfl d h k
theorem xp_X2_settings {x : Int32} (C : XC p s m args meth c D (tyz cI cZ) (wX ad cI cZ) A cc nL own rt) (hl : Cond.fieldLink own idx "KnobBench$Knobs" "settings" "I" ∈ tb) (d : decode cc pc = .ok (.putfield idx, 3)) (h : pc + 3 = q) (k : XW p l e R s m args below meth c D (wX ad cI cZ) A nL Q q lv st (st1 P 21 0 x) T) : XW p l e R s m args below meth c D (wX ad cI cZ) A nL Q pc lv (.int x :: .ref (ad 1) :: st) P T := x_put (Cn := RX2) (F := TX2) (N := 6) (ci := 2) (ty := .int) C inX2 tyX2 tyX2_ok nmX2 1 rfl rfl 1 (by decide) hl rfl rfl (by decide +kernel) rfl rfl (Nat.le_of_ble_eq_true rfl) rfl d h k
theorem xg_X2_sizes (C : XC p s m args meth c D (tyz cI cZ) (wX ad cI cZ) A cc nL own rt) (hl : Cond.fieldLink own idx "KnobBench$Knobs" "sizes" "[I" ∈ tb) (d : decode cc pc = .ok (.getfield idx, 3)) (h : pc + 3 = q) (k : XW p l e R s m args below meth c D (wX ad cI cZ) A nL Q q lv (.ref (ad 8) :: st) P T) : XW p l e R s m args below meth c D (wX ad cI cZ) A nL Q pc lv (.ref (ad 1) :: st) P T := x_get (Cn := RX2) (F := TX2) (N := 6) (ci := 2) C inX2 1 rfl rfl 2 (by decide) hl rfl rfl d h k
theorem xg_X2_strides (C : XC p s m args meth c D (tyz cI cZ) (wX ad cI cZ) A cc nL own rt) (hl : Cond.fieldLink own idx "KnobBench$Knobs" "strides" "[I" ∈ tb) (d : decode cc pc = .ok (.getfield idx, 3)) (h : pc + 3 = q) (k : XW p l e R s m args below meth c D (wX ad cI cZ) A nL Q q lv (.ref (ad 9) :: st) P T) : XW p l e R s m args below meth c D (wX ad cI cZ) A nL Q pc lv (.ref (ad 1) :: st) P T := x_get (Cn := RX2) (F := TX2) (N := 6) (ci := 2) C inX2 1 rfl rfl 3 (by decide) hl rfl rfl d h k
theorem xg_X2_places (C : XC p s m args meth c D (tyz cI cZ) (wX ad cI cZ) A cc nL own rt) (hl : Cond.fieldLink own idx "KnobBench$Knobs" "places" "[I" ∈ tb) (d : decode cc pc = .ok (.getfield idx, 3)) (h : pc + 3 = q) (k : XW p l e R s m args below meth c D (wX ad cI cZ) A nL Q q lv (.ref (ad 10) :: st) P T) : XW p l e R s m args below meth c D (wX ad cI cZ) A nL Q pc lv (.ref (ad 1) :: st) P T := x_get (Cn := RX2) (F := TX2) (N := 6) (ci := 2) C inX2 1 rfl rfl 4 (by decide) hl rfl rfl d h k
theorem xg_X2_steepness (C : XC p s m args meth c D (tyz cI cZ) (wX ad cI cZ) A cc nL own rt) (hl : Cond.fieldLink own idx "KnobBench$Knobs" "steepness" "[I" ∈ tb) (d : decode cc pc = .ok (.getfield idx, 3)) (h : pc + 3 = q) (k : XW p l e R s m args below meth c D (wX ad cI cZ) A nL Q q lv (.ref (ad 11) :: st) P T) : XW p l e R s m args below meth c D (wX ad cI cZ) A nL Q pc lv (.ref (ad 1) :: st) P T := x_get (Cn := RX2) (F := TX2) (N := 6) (ci := 2) C inX2 1 rfl rfl 5 (by decide) hl rfl rfl d h k
theorem xg_X5_many (C : XC p s m args meth c D (tyz cI cZ) (wX ad cI cZ) A cc nL own rt) (hl : Cond.fieldLink own idx "KnobBench$Rules" "many" "I" ∈ tb) (d : decode cc pc = .ok (.getfield idx, 3)) (h : pc + 3 = q) (k : XW p l e R s m args below meth c D (wX ad cI cZ) A nL Q q lv (.int (P 22 0) :: st) P T) : XW p l e R s m args below meth c D (wX ad cI cZ) A nL Q pc lv (.ref (ad 2) :: st) P T := x_get (Cn := RX5) (F := TX5) (N := 6) (ci := 5) C inX5 2 rfl rfl 0 (by decide) hl rfl rfl d h k
theorem xp_X5_many {x : Int32} (C : XC p s m args meth c D (tyz cI cZ) (wX ad cI cZ) A cc nL own rt) (hl : Cond.fieldLink own idx "KnobBench$Rules" "many" "I" ∈ tb) (d : decode cc pc = .ok (.putfield idx, 3)) (h : pc + 3 = q) (k : XW p l e R s m args below meth c D (wX ad cI cZ) A nL Q q lv st (st1 P 22 0 x) T) : XW p l e R s m args below meth c D (wX ad cI cZ) A nL Q pc lv (.int x :: .ref (ad 2) :: st) P T := x_put (Cn := RX5) (F := TX5) (N := 6) (ci := 5) (ty := .int) C inX5 tyX5 tyX5_ok nmX5 2 rfl rfl 0 (by decide) hl rfl rfl (by decide +kernel) rfl rfl (Nat.le_of_ble_eq_true rfl) rfl d h k
theorem xg_X5_needs (C : XC p s m args meth c D (tyz cI cZ) (wX ad cI cZ) A cc nL own rt) (hl : Cond.fieldLink own idx "KnobBench$Rules" "needs" "[Z" ∈ tb) (d : decode cc pc = .ok (.getfield idx, 3)) (h : pc + 3 = q) (k : XW p l e R s m args below meth c D (wX ad cI cZ) A nL Q q lv (.ref (ad 12) :: st) P T) : XW p l e R s m args below meth c D (wX ad cI cZ) A nL Q pc lv (.ref (ad 2) :: st) P T := x_get (Cn := RX5) (F := TX5) (N := 6) (ci := 5) C inX5 2 rfl rfl 1 (by decide) hl rfl rfl d h k
theorem xg_X5_firstKnobs (C : XC p s m args meth c D (tyz cI cZ) (wX ad cI cZ) A cc nL own rt) (hl : Cond.fieldLink own idx "KnobBench$Rules" "firstKnobs" "[I" ∈ tb) (d : decode cc pc = .ok (.getfield idx, 3)) (h : pc + 3 = q) (k : XW p l e R s m args below meth c D (wX ad cI cZ) A nL Q q lv (.ref (ad 13) :: st) P T) : XW p l e R s m args below meth c D (wX ad cI cZ) A nL Q pc lv (.ref (ad 2) :: st) P T := x_get (Cn := RX5) (F := TX5) (N := 6) (ci := 5) C inX5 2 rfl rfl 2 (by decide) hl rfl rfl d h k
theorem xg_X5_firstValues (C : XC p s m args meth c D (tyz cI cZ) (wX ad cI cZ) A cc nL own rt) (hl : Cond.fieldLink own idx "KnobBench$Rules" "firstValues" "[I" ∈ tb) (d : decode cc pc = .ok (.getfield idx, 3)) (h : pc + 3 = q) (k : XW p l e R s m args below meth c D (wX ad cI cZ) A nL Q q lv (.ref (ad 14) :: st) P T) : XW p l e R s m args below meth c D (wX ad cI cZ) A nL Q pc lv (.ref (ad 2) :: st) P T := x_get (Cn := RX5) (F := TX5) (N := 6) (ci := 5) C inX5 2 rfl rfl 3 (by decide) hl rfl rfl d h k
theorem xg_X5_secondKnobs (C : XC p s m args meth c D (tyz cI cZ) (wX ad cI cZ) A cc nL own rt) (hl : Cond.fieldLink own idx "KnobBench$Rules" "secondKnobs" "[I" ∈ tb) (d : decode cc pc = .ok (.getfield idx, 3)) (h : pc + 3 = q) (k : XW p l e R s m args below meth c D (wX ad cI cZ) A nL Q q lv (.ref (ad 15) :: st) P T) : XW p l e R s m args below meth c D (wX ad cI cZ) A nL Q pc lv (.ref (ad 2) :: st) P T := x_get (Cn := RX5) (F := TX5) (N := 6) (ci := 5) C inX5 2 rfl rfl 4 (by decide) hl rfl rfl d h k
theorem xg_X5_secondValues (C : XC p s m args meth c D (tyz cI cZ) (wX ad cI cZ) A cc nL own rt) (hl : Cond.fieldLink own idx "KnobBench$Rules" "secondValues" "[I" ∈ tb) (d : decode cc pc = .ok (.getfield idx, 3)) (h : pc + 3 = q) (k : XW p l e R s m args below meth c D (wX ad cI cZ) A nL Q q lv (.ref (ad 16) :: st) P T) : XW p l e R s m args below meth c D (wX ad cI cZ) A nL Q pc lv (.ref (ad 2) :: st) P T := x_get (Cn := RX5) (F := TX5) (N := 6) (ci := 5) C inX5 2 rfl rfl 5 (by decide) hl rfl rfl d h k
theorem xg_X1_base (C : XC p s m args meth c D (tyz cI cZ) (wX ad cI cZ) A cc nL own rt) (hl : Cond.fieldLink own idx "KnobBench$Effects" "base" "I" ∈ tb) (d : decode cc pc = .ok (.getfield idx, 3)) (h : pc + 3 = q) (k : XW p l e R s m args below meth c D (wX ad cI cZ) A nL Q q lv (.int (P 23 0) :: st) P T) : XW p l e R s m args below meth c D (wX ad cI cZ) A nL Q pc lv (.ref (ad 3) :: st) P T := x_get (Cn := RX1) (F := TX1) (N := 4) (ci := 1) C inX1 3 rfl rfl 0 (by decide) hl rfl rfl d h k
theorem xp_X1_base {x : Int32} (C : XC p s m args meth c D (tyz cI cZ) (wX ad cI cZ) A cc nL own rt) (hl : Cond.fieldLink own idx "KnobBench$Effects" "base" "I" ∈ tb) (d : decode cc pc = .ok (.putfield idx, 3)) (h : pc + 3 = q) (k : XW p l e R s m args below meth c D (wX ad cI cZ) A nL Q q lv st (st1 P 23 0 x) T) : XW p l e R s m args below meth c D (wX ad cI cZ) A nL Q pc lv (.int x :: .ref (ad 3) :: st) P T := x_put (Cn := RX1) (F := TX1) (N := 4) (ci := 1) (ty := .int) C inX1 tyX1 tyX1_ok nmX1 3 rfl rfl 0 (by decide) hl rfl rfl (by decide +kernel) rfl rfl (Nat.le_of_ble_eq_true rfl) rfl d h k
theorem xg_X1_singles (C : XC p s m args meth c D (tyz cI cZ) (wX ad cI cZ) A cc nL own rt) (hl : Cond.fieldLink own idx "KnobBench$Effects" "singles" "[I" ∈ tb) (d : decode cc pc = .ok (.getfield idx, 3)) (h : pc + 3 = q) (k : XW p l e R s m args below meth c D (wX ad cI cZ) A nL Q q lv (.ref (ad 17) :: st) P T) : XW p l e R s m args below meth c D (wX ad cI cZ) A nL Q pc lv (.ref (ad 3) :: st) P T := x_get (Cn := RX1) (F := TX1) (N := 4) (ci := 1) C inX1 3 rfl rfl 1 (by decide) hl rfl rfl d h k
theorem xg_X1_joints (C : XC p s m args meth c D (tyz cI cZ) (wX ad cI cZ) A cc nL own rt) (hl : Cond.fieldLink own idx "KnobBench$Effects" "joints" "[I" ∈ tb) (d : decode cc pc = .ok (.getfield idx, 3)) (h : pc + 3 = q) (k : XW p l e R s m args below meth c D (wX ad cI cZ) A nL Q q lv (.ref (ad 18) :: st) P T) : XW p l e R s m args below meth c D (wX ad cI cZ) A nL Q pc lv (.ref (ad 3) :: st) P T := x_get (Cn := RX1) (F := TX1) (N := 4) (ci := 1) C inX1 3 rfl rfl 2 (by decide) hl rfl rfl d h k
theorem xg_X1_slots (C : XC p s m args meth c D (tyz cI cZ) (wX ad cI cZ) A cc nL own rt) (hl : Cond.fieldLink own idx "KnobBench$Effects" "slots" "[I" ∈ tb) (d : decode cc pc = .ok (.getfield idx, 3)) (h : pc + 3 = q) (k : XW p l e R s m args below meth c D (wX ad cI cZ) A nL Q q lv (.ref (ad 19) :: st) P T) : XW p l e R s m args below meth c D (wX ad cI cZ) A nL Q pc lv (.ref (ad 3) :: st) P T := x_get (Cn := RX1) (F := TX1) (N := 4) (ci := 1) C inX1 3 rfl rfl 3 (by decide) hl rfl rfl d h k
theorem xg_X6_many (C : XC p s m args meth c D (tyz cI cZ) (wX ad cI cZ) A cc nL own rt) (hl : Cond.fieldLink own idx "KnobBench$Trials" "many" "I" ∈ tb) (d : decode cc pc = .ok (.getfield idx, 3)) (h : pc + 3 = q) (k : XW p l e R s m args below meth c D (wX ad cI cZ) A nL Q q lv (.int (P 24 0) :: st) P T) : XW p l e R s m args below meth c D (wX ad cI cZ) A nL Q pc lv (.ref (ad 4) :: st) P T := x_get (Cn := RX6) (F := TX6) (N := 5) (ci := 6) C inX6 4 rfl rfl 0 (by decide) hl rfl rfl d h k
theorem xp_X6_many {x : Int32} (C : XC p s m args meth c D (tyz cI cZ) (wX ad cI cZ) A cc nL own rt) (hl : Cond.fieldLink own idx "KnobBench$Trials" "many" "I" ∈ tb) (d : decode cc pc = .ok (.putfield idx, 3)) (h : pc + 3 = q) (k : XW p l e R s m args below meth c D (wX ad cI cZ) A nL Q q lv st (st1 P 24 0 x) T) : XW p l e R s m args below meth c D (wX ad cI cZ) A nL Q pc lv (.int x :: .ref (ad 4) :: st) P T := x_put (Cn := RX6) (F := TX6) (N := 5) (ci := 6) (ty := .int) C inX6 tyX6 tyX6_ok nmX6 4 rfl rfl 0 (by decide) hl rfl rfl (by decide +kernel) rfl rfl (Nat.le_of_ble_eq_true rfl) rfl d h k
theorem xg_X6_noise (C : XC p s m args meth c D (tyz cI cZ) (wX ad cI cZ) A cc nL own rt) (hl : Cond.fieldLink own idx "KnobBench$Trials" "noise" "I" ∈ tb) (d : decode cc pc = .ok (.getfield idx, 3)) (h : pc + 3 = q) (k : XW p l e R s m args below meth c D (wX ad cI cZ) A nL Q q lv (.int (P 25 0) :: st) P T) : XW p l e R s m args below meth c D (wX ad cI cZ) A nL Q pc lv (.ref (ad 4) :: st) P T := x_get (Cn := RX6) (F := TX6) (N := 5) (ci := 6) C inX6 4 rfl rfl 1 (by decide) hl rfl rfl d h k
theorem xp_X6_noise {x : Int32} (C : XC p s m args meth c D (tyz cI cZ) (wX ad cI cZ) A cc nL own rt) (hl : Cond.fieldLink own idx "KnobBench$Trials" "noise" "I" ∈ tb) (d : decode cc pc = .ok (.putfield idx, 3)) (h : pc + 3 = q) (k : XW p l e R s m args below meth c D (wX ad cI cZ) A nL Q q lv st (st1 P 25 0 x) T) : XW p l e R s m args below meth c D (wX ad cI cZ) A nL Q pc lv (.int x :: .ref (ad 4) :: st) P T := x_put (Cn := RX6) (F := TX6) (N := 5) (ci := 6) (ty := .int) C inX6 tyX6 tyX6_ok nmX6 4 rfl rfl 1 (by decide) hl rfl rfl (by decide +kernel) rfl rfl (Nat.le_of_ble_eq_true rfl) rfl d h k
theorem xg_X6_seed (C : XC p s m args meth c D (tyz cI cZ) (wX ad cI cZ) A cc nL own rt) (hl : Cond.fieldLink own idx "KnobBench$Trials" "seed" "I" ∈ tb) (d : decode cc pc = .ok (.getfield idx, 3)) (h : pc + 3 = q) (k : XW p l e R s m args below meth c D (wX ad cI cZ) A nL Q q lv (.int (P 26 0) :: st) P T) : XW p l e R s m args below meth c D (wX ad cI cZ) A nL Q pc lv (.ref (ad 4) :: st) P T := x_get (Cn := RX6) (F := TX6) (N := 5) (ci := 6) C inX6 4 rfl rfl 2 (by decide) hl rfl rfl d h k
theorem xp_X6_seed {x : Int32} (C : XC p s m args meth c D (tyz cI cZ) (wX ad cI cZ) A cc nL own rt) (hl : Cond.fieldLink own idx "KnobBench$Trials" "seed" "I" ∈ tb) (d : decode cc pc = .ok (.putfield idx, 3)) (h : pc + 3 = q) (k : XW p l e R s m args below meth c D (wX ad cI cZ) A nL Q q lv st (st1 P 26 0 x) T) : XW p l e R s m args below meth c D (wX ad cI cZ) A nL Q pc lv (.int x :: .ref (ad 4) :: st) P T := x_put (Cn := RX6) (F := TX6) (N := 5) (ci := 6) (ty := .int) C inX6 tyX6 tyX6_ok nmX6 4 rfl rfl 2 (by decide) hl rfl rfl (by decide +kernel) rfl rfl (Nat.le_of_ble_eq_true rfl) rfl d h k
theorem xg_X6_settings (C : XC p s m args meth c D (tyz cI cZ) (wX ad cI cZ) A cc nL own rt) (hl : Cond.fieldLink own idx "KnobBench$Trials" "settings" "[I" ∈ tb) (d : decode cc pc = .ok (.getfield idx, 3)) (h : pc + 3 = q) (k : XW p l e R s m args below meth c D (wX ad cI cZ) A nL Q q lv (.ref (ad 20) :: st) P T) : XW p l e R s m args below meth c D (wX ad cI cZ) A nL Q pc lv (.ref (ad 4) :: st) P T := x_get (Cn := RX6) (F := TX6) (N := 5) (ci := 6) C inX6 4 rfl rfl 3 (by decide) hl rfl rfl d h k
theorem xg_X6_readings (C : XC p s m args meth c D (tyz cI cZ) (wX ad cI cZ) A cc nL own rt) (hl : Cond.fieldLink own idx "KnobBench$Trials" "readings" "[I" ∈ tb) (d : decode cc pc = .ok (.getfield idx, 3)) (h : pc + 3 = q) (k : XW p l e R s m args below meth c D (wX ad cI cZ) A nL Q q lv (.ref (ad 21) :: st) P T) : XW p l e R s m args below meth c D (wX ad cI cZ) A nL Q pc lv (.ref (ad 4) :: st) P T := x_get (Cn := RX6) (F := TX6) (N := 5) (ci := 6) C inX6 4 rfl rfl 4 (by decide) hl rfl rfl d h k
theorem xg_X3_many (C : XC p s m args meth c D (tyz cI cZ) (wX ad cI cZ) A cc nL own rt) (hl : Cond.fieldLink own idx "KnobBench$Open" "many" "I" ∈ tb) (d : decode cc pc = .ok (.getfield idx, 3)) (h : pc + 3 = q) (k : XW p l e R s m args below meth c D (wX ad cI cZ) A nL Q q lv (.int (T 27 0) :: st) P T) : XW p l e R s m args below meth c D (wX ad cI cZ) A nL Q pc lv (.ref (ad 5) :: st) P T := x_get (Cn := RX3) (F := TX3) (N := 3) (ci := 3) C inX3 5 rfl rfl 0 (by decide) hl rfl rfl d h k
theorem xp_X3_many {x : Int32} (C : XC p s m args meth c D (tyz cI cZ) (wX ad cI cZ) A cc nL own rt) (hl : Cond.fieldLink own idx "KnobBench$Open" "many" "I" ∈ tb) (d : decode cc pc = .ok (.putfield idx, 3)) (h : pc + 3 = q) (k : XW p l e R s m args below meth c D (wX ad cI cZ) A nL Q q lv st P (st1 T 27 0 x)) : XW p l e R s m args below meth c D (wX ad cI cZ) A nL Q pc lv (.int x :: .ref (ad 5) :: st) P T := x_put (Cn := RX3) (F := TX3) (N := 3) (ci := 3) (ty := .int) C inX3 tyX3 tyX3_ok nmX3 5 rfl rfl 0 (by decide) hl rfl rfl (by decide +kernel) rfl rfl (Nat.le_of_ble_eq_true rfl) rfl d h k
theorem xg_X3_settings (C : XC p s m args meth c D (tyz cI cZ) (wX ad cI cZ) A cc nL own rt) (hl : Cond.fieldLink own idx "KnobBench$Open" "settings" "[I" ∈ tb) (d : decode cc pc = .ok (.getfield idx, 3)) (h : pc + 3 = q) (k : XW p l e R s m args below meth c D (wX ad cI cZ) A nL Q q lv (.ref (ad 22) :: st) P T) : XW p l e R s m args below meth c D (wX ad cI cZ) A nL Q pc lv (.ref (ad 5) :: st) P T := x_get (Cn := RX3) (F := TX3) (N := 3) (ci := 3) C inX3 5 rfl rfl 1 (by decide) hl rfl rfl d h k
theorem xg_X3_worths (C : XC p s m args meth c D (tyz cI cZ) (wX ad cI cZ) A cc nL own rt) (hl : Cond.fieldLink own idx "KnobBench$Open" "worths" "[I" ∈ tb) (d : decode cc pc = .ok (.getfield idx, 3)) (h : pc + 3 = q) (k : XW p l e R s m args below meth c D (wX ad cI cZ) A nL Q q lv (.ref (ad 23) :: st) P T) : XW p l e R s m args below meth c D (wX ad cI cZ) A nL Q pc lv (.ref (ad 5) :: st) P T := x_get (Cn := RX3) (F := TX3) (N := 3) (ci := 3) C inX3 5 rfl rfl 2 (by decide) hl rfl rfl d h k
theorem xg_X0_floors (C : XC p s m args meth c D (tyz cI cZ) (wX ad cI cZ) A cc nL own rt) (hl : Cond.fieldLink own idx "KnobBench$Bounds" "floors" "[I" ∈ tb) (d : decode cc pc = .ok (.getfield idx, 3)) (h : pc + 3 = q) (k : XW p l e R s m args below meth c D (wX ad cI cZ) A nL Q q lv (.ref (ad 24) :: st) P T) : XW p l e R s m args below meth c D (wX ad cI cZ) A nL Q pc lv (.ref (ad 6) :: st) P T := x_get (Cn := RX0) (F := TX0) (N := 2) (ci := 0) C inX0 6 rfl rfl 0 (by decide) hl rfl rfl d h k
theorem xg_X0_roofs (C : XC p s m args meth c D (tyz cI cZ) (wX ad cI cZ) A cc nL own rt) (hl : Cond.fieldLink own idx "KnobBench$Bounds" "roofs" "[I" ∈ tb) (d : decode cc pc = .ok (.getfield idx, 3)) (h : pc + 3 = q) (k : XW p l e R s m args below meth c D (wX ad cI cZ) A nL Q q lv (.ref (ad 25) :: st) P T) : XW p l e R s m args below meth c D (wX ad cI cZ) A nL Q pc lv (.ref (ad 6) :: st) P T := x_get (Cn := RX0) (F := TX0) (N := 2) (ci := 0) C inX0 6 rfl rfl 1 (by decide) hl rfl rfl d h k
theorem xg_X4_many (C : XC p s m args meth c D (tyz cI cZ) (wX ad cI cZ) A cc nL own rt) (hl : Cond.fieldLink own idx "KnobBench$Ranks" "many" "I" ∈ tb) (d : decode cc pc = .ok (.getfield idx, 3)) (h : pc + 3 = q) (k : XW p l e R s m args below meth c D (wX ad cI cZ) A nL Q q lv (.int (T 28 0) :: st) P T) : XW p l e R s m args below meth c D (wX ad cI cZ) A nL Q pc lv (.ref (ad 7) :: st) P T := x_get (Cn := RX4) (F := TX4) (N := 5) (ci := 4) C inX4 7 rfl rfl 0 (by decide) hl rfl rfl d h k
theorem xp_X4_many {x : Int32} (C : XC p s m args meth c D (tyz cI cZ) (wX ad cI cZ) A cc nL own rt) (hl : Cond.fieldLink own idx "KnobBench$Ranks" "many" "I" ∈ tb) (d : decode cc pc = .ok (.putfield idx, 3)) (h : pc + 3 = q) (k : XW p l e R s m args below meth c D (wX ad cI cZ) A nL Q q lv st P (st1 T 28 0 x)) : XW p l e R s m args below meth c D (wX ad cI cZ) A nL Q pc lv (.int x :: .ref (ad 7) :: st) P T := x_put (Cn := RX4) (F := TX4) (N := 5) (ci := 4) (ty := .int) C inX4 tyX4 tyX4_ok nmX4 7 rfl rfl 0 (by decide) hl rfl rfl (by decide +kernel) rfl rfl (Nat.le_of_ble_eq_true rfl) rfl d h k
theorem xg_X4_counting (C : XC p s m args meth c D (tyz cI cZ) (wX ad cI cZ) A cc nL own rt) (hl : Cond.fieldLink own idx "KnobBench$Ranks" "counting" "I" ∈ tb) (d : decode cc pc = .ok (.getfield idx, 3)) (h : pc + 3 = q) (k : XW p l e R s m args below meth c D (wX ad cI cZ) A nL Q q lv (.int (T 29 0) :: st) P T) : XW p l e R s m args below meth c D (wX ad cI cZ) A nL Q pc lv (.ref (ad 7) :: st) P T := x_get (Cn := RX4) (F := TX4) (N := 5) (ci := 4) C inX4 7 rfl rfl 1 (by decide) hl rfl rfl d h k
theorem xp_X4_counting {x : Int32} (C : XC p s m args meth c D (tyz cI cZ) (wX ad cI cZ) A cc nL own rt) (hl : Cond.fieldLink own idx "KnobBench$Ranks" "counting" "I" ∈ tb) (d : decode cc pc = .ok (.putfield idx, 3)) (h : pc + 3 = q) (k : XW p l e R s m args below meth c D (wX ad cI cZ) A nL Q q lv st P (st1 T 29 0 x)) : XW p l e R s m args below meth c D (wX ad cI cZ) A nL Q pc lv (.int x :: .ref (ad 7) :: st) P T := x_put (Cn := RX4) (F := TX4) (N := 5) (ci := 4) (ty := .int) C inX4 tyX4 tyX4_ok nmX4 7 rfl rfl 1 (by decide) hl rfl rfl (by decide +kernel) rfl rfl (Nat.le_of_ble_eq_true rfl) rfl d h k
theorem xg_X4_all (C : XC p s m args meth c D (tyz cI cZ) (wX ad cI cZ) A cc nL own rt) (hl : Cond.fieldLink own idx "KnobBench$Ranks" "all" "I" ∈ tb) (d : decode cc pc = .ok (.getfield idx, 3)) (h : pc + 3 = q) (k : XW p l e R s m args below meth c D (wX ad cI cZ) A nL Q q lv (.int (T 30 0) :: st) P T) : XW p l e R s m args below meth c D (wX ad cI cZ) A nL Q pc lv (.ref (ad 7) :: st) P T := x_get (Cn := RX4) (F := TX4) (N := 5) (ci := 4) C inX4 7 rfl rfl 2 (by decide) hl rfl rfl d h k
theorem xp_X4_all {x : Int32} (C : XC p s m args meth c D (tyz cI cZ) (wX ad cI cZ) A cc nL own rt) (hl : Cond.fieldLink own idx "KnobBench$Ranks" "all" "I" ∈ tb) (d : decode cc pc = .ok (.putfield idx, 3)) (h : pc + 3 = q) (k : XW p l e R s m args below meth c D (wX ad cI cZ) A nL Q q lv st P (st1 T 30 0 x)) : XW p l e R s m args below meth c D (wX ad cI cZ) A nL Q pc lv (.int x :: .ref (ad 7) :: st) P T := x_put (Cn := RX4) (F := TX4) (N := 5) (ci := 4) (ty := .int) C inX4 tyX4 tyX4_ok nmX4 7 rfl rfl 2 (by decide) hl rfl rfl (by decide +kernel) rfl rfl (Nat.le_of_ble_eq_true rfl) rfl d h k
theorem xg_X4_readings (C : XC p s m args meth c D (tyz cI cZ) (wX ad cI cZ) A cc nL own rt) (hl : Cond.fieldLink own idx "KnobBench$Ranks" "readings" "[I" ∈ tb) (d : decode cc pc = .ok (.getfield idx, 3)) (h : pc + 3 = q) (k : XW p l e R s m args below meth c D (wX ad cI cZ) A nL Q q lv (.ref (ad 26) :: st) P T) : XW p l e R s m args below meth c D (wX ad cI cZ) A nL Q pc lv (.ref (ad 7) :: st) P T := x_get (Cn := RX4) (F := TX4) (N := 5) (ci := 4) C inX4 7 rfl rfl 3 (by decide) hl rfl rfl d h k
theorem xg_X4_ways (C : XC p s m args meth c D (tyz cI cZ) (wX ad cI cZ) A cc nL own rt) (hl : Cond.fieldLink own idx "KnobBench$Ranks" "ways" "[I" ∈ tb) (d : decode cc pc = .ok (.getfield idx, 3)) (h : pc + 3 = q) (k : XW p l e R s m args below meth c D (wX ad cI cZ) A nL Q q lv (.ref (ad 27) :: st) P T) : XW p l e R s m args below meth c D (wX ad cI cZ) A nL Q pc lv (.ref (ad 7) :: st) P T := x_get (Cn := RX4) (F := TX4) (N := 5) (ci := 4) C inX4 7 rfl rfl 4 (by decide) hl rfl rfl d h k
theorem xa_X8 {i : Nat} (C : XC p s m args meth c D (tyz cI cZ) (wX ad cI cZ) A cc nL own rt) (hi : i < 6) (d : decode cc pc = .ok (.iaload, 1)) (h : pc + 1 = q) (k : XW p l e R s m args below meth c D (wX ad cI cZ) A nL Q q lv (.int (P 0 i) :: st) P T) : XW p l e R s m args below meth c D (wX ad cI cZ) A nL Q pc lv (.int (nI i) :: .ref (ad 8) :: st) P T := x_iald (cA := cI) (n := 6) C 8 0 rfl rfl hi (by decide) d h k
theorem xs_X8 {i : Nat} {x : Int32} (C : XC p s m args meth c D (tyz cI cZ) (wX ad cI cZ) A cc nL own rt) (hi : i < 6) (d : decode cc pc = .ok (.iastore, 1)) (h : pc + 1 = q) (k : XW p l e R s m args below meth c D (wX ad cI cZ) A nL Q q lv st (st1 P 0 i x) T) : XW p l e R s m args below meth c D (wX ad cI cZ) A nL Q pc lv (.int x :: .int (nI i) :: .ref (ad 8) :: st) P T := x_iast (cA := cI) (n := 6) C 8 0 rfl rfl hi (by decide) rfl d h k
theorem xa_X9 {i : Nat} (C : XC p s m args meth c D (tyz cI cZ) (wX ad cI cZ) A cc nL own rt) (hi : i < 6) (d : decode cc pc = .ok (.iaload, 1)) (h : pc + 1 = q) (k : XW p l e R s m args below meth c D (wX ad cI cZ) A nL Q q lv (.int (P 1 i) :: st) P T) : XW p l e R s m args below meth c D (wX ad cI cZ) A nL Q pc lv (.int (nI i) :: .ref (ad 9) :: st) P T := x_iald (cA := cI) (n := 6) C 9 0 rfl rfl hi (by decide) d h k
theorem xs_X9 {i : Nat} {x : Int32} (C : XC p s m args meth c D (tyz cI cZ) (wX ad cI cZ) A cc nL own rt) (hi : i < 6) (d : decode cc pc = .ok (.iastore, 1)) (h : pc + 1 = q) (k : XW p l e R s m args below meth c D (wX ad cI cZ) A nL Q q lv st (st1 P 1 i x) T) : XW p l e R s m args below meth c D (wX ad cI cZ) A nL Q pc lv (.int x :: .int (nI i) :: .ref (ad 9) :: st) P T := x_iast (cA := cI) (n := 6) C 9 0 rfl rfl hi (by decide) rfl d h k
theorem xa_X10 {i : Nat} (C : XC p s m args meth c D (tyz cI cZ) (wX ad cI cZ) A cc nL own rt) (hi : i < 24) (d : decode cc pc = .ok (.iaload, 1)) (h : pc + 1 = q) (k : XW p l e R s m args below meth c D (wX ad cI cZ) A nL Q q lv (.int (P 2 i) :: st) P T) : XW p l e R s m args below meth c D (wX ad cI cZ) A nL Q pc lv (.int (nI i) :: .ref (ad 10) :: st) P T := x_iald (cA := cI) (n := 24) C 10 0 rfl rfl hi (by decide) d h k
theorem xs_X10 {i : Nat} {x : Int32} (C : XC p s m args meth c D (tyz cI cZ) (wX ad cI cZ) A cc nL own rt) (hi : i < 24) (d : decode cc pc = .ok (.iastore, 1)) (h : pc + 1 = q) (k : XW p l e R s m args below meth c D (wX ad cI cZ) A nL Q q lv st (st1 P 2 i x) T) : XW p l e R s m args below meth c D (wX ad cI cZ) A nL Q pc lv (.int x :: .int (nI i) :: .ref (ad 10) :: st) P T := x_iast (cA := cI) (n := 24) C 10 0 rfl rfl hi (by decide) rfl d h k
theorem xa_X11 {i : Nat} (C : XC p s m args meth c D (tyz cI cZ) (wX ad cI cZ) A cc nL own rt) (hi : i < 6) (d : decode cc pc = .ok (.iaload, 1)) (h : pc + 1 = q) (k : XW p l e R s m args below meth c D (wX ad cI cZ) A nL Q q lv (.int (P 3 i) :: st) P T) : XW p l e R s m args below meth c D (wX ad cI cZ) A nL Q pc lv (.int (nI i) :: .ref (ad 11) :: st) P T := x_iald (cA := cI) (n := 6) C 11 0 rfl rfl hi (by decide) d h k
theorem xs_X11 {i : Nat} {x : Int32} (C : XC p s m args meth c D (tyz cI cZ) (wX ad cI cZ) A cc nL own rt) (hi : i < 6) (d : decode cc pc = .ok (.iastore, 1)) (h : pc + 1 = q) (k : XW p l e R s m args below meth c D (wX ad cI cZ) A nL Q q lv st (st1 P 3 i x) T) : XW p l e R s m args below meth c D (wX ad cI cZ) A nL Q pc lv (.int x :: .int (nI i) :: .ref (ad 11) :: st) P T := x_iast (cA := cI) (n := 6) C 11 0 rfl rfl hi (by decide) rfl d h k
theorem xa_X12 {i : Nat} (C : XC p s m args meth c D (tyz cI cZ) (wX ad cI cZ) A cc nL own rt) (hi : i < 12) (d : decode cc pc = .ok (.baload, 1)) (h : pc + 1 = q) (k : XW p l e R s m args below meth c D (wX ad cI cZ) A nL Q q lv (.int (P 4 i) :: st) P T) : XW p l e R s m args below meth c D (wX ad cI cZ) A nL Q pc lv (.int (nI i) :: .ref (ad 12) :: st) P T := x_zald (cA := cZ) (n := 12) C 12 1 rfl rfl hi (by decide) d h k
theorem xs_X12 {i : Nat} {x : Int32} (C : XC p s m args meth c D (tyz cI cZ) (wX ad cI cZ) A cc nL own rt) (hi : i < 12) (hx : vp_nar .boolean x = x) (d : decode cc pc = .ok (.bastore, 1)) (h : pc + 1 = q) (k : XW p l e R s m args below meth c D (wX ad cI cZ) A nL Q q lv st (st1 P 4 i x) T) : XW p l e R s m args below meth c D (wX ad cI cZ) A nL Q pc lv (.int x :: .int (nI i) :: .ref (ad 12) :: st) P T := x_zast (cA := cZ) (n := 12) C 12 1 rfl rfl hi (by decide) hx rfl d h k
theorem xa_X13 {i : Nat} (C : XC p s m args meth c D (tyz cI cZ) (wX ad cI cZ) A cc nL own rt) (hi : i < 12) (d : decode cc pc = .ok (.iaload, 1)) (h : pc + 1 = q) (k : XW p l e R s m args below meth c D (wX ad cI cZ) A nL Q q lv (.int (P 5 i) :: st) P T) : XW p l e R s m args below meth c D (wX ad cI cZ) A nL Q pc lv (.int (nI i) :: .ref (ad 13) :: st) P T := x_iald (cA := cI) (n := 12) C 13 0 rfl rfl hi (by decide) d h k
theorem xs_X13 {i : Nat} {x : Int32} (C : XC p s m args meth c D (tyz cI cZ) (wX ad cI cZ) A cc nL own rt) (hi : i < 12) (d : decode cc pc = .ok (.iastore, 1)) (h : pc + 1 = q) (k : XW p l e R s m args below meth c D (wX ad cI cZ) A nL Q q lv st (st1 P 5 i x) T) : XW p l e R s m args below meth c D (wX ad cI cZ) A nL Q pc lv (.int x :: .int (nI i) :: .ref (ad 13) :: st) P T := x_iast (cA := cI) (n := 12) C 13 0 rfl rfl hi (by decide) rfl d h k
theorem xa_X14 {i : Nat} (C : XC p s m args meth c D (tyz cI cZ) (wX ad cI cZ) A cc nL own rt) (hi : i < 12) (d : decode cc pc = .ok (.iaload, 1)) (h : pc + 1 = q) (k : XW p l e R s m args below meth c D (wX ad cI cZ) A nL Q q lv (.int (P 6 i) :: st) P T) : XW p l e R s m args below meth c D (wX ad cI cZ) A nL Q pc lv (.int (nI i) :: .ref (ad 14) :: st) P T := x_iald (cA := cI) (n := 12) C 14 0 rfl rfl hi (by decide) d h k
theorem xs_X14 {i : Nat} {x : Int32} (C : XC p s m args meth c D (tyz cI cZ) (wX ad cI cZ) A cc nL own rt) (hi : i < 12) (d : decode cc pc = .ok (.iastore, 1)) (h : pc + 1 = q) (k : XW p l e R s m args below meth c D (wX ad cI cZ) A nL Q q lv st (st1 P 6 i x) T) : XW p l e R s m args below meth c D (wX ad cI cZ) A nL Q pc lv (.int x :: .int (nI i) :: .ref (ad 14) :: st) P T := x_iast (cA := cI) (n := 12) C 14 0 rfl rfl hi (by decide) rfl d h k
theorem xa_X15 {i : Nat} (C : XC p s m args meth c D (tyz cI cZ) (wX ad cI cZ) A cc nL own rt) (hi : i < 12) (d : decode cc pc = .ok (.iaload, 1)) (h : pc + 1 = q) (k : XW p l e R s m args below meth c D (wX ad cI cZ) A nL Q q lv (.int (P 7 i) :: st) P T) : XW p l e R s m args below meth c D (wX ad cI cZ) A nL Q pc lv (.int (nI i) :: .ref (ad 15) :: st) P T := x_iald (cA := cI) (n := 12) C 15 0 rfl rfl hi (by decide) d h k
theorem xs_X15 {i : Nat} {x : Int32} (C : XC p s m args meth c D (tyz cI cZ) (wX ad cI cZ) A cc nL own rt) (hi : i < 12) (d : decode cc pc = .ok (.iastore, 1)) (h : pc + 1 = q) (k : XW p l e R s m args below meth c D (wX ad cI cZ) A nL Q q lv st (st1 P 7 i x) T) : XW p l e R s m args below meth c D (wX ad cI cZ) A nL Q pc lv (.int x :: .int (nI i) :: .ref (ad 15) :: st) P T := x_iast (cA := cI) (n := 12) C 15 0 rfl rfl hi (by decide) rfl d h k
theorem xa_X16 {i : Nat} (C : XC p s m args meth c D (tyz cI cZ) (wX ad cI cZ) A cc nL own rt) (hi : i < 12) (d : decode cc pc = .ok (.iaload, 1)) (h : pc + 1 = q) (k : XW p l e R s m args below meth c D (wX ad cI cZ) A nL Q q lv (.int (P 8 i) :: st) P T) : XW p l e R s m args below meth c D (wX ad cI cZ) A nL Q pc lv (.int (nI i) :: .ref (ad 16) :: st) P T := x_iald (cA := cI) (n := 12) C 16 0 rfl rfl hi (by decide) d h k
theorem xs_X16 {i : Nat} {x : Int32} (C : XC p s m args meth c D (tyz cI cZ) (wX ad cI cZ) A cc nL own rt) (hi : i < 12) (d : decode cc pc = .ok (.iastore, 1)) (h : pc + 1 = q) (k : XW p l e R s m args below meth c D (wX ad cI cZ) A nL Q q lv st (st1 P 8 i x) T) : XW p l e R s m args below meth c D (wX ad cI cZ) A nL Q pc lv (.int x :: .int (nI i) :: .ref (ad 16) :: st) P T := x_iast (cA := cI) (n := 12) C 16 0 rfl rfl hi (by decide) rfl d h k
theorem xa_X17 {i : Nat} (C : XC p s m args meth c D (tyz cI cZ) (wX ad cI cZ) A cc nL own rt) (hi : i < 24) (d : decode cc pc = .ok (.iaload, 1)) (h : pc + 1 = q) (k : XW p l e R s m args below meth c D (wX ad cI cZ) A nL Q q lv (.int (P 9 i) :: st) P T) : XW p l e R s m args below meth c D (wX ad cI cZ) A nL Q pc lv (.int (nI i) :: .ref (ad 17) :: st) P T := x_iald (cA := cI) (n := 24) C 17 0 rfl rfl hi (by decide) d h k
theorem xs_X17 {i : Nat} {x : Int32} (C : XC p s m args meth c D (tyz cI cZ) (wX ad cI cZ) A cc nL own rt) (hi : i < 24) (d : decode cc pc = .ok (.iastore, 1)) (h : pc + 1 = q) (k : XW p l e R s m args below meth c D (wX ad cI cZ) A nL Q q lv st (st1 P 9 i x) T) : XW p l e R s m args below meth c D (wX ad cI cZ) A nL Q pc lv (.int x :: .int (nI i) :: .ref (ad 17) :: st) P T := x_iast (cA := cI) (n := 24) C 17 0 rfl rfl hi (by decide) rfl d h k
theorem xa_X18 {i : Nat} (C : XC p s m args meth c D (tyz cI cZ) (wX ad cI cZ) A cc nL own rt) (hi : i < 576) (d : decode cc pc = .ok (.iaload, 1)) (h : pc + 1 = q) (k : XW p l e R s m args below meth c D (wX ad cI cZ) A nL Q q lv (.int (P 10 i) :: st) P T) : XW p l e R s m args below meth c D (wX ad cI cZ) A nL Q pc lv (.int (nI i) :: .ref (ad 18) :: st) P T := x_iald (cA := cI) (n := 576) C 18 0 rfl rfl hi (by decide) d h k
theorem xs_X18 {i : Nat} {x : Int32} (C : XC p s m args meth c D (tyz cI cZ) (wX ad cI cZ) A cc nL own rt) (hi : i < 576) (d : decode cc pc = .ok (.iastore, 1)) (h : pc + 1 = q) (k : XW p l e R s m args below meth c D (wX ad cI cZ) A nL Q q lv st (st1 P 10 i x) T) : XW p l e R s m args below meth c D (wX ad cI cZ) A nL Q pc lv (.int x :: .int (nI i) :: .ref (ad 18) :: st) P T := x_iast (cA := cI) (n := 576) C 18 0 rfl rfl hi (by decide) rfl d h k
theorem xa_X19 {i : Nat} (C : XC p s m args meth c D (tyz cI cZ) (wX ad cI cZ) A cc nL own rt) (hi : i < 6) (d : decode cc pc = .ok (.iaload, 1)) (h : pc + 1 = q) (k : XW p l e R s m args below meth c D (wX ad cI cZ) A nL Q q lv (.int (T 11 i) :: st) P T) : XW p l e R s m args below meth c D (wX ad cI cZ) A nL Q pc lv (.int (nI i) :: .ref (ad 19) :: st) P T := x_iald (cA := cI) (n := 6) C 19 0 rfl rfl hi (by decide) d h k
theorem xs_X19 {i : Nat} {x : Int32} (C : XC p s m args meth c D (tyz cI cZ) (wX ad cI cZ) A cc nL own rt) (hi : i < 6) (d : decode cc pc = .ok (.iastore, 1)) (h : pc + 1 = q) (k : XW p l e R s m args below meth c D (wX ad cI cZ) A nL Q q lv st P (st1 T 11 i x)) : XW p l e R s m args below meth c D (wX ad cI cZ) A nL Q pc lv (.int x :: .int (nI i) :: .ref (ad 19) :: st) P T := x_iast (cA := cI) (n := 6) C 19 0 rfl rfl hi (by decide) rfl d h k
theorem xa_X20 {i : Nat} (C : XC p s m args meth c D (tyz cI cZ) (wX ad cI cZ) A cc nL own rt) (hi : i < 60) (d : decode cc pc = .ok (.iaload, 1)) (h : pc + 1 = q) (k : XW p l e R s m args below meth c D (wX ad cI cZ) A nL Q q lv (.int (P 12 i) :: st) P T) : XW p l e R s m args below meth c D (wX ad cI cZ) A nL Q pc lv (.int (nI i) :: .ref (ad 20) :: st) P T := x_iald (cA := cI) (n := 60) C 20 0 rfl rfl hi (by decide) d h k
theorem xs_X20 {i : Nat} {x : Int32} (C : XC p s m args meth c D (tyz cI cZ) (wX ad cI cZ) A cc nL own rt) (hi : i < 60) (d : decode cc pc = .ok (.iastore, 1)) (h : pc + 1 = q) (k : XW p l e R s m args below meth c D (wX ad cI cZ) A nL Q q lv st (st1 P 12 i x) T) : XW p l e R s m args below meth c D (wX ad cI cZ) A nL Q pc lv (.int x :: .int (nI i) :: .ref (ad 20) :: st) P T := x_iast (cA := cI) (n := 60) C 20 0 rfl rfl hi (by decide) rfl d h k
theorem xa_X21 {i : Nat} (C : XC p s m args meth c D (tyz cI cZ) (wX ad cI cZ) A cc nL own rt) (hi : i < 60) (d : decode cc pc = .ok (.iaload, 1)) (h : pc + 1 = q) (k : XW p l e R s m args below meth c D (wX ad cI cZ) A nL Q q lv (.int (P 13 i) :: st) P T) : XW p l e R s m args below meth c D (wX ad cI cZ) A nL Q pc lv (.int (nI i) :: .ref (ad 21) :: st) P T := x_iald (cA := cI) (n := 60) C 21 0 rfl rfl hi (by decide) d h k
theorem xs_X21 {i : Nat} {x : Int32} (C : XC p s m args meth c D (tyz cI cZ) (wX ad cI cZ) A cc nL own rt) (hi : i < 60) (d : decode cc pc = .ok (.iastore, 1)) (h : pc + 1 = q) (k : XW p l e R s m args below meth c D (wX ad cI cZ) A nL Q q lv st (st1 P 13 i x) T) : XW p l e R s m args below meth c D (wX ad cI cZ) A nL Q pc lv (.int x :: .int (nI i) :: .ref (ad 21) :: st) P T := x_iast (cA := cI) (n := 60) C 21 0 rfl rfl hi (by decide) rfl d h k
theorem xa_X22 {i : Nat} (C : XC p s m args meth c D (tyz cI cZ) (wX ad cI cZ) A cc nL own rt) (hi : i < 144) (d : decode cc pc = .ok (.iaload, 1)) (h : pc + 1 = q) (k : XW p l e R s m args below meth c D (wX ad cI cZ) A nL Q q lv (.int (T 14 i) :: st) P T) : XW p l e R s m args below meth c D (wX ad cI cZ) A nL Q pc lv (.int (nI i) :: .ref (ad 22) :: st) P T := x_iald (cA := cI) (n := 144) C 22 0 rfl rfl hi (by decide) d h k
theorem xs_X22 {i : Nat} {x : Int32} (C : XC p s m args meth c D (tyz cI cZ) (wX ad cI cZ) A cc nL own rt) (hi : i < 144) (d : decode cc pc = .ok (.iastore, 1)) (h : pc + 1 = q) (k : XW p l e R s m args below meth c D (wX ad cI cZ) A nL Q q lv st P (st1 T 14 i x)) : XW p l e R s m args below meth c D (wX ad cI cZ) A nL Q pc lv (.int x :: .int (nI i) :: .ref (ad 22) :: st) P T := x_iast (cA := cI) (n := 144) C 22 0 rfl rfl hi (by decide) rfl d h k
theorem xa_X23 {i : Nat} (C : XC p s m args meth c D (tyz cI cZ) (wX ad cI cZ) A cc nL own rt) (hi : i < 144) (d : decode cc pc = .ok (.iaload, 1)) (h : pc + 1 = q) (k : XW p l e R s m args below meth c D (wX ad cI cZ) A nL Q q lv (.int (T 15 i) :: st) P T) : XW p l e R s m args below meth c D (wX ad cI cZ) A nL Q pc lv (.int (nI i) :: .ref (ad 23) :: st) P T := x_iald (cA := cI) (n := 144) C 23 0 rfl rfl hi (by decide) d h k
theorem xs_X23 {i : Nat} {x : Int32} (C : XC p s m args meth c D (tyz cI cZ) (wX ad cI cZ) A cc nL own rt) (hi : i < 144) (d : decode cc pc = .ok (.iastore, 1)) (h : pc + 1 = q) (k : XW p l e R s m args below meth c D (wX ad cI cZ) A nL Q q lv st P (st1 T 15 i x)) : XW p l e R s m args below meth c D (wX ad cI cZ) A nL Q pc lv (.int x :: .int (nI i) :: .ref (ad 23) :: st) P T := x_iast (cA := cI) (n := 144) C 23 0 rfl rfl hi (by decide) rfl d h k
theorem xa_X24 {i : Nat} (C : XC p s m args meth c D (tyz cI cZ) (wX ad cI cZ) A cc nL own rt) (hi : i < 144) (d : decode cc pc = .ok (.iaload, 1)) (h : pc + 1 = q) (k : XW p l e R s m args below meth c D (wX ad cI cZ) A nL Q q lv (.int (T 16 i) :: st) P T) : XW p l e R s m args below meth c D (wX ad cI cZ) A nL Q pc lv (.int (nI i) :: .ref (ad 24) :: st) P T := x_iald (cA := cI) (n := 144) C 24 0 rfl rfl hi (by decide) d h k
theorem xs_X24 {i : Nat} {x : Int32} (C : XC p s m args meth c D (tyz cI cZ) (wX ad cI cZ) A cc nL own rt) (hi : i < 144) (d : decode cc pc = .ok (.iastore, 1)) (h : pc + 1 = q) (k : XW p l e R s m args below meth c D (wX ad cI cZ) A nL Q q lv st P (st1 T 16 i x)) : XW p l e R s m args below meth c D (wX ad cI cZ) A nL Q pc lv (.int x :: .int (nI i) :: .ref (ad 24) :: st) P T := x_iast (cA := cI) (n := 144) C 24 0 rfl rfl hi (by decide) rfl d h k
theorem xa_X25 {i : Nat} (C : XC p s m args meth c D (tyz cI cZ) (wX ad cI cZ) A cc nL own rt) (hi : i < 144) (d : decode cc pc = .ok (.iaload, 1)) (h : pc + 1 = q) (k : XW p l e R s m args below meth c D (wX ad cI cZ) A nL Q q lv (.int (T 17 i) :: st) P T) : XW p l e R s m args below meth c D (wX ad cI cZ) A nL Q pc lv (.int (nI i) :: .ref (ad 25) :: st) P T := x_iald (cA := cI) (n := 144) C 25 0 rfl rfl hi (by decide) d h k
theorem xs_X25 {i : Nat} {x : Int32} (C : XC p s m args meth c D (tyz cI cZ) (wX ad cI cZ) A cc nL own rt) (hi : i < 144) (d : decode cc pc = .ok (.iastore, 1)) (h : pc + 1 = q) (k : XW p l e R s m args below meth c D (wX ad cI cZ) A nL Q q lv st P (st1 T 17 i x)) : XW p l e R s m args below meth c D (wX ad cI cZ) A nL Q pc lv (.int x :: .int (nI i) :: .ref (ad 25) :: st) P T := x_iast (cA := cI) (n := 144) C 25 0 rfl rfl hi (by decide) rfl d h k
theorem xa_X26 {i : Nat} (C : XC p s m args meth c D (tyz cI cZ) (wX ad cI cZ) A cc nL own rt) (hi : i < 16) (d : decode cc pc = .ok (.iaload, 1)) (h : pc + 1 = q) (k : XW p l e R s m args below meth c D (wX ad cI cZ) A nL Q q lv (.int (T 18 i) :: st) P T) : XW p l e R s m args below meth c D (wX ad cI cZ) A nL Q pc lv (.int (nI i) :: .ref (ad 26) :: st) P T := x_iald (cA := cI) (n := 16) C 26 0 rfl rfl hi (by decide) d h k
theorem xs_X26 {i : Nat} {x : Int32} (C : XC p s m args meth c D (tyz cI cZ) (wX ad cI cZ) A cc nL own rt) (hi : i < 16) (d : decode cc pc = .ok (.iastore, 1)) (h : pc + 1 = q) (k : XW p l e R s m args below meth c D (wX ad cI cZ) A nL Q q lv st P (st1 T 18 i x)) : XW p l e R s m args below meth c D (wX ad cI cZ) A nL Q pc lv (.int x :: .int (nI i) :: .ref (ad 26) :: st) P T := x_iast (cA := cI) (n := 16) C 26 0 rfl rfl hi (by decide) rfl d h k
theorem xa_X27 {i : Nat} (C : XC p s m args meth c D (tyz cI cZ) (wX ad cI cZ) A cc nL own rt) (hi : i < 2169) (d : decode cc pc = .ok (.iaload, 1)) (h : pc + 1 = q) (k : XW p l e R s m args below meth c D (wX ad cI cZ) A nL Q q lv (.int (T 19 i) :: st) P T) : XW p l e R s m args below meth c D (wX ad cI cZ) A nL Q pc lv (.int (nI i) :: .ref (ad 27) :: st) P T := x_iald (cA := cI) (n := 2169) C 27 0 rfl rfl hi (by decide) d h k
theorem xs_X27 {i : Nat} {x : Int32} (C : XC p s m args meth c D (tyz cI cZ) (wX ad cI cZ) A cc nL own rt) (hi : i < 2169) (d : decode cc pc = .ok (.iastore, 1)) (h : pc + 1 = q) (k : XW p l e R s m args below meth c D (wX ad cI cZ) A nL Q q lv st P (st1 T 19 i x)) : XW p l e R s m args below meth c D (wX ad cI cZ) A nL Q pc lv (.int x :: .int (nI i) :: .ref (ad 27) :: st) P T := x_iast (cA := cI) (n := 2169) C 27 0 rfl rfl hi (by decide) rfl d h k
theorem xg_X8_knobs (C : XC p s m args meth c D (tyz cI cZ) (wN ad cI cZ) A cc nL own rt) (hl : Cond.fieldLink own idx "KnobBenchModel" "knobs" "I" ∈ tb) (d : decode cc pc = .ok (.getfield idx, 3)) (h : pc + 3 = q) (k : XW p l e R s m args below meth c D (wN ad cI cZ) A nL Q q lv (.int (P 20 0) :: st) P T) : XW p l e R s m args below meth c D (wN ad cI cZ) A nL Q pc lv (.ref (ad 0) :: st) P T := x_get (Cn := RX8) (F := TX8) (N := 20) (ci := 8) C inX8 0 rfl rfl 0 (by decide) hl rfl rfl d h k
theorem xp_X8_knobs {x : Int32} (C : XC p s m args meth c D (tyz cI cZ) (wN ad cI cZ) A cc nL own rt) (hl : Cond.fieldLink own idx "KnobBenchModel" "knobs" "I" ∈ tb) (d : decode cc pc = .ok (.putfield idx, 3)) (h : pc + 3 = q) (k : XW p l e R s m args below meth c D (wN ad cI cZ) A nL Q q lv st (st1 P 20 0 x) T) : XW p l e R s m args below meth c D (wN ad cI cZ) A nL Q pc lv (.int x :: .ref (ad 0) :: st) P T := x_put (Cn := RX8) (F := TX8) (N := 20) (ci := 8) (ty := .int) C inX8 tyX8 tyX8_ok nmX8 0 rfl rfl 0 (by decide) hl rfl rfl (by decide +kernel) rfl rfl (Nat.le_of_ble_eq_true rfl) rfl d h k
theorem xg_X8_settings (C : XC p s m args meth c D (tyz cI cZ) (wN ad cI cZ) A cc nL own rt) (hl : Cond.fieldLink own idx "KnobBenchModel" "settings" "I" ∈ tb) (d : decode cc pc = .ok (.getfield idx, 3)) (h : pc + 3 = q) (k : XW p l e R s m args below meth c D (wN ad cI cZ) A nL Q q lv (.int (P 21 0) :: st) P T) : XW p l e R s m args below meth c D (wN ad cI cZ) A nL Q pc lv (.ref (ad 0) :: st) P T := x_get (Cn := RX8) (F := TX8) (N := 20) (ci := 8) C inX8 0 rfl rfl 1 (by decide) hl rfl rfl d h k
theorem xp_X8_settings {x : Int32} (C : XC p s m args meth c D (tyz cI cZ) (wN ad cI cZ) A cc nL own rt) (hl : Cond.fieldLink own idx "KnobBenchModel" "settings" "I" ∈ tb) (d : decode cc pc = .ok (.putfield idx, 3)) (h : pc + 3 = q) (k : XW p l e R s m args below meth c D (wN ad cI cZ) A nL Q q lv st (st1 P 21 0 x) T) : XW p l e R s m args below meth c D (wN ad cI cZ) A nL Q pc lv (.int x :: .ref (ad 0) :: st) P T := x_put (Cn := RX8) (F := TX8) (N := 20) (ci := 8) (ty := .int) C inX8 tyX8 tyX8_ok nmX8 0 rfl rfl 1 (by decide) hl rfl rfl (by decide +kernel) rfl rfl (Nat.le_of_ble_eq_true rfl) rfl d h k
theorem xg_X8_many (C : XC p s m args meth c D (tyz cI cZ) (wN ad cI cZ) A cc nL own rt) (hl : Cond.fieldLink own idx "KnobBenchModel" "many" "[I" ∈ tb) (d : decode cc pc = .ok (.getfield idx, 3)) (h : pc + 3 = q) (k : XW p l e R s m args below meth c D (wN ad cI cZ) A nL Q q lv (.ref (ad 1) :: st) P T) : XW p l e R s m args below meth c D (wN ad cI cZ) A nL Q pc lv (.ref (ad 0) :: st) P T := x_get (Cn := RX8) (F := TX8) (N := 20) (ci := 8) C inX8 0 rfl rfl 2 (by decide) hl rfl rfl d h k
theorem xg_X8_places (C : XC p s m args meth c D (tyz cI cZ) (wN ad cI cZ) A cc nL own rt) (hl : Cond.fieldLink own idx "KnobBenchModel" "places" "[I" ∈ tb) (d : decode cc pc = .ok (.getfield idx, 3)) (h : pc + 3 = q) (k : XW p l e R s m args below meth c D (wN ad cI cZ) A nL Q q lv (.ref (ad 2) :: st) P T) : XW p l e R s m args below meth c D (wN ad cI cZ) A nL Q pc lv (.ref (ad 0) :: st) P T := x_get (Cn := RX8) (F := TX8) (N := 20) (ci := 8) C inX8 0 rfl rfl 3 (by decide) hl rfl rfl d h k
theorem xg_X8_steeps (C : XC p s m args meth c D (tyz cI cZ) (wN ad cI cZ) A cc nL own rt) (hl : Cond.fieldLink own idx "KnobBenchModel" "steeps" "[I" ∈ tb) (d : decode cc pc = .ok (.getfield idx, 3)) (h : pc + 3 = q) (k : XW p l e R s m args below meth c D (wN ad cI cZ) A nL Q q lv (.ref (ad 3) :: st) P T) : XW p l e R s m args below meth c D (wN ad cI cZ) A nL Q pc lv (.ref (ad 0) :: st) P T := x_get (Cn := RX8) (F := TX8) (N := 20) (ci := 8) C inX8 0 rfl rfl 4 (by decide) hl rfl rfl d h k
theorem xg_X8_rules (C : XC p s m args meth c D (tyz cI cZ) (wN ad cI cZ) A cc nL own rt) (hl : Cond.fieldLink own idx "KnobBenchModel" "rules" "I" ∈ tb) (d : decode cc pc = .ok (.getfield idx, 3)) (h : pc + 3 = q) (k : XW p l e R s m args below meth c D (wN ad cI cZ) A nL Q q lv (.int (P 22 0) :: st) P T) : XW p l e R s m args below meth c D (wN ad cI cZ) A nL Q pc lv (.ref (ad 0) :: st) P T := x_get (Cn := RX8) (F := TX8) (N := 20) (ci := 8) C inX8 0 rfl rfl 5 (by decide) hl rfl rfl d h k
theorem xp_X8_rules {x : Int32} (C : XC p s m args meth c D (tyz cI cZ) (wN ad cI cZ) A cc nL own rt) (hl : Cond.fieldLink own idx "KnobBenchModel" "rules" "I" ∈ tb) (d : decode cc pc = .ok (.putfield idx, 3)) (h : pc + 3 = q) (k : XW p l e R s m args below meth c D (wN ad cI cZ) A nL Q q lv st (st1 P 22 0 x) T) : XW p l e R s m args below meth c D (wN ad cI cZ) A nL Q pc lv (.int x :: .ref (ad 0) :: st) P T := x_put (Cn := RX8) (F := TX8) (N := 20) (ci := 8) (ty := .int) C inX8 tyX8 tyX8_ok nmX8 0 rfl rfl 5 (by decide) hl rfl rfl (by decide +kernel) rfl rfl (Nat.le_of_ble_eq_true rfl) rfl d h k
theorem xg_X8_ruleOf (C : XC p s m args meth c D (tyz cI cZ) (wN ad cI cZ) A cc nL own rt) (hl : Cond.fieldLink own idx "KnobBenchModel" "ruleOf" "[I" ∈ tb) (d : decode cc pc = .ok (.getfield idx, 3)) (h : pc + 3 = q) (k : XW p l e R s m args below meth c D (wN ad cI cZ) A nL Q q lv (.ref (ad 4) :: st) P T) : XW p l e R s m args below meth c D (wN ad cI cZ) A nL Q pc lv (.ref (ad 0) :: st) P T := x_get (Cn := RX8) (F := TX8) (N := 20) (ci := 8) C inX8 0 rfl rfl 6 (by decide) hl rfl rfl d h k
theorem xg_X8_base (C : XC p s m args meth c D (tyz cI cZ) (wN ad cI cZ) A cc nL own rt) (hl : Cond.fieldLink own idx "KnobBenchModel" "base" "I" ∈ tb) (d : decode cc pc = .ok (.getfield idx, 3)) (h : pc + 3 = q) (k : XW p l e R s m args below meth c D (wN ad cI cZ) A nL Q q lv (.int (P 23 0) :: st) P T) : XW p l e R s m args below meth c D (wN ad cI cZ) A nL Q pc lv (.ref (ad 0) :: st) P T := x_get (Cn := RX8) (F := TX8) (N := 20) (ci := 8) C inX8 0 rfl rfl 7 (by decide) hl rfl rfl d h k
theorem xp_X8_base {x : Int32} (C : XC p s m args meth c D (tyz cI cZ) (wN ad cI cZ) A cc nL own rt) (hl : Cond.fieldLink own idx "KnobBenchModel" "base" "I" ∈ tb) (d : decode cc pc = .ok (.putfield idx, 3)) (h : pc + 3 = q) (k : XW p l e R s m args below meth c D (wN ad cI cZ) A nL Q q lv st (st1 P 23 0 x) T) : XW p l e R s m args below meth c D (wN ad cI cZ) A nL Q pc lv (.int x :: .ref (ad 0) :: st) P T := x_put (Cn := RX8) (F := TX8) (N := 20) (ci := 8) (ty := .int) C inX8 tyX8 tyX8_ok nmX8 0 rfl rfl 7 (by decide) hl rfl rfl (by decide +kernel) rfl rfl (Nat.le_of_ble_eq_true rfl) rfl d h k
theorem xg_X8_single (C : XC p s m args meth c D (tyz cI cZ) (wN ad cI cZ) A cc nL own rt) (hl : Cond.fieldLink own idx "KnobBenchModel" "single" "[I" ∈ tb) (d : decode cc pc = .ok (.getfield idx, 3)) (h : pc + 3 = q) (k : XW p l e R s m args below meth c D (wN ad cI cZ) A nL Q q lv (.ref (ad 5) :: st) P T) : XW p l e R s m args below meth c D (wN ad cI cZ) A nL Q pc lv (.ref (ad 0) :: st) P T := x_get (Cn := RX8) (F := TX8) (N := 20) (ci := 8) C inX8 0 rfl rfl 8 (by decide) hl rfl rfl d h k
theorem xg_X8_joints (C : XC p s m args meth c D (tyz cI cZ) (wN ad cI cZ) A cc nL own rt) (hl : Cond.fieldLink own idx "KnobBenchModel" "joints" "[I" ∈ tb) (d : decode cc pc = .ok (.getfield idx, 3)) (h : pc + 3 = q) (k : XW p l e R s m args below meth c D (wN ad cI cZ) A nL Q q lv (.ref (ad 6) :: st) P T) : XW p l e R s m args below meth c D (wN ad cI cZ) A nL Q pc lv (.ref (ad 0) :: st) P T := x_get (Cn := RX8) (F := TX8) (N := 20) (ci := 8) C inX8 0 rfl rfl 9 (by decide) hl rfl rfl d h k
theorem xg_X8_z (C : XC p s m args meth c D (tyz cI cZ) (wN ad cI cZ) A cc nL own rt) (hl : Cond.fieldLink own idx "KnobBenchModel" "z" "I" ∈ tb) (d : decode cc pc = .ok (.getfield idx, 3)) (h : pc + 3 = q) (k : XW p l e R s m args below meth c D (wN ad cI cZ) A nL Q q lv (.int (P 25 0) :: st) P T) : XW p l e R s m args below meth c D (wN ad cI cZ) A nL Q pc lv (.ref (ad 0) :: st) P T := x_get (Cn := RX8) (F := TX8) (N := 20) (ci := 8) C inX8 0 rfl rfl 10 (by decide) hl rfl rfl d h k
theorem xp_X8_z {x : Int32} (C : XC p s m args meth c D (tyz cI cZ) (wN ad cI cZ) A cc nL own rt) (hl : Cond.fieldLink own idx "KnobBenchModel" "z" "I" ∈ tb) (d : decode cc pc = .ok (.putfield idx, 3)) (h : pc + 3 = q) (k : XW p l e R s m args below meth c D (wN ad cI cZ) A nL Q q lv st (st1 P 25 0 x) T) : XW p l e R s m args below meth c D (wN ad cI cZ) A nL Q pc lv (.int x :: .ref (ad 0) :: st) P T := x_put (Cn := RX8) (F := TX8) (N := 20) (ci := 8) (ty := .int) C inX8 tyX8 tyX8_ok nmX8 0 rfl rfl 10 (by decide) hl rfl rfl (by decide +kernel) rfl rfl (Nat.le_of_ble_eq_true rfl) rfl d h k
theorem xg_X8_seed (C : XC p s m args meth c D (tyz cI cZ) (wN ad cI cZ) A cc nL own rt) (hl : Cond.fieldLink own idx "KnobBenchModel" "seed" "I" ∈ tb) (d : decode cc pc = .ok (.getfield idx, 3)) (h : pc + 3 = q) (k : XW p l e R s m args below meth c D (wN ad cI cZ) A nL Q q lv (.int (P 26 0) :: st) P T) : XW p l e R s m args below meth c D (wN ad cI cZ) A nL Q pc lv (.ref (ad 0) :: st) P T := x_get (Cn := RX8) (F := TX8) (N := 20) (ci := 8) C inX8 0 rfl rfl 11 (by decide) hl rfl rfl d h k
theorem xp_X8_seed {x : Int32} (C : XC p s m args meth c D (tyz cI cZ) (wN ad cI cZ) A cc nL own rt) (hl : Cond.fieldLink own idx "KnobBenchModel" "seed" "I" ∈ tb) (d : decode cc pc = .ok (.putfield idx, 3)) (h : pc + 3 = q) (k : XW p l e R s m args below meth c D (wN ad cI cZ) A nL Q q lv st (st1 P 26 0 x) T) : XW p l e R s m args below meth c D (wN ad cI cZ) A nL Q pc lv (.int x :: .ref (ad 0) :: st) P T := x_put (Cn := RX8) (F := TX8) (N := 20) (ci := 8) (ty := .int) C inX8 tyX8 tyX8_ok nmX8 0 rfl rfl 11 (by decide) hl rfl rfl (by decide +kernel) rfl rfl (Nat.le_of_ble_eq_true rfl) rfl d h k
theorem xg_X8_trials (C : XC p s m args meth c D (tyz cI cZ) (wN ad cI cZ) A cc nL own rt) (hl : Cond.fieldLink own idx "KnobBenchModel" "trials" "I" ∈ tb) (d : decode cc pc = .ok (.getfield idx, 3)) (h : pc + 3 = q) (k : XW p l e R s m args below meth c D (wN ad cI cZ) A nL Q q lv (.int (P 24 0) :: st) P T) : XW p l e R s m args below meth c D (wN ad cI cZ) A nL Q pc lv (.ref (ad 0) :: st) P T := x_get (Cn := RX8) (F := TX8) (N := 20) (ci := 8) C inX8 0 rfl rfl 12 (by decide) hl rfl rfl d h k
theorem xp_X8_trials {x : Int32} (C : XC p s m args meth c D (tyz cI cZ) (wN ad cI cZ) A cc nL own rt) (hl : Cond.fieldLink own idx "KnobBenchModel" "trials" "I" ∈ tb) (d : decode cc pc = .ok (.putfield idx, 3)) (h : pc + 3 = q) (k : XW p l e R s m args below meth c D (wN ad cI cZ) A nL Q q lv st (st1 P 24 0 x) T) : XW p l e R s m args below meth c D (wN ad cI cZ) A nL Q pc lv (.int x :: .ref (ad 0) :: st) P T := x_put (Cn := RX8) (F := TX8) (N := 20) (ci := 8) (ty := .int) C inX8 tyX8 tyX8_ok nmX8 0 rfl rfl 12 (by decide) hl rfl rfl (by decide +kernel) rfl rfl (Nat.le_of_ble_eq_true rfl) rfl d h k
theorem xg_X8_tried (C : XC p s m args meth c D (tyz cI cZ) (wN ad cI cZ) A cc nL own rt) (hl : Cond.fieldLink own idx "KnobBenchModel" "tried" "[I" ∈ tb) (d : decode cc pc = .ok (.getfield idx, 3)) (h : pc + 3 = q) (k : XW p l e R s m args below meth c D (wN ad cI cZ) A nL Q q lv (.ref (ad 7) :: st) P T) : XW p l e R s m args below meth c D (wN ad cI cZ) A nL Q pc lv (.ref (ad 0) :: st) P T := x_get (Cn := RX8) (F := TX8) (N := 20) (ci := 8) C inX8 0 rfl rfl 13 (by decide) hl rfl rfl d h k
theorem xg_X8_reads (C : XC p s m args meth c D (tyz cI cZ) (wN ad cI cZ) A cc nL own rt) (hl : Cond.fieldLink own idx "KnobBenchModel" "reads" "[I" ∈ tb) (d : decode cc pc = .ok (.getfield idx, 3)) (h : pc + 3 = q) (k : XW p l e R s m args below meth c D (wN ad cI cZ) A nL Q q lv (.ref (ad 8) :: st) P T) : XW p l e R s m args below meth c D (wN ad cI cZ) A nL Q pc lv (.ref (ad 0) :: st) P T := x_get (Cn := RX8) (F := TX8) (N := 20) (ci := 8) C inX8 0 rfl rfl 14 (by decide) hl rfl rfl d h k
theorem xg_X8_all (C : XC p s m args meth c D (tyz cI cZ) (wN ad cI cZ) A cc nL own rt) (hl : Cond.fieldLink own idx "KnobBenchModel" "all" "I" ∈ tb) (d : decode cc pc = .ok (.getfield idx, 3)) (h : pc + 3 = q) (k : XW p l e R s m args below meth c D (wN ad cI cZ) A nL Q q lv (.int (T 28 0) :: st) P T) : XW p l e R s m args below meth c D (wN ad cI cZ) A nL Q pc lv (.ref (ad 0) :: st) P T := x_get (Cn := RX8) (F := TX8) (N := 20) (ci := 8) C inX8 0 rfl rfl 15 (by decide) hl rfl rfl d h k
theorem xp_X8_all {x : Int32} (C : XC p s m args meth c D (tyz cI cZ) (wN ad cI cZ) A cc nL own rt) (hl : Cond.fieldLink own idx "KnobBenchModel" "all" "I" ∈ tb) (d : decode cc pc = .ok (.putfield idx, 3)) (h : pc + 3 = q) (k : XW p l e R s m args below meth c D (wN ad cI cZ) A nL Q q lv st P (st1 T 28 0 x)) : XW p l e R s m args below meth c D (wN ad cI cZ) A nL Q pc lv (.int x :: .ref (ad 0) :: st) P T := x_put (Cn := RX8) (F := TX8) (N := 20) (ci := 8) (ty := .int) C inX8 tyX8 tyX8_ok nmX8 0 rfl rfl 15 (by decide) hl rfl rfl (by decide +kernel) rfl rfl (Nat.le_of_ble_eq_true rfl) rfl d h k
theorem xg_X8_readings (C : XC p s m args meth c D (tyz cI cZ) (wN ad cI cZ) A cc nL own rt) (hl : Cond.fieldLink own idx "KnobBenchModel" "readings" "[I" ∈ tb) (d : decode cc pc = .ok (.getfield idx, 3)) (h : pc + 3 = q) (k : XW p l e R s m args below meth c D (wN ad cI cZ) A nL Q q lv (.ref (ad 9) :: st) P T) : XW p l e R s m args below meth c D (wN ad cI cZ) A nL Q pc lv (.ref (ad 0) :: st) P T := x_get (Cn := RX8) (F := TX8) (N := 20) (ci := 8) C inX8 0 rfl rfl 16 (by decide) hl rfl rfl d h k
theorem xg_X8_ways (C : XC p s m args meth c D (tyz cI cZ) (wN ad cI cZ) A cc nL own rt) (hl : Cond.fieldLink own idx "KnobBenchModel" "ways" "[I" ∈ tb) (d : decode cc pc = .ok (.getfield idx, 3)) (h : pc + 3 = q) (k : XW p l e R s m args below meth c D (wN ad cI cZ) A nL Q q lv (.ref (ad 10) :: st) P T) : XW p l e R s m args below meth c D (wN ad cI cZ) A nL Q pc lv (.ref (ad 0) :: st) P T := x_get (Cn := RX8) (F := TX8) (N := 20) (ci := 8) C inX8 0 rfl rfl 17 (by decide) hl rfl rfl d h k
theorem xg_X8_counted (C : XC p s m args meth c D (tyz cI cZ) (wN ad cI cZ) A cc nL own rt) (hl : Cond.fieldLink own idx "KnobBenchModel" "counted" "I" ∈ tb) (d : decode cc pc = .ok (.getfield idx, 3)) (h : pc + 3 = q) (k : XW p l e R s m args below meth c D (wN ad cI cZ) A nL Q q lv (.int (T 29 0) :: st) P T) : XW p l e R s m args below meth c D (wN ad cI cZ) A nL Q pc lv (.ref (ad 0) :: st) P T := x_get (Cn := RX8) (F := TX8) (N := 20) (ci := 8) C inX8 0 rfl rfl 18 (by decide) hl rfl rfl d h k
theorem xp_X8_counted {x : Int32} (C : XC p s m args meth c D (tyz cI cZ) (wN ad cI cZ) A cc nL own rt) (hl : Cond.fieldLink own idx "KnobBenchModel" "counted" "I" ∈ tb) (d : decode cc pc = .ok (.putfield idx, 3)) (h : pc + 3 = q) (k : XW p l e R s m args below meth c D (wN ad cI cZ) A nL Q q lv st P (st1 T 29 0 x)) : XW p l e R s m args below meth c D (wN ad cI cZ) A nL Q pc lv (.int x :: .ref (ad 0) :: st) P T := x_put (Cn := RX8) (F := TX8) (N := 20) (ci := 8) (ty := .int) C inX8 tyX8 tyX8_ok nmX8 0 rfl rfl 18 (by decide) hl rfl rfl (by decide +kernel) rfl rfl (Nat.le_of_ble_eq_true rfl) rfl d h k
theorem xg_X8_possible (C : XC p s m args meth c D (tyz cI cZ) (wN ad cI cZ) A cc nL own rt) (hl : Cond.fieldLink own idx "KnobBenchModel" "possible" "I" ∈ tb) (d : decode cc pc = .ok (.getfield idx, 3)) (h : pc + 3 = q) (k : XW p l e R s m args below meth c D (wN ad cI cZ) A nL Q q lv (.int (T 30 0) :: st) P T) : XW p l e R s m args below meth c D (wN ad cI cZ) A nL Q pc lv (.ref (ad 0) :: st) P T := x_get (Cn := RX8) (F := TX8) (N := 20) (ci := 8) C inX8 0 rfl rfl 19 (by decide) hl rfl rfl d h k
theorem xp_X8_possible {x : Int32} (C : XC p s m args meth c D (tyz cI cZ) (wN ad cI cZ) A cc nL own rt) (hl : Cond.fieldLink own idx "KnobBenchModel" "possible" "I" ∈ tb) (d : decode cc pc = .ok (.putfield idx, 3)) (h : pc + 3 = q) (k : XW p l e R s m args below meth c D (wN ad cI cZ) A nL Q q lv st P (st1 T 30 0 x)) : XW p l e R s m args below meth c D (wN ad cI cZ) A nL Q pc lv (.int x :: .ref (ad 0) :: st) P T := x_put (Cn := RX8) (F := TX8) (N := 20) (ci := 8) (ty := .int) C inX8 tyX8 tyX8_ok nmX8 0 rfl rfl 19 (by decide) hl rfl rfl (by decide +kernel) rfl rfl (Nat.le_of_ble_eq_true rfl) rfl d h k
theorem xa_N1 {i : Nat} (C : XC p s m args meth c D (tyz cI cZ) (wN ad cI cZ) A cc nL own rt) (hi : i < 6) (d : decode cc pc = .ok (.iaload, 1)) (h : pc + 1 = q) (k : XW p l e R s m args below meth c D (wN ad cI cZ) A nL Q q lv (.int (P 0 i) :: st) P T) : XW p l e R s m args below meth c D (wN ad cI cZ) A nL Q pc lv (.int (nI i) :: .ref (ad 1) :: st) P T := x_iald (cA := cI) (n := 6) C 1 0 rfl rfl hi (by decide) d h k
theorem xs_N1 {i : Nat} {x : Int32} (C : XC p s m args meth c D (tyz cI cZ) (wN ad cI cZ) A cc nL own rt) (hi : i < 6) (d : decode cc pc = .ok (.iastore, 1)) (h : pc + 1 = q) (k : XW p l e R s m args below meth c D (wN ad cI cZ) A nL Q q lv st (st1 P 0 i x) T) : XW p l e R s m args below meth c D (wN ad cI cZ) A nL Q pc lv (.int x :: .int (nI i) :: .ref (ad 1) :: st) P T := x_iast (cA := cI) (n := 6) C 1 0 rfl rfl hi (by decide) rfl d h k
theorem xa_N2 {i : Nat} (C : XC p s m args meth c D (tyz cI cZ) (wN ad cI cZ) A cc nL own rt) (hi : i < 24) (d : decode cc pc = .ok (.iaload, 1)) (h : pc + 1 = q) (k : XW p l e R s m args below meth c D (wN ad cI cZ) A nL Q q lv (.int (P 2 i) :: st) P T) : XW p l e R s m args below meth c D (wN ad cI cZ) A nL Q pc lv (.int (nI i) :: .ref (ad 2) :: st) P T := x_iald (cA := cI) (n := 24) C 2 0 rfl rfl hi (by decide) d h k
theorem xs_N2 {i : Nat} {x : Int32} (C : XC p s m args meth c D (tyz cI cZ) (wN ad cI cZ) A cc nL own rt) (hi : i < 24) (d : decode cc pc = .ok (.iastore, 1)) (h : pc + 1 = q) (k : XW p l e R s m args below meth c D (wN ad cI cZ) A nL Q q lv st (st1 P 2 i x) T) : XW p l e R s m args below meth c D (wN ad cI cZ) A nL Q pc lv (.int x :: .int (nI i) :: .ref (ad 2) :: st) P T := x_iast (cA := cI) (n := 24) C 2 0 rfl rfl hi (by decide) rfl d h k
theorem xa_N3 {i : Nat} (C : XC p s m args meth c D (tyz cI cZ) (wN ad cI cZ) A cc nL own rt) (hi : i < 6) (d : decode cc pc = .ok (.iaload, 1)) (h : pc + 1 = q) (k : XW p l e R s m args below meth c D (wN ad cI cZ) A nL Q q lv (.int (P 3 i) :: st) P T) : XW p l e R s m args below meth c D (wN ad cI cZ) A nL Q pc lv (.int (nI i) :: .ref (ad 3) :: st) P T := x_iald (cA := cI) (n := 6) C 3 0 rfl rfl hi (by decide) d h k
theorem xs_N3 {i : Nat} {x : Int32} (C : XC p s m args meth c D (tyz cI cZ) (wN ad cI cZ) A cc nL own rt) (hi : i < 6) (d : decode cc pc = .ok (.iastore, 1)) (h : pc + 1 = q) (k : XW p l e R s m args below meth c D (wN ad cI cZ) A nL Q q lv st (st1 P 3 i x) T) : XW p l e R s m args below meth c D (wN ad cI cZ) A nL Q pc lv (.int x :: .int (nI i) :: .ref (ad 3) :: st) P T := x_iast (cA := cI) (n := 6) C 3 0 rfl rfl hi (by decide) rfl d h k
theorem xa_N4 {i : Nat} (C : XC p s m args meth c D (tyz cI cZ) (wN ad cI cZ) A cc nL own rt) (hi : i < 60) (d : decode cc pc = .ok (.iaload, 1)) (h : pc + 1 = q) (k : XW p l e R s m args below meth c D (wN ad cI cZ) A nL Q q lv (.int (P 4 i) :: st) P T) : XW p l e R s m args below meth c D (wN ad cI cZ) A nL Q pc lv (.int (nI i) :: .ref (ad 4) :: st) P T := x_iald (cA := cI) (n := 60) C 4 0 rfl rfl hi (by decide) d h k
theorem xs_N4 {i : Nat} {x : Int32} (C : XC p s m args meth c D (tyz cI cZ) (wN ad cI cZ) A cc nL own rt) (hi : i < 60) (d : decode cc pc = .ok (.iastore, 1)) (h : pc + 1 = q) (k : XW p l e R s m args below meth c D (wN ad cI cZ) A nL Q q lv st (st1 P 4 i x) T) : XW p l e R s m args below meth c D (wN ad cI cZ) A nL Q pc lv (.int x :: .int (nI i) :: .ref (ad 4) :: st) P T := x_iast (cA := cI) (n := 60) C 4 0 rfl rfl hi (by decide) rfl d h k
theorem xa_N5 {i : Nat} (C : XC p s m args meth c D (tyz cI cZ) (wN ad cI cZ) A cc nL own rt) (hi : i < 24) (d : decode cc pc = .ok (.iaload, 1)) (h : pc + 1 = q) (k : XW p l e R s m args below meth c D (wN ad cI cZ) A nL Q q lv (.int (P 9 i) :: st) P T) : XW p l e R s m args below meth c D (wN ad cI cZ) A nL Q pc lv (.int (nI i) :: .ref (ad 5) :: st) P T := x_iald (cA := cI) (n := 24) C 5 0 rfl rfl hi (by decide) d h k
theorem xs_N5 {i : Nat} {x : Int32} (C : XC p s m args meth c D (tyz cI cZ) (wN ad cI cZ) A cc nL own rt) (hi : i < 24) (d : decode cc pc = .ok (.iastore, 1)) (h : pc + 1 = q) (k : XW p l e R s m args below meth c D (wN ad cI cZ) A nL Q q lv st (st1 P 9 i x) T) : XW p l e R s m args below meth c D (wN ad cI cZ) A nL Q pc lv (.int x :: .int (nI i) :: .ref (ad 5) :: st) P T := x_iast (cA := cI) (n := 24) C 5 0 rfl rfl hi (by decide) rfl d h k
theorem xa_N6 {i : Nat} (C : XC p s m args meth c D (tyz cI cZ) (wN ad cI cZ) A cc nL own rt) (hi : i < 576) (d : decode cc pc = .ok (.iaload, 1)) (h : pc + 1 = q) (k : XW p l e R s m args below meth c D (wN ad cI cZ) A nL Q q lv (.int (P 10 i) :: st) P T) : XW p l e R s m args below meth c D (wN ad cI cZ) A nL Q pc lv (.int (nI i) :: .ref (ad 6) :: st) P T := x_iald (cA := cI) (n := 576) C 6 0 rfl rfl hi (by decide) d h k
theorem xs_N6 {i : Nat} {x : Int32} (C : XC p s m args meth c D (tyz cI cZ) (wN ad cI cZ) A cc nL own rt) (hi : i < 576) (d : decode cc pc = .ok (.iastore, 1)) (h : pc + 1 = q) (k : XW p l e R s m args below meth c D (wN ad cI cZ) A nL Q q lv st (st1 P 10 i x) T) : XW p l e R s m args below meth c D (wN ad cI cZ) A nL Q pc lv (.int x :: .int (nI i) :: .ref (ad 6) :: st) P T := x_iast (cA := cI) (n := 576) C 6 0 rfl rfl hi (by decide) rfl d h k
theorem xa_N7 {i : Nat} (C : XC p s m args meth c D (tyz cI cZ) (wN ad cI cZ) A cc nL own rt) (hi : i < 60) (d : decode cc pc = .ok (.iaload, 1)) (h : pc + 1 = q) (k : XW p l e R s m args below meth c D (wN ad cI cZ) A nL Q q lv (.int (P 12 i) :: st) P T) : XW p l e R s m args below meth c D (wN ad cI cZ) A nL Q pc lv (.int (nI i) :: .ref (ad 7) :: st) P T := x_iald (cA := cI) (n := 60) C 7 0 rfl rfl hi (by decide) d h k
theorem xs_N7 {i : Nat} {x : Int32} (C : XC p s m args meth c D (tyz cI cZ) (wN ad cI cZ) A cc nL own rt) (hi : i < 60) (d : decode cc pc = .ok (.iastore, 1)) (h : pc + 1 = q) (k : XW p l e R s m args below meth c D (wN ad cI cZ) A nL Q q lv st (st1 P 12 i x) T) : XW p l e R s m args below meth c D (wN ad cI cZ) A nL Q pc lv (.int x :: .int (nI i) :: .ref (ad 7) :: st) P T := x_iast (cA := cI) (n := 60) C 7 0 rfl rfl hi (by decide) rfl d h k
theorem xa_N8 {i : Nat} (C : XC p s m args meth c D (tyz cI cZ) (wN ad cI cZ) A cc nL own rt) (hi : i < 60) (d : decode cc pc = .ok (.iaload, 1)) (h : pc + 1 = q) (k : XW p l e R s m args below meth c D (wN ad cI cZ) A nL Q q lv (.int (P 13 i) :: st) P T) : XW p l e R s m args below meth c D (wN ad cI cZ) A nL Q pc lv (.int (nI i) :: .ref (ad 8) :: st) P T := x_iald (cA := cI) (n := 60) C 8 0 rfl rfl hi (by decide) d h k
theorem xs_N8 {i : Nat} {x : Int32} (C : XC p s m args meth c D (tyz cI cZ) (wN ad cI cZ) A cc nL own rt) (hi : i < 60) (d : decode cc pc = .ok (.iastore, 1)) (h : pc + 1 = q) (k : XW p l e R s m args below meth c D (wN ad cI cZ) A nL Q q lv st (st1 P 13 i x) T) : XW p l e R s m args below meth c D (wN ad cI cZ) A nL Q pc lv (.int x :: .int (nI i) :: .ref (ad 8) :: st) P T := x_iast (cA := cI) (n := 60) C 8 0 rfl rfl hi (by decide) rfl d h k
theorem xa_N9 {i : Nat} (C : XC p s m args meth c D (tyz cI cZ) (wN ad cI cZ) A cc nL own rt) (hi : i < 16) (d : decode cc pc = .ok (.iaload, 1)) (h : pc + 1 = q) (k : XW p l e R s m args below meth c D (wN ad cI cZ) A nL Q q lv (.int (T 18 i) :: st) P T) : XW p l e R s m args below meth c D (wN ad cI cZ) A nL Q pc lv (.int (nI i) :: .ref (ad 9) :: st) P T := x_iald (cA := cI) (n := 16) C 9 0 rfl rfl hi (by decide) d h k
theorem xs_N9 {i : Nat} {x : Int32} (C : XC p s m args meth c D (tyz cI cZ) (wN ad cI cZ) A cc nL own rt) (hi : i < 16) (d : decode cc pc = .ok (.iastore, 1)) (h : pc + 1 = q) (k : XW p l e R s m args below meth c D (wN ad cI cZ) A nL Q q lv st P (st1 T 18 i x)) : XW p l e R s m args below meth c D (wN ad cI cZ) A nL Q pc lv (.int x :: .int (nI i) :: .ref (ad 9) :: st) P T := x_iast (cA := cI) (n := 16) C 9 0 rfl rfl hi (by decide) rfl d h k
theorem xa_N10 {i : Nat} (C : XC p s m args meth c D (tyz cI cZ) (wN ad cI cZ) A cc nL own rt) (hi : i < 2304) (d : decode cc pc = .ok (.iaload, 1)) (h : pc + 1 = q) (k : XW p l e R s m args below meth c D (wN ad cI cZ) A nL Q q lv (.int (T 19 i) :: st) P T) : XW p l e R s m args below meth c D (wN ad cI cZ) A nL Q pc lv (.int (nI i) :: .ref (ad 10) :: st) P T := x_iald (cA := cI) (n := 2304) C 10 0 rfl rfl hi (by decide) d h k
theorem xs_N10 {i : Nat} {x : Int32} (C : XC p s m args meth c D (tyz cI cZ) (wN ad cI cZ) A cc nL own rt) (hi : i < 2304) (d : decode cc pc = .ok (.iastore, 1)) (h : pc + 1 = q) (k : XW p l e R s m args below meth c D (wN ad cI cZ) A nL Q q lv st P (st1 T 19 i x)) : XW p l e R s m args below meth c D (wN ad cI cZ) A nL Q pc lv (.int x :: .int (nI i) :: .ref (ad 10) :: st) P T := x_iast (cA := cI) (n := 2304) C 10 0 rfl rfl hi (by decide) rfl d h k
end FIELDS
end
section
/-! the words of the state, for class and reference alike -/
def kn (P : St) : Nat := (P 20 0).toNatClampNeg
def nS (P : St) : Nat := (P 21 0).toNatClampNeg
def sz (P : St) (k : Nat) : Nat := (P 0 k).toNatClampNeg
def nr (P : St) : Nat := (P 22 0).toNatClampNeg
def nt (P : St) : Nat := (P 24 0).toNatClampNeg
def nz (P : St) : Nat := (P 25 0).toNatClampNeg
def sdv (P : St) : Nat := (P 26 0).toNatClampNeg
def tx (P : St) (i : Nat) : Nat := (P 12 i).toNatClampNeg
def rk1 (P : St) (i : Nat) : Nat := (P 5 i).toNatClampNeg
def rk2 (P : St) (i : Nat) : Nat := (P 7 i).toNatClampNeg
def pst (f : Nat → Nat) : Nat → Nat
  | 0 => 1
  | k + 1 => pst f k * f k
def val (P : St) (x k : Nat) : Nat := x / pst (sz P) k % sz P k
def mv (P : St) (x k v : Nat) : Nat := x - val P x k * pst (sz P) k + v * pst (sz P) k
def slv (P : St) (x b : Nat) : Nat := b * 4 + val P x b
def sm (f : Nat → Int32) : Nat → Int32
  | 0 => 0
  | n + 1 => sm f n + f n
def okC (P : St) : Prop :=
  (P 20 0 = nI (kn P) ∧ kn P ≤ 6) ∧
  (P 21 0 = nI (nS P) ∧ nS P = pst (sz P) (kn P) ∧ nS P ≤ 144) ∧
  (∀ k, k < kn P → P 0 k = nI (sz P k) ∧ 2 ≤ sz P k ∧ sz P k ≤ 4) ∧
  (P 22 0 = nI (nr P) ∧ nr P ≤ 12) ∧
  (P 24 0 = nI (nt P) ∧ nt P ≤ 60) ∧
  (∀ i, i < nt P → P 12 i = nI (tx P i) ∧ tx P i < nS P) ∧
  (P 25 0 = nI (nz P) ∧ nz P ≤ 50) ∧
  (P 26 0 = nI (sdv P) ∧ sdv P < 1073741824) ∧
  ((∀ j, j < 24 → -1000 ≤ (P 9 j).toInt ∧ (P 9 j).toInt ≤ 1000) ∧ (∀ j, j < 576 → -1000 ≤ (P 10 j).toInt ∧ (P 10 j).toInt ≤ 1000) ∧ (-1000 ≤ (P 23 0).toInt ∧ (P 23 0).toInt ≤ 1000)) ∧
  ((∀ j, j < 24 → -100 ≤ (P 2 j).toInt ∧ (P 2 j).toInt ≤ 100) ∧ (∀ k, k < 6 → 0 ≤ (P 3 k).toInt ∧ (P 3 k).toInt ≤ 100)) ∧
  (∀ i, i < nt P → -23000 ≤ (P 13 i).toInt ∧ (P 13 i).toInt ≤ 23000)
theorem okc_kn {P : St} (h : okC P) : P 20 0 = nI (kn P) := h.1.1
theorem okc_kn6 {P : St} (h : okC P) : kn P ≤ 6 := h.1.2
theorem okc_S {P : St} (h : okC P) : P 21 0 = nI (nS P) := h.2.1.1
theorem okc_Sp {P : St} (h : okC P) : nS P = pst (sz P) (kn P) := h.2.1.2.1
theorem okc_S144 {P : St} (h : okC P) : nS P ≤ 144 := h.2.1.2.2
theorem okc_sz {P : St} (h : okC P) {k : Nat} (hk : k < kn P) : P 0 k = nI (sz P k) := (h.2.2.1 k hk).1
theorem okc_sz2 {P : St} (h : okC P) {k : Nat} (hk : k < kn P) : 2 ≤ sz P k ∧ sz P k ≤ 4 := (h.2.2.1 k hk).2
theorem okc_nr {P : St} (h : okC P) : P 22 0 = nI (nr P) := h.2.2.2.1.1
theorem okc_nr12 {P : St} (h : okC P) : nr P ≤ 12 := h.2.2.2.1.2
theorem okc_nt {P : St} (h : okC P) : P 24 0 = nI (nt P) := h.2.2.2.2.1.1
theorem okc_nt60 {P : St} (h : okC P) : nt P ≤ 60 := h.2.2.2.2.1.2
theorem okc_tx {P : St} (h : okC P) {i : Nat} (hi : i < nt P) : P 12 i = nI (tx P i) := (h.2.2.2.2.2.1 i hi).1
theorem okc_txS {P : St} (h : okC P) {i : Nat} (hi : i < nt P) : tx P i < nS P := (h.2.2.2.2.2.1 i hi).2
theorem okc_nz {P : St} (h : okC P) : P 25 0 = nI (nz P) := h.2.2.2.2.2.2.1.1
theorem okc_nz50 {P : St} (h : okC P) : nz P ≤ 50 := h.2.2.2.2.2.2.1.2
theorem okc_sd {P : St} (h : okC P) : P 26 0 = nI (sdv P) := h.2.2.2.2.2.2.2.1.1
theorem okc_sdb {P : St} (h : okC P) : sdv P < 1073741824 := h.2.2.2.2.2.2.2.1.2
def okX (P : St) : Prop := okC P ∧ (∀ k, k < kn P → P 1 k = nI (pst (sz P) k)) ∧ (∀ i, i < nr P → (P 5 i = nI (rk1 P i) ∧ rk1 P i < kn P) ∧ (P 7 i = nI (rk2 P i) ∧ rk2 P i < kn P)) ∧ ∀ i, P 4 i = 0 ∨ P 4 i = 1
theorem pst_pos {f : Nat → Nat} : ∀ {n : Nat}, (∀ k, k < n → 1 ≤ f k) → 0 < pst f n
  | 0, _ => Nat.one_pos
  | n + 1, h => Nat.mul_pos (pst_pos (fun k hk => h k (Nat.lt_succ_of_lt hk))) (h n (Nat.lt_succ_self n))
theorem pst_mono {f : Nat → Nat} {n : Nat} (h : ∀ k, k < n → 1 ≤ f k) : ∀ {k : Nat}, k ≤ n → pst f k ≤ pst f n := by
  induction n with
  | zero => intro k hk; rw [Nat.le_zero.mp hk]; exact Nat.le_refl _
  | succ n ih =>
    intro k hk
    rcases Nat.lt_or_ge k (n + 1) with q | q
    · refine Nat.le_trans (ih (fun k hk => h k (Nat.lt_succ_of_lt hk)) (Nat.le_of_lt_succ q)) ?_
      exact Nat.le_mul_of_pos_right _ (h n (Nat.lt_succ_self n))
    · rw [Nat.le_antisymm hk q]; exact Nat.le_refl _
theorem okc_one {P : St} (h : okC P) : ∀ k, k < kn P → 1 ≤ sz P k := fun k hk => Nat.le_trans (by decide) (okc_sz2 h hk).1
theorem okc_p0 {P : St} (h : okC P) {k : Nat} (hk : k < kn P) : 0 < pst (sz P) k := pst_pos (fun j hj => okc_one h j (Nat.lt_trans hj hk))
theorem okc_pS {P : St} (h : okC P) {k : Nat} (hk : k < kn P) : pst (sz P) k ≤ 144 := Nat.le_trans (pst_mono (okc_one h) (Nat.le_of_lt hk)) (by rw [← okc_Sp h]; exact okc_S144 h)
theorem okc_S1 {P : St} (h : okC P) : 1 ≤ nS P := by rw [okc_Sp h]; exact pst_pos (okc_one h)
theorem val_lt {P : St} (h : okC P) (x : Nat) {k : Nat} (hk : k < kn P) : val P x k < sz P k := Nat.mod_lt _ (Nat.lt_of_lt_of_le (by decide) (okc_sz2 h hk).1)
theorem val_lt4 {P : St} (h : okC P) (x : Nat) {k : Nat} (hk : k < kn P) : val P x k < 4 := Nat.lt_of_lt_of_le (val_lt h x hk) (okc_sz2 h hk).2
theorem slv_lt {P : St} (h : okC P) (x : Nat) {k : Nat} (hk : k < kn P) : slv P x k < 24 := by
  have h1 := val_lt4 h x hk
  have h2 := okc_kn6 h
  unfold slv
  omega
/-- a setting less what one knob gives it -/
theorem val_le (P : St) (x k : Nat) : val P x k * pst (sz P) k ≤ x := by
  unfold val
  refine Nat.le_trans (Nat.mul_le_mul_right _ (Nat.mod_le _ _)) ?_
  rw [Nat.mul_comm]
  exact Nat.mul_div_le x _
theorem mv_eq (P : St) (x k v : Nat) : nI x + (nI v - nI (val P x k)) * nI (pst (sz P) k) = nI (mv P x k v) := by
  have h := val_le P x k
  unfold mv
  generalize val P x k = a at h ⊢
  generalize pst (sz P) k = b at h ⊢
  have e1 : nI x = nI (x - a * b) + nI (a * b) := by rw [nI_add, Nat.sub_add_cancel h]
  rw [← nI_add, ← pk_mul v b, e1, Int32.sub_mul, pk_mul a b, Int32.add_assoc]
  congr 1
  rw [Int32.add_comm, Int32.sub_add_cancel]
theorem mv_lt {P : St} (h : okC P) {x k v : Nat} (hx : x < nS P) (hk : k < kn P) (hv : v < sz P k) : mv P x k v < nS P := by
  sorry
end
section
abbrev rmX0_floorOf : Room := { frames := 0, cells := 0, slots := 0, locals := 0 }
theorem xs_X0_floorOf : XS yX0_floorOf cX0_floorOf 2 (some .int) rmX0_floorOf RX0 1 := ⟨tco_X0_floorOf, tini_X0, by decide +kernel, rfl, rfl⟩
abbrev rmX0_roofOf : Room := { frames := 0, cells := 0, slots := 0, locals := 0 }
theorem xs_X0_roofOf : XS yX0_roofOf cX0_roofOf 2 (some .int) rmX0_roofOf RX0 1 := ⟨tco_X0_roofOf, tini_X0, by decide +kernel, rfl, rfl⟩
abbrev rmX0_measureAll : Room := { frames := 4, cells := 0, slots := 0, locals := 96 }
theorem xs_X0_measureAll : XS yX0_measureAll cX0_measureAll 4 none rmX0_measureAll RX0 2 := ⟨tco_X0_measureAll, tini_X0, by decide +kernel, rfl, rfl⟩
abbrev rmX0_measure : Room := { frames := 3, cells := 0, slots := 0, locals := 72 }
theorem xs_X0_measure : XS yX0_measure cX0_measure 5 none rmX0_measure RX0 3 := ⟨tco_X0_measure, tini_X0, by decide +kernel, rfl, rfl⟩
abbrev rmX0_tightenByLatest : Room := { frames := 3, cells := 0, slots := 0, locals := 72 }
theorem xs_X0_tightenByLatest : XS yX0_tightenByLatest cX0_tightenByLatest 4 none rmX0_tightenByLatest RX0 2 := ⟨tco_X0_tightenByLatest, tini_X0, by decide +kernel, rfl, rfl⟩
abbrev rmX0_tighten : Room := { frames := 2, cells := 0, slots := 0, locals := 47 }
theorem xs_X0_tighten : XS yX0_tighten cX0_tighten 6 none rmX0_tighten RX0 4 := ⟨tco_X0_tighten, tini_X0, by decide +kernel, rfl, rfl⟩
abbrev rmX0_howManyLeft : Room := { frames := 2, cells := 0, slots := 0, locals := 44 }
theorem xs_X0_howManyLeft : XS yX0_howManyLeft cX0_howManyLeft 5 (some .int) rmX0_howManyLeft RX0 1 := ⟨tco_X0_howManyLeft, tini_X0, by decide +kernel, rfl, rfl⟩
abbrev rmX0_nextOf : Room := { frames := 2, cells := 0, slots := 0, locals := 44 }
theorem xs_X0_nextOf : XS yX0_nextOf cX0_nextOf 6 (some .int) rmX0_nextOf RX0 1 := ⟨tco_X0_nextOf, tini_X0, by decide +kernel, rfl, rfl⟩
abbrev rmX0_greatestFloor : Room := { frames := 1, cells := 0, slots := 0, locals := 21 }
theorem xs_X0_greatestFloor : XS yX0_greatestFloor cX0_greatestFloor 4 (some .int) rmX0_greatestFloor RX0 1 := ⟨tco_X0_greatestFloor, tini_X0, by decide +kernel, rfl, rfl⟩
abbrev rmX1_changeBase : Room := { frames := 0, cells := 0, slots := 0, locals := 0 }
theorem xs_X1_changeBase : XS yX1_changeBase cX1_changeBase 3 (some .int) rmX1_changeBase RX1 1 := ⟨tco_X1_changeBase, tini_X1, by decide +kernel, rfl, rfl⟩
abbrev rmX1_changeSingle : Room := { frames := 1, cells := 0, slots := 0, locals := 21 }
theorem xs_X1_changeSingle : XS yX1_changeSingle cX1_changeSingle 6 (some .int) rmX1_changeSingle RX1 3 := ⟨tco_X1_changeSingle, tini_X1, by decide +kernel, rfl, rfl⟩
abbrev rmX1_changeJoint : Room := { frames := 1, cells := 0, slots := 0, locals := 21 }
theorem xs_X1_changeJoint : XS yX1_changeJoint cX1_changeJoint 8 (some .int) rmX1_changeJoint RX1 5 := ⟨tco_X1_changeJoint, tini_X1, by decide +kernel, rfl, rfl⟩
abbrev rmX1_sumFor : Room := { frames := 1, cells := 0, slots := 0, locals := 22 }
theorem xs_X1_sumFor : XS yX1_sumFor cX1_sumFor 6 (some .int) rmX1_sumFor RX1 2 := ⟨tco_X1_sumFor, tini_X1, by decide +kernel, rfl, rfl⟩
abbrev rmX2_howMany : Room := { frames := 0, cells := 0, slots := 0, locals := 0 }
theorem xs_X2_howMany : XS yX2_howMany cX2_howMany 1 (some .int) rmX2_howMany RX2 0 := ⟨tco_X2_howMany, tini_X2, by decide +kernel, rfl, rfl⟩
abbrev rmX2_howManySettings : Room := { frames := 0, cells := 0, slots := 0, locals := 0 }
theorem xs_X2_howManySettings : XS yX2_howManySettings cX2_howManySettings 1 (some .int) rmX2_howManySettings RX2 0 := ⟨tco_X2_howManySettings, tini_X2, by decide +kernel, rfl, rfl⟩
abbrev rmX2_hasRoomFor : Room := { frames := 0, cells := 0, slots := 0, locals := 0 }
theorem xs_X2_hasRoomFor : XS yX2_hasRoomFor cX2_hasRoomFor 2 (some .boolean) rmX2_hasRoomFor RX2 1 := ⟨tco_X2_hasRoomFor, tini_X2, by decide +kernel, rfl, rfl⟩
abbrev rmX2_add : Room := { frames := 1, cells := 0, slots := 0, locals := 21 }
theorem xs_X2_add : XS yX2_add cX2_add 4 (some .int) rmX2_add RX2 1 := ⟨tco_X2_add, tini_X2, by decide +kernel, rfl, rfl⟩
abbrev rmX2_hasKnob : Room := { frames := 0, cells := 0, slots := 0, locals := 0 }
theorem xs_X2_hasKnob : XS yX2_hasKnob cX2_hasKnob 2 (some .boolean) rmX2_hasKnob RX2 1 := ⟨tco_X2_hasKnob, tini_X2, by decide +kernel, rfl, rfl⟩
abbrev rmX2_hasValue : Room := { frames := 1, cells := 0, slots := 0, locals := 21 }
theorem xs_X2_hasValue : XS yX2_hasValue cX2_hasValue 3 (some .boolean) rmX2_hasValue RX2 2 := ⟨tco_X2_hasValue, tini_X2, by decide +kernel, rfl, rfl⟩
abbrev rmX2_hasSetting : Room := { frames := 0, cells := 0, slots := 0, locals := 0 }
theorem xs_X2_hasSetting : XS yX2_hasSetting cX2_hasSetting 2 (some .boolean) rmX2_hasSetting RX2 1 := ⟨tco_X2_hasSetting, tini_X2, by decide +kernel, rfl, rfl⟩
abbrev rmX2_changePlace : Room := { frames := 1, cells := 0, slots := 0, locals := 21 }
theorem xs_X2_changePlace : XS yX2_changePlace cX2_changePlace 5 (some .int) rmX2_changePlace RX2 3 := ⟨tco_X2_changePlace, tini_X2, by decide +kernel, rfl, rfl⟩
abbrev rmX2_changeSteepness : Room := { frames := 0, cells := 0, slots := 0, locals := 0 }
theorem xs_X2_changeSteepness : XS yX2_changeSteepness cX2_changeSteepness 4 (some .int) rmX2_changeSteepness RX2 2 := ⟨tco_X2_changeSteepness, tini_X2, by decide +kernel, rfl, rfl⟩
abbrev rmX2_valueIn : Room := { frames := 0, cells := 0, slots := 0, locals := 0 }
theorem xs_X2_valueIn : XS yX2_valueIn cX2_valueIn 3 (some .int) rmX2_valueIn RX2 2 := ⟨tco_X2_valueIn, tini_X2, by decide +kernel, rfl, rfl⟩
abbrev rmX2_moved : Room := { frames := 1, cells := 0, slots := 0, locals := 22 }
theorem xs_X2_moved : XS yX2_moved cX2_moved 4 (some .int) rmX2_moved RX2 3 := ⟨tco_X2_moved, tini_X2, by decide +kernel, rfl, rfl⟩
abbrev rmX2_off : Room := { frames := 1, cells := 0, slots := 0, locals := 22 }
theorem xs_X2_off : XS yX2_off cX2_off 6 (some .int) rmX2_off RX2 2 := ⟨tco_X2_off, tini_X2, by decide +kernel, rfl, rfl⟩
abbrev rmX2_slot : Room := { frames := 0, cells := 0, slots := 0, locals := 0 }
theorem xs_X2_slot : XS yX2_slot cX2_slot 2 (some .int) rmX2_slot RX2 2 := ⟨tco_X2_slot, tini_X2, by decide +kernel, rfl, rfl⟩
abbrev rmX3_howMany : Room := { frames := 0, cells := 0, slots := 0, locals := 0 }
theorem xs_X3_howMany : XS yX3_howMany cX3_howMany 1 (some .int) rmX3_howMany RX3 0 := ⟨tco_X3_howMany, tini_X3, by decide +kernel, rfl, rfl⟩
abbrev rmX3_settingAt : Room := { frames := 0, cells := 0, slots := 0, locals := 0 }
theorem xs_X3_settingAt : XS yX3_settingAt cX3_settingAt 2 (some .int) rmX3_settingAt RX3 1 := ⟨tco_X3_settingAt, tini_X3, by decide +kernel, rfl, rfl⟩
abbrev rmX3_worthAt : Room := { frames := 0, cells := 0, slots := 0, locals := 0 }
theorem xs_X3_worthAt : XS yX3_worthAt cX3_worthAt 2 (some .int) rmX3_worthAt RX3 1 := ⟨tco_X3_worthAt, tini_X3, by decide +kernel, rfl, rfl⟩
abbrev rmX3_gather : Room := { frames := 3, cells := 0, slots := 0, locals := 69 }
theorem xs_X3_gather : XS yX3_gather cX3_gather 4 none rmX3_gather RX3 2 := ⟨tco_X3_gather, tini_X3, by decide +kernel, rfl, rfl⟩
abbrev rmX3_weigh : Room := { frames := 2, cells := 0, slots := 0, locals := 47 }
theorem xs_X3_weigh : XS yX3_weigh cX3_weigh 4 none rmX3_weigh RX3 2 := ⟨tco_X3_weigh, tini_X3, by decide +kernel, rfl, rfl⟩
abbrev rmX4_countingWays : Room := { frames := 0, cells := 0, slots := 0, locals := 0 }
theorem xs_X4_countingWays : XS yX4_countingWays cX4_countingWays 1 (some .int) rmX4_countingWays RX4 0 := ⟨tco_X4_countingWays, tini_X4, by decide +kernel, rfl, rfl⟩
abbrev rmX4_allWays : Room := { frames := 0, cells := 0, slots := 0, locals := 0 }
theorem xs_X4_allWays : XS yX4_allWays cX4_allWays 1 (some .int) rmX4_allWays RX4 0 := ⟨tco_X4_allWays, tini_X4, by decide +kernel, rfl, rfl⟩
abbrev rmX4_compare : Room := { frames := 2, cells := 0, slots := 0, locals := 48 }
theorem xs_X4_compare : XS yX4_compare cX4_compare 7 none rmX4_compare RX4 3 := ⟨tco_X4_compare, tini_X4, by decide +kernel, rfl, rfl⟩
abbrev rmX4_gather : Room := { frames := 1, cells := 0, slots := 0, locals := 21 }
theorem xs_X4_gather : XS yX4_gather cX4_gather 5 none rmX4_gather RX4 2 := ⟨tco_X4_gather, tini_X4, by decide +kernel, rfl, rfl⟩
abbrev rmX4_rankAt : Room := { frames := 0, cells := 0, slots := 0, locals := 0 }
theorem xs_X4_rankAt : XS yX4_rankAt cX4_rankAt 4 (some .int) rmX4_rankAt RX4 1 := ⟨tco_X4_rankAt, tini_X4, by decide +kernel, rfl, rfl⟩
abbrev rmX4_spreadWays : Room := { frames := 1, cells := 0, slots := 0, locals := 23 }
theorem xs_X4_spreadWays : XS yX4_spreadWays cX4_spreadWays 6 none rmX4_spreadWays RX4 1 := ⟨tco_X4_spreadWays, tini_X4, by decide +kernel, rfl, rfl⟩
abbrev rmX4_waysFrom : Room := { frames := 0, cells := 0, slots := 0, locals := 0 }
theorem xs_X4_waysFrom : XS yX4_waysFrom cX4_waysFrom 5 (some .int) rmX4_waysFrom RX4 2 := ⟨tco_X4_waysFrom, tini_X4, by decide +kernel, rfl, rfl⟩
abbrev rmX5_howMany : Room := { frames := 0, cells := 0, slots := 0, locals := 0 }
theorem xs_X5_howMany : XS yX5_howMany cX5_howMany 1 (some .int) rmX5_howMany RX5 0 := ⟨tco_X5_howMany, tini_X5, by decide +kernel, rfl, rfl⟩
abbrev rmX5_isFull : Room := { frames := 0, cells := 0, slots := 0, locals := 0 }
theorem xs_X5_isFull : XS yX5_isFull cX5_isFull 1 (some .boolean) rmX5_isFull RX5 0 := ⟨tco_X5_isFull, tini_X5, by decide +kernel, rfl, rfl⟩
abbrev rmX5_add : Room := { frames := 0, cells := 0, slots := 0, locals := 0 }
theorem xs_X5_add : XS yX5_add cX5_add 6 none rmX5_add RX5 5 := ⟨tco_X5_add, tini_X5, by decide +kernel, rfl, rfl⟩
abbrev rmX5_dropLatest : Room := { frames := 0, cells := 0, slots := 0, locals := 0 }
theorem xs_X5_dropLatest : XS yX5_dropLatest cX5_dropLatest 1 none rmX5_dropLatest RX5 0 := ⟨tco_X5_dropLatest, tini_X5, by decide +kernel, rfl, rfl⟩
abbrev rmX5_allow : Room := { frames := 2, cells := 0, slots := 0, locals := 46 }
theorem xs_X5_allow : XS yX5_allow cX5_allow 4 (some .boolean) rmX5_allow RX5 2 := ⟨tco_X5_allow, tini_X5, by decide +kernel, rfl, rfl⟩
abbrev rmX5_isAgainst : Room := { frames := 1, cells := 0, slots := 0, locals := 22 }
theorem xs_X5_isAgainst : XS yX5_isAgainst cX5_isAgainst 5 (some .boolean) rmX5_isAgainst RX5 3 := ⟨tco_X5_isAgainst, tini_X5, by decide +kernel, rfl, rfl⟩
abbrev rmX6_howMany : Room := { frames := 0, cells := 0, slots := 0, locals := 0 }
theorem xs_X6_howMany : XS yX6_howMany cX6_howMany 1 (some .int) rmX6_howMany RX6 0 := ⟨tco_X6_howMany, tini_X6, by decide +kernel, rfl, rfl⟩
abbrev rmX6_isFull : Room := { frames := 0, cells := 0, slots := 0, locals := 0 }
theorem xs_X6_isFull : XS yX6_isFull cX6_isFull 1 (some .boolean) rmX6_isFull RX6 0 := ⟨tco_X6_isFull, tini_X6, by decide +kernel, rfl, rfl⟩
abbrev rmX6_has : Room := { frames := 0, cells := 0, slots := 0, locals := 0 }
theorem xs_X6_has : XS yX6_has cX6_has 2 (some .boolean) rmX6_has RX6 1 := ⟨tco_X6_has, tini_X6, by decide +kernel, rfl, rfl⟩
abbrev rmX6_settingAt : Room := { frames := 0, cells := 0, slots := 0, locals := 0 }
theorem xs_X6_settingAt : XS yX6_settingAt cX6_settingAt 2 (some .int) rmX6_settingAt RX6 1 := ⟨tco_X6_settingAt, tini_X6, by decide +kernel, rfl, rfl⟩
abbrev rmX6_readingAt : Room := { frames := 0, cells := 0, slots := 0, locals := 0 }
theorem xs_X6_readingAt : XS yX6_readingAt cX6_readingAt 2 (some .int) rmX6_readingAt RX6 1 := ⟨tco_X6_readingAt, tini_X6, by decide +kernel, rfl, rfl⟩
abbrev rmX6_currentNoise : Room := { frames := 0, cells := 0, slots := 0, locals := 0 }
theorem xs_X6_currentNoise : XS yX6_currentNoise cX6_currentNoise 1 (some .int) rmX6_currentNoise RX6 0 := ⟨tco_X6_currentNoise, tini_X6, by decide +kernel, rfl, rfl⟩
abbrev rmX6_changeNoise : Room := { frames := 0, cells := 0, slots := 0, locals := 0 }
theorem xs_X6_changeNoise : XS yX6_changeNoise cX6_changeNoise 3 (some .int) rmX6_changeNoise RX6 1 := ⟨tco_X6_changeNoise, tini_X6, by decide +kernel, rfl, rfl⟩
abbrev rmX6_changeSeed : Room := { frames := 0, cells := 0, slots := 0, locals := 0 }
theorem xs_X6_changeSeed : XS yX6_changeSeed cX6_changeSeed 2 none rmX6_changeSeed RX6 1 := ⟨tco_X6_changeSeed, tini_X6, by decide +kernel, rfl, rfl⟩
abbrev rmX6_clear : Room := { frames := 0, cells := 0, slots := 0, locals := 0 }
theorem xs_X6_clear : XS yX6_clear cX6_clear 1 none rmX6_clear RX6 0 := ⟨tco_X6_clear, tini_X6, by decide +kernel, rfl, rfl⟩
abbrev rmX6_add : Room := { frames := 1, cells := 0, slots := 0, locals := 20 }
theorem xs_X6_add : XS yX6_add cX6_add 3 none rmX6_add RX6 2 := ⟨tco_X6_add, tini_X6, by decide +kernel, rfl, rfl⟩
abbrev rmX6_drawNoise : Room := { frames := 0, cells := 0, slots := 0, locals := 0 }
theorem xs_X6_drawNoise : XS yX6_drawNoise cX6_drawNoise 1 (some .int) rmX6_drawNoise RX6 0 := ⟨tco_X6_drawNoise, tini_X6, by decide +kernel, rfl, rfl⟩
abbrev rmX6_firstOf : Room := { frames := 0, cells := 0, slots := 0, locals := 0 }
theorem xs_X6_firstOf : XS yX6_firstOf cX6_firstOf 3 (some .int) rmX6_firstOf RX6 1 := ⟨tco_X6_firstOf, tini_X6, by decide +kernel, rfl, rfl⟩
abbrev rmX6_howManySettings : Room := { frames := 1, cells := 0, slots := 0, locals := 22 }
theorem xs_X6_howManySettings : XS yX6_howManySettings cX6_howManySettings 3 (some .int) rmX6_howManySettings RX6 0 := ⟨tco_X6_howManySettings, tini_X6, by decide +kernel, rfl, rfl⟩
abbrev rmX7_knob : Room := { frames := 2, cells := 0, slots := 0, locals := 44 }
theorem xs_X7_knob : XS yX7_knob cX7_knob 2 (some .int) rmX7_knob RX7 1 := ⟨tco_X7_knob, tini_X7, by decide +kernel, rfl, rfl⟩
abbrev rmX7_place : Room := { frames := 2, cells := 0, slots := 0, locals := 45 }
theorem xs_X7_place : XS yX7_place cX7_place 4 (some .int) rmX7_place RX7 3 := ⟨tco_X7_place, tini_X7, by decide +kernel, rfl, rfl⟩
abbrev rmX7_steep : Room := { frames := 1, cells := 0, slots := 0, locals := 23 }
theorem xs_X7_steep : XS yX7_steep cX7_steep 3 (some .int) rmX7_steep RX7 2 := ⟨tco_X7_steep, tini_X7, by decide +kernel, rfl, rfl⟩
abbrev rmX7_rule : Room := { frames := 2, cells := 0, slots := 0, locals := 43 }
theorem xs_X7_rule : XS yX7_rule cX7_rule 6 (some .int) rmX7_rule RX7 5 := ⟨tco_X7_rule, tini_X7, by decide +kernel, rfl, rfl⟩
abbrev rmX7_noRule : Room := { frames := 1, cells := 0, slots := 0, locals := 20 }
theorem xs_X7_noRule : XS yX7_noRule cX7_noRule 1 (some .int) rmX7_noRule RX7 0 := ⟨tco_X7_noRule, tini_X7, by decide +kernel, rfl, rfl⟩
abbrev rmX7_effect : Room := { frames := 2, cells := 0, slots := 0, locals := 48 }
theorem xs_X7_effect : XS yX7_effect cX7_effect 6 (some .int) rmX7_effect RX7 5 := ⟨tco_X7_effect, tini_X7, by decide +kernel, rfl, rfl⟩
abbrev rmX7_base : Room := { frames := 1, cells := 0, slots := 0, locals := 22 }
theorem xs_X7_base : XS yX7_base cX7_base 2 (some .int) rmX7_base RX7 1 := ⟨tco_X7_base, tini_X7, by decide +kernel, rfl, rfl⟩
abbrev rmX7_noise : Room := { frames := 1, cells := 0, slots := 0, locals := 22 }
theorem xs_X7_noise : XS yX7_noise cX7_noise 2 (some .int) rmX7_noise RX7 1 := ⟨tco_X7_noise, tini_X7, by decide +kernel, rfl, rfl⟩
abbrev rmX7_seed : Room := { frames := 1, cells := 0, slots := 0, locals := 22 }
theorem xs_X7_seed : XS yX7_seed cX7_seed 2 (some .int) rmX7_seed RX7 1 := ⟨tco_X7_seed, tini_X7, by decide +kernel, rfl, rfl⟩
abbrev rmX7_with : Room := { frames := 2, cells := 0, slots := 0, locals := 45 }
theorem xs_X7_with : XS yX7_with cX7_with 4 (some .int) rmX7_with RX7 3 := ⟨tco_X7_with, tini_X7, by decide +kernel, rfl, rfl⟩
abbrev rmX7_value : Room := { frames := 1, cells := 0, slots := 0, locals := 22 }
theorem xs_X7_value : XS yX7_value cX7_value 3 (some .int) rmX7_value RX7 2 := ⟨tco_X7_value, tini_X7, by decide +kernel, rfl, rfl⟩
abbrev rmX7_allowed : Room := { frames := 3, cells := 0, slots := 0, locals := 69 }
theorem xs_X7_allowed : XS yX7_allowed cX7_allowed 2 (some .int) rmX7_allowed RX7 1 := ⟨tco_X7_allowed, tini_X7, by decide +kernel, rfl, rfl⟩
abbrev rmX7_book : Room := { frames := 4, cells := 0, slots := 0, locals := 92 }
theorem xs_X7_book : XS yX7_book cX7_book 1 (some .int) rmX7_book RX7 0 := ⟨tco_X7_book, tini_X7, by decide +kernel, rfl, rfl⟩
abbrev rmX7_worth : Room := { frames := 2, cells := 0, slots := 0, locals := 47 }
theorem xs_X7_worth : XS yX7_worth cX7_worth 2 (some .int) rmX7_worth RX7 1 := ⟨tco_X7_worth, tini_X7, by decide +kernel, rfl, rfl⟩
abbrev rmX7_best : Room := { frames := 5, cells := 0, slots := 0, locals := 116 }
theorem xs_X7_best : XS yX7_best cX7_best 3 (some .int) rmX7_best RX7 1 := ⟨tco_X7_best, tini_X7, by decide +kernel, rfl, rfl⟩
abbrev rmX7_trial : Room := { frames := 3, cells := 0, slots := 0, locals := 69 }
theorem xs_X7_trial : XS yX7_trial cX7_trial 2 (some .int) rmX7_trial RX7 1 := ⟨tco_X7_trial, tini_X7, by decide +kernel, rfl, rfl⟩
abbrev rmX7_read : Room := { frames := 1, cells := 0, slots := 0, locals := 22 }
theorem xs_X7_read : XS yX7_read cX7_read 3 (some .int) rmX7_read RX7 2 := ⟨tco_X7_read, tini_X7, by decide +kernel, rfl, rfl⟩
abbrev rmX7_forget : Room := { frames := 1, cells := 0, slots := 0, locals := 20 }
theorem xs_X7_forget : XS yX7_forget cX7_forget 2 (some .int) rmX7_forget RX7 0 := ⟨tco_X7_forget, tini_X7, by decide +kernel, rfl, rfl⟩
abbrev rmX7_bound : Room := { frames := 4, cells := 0, slots := 0, locals := 96 }
theorem xs_X7_bound : XS yX7_bound cX7_bound 3 (some .int) rmX7_bound RX7 2 := ⟨tco_X7_bound, tini_X7, by decide +kernel, rfl, rfl⟩
abbrev rmX7_left : Room := { frames := 5, cells := 0, slots := 0, locals := 119 }
theorem xs_X7_left : XS yX7_left cX7_left 2 (some .int) rmX7_left RX7 1 := ⟨tco_X7_left, tini_X7, by decide +kernel, rfl, rfl⟩
abbrev rmX7_search : Room := { frames := 5, cells := 0, slots := 0, locals := 119 }
theorem xs_X7_search : XS yX7_search cX7_search 4 (some .int) rmX7_search RX7 1 := ⟨tco_X7_search, tini_X7, by decide +kernel, rfl, rfl⟩
abbrev rmX7_pairs : Room := { frames := 2, cells := 0, slots := 0, locals := 45 }
theorem xs_X7_pairs : XS yX7_pairs cX7_pairs 10 (some .int) rmX7_pairs RX7 4 := ⟨tco_X7_pairs, tini_X7, by decide +kernel, rfl, rfl⟩
abbrev rmX7_excess : Room := { frames := 2, cells := 0, slots := 0, locals := 45 }
theorem xs_X7_excess : XS yX7_excess cX7_excess 14 (some .int) rmX7_excess RX7 7 := ⟨tco_X7_excess, tini_X7, by decide +kernel, rfl, rfl⟩
abbrev rmX7_joint : Room := { frames := 3, cells := 0, slots := 0, locals := 78 }
theorem xs_X7_joint : XS yX7_joint cX7_joint 10 (some .int) rmX7_joint RX7 7 := ⟨tco_X7_joint, tini_X7, by decide +kernel, rfl, rfl⟩
abbrev rmX7_odds : Room := { frames := 3, cells := 0, slots := 0, locals := 74 }
theorem xs_X7_odds : XS yX7_odds cX7_odds 4 (some .int) rmX7_odds RX7 3 := ⟨tco_X7_odds, tini_X7, by decide +kernel, rfl, rfl⟩
abbrev rmX7_safe : Room := { frames := 3, cells := 0, slots := 0, locals := 74 }
theorem xs_X7_safe : XS yX7_safe cX7_safe 5 (some .int) rmX7_safe RX7 4 := ⟨tco_X7_safe, tini_X7, by decide +kernel, rfl, rfl⟩
abbrev rmX7_back : Room := { frames := 3, cells := 0, slots := 0, locals := 69 }
theorem xs_X7_back : XS yX7_back cX7_back 7 (some .int) rmX7_back RX7 2 := ⟨tco_X7_back, tini_X7, by decide +kernel, rfl, rfl⟩
abbrev rmX7_count : Room := { frames := 2, cells := 0, slots := 0, locals := 44 }
theorem xs_X7_count : XS yX7_count cX7_count 2 (some .int) rmX7_count RX7 1 := ⟨tco_X7_count, tini_X7, by decide +kernel, rfl, rfl⟩
abbrev rmX7_isWithin : Room := { frames := 0, cells := 0, slots := 0, locals := 0 }
theorem xs_X7_isWithin : XS yX7_isWithin cX7_isWithin 3 (some .boolean) rmX7_isWithin RX7 3 := ⟨tco_X7_isWithin, tini_X7, by decide +kernel, rfl, rfl⟩
abbrev rmX7_areTwoSettings : Room := { frames := 1, cells := 0, slots := 0, locals := 21 }
theorem xs_X7_areTwoSettings : XS yX7_areTwoSettings cX7_areTwoSettings 3 (some .boolean) rmX7_areTwoSettings RX7 2 := ⟨tco_X7_areTwoSettings, tini_X7, by decide +kernel, rfl, rfl⟩
abbrev rmX7_wereBothTried : Room := { frames := 1, cells := 0, slots := 0, locals := 22 }
theorem xs_X7_wereBothTried : XS yX7_wereBothTried cX7_wereBothTried 3 (some .boolean) rmX7_wereBothTried RX7 2 := ⟨tco_X7_wereBothTried, tini_X7, by decide +kernel, rfl, rfl⟩
abbrev rmX7_bestSetting : Room := { frames := 4, cells := 0, slots := 0, locals := 92 }
theorem xs_X7_bestSetting : XS yX7_bestSetting cX7_bestSetting 5 (some .int) rmX7_bestSetting RX7 0 := ⟨tco_X7_bestSetting, tini_X7, by decide +kernel, rfl, rfl⟩
abbrev rmX7_isToldSmoothnessTrue : Room := { frames := 3, cells := 0, slots := 0, locals := 70 }
theorem xs_X7_isToldSmoothnessTrue : XS yX7_isToldSmoothnessTrue cX7_isToldSmoothnessTrue 4 (some .boolean) rmX7_isToldSmoothnessTrue RX7 0 := ⟨tco_X7_isToldSmoothnessTrue, tini_X7, by decide +kernel, rfl, rfl⟩
abbrev rmX7_nextToSearch : Room := { frames := 3, cells := 0, slots := 0, locals := 69 }
theorem xs_X7_nextToSearch : XS yX7_nextToSearch cX7_nextToSearch 2 (some .int) rmX7_nextToSearch RX7 0 := ⟨tco_X7_nextToSearch, tini_X7, by decide +kernel, rfl, rfl⟩
abbrev rmX8_in : Room := { frames := 0, cells := 0, slots := 0, locals := 0 }
theorem xs_X8_in : XS yX8_in cX8_in 6 (some .boolean) rmX8_in RX8 3 := ⟨tco_X8_in, tini_X8, by decide +kernel, rfl, rfl⟩
abbrev rmX8_isKnob : Room := { frames := 1, cells := 0, slots := 0, locals := 25 }
theorem xs_X8_isKnob : XS yX8_isKnob cX8_isKnob 2 (some .boolean) rmX8_isKnob RX8 1 := ⟨tco_X8_isKnob, tini_X8, by decide +kernel, rfl, rfl⟩
abbrev rmX8_isValue : Room := { frames := 2, cells := 0, slots := 0, locals := 46 }
theorem xs_X8_isValue : XS yX8_isValue cX8_isValue 3 (some .boolean) rmX8_isValue RX8 2 := ⟨tco_X8_isValue, tini_X8, by decide +kernel, rfl, rfl⟩
abbrev rmX8_isSetting : Room := { frames := 1, cells := 0, slots := 0, locals := 25 }
theorem xs_X8_isSetting : XS yX8_isSetting cX8_isSetting 2 (some .boolean) rmX8_isSetting RX8 1 := ⟨tco_X8_isSetting, tini_X8, by decide +kernel, rfl, rfl⟩
abbrev rmX8_knob : Room := { frames := 1, cells := 0, slots := 0, locals := 25 }
theorem xs_X8_knob : XS yX8_knob cX8_knob 3 (some .int) rmX8_knob RX8 1 := ⟨tco_X8_knob, tini_X8, by decide +kernel, rfl, rfl⟩
abbrev rmX8_place : Room := { frames := 3, cells := 0, slots := 0, locals := 68 }
theorem xs_X8_place : XS yX8_place cX8_place 5 (some .int) rmX8_place RX8 3 := ⟨tco_X8_place, tini_X8, by decide +kernel, rfl, rfl⟩
abbrev rmX8_steep : Room := { frames := 2, cells := 0, slots := 0, locals := 46 }
theorem xs_X8_steep : XS yX8_steep cX8_steep 4 (some .int) rmX8_steep RX8 2 := ⟨tco_X8_steep, tini_X8, by decide +kernel, rfl, rfl⟩
abbrev rmX8_rule : Room := { frames := 3, cells := 0, slots := 0, locals := 68 }
theorem xs_X8_rule : XS yX8_rule cX8_rule 7 (some .int) rmX8_rule RX8 5 := ⟨tco_X8_rule, tini_X8, by decide +kernel, rfl, rfl⟩
abbrev rmX8_noRule : Room := { frames := 0, cells := 0, slots := 0, locals := 0 }
theorem xs_X8_noRule : XS yX8_noRule cX8_noRule 1 (some .int) rmX8_noRule RX8 0 := ⟨tco_X8_noRule, tini_X8, by decide +kernel, rfl, rfl⟩
abbrev rmX8_effect : Room := { frames := 3, cells := 0, slots := 0, locals := 68 }
theorem xs_X8_effect : XS yX8_effect cX8_effect 9 (some .int) rmX8_effect RX8 5 := ⟨tco_X8_effect, tini_X8, by decide +kernel, rfl, rfl⟩
abbrev rmX8_base : Room := { frames := 1, cells := 0, slots := 0, locals := 25 }
theorem xs_X8_base : XS yX8_base cX8_base 3 (some .int) rmX8_base RX8 1 := ⟨tco_X8_base, tini_X8, by decide +kernel, rfl, rfl⟩
abbrev rmX8_noise : Room := { frames := 1, cells := 0, slots := 0, locals := 25 }
theorem xs_X8_noise : XS yX8_noise cX8_noise 3 (some .int) rmX8_noise RX8 1 := ⟨tco_X8_noise, tini_X8, by decide +kernel, rfl, rfl⟩
abbrev rmX8_seed : Room := { frames := 1, cells := 0, slots := 0, locals := 25 }
theorem xs_X8_seed : XS yX8_seed cX8_seed 2 (some .int) rmX8_seed RX8 1 := ⟨tco_X8_seed, tini_X8, by decide +kernel, rfl, rfl⟩
abbrev rmX8_step : Room := { frames := 0, cells := 0, slots := 0, locals := 0 }
theorem xs_X8_step : XS yX8_step cX8_step 4 (some .int) rmX8_step RX8 1 := ⟨tco_X8_step, tini_X8, by decide +kernel, rfl, rfl⟩
abbrev rmX8_get : Room := { frames := 1, cells := 0, slots := 0, locals := 23 }
theorem xs_X8_get : XS yX8_get cX8_get 3 (some .int) rmX8_get RX8 2 := ⟨tco_X8_get, tini_X8, by decide +kernel, rfl, rfl⟩
abbrev rmX8_put : Room := { frames := 2, cells := 0, slots := 0, locals := 45 }
theorem xs_X8_put : XS yX8_put cX8_put 4 (some .int) rmX8_put RX8 3 := ⟨tco_X8_put, tini_X8, by decide +kernel, rfl, rfl⟩
abbrev rmX8_with : Room := { frames := 3, cells := 0, slots := 0, locals := 68 }
theorem xs_X8_with : XS yX8_with cX8_with 4 (some .int) rmX8_with RX8 3 := ⟨tco_X8_with, tini_X8, by decide +kernel, rfl, rfl⟩
abbrev rmX8_value : Room := { frames := 2, cells := 0, slots := 0, locals := 46 }
theorem xs_X8_value : XS yX8_value cX8_value 3 (some .int) rmX8_value RX8 2 := ⟨tco_X8_value, tini_X8, by decide +kernel, rfl, rfl⟩
abbrev rmX8_isAllowed : Room := { frames := 2, cells := 0, slots := 0, locals := 45 }
theorem xs_X8_isAllowed : XS yX8_isAllowed cX8_isAllowed 7 (some .boolean) rmX8_isAllowed RX8 1 := ⟨tco_X8_isAllowed, tini_X8, by decide +kernel, rfl, rfl⟩
abbrev rmX8_allowed : Room := { frames := 3, cells := 0, slots := 0, locals := 71 }
theorem xs_X8_allowed : XS yX8_allowed cX8_allowed 2 (some .int) rmX8_allowed RX8 1 := ⟨tco_X8_allowed, tini_X8, by decide +kernel, rfl, rfl⟩
abbrev rmX8_book : Room := { frames := 3, cells := 0, slots := 0, locals := 71 }
theorem xs_X8_book : XS yX8_book cX8_book 3 (some .int) rmX8_book RX8 0 := ⟨tco_X8_book, tini_X8, by decide +kernel, rfl, rfl⟩
abbrev rmX8_worthOf : Room := { frames := 2, cells := 0, slots := 0, locals := 45 }
theorem xs_X8_worthOf : XS yX8_worthOf cX8_worthOf 6 (some .int) rmX8_worthOf RX8 1 := ⟨tco_X8_worthOf, tini_X8, by decide +kernel, rfl, rfl⟩
abbrev rmX8_worth : Room := { frames := 3, cells := 0, slots := 0, locals := 70 }
theorem xs_X8_worth : XS yX8_worth cX8_worth 2 (some .int) rmX8_worth RX8 1 := ⟨tco_X8_worth, tini_X8, by decide +kernel, rfl, rfl⟩
abbrev rmX8_best : Room := { frames := 3, cells := 0, slots := 0, locals := 71 }
theorem xs_X8_best : XS yX8_best cX8_best 4 (some .int) rmX8_best RX8 1 := ⟨tco_X8_best, tini_X8, by decide +kernel, rfl, rfl⟩
abbrev rmX8_tries : Room := { frames := 3, cells := 0, slots := 0, locals := 70 }
theorem xs_X8_tries : XS yX8_tries cX8_tries 2 none rmX8_tries RX8 1 := ⟨tco_X8_tries, tini_X8, by decide +kernel, rfl, rfl⟩
abbrev rmX8_trial : Room := { frames := 4, cells := 0, slots := 0, locals := 91 }
theorem xs_X8_trial : XS yX8_trial cX8_trial 2 (some .int) rmX8_trial RX8 1 := ⟨tco_X8_trial, tini_X8, by decide +kernel, rfl, rfl⟩
abbrev rmX8_read : Room := { frames := 1, cells := 0, slots := 0, locals := 25 }
theorem xs_X8_read : XS yX8_read cX8_read 3 (some .int) rmX8_read RX8 2 := ⟨tco_X8_read, tini_X8, by decide +kernel, rfl, rfl⟩
abbrev rmX8_forget : Room := { frames := 0, cells := 0, slots := 0, locals := 0 }
theorem xs_X8_forget : XS yX8_forget cX8_forget 2 (some .int) rmX8_forget RX8 0 := ⟨tco_X8_forget, tini_X8, by decide +kernel, rfl, rfl⟩
abbrev rmX8_off : Room := { frames := 2, cells := 0, slots := 0, locals := 45 }
theorem xs_X8_off : XS yX8_off cX8_off 6 (some .int) rmX8_off RX8 2 := ⟨tco_X8_off, tini_X8, by decide +kernel, rfl, rfl⟩
abbrev rmX8_floor : Room := { frames := 3, cells := 0, slots := 0, locals := 70 }
theorem xs_X8_floor : XS yX8_floor cX8_floor 5 (some .int) rmX8_floor RX8 1 := ⟨tco_X8_floor, tini_X8, by decide +kernel, rfl, rfl⟩
abbrev rmX8_roof : Room := { frames := 3, cells := 0, slots := 0, locals := 70 }
theorem xs_X8_roof : XS yX8_roof cX8_roof 5 (some .int) rmX8_roof RX8 1 := ⟨tco_X8_roof, tini_X8, by decide +kernel, rfl, rfl⟩
abbrev rmX8_bound : Room := { frames := 4, cells := 0, slots := 0, locals := 94 }
theorem xs_X8_bound : XS yX8_bound cX8_bound 3 (some .int) rmX8_bound RX8 2 := ⟨tco_X8_bound, tini_X8, by decide +kernel, rfl, rfl⟩
abbrev rmX8_topFloor : Room := { frames := 4, cells := 0, slots := 0, locals := 94 }
theorem xs_X8_topFloor : XS yX8_topFloor cX8_topFloor 4 (some .int) rmX8_topFloor RX8 0 := ⟨tco_X8_topFloor, tini_X8, by decide +kernel, rfl, rfl⟩
abbrev rmX8_leftMany : Room := { frames := 5, cells := 0, slots := 0, locals := 117 }
theorem xs_X8_leftMany : XS yX8_leftMany cX8_leftMany 4 (some .int) rmX8_leftMany RX8 0 := ⟨tco_X8_leftMany, tini_X8, by decide +kernel, rfl, rfl⟩
abbrev rmX8_next : Room := { frames := 5, cells := 0, slots := 0, locals := 117 }
theorem xs_X8_next : XS yX8_next cX8_next 5 (some .int) rmX8_next RX8 0 := ⟨tco_X8_next, tini_X8, by decide +kernel, rfl, rfl⟩
abbrev rmX8_isSmooth : Room := { frames := 3, cells := 0, slots := 0, locals := 71 }
theorem xs_X8_isSmooth : XS yX8_isSmooth cX8_isSmooth 5 (some .boolean) rmX8_isSmooth RX8 0 := ⟨tco_X8_isSmooth, tini_X8, by decide +kernel, rfl, rfl⟩
abbrev rmX8_left : Room := { frames := 6, cells := 0, slots := 0, locals := 141 }
theorem xs_X8_left : XS yX8_left cX8_left 2 (some .int) rmX8_left RX8 1 := ⟨tco_X8_left, tini_X8, by decide +kernel, rfl, rfl⟩
abbrev rmX8_firstOf : Room := { frames := 0, cells := 0, slots := 0, locals := 0 }
theorem xs_X8_firstOf : XS yX8_firstOf cX8_firstOf 4 (some .int) rmX8_firstOf RX8 1 := ⟨tco_X8_firstOf, tini_X8, by decide +kernel, rfl, rfl⟩
abbrev rmX8_search : Room := { frames := 6, cells := 0, slots := 0, locals := 141 }
theorem xs_X8_search : XS yX8_search cX8_search 4 (some .int) rmX8_search RX8 1 := ⟨tco_X8_search, tini_X8, by decide +kernel, rfl, rfl⟩
abbrev rmX8_pairs : Room := { frames := 3, cells := 0, slots := 0, locals := 68 }
theorem xs_X8_pairs : XS yX8_pairs cX8_pairs 10 (some .int) rmX8_pairs RX8 4 := ⟨tco_X8_pairs, tini_X8, by decide +kernel, rfl, rfl⟩
abbrev rmX8_excess : Room := { frames := 3, cells := 0, slots := 0, locals := 68 }
theorem xs_X8_excess : XS yX8_excess cX8_excess 13 (some .int) rmX8_excess RX8 7 := ⟨tco_X8_excess, tini_X8, by decide +kernel, rfl, rfl⟩
abbrev rmX8_joint : Room := { frames := 4, cells := 0, slots := 0, locals := 100 }
theorem xs_X8_joint : XS yX8_joint cX8_joint 9 (some .int) rmX8_joint RX8 7 := ⟨tco_X8_joint, tini_X8, by decide +kernel, rfl, rfl⟩
abbrev rmX8_gather : Room := { frames := 0, cells := 0, slots := 0, locals := 0 }
theorem xs_X8_gather : XS yX8_gather cX8_gather 4 (some .int) rmX8_gather RX8 1 := ⟨tco_X8_gather, tini_X8, by decide +kernel, rfl, rfl⟩
abbrev rmX8_rank : Room := { frames := 0, cells := 0, slots := 0, locals := 0 }
theorem xs_X8_rank : XS yX8_rank cX8_rank 4 (some .int) rmX8_rank RX8 1 := ⟨tco_X8_rank, tini_X8, by decide +kernel, rfl, rfl⟩
abbrev rmX8_chances : Room := { frames := 2, cells := 0, slots := 0, locals := 46 }
theorem xs_X8_chances : XS yX8_chances cX8_chances 10 (some .int) rmX8_chances RX8 2 := ⟨tco_X8_chances, tini_X8, by decide +kernel, rfl, rfl⟩
abbrev rmX8_odds : Room := { frames := 3, cells := 0, slots := 0, locals := 75 }
theorem xs_X8_odds : XS yX8_odds cX8_odds 5 (some .int) rmX8_odds RX8 3 := ⟨tco_X8_odds, tini_X8, by decide +kernel, rfl, rfl⟩
abbrev rmX8_safe : Room := { frames := 3, cells := 0, slots := 0, locals := 75 }
theorem xs_X8_safe : XS yX8_safe cX8_safe 6 (some .int) rmX8_safe RX8 4 := ⟨tco_X8_safe, tini_X8, by decide +kernel, rfl, rfl⟩
abbrev rmX8_back : Room := { frames := 3, cells := 0, slots := 0, locals := 71 }
theorem xs_X8_back : XS yX8_back cX8_back 6 (some .int) rmX8_back RX8 2 := ⟨tco_X8_back, tini_X8, by decide +kernel, rfl, rfl⟩
abbrev rmX8_count : Room := { frames := 1, cells := 0, slots := 0, locals := 23 }
theorem xs_X8_count : XS yX8_count cX8_count 4 (some .int) rmX8_count RX8 1 := ⟨tco_X8_count, tini_X8, by decide +kernel, rfl, rfl⟩
abbrev rmJ7_fill_53178 : Room := { frames := 0, cells := 0, slots := 0, locals := 0 }
theorem xs_J7_fill_53178 : XS yJ7_fill_53178 cJ7_fill_53178 4 none rmJ7_fill_53178 RJ7 2 := ⟨tco_J7_fill_53178, tini_J7, by decide +kernel, rfl, rfl⟩
end
section
abbrev isK (P : St) (k : Int32) : Prop := 0 ≤ k ∧ k < P 20 0
abbrev isV (P : St) (k v : Int32) : Prop := isK P k ∧ 0 ≤ v ∧ v < P 0 k.toNatClampNeg
abbrev isS (P : St) (x : Int32) : Prop := 0 ≤ x ∧ x < P 21 0
theorem nat_of {x : Int32} {n : Nat} (hn : n < 2 ^ 31) (h0 : 0 ≤ x) (h : x < nI n) : ∃ a : Nat, a < n ∧ x = nI a := by
  obtain ⟨j, hj, rfl⟩ := nI_of (x := x) (fun q => by rw [fa_lt] at q; rw [fa_le] at h0; omega)
  exact ⟨j, (nI_ltI hj hn).mp h, rfl⟩
theorem isK_nat {P : St} (okc : okC P) {k : Int32} (h : isK P k) : ∃ a : Nat, a < kn P ∧ k = nI a := by
  have h6 := okc_kn6 okc
  obtain ⟨h0, h1⟩ := h
  rw [okc_kn okc] at h1
  exact nat_of (by omega) h0 h1
theorem isK_of {P : St} (okc : okC P) {a : Nat} (h : a < kn P) : isK P (nI a) := by
  have h6 := okc_kn6 okc
  exact ⟨nI_pos' (by omega), by rw [okc_kn okc]; exact nI_lt h (by omega)⟩
theorem isV_nat {P : St} (okc : okC P) {k v : Int32} (h : isV P k v) : ∃ a b : Nat, a < kn P ∧ b < sz P a ∧ k = nI a ∧ v = nI b := by
  have h6 := okc_kn6 okc
  obtain ⟨hk, h0, h1⟩ := h
  obtain ⟨a, ha, rfl⟩ := isK_nat okc hk
  rw [nI_clamp (by omega), okc_sz okc ha] at h1
  have := okc_sz2 okc ha
  obtain ⟨b, hb, rfl⟩ := nat_of (by omega) h0 h1
  exact ⟨a, b, ha, hb, rfl, rfl⟩
theorem isV_of {P : St} (okc : okC P) {a b : Nat} (h : a < kn P) (hb : b < sz P a) : isV P (nI a) (nI b) := by
  have h6 := okc_kn6 okc
  have := okc_sz2 okc h
  exact ⟨isK_of okc h, nI_pos' (by omega), by rw [nI_clamp (by omega), okc_sz okc h]; exact nI_lt hb (by omega)⟩
theorem isS_nat {P : St} (okc : okC P) {x : Int32} (h : isS P x) : ∃ a : Nat, a < nS P ∧ x = nI a := by
  have h6 := okc_S144 okc
  obtain ⟨h0, h1⟩ := h
  rw [okc_S okc] at h1
  exact nat_of (by omega) h0 h1
theorem isS_of {P : St} (okc : okC P) {a : Nat} (h : a < nS P) : isS P (nI a) := by
  have h6 := okc_S144 okc
  exact ⟨nI_pos' (by omega), by rw [okc_S okc]; exact nI_lt h (by omega)⟩
def ab (d : Int32) : Int32 := if 0 ≤ d then d else 0 - d
def oft (P : St) (x y k : Nat) : Int32 := ab (P 2 (slv P x k) - P 2 (slv P y k)) * P 3 k
def off (P : St) (x y : Nat) : Int32 := sm (oft P x y) (kn P)
/-- a knob comes (the class's arrays) -/
def addR (P : St) (v : Nat) (P' : St) : Prop := P' 20 = upd (P 20) 0 (nI (kn P + 1)) ∧ P' 21 = upd (P 21) 0 (nI (nS P * v)) ∧ P' 0 = upd (P 0) (kn P) (nI v) ∧ P' 1 = upd (P 1) (kn P) (nI (nS P)) ∧ (∀ i, P' 2 i = if kn P * 4 ≤ i ∧ i < kn P * 4 + v then nI (i - kn P * 4) else P 2 i) ∧ ∀ j, j ≠ 0 → j ≠ 1 → j ≠ 2 → j ≠ 20 → j ≠ 21 → P' j = P j
theorem st1_ne {P : St} {j i k : Nat} {v : Int32} (h : k ≠ j) : st1 P j i v k = P k := by simp [st1, va_up, h]
theorem st1_eq {P : St} {j i : Nat} {v : Int32} : st1 P j i v j = upd (P j) i v := by simp [st1, va_up]
end
section
section KNOBS
variable {l : Launch} {D : va_G} {ad : Nat → Nat} {cI cZ : ClassId} {A : Nat → Prop}

set_option maxRecDepth 100000 in
set_option maxHeartbeats 4000000 in
theorem c_X2_howMany (hD : ∀ P T, va_D A (wX ad cI cZ P T)) {P T : St} : XMI l D (tyz cI cZ) (wX ad cI cZ) A yX2_howMany cX2_howMany 1 (some .int) rmX2_howMany [.ref (ad 1)] P T (fun r P' T' => r = P 20 0 ∧ P' = P ∧ T' = T) := by
  refine x_start_i (lv := [(0, .ref (ad 1))]) (own := RX2) (by decide) rfl hD (Nat.le_of_ble_eq_true rfl) rfl ?_
  intro p e s m args below meth c C
  refine x_aload_n (q := 1) C dX2_howMany_0 rfl 0 rfl rfl ?_
  refine xg_X2_many (q := 4) C tfl_X2_9 dX2_howMany_1 rfl ?_
  exact x_iret C dX2_howMany_4 ⟨rfl, rfl, rfl⟩

set_option maxRecDepth 100000 in
set_option maxHeartbeats 4000000 in
theorem c_X2_howManySettings (hD : ∀ P T, va_D A (wX ad cI cZ P T)) {P T : St} : XMI l D (tyz cI cZ) (wX ad cI cZ) A yX2_howManySettings cX2_howManySettings 1 (some .int) rmX2_howManySettings [.ref (ad 1)] P T (fun r P' T' => r = P 21 0 ∧ P' = P ∧ T' = T) := by
  refine x_start_i (lv := [(0, .ref (ad 1))]) (own := RX2) (by decide) rfl hD (Nat.le_of_ble_eq_true rfl) rfl ?_
  intro p e s m args below meth c C
  refine x_aload_n (q := 1) C dX2_howManySettings_0 rfl 0 rfl rfl ?_
  refine xg_X2_settings (q := 4) C tfl_X2_15 dX2_howManySettings_1 rfl ?_
  exact x_iret C dX2_howManySettings_4 ⟨rfl, rfl, rfl⟩

set_option maxRecDepth 100000 in
set_option maxHeartbeats 4000000 in
theorem c_X2_slot (hD : ∀ P T, va_D A (wX ad cI cZ P T)) {P T : St} (k v : Nat) : XMI l D (tyz cI cZ) (wX ad cI cZ) A yX2_slot cX2_slot 2 (some .int) rmX2_slot [.int (nI k), .int (nI v)] P T (fun r P' T' => r = nI (k * 4 + v) ∧ P' = P ∧ T' = T) := by
  refine x_start_i (lv := [(0, .int (nI k)), (1, .int (nI v))]) (own := RX2) (by decide) rfl hD (Nat.le_of_ble_eq_true rfl) rfl ?_
  intro p e s m args below meth c C
  refine x_iload_n (q := 1) C dX2_slot_0 rfl 0 rfl rfl ?_
  refine x_iconst (q := 2) (v := nI 4) C dX2_slot_1 (by decide) rfl ?_
  refine x_imul_n (q := 3) C dX2_slot_2 rfl ?_
  refine x_iload_n (q := 4) C dX2_slot_3 rfl 1 rfl rfl ?_
  refine x_iadd_n (q := 5) C dX2_slot_4 rfl ?_
  exact x_iret C dX2_slot_5 ⟨rfl, rfl, rfl⟩

set_option maxRecDepth 100000 in
set_option maxHeartbeats 4000000 in
theorem c_X2_hasKnob (hD : ∀ P T, va_D A (wX ad cI cZ P T)) {P T : St} (k : Int32) : XMI l D (tyz cI cZ) (wX ad cI cZ) A yX2_hasKnob cX2_hasKnob 2 (some .boolean) rmX2_hasKnob [.ref (ad 1), .int k] P T (fun r P' T' => r = bI (isK P k) ∧ P' = P ∧ T' = T) := by
  refine x_start_i (lv := [(0, .ref (ad 1)), (1, .int k)]) (own := RX2) (by decide) rfl hD (Nat.le_of_ble_eq_true rfl) rfl ?_
  intro p e s m args below meth c C
  refine x_iload_n (q := 1) C dX2_hasKnob_0 rfl 1 rfl rfl ?_
  refine x_if_lt (q := 4) (tgt := 16) C dX2_hasKnob_1 (by decide) rfl (fun c1 => ?_) (fun c1 => ?_)
  · refine x_iconst (q := 17) (v := nI 0) C dX2_hasKnob_16 (by decide) rfl ?_
    exact x_zret C dX2_hasKnob_17 rfl ⟨bI_f (by simp only [isK, isS, fa_lt, fa_le] at *; omega), rfl, rfl⟩
  · refine x_iload_n (q := 5) C dX2_hasKnob_4 rfl 1 rfl rfl ?_
    refine x_aload_n (q := 6) C dX2_hasKnob_5 rfl 0 rfl rfl ?_
    refine xg_X2_many (q := 9) C tfl_X2_9 dX2_hasKnob_6 rfl ?_
    refine x_icmp_ge (q := 12) (tgt := 16) C dX2_hasKnob_9 (by decide) rfl (fun c9 => ?_) (fun c9 => ?_)
    · refine x_iconst (q := 17) (v := nI 0) C dX2_hasKnob_16 (by decide) rfl ?_
      exact x_zret C dX2_hasKnob_17 rfl ⟨bI_f (by simp only [isK, isS, fa_lt, fa_le] at *; omega), rfl, rfl⟩
    · refine x_iconst (q := 13) (v := nI 1) C dX2_hasKnob_12 (by decide) rfl ?_
      refine x_goto (tgt := 17) C dX2_hasKnob_13 (by decide) ?_
      exact x_zret C dX2_hasKnob_17 rfl ⟨bI_t (by simp only [isK, isS, fa_lt, fa_le] at *; omega), rfl, rfl⟩

set_option maxRecDepth 100000 in
set_option maxHeartbeats 4000000 in
theorem c_X2_hasSetting (hD : ∀ P T, va_D A (wX ad cI cZ P T)) {P T : St} (x : Int32) : XMI l D (tyz cI cZ) (wX ad cI cZ) A yX2_hasSetting cX2_hasSetting 2 (some .boolean) rmX2_hasSetting [.ref (ad 1), .int x] P T (fun r P' T' => r = bI (isS P x) ∧ P' = P ∧ T' = T) := by
  refine x_start_i (lv := [(0, .ref (ad 1)), (1, .int x)]) (own := RX2) (by decide) rfl hD (Nat.le_of_ble_eq_true rfl) rfl ?_
  intro p e s m args below meth c C
  refine x_iload_n (q := 1) C dX2_hasSetting_0 rfl 1 rfl rfl ?_
  refine x_if_lt (q := 4) (tgt := 16) C dX2_hasSetting_1 (by decide) rfl (fun c1 => ?_) (fun c1 => ?_)
  · refine x_iconst (q := 17) (v := nI 0) C dX2_hasSetting_16 (by decide) rfl ?_
    exact x_zret C dX2_hasSetting_17 rfl ⟨bI_f (by simp only [isK, isS, fa_lt, fa_le] at *; omega), rfl, rfl⟩
  · refine x_iload_n (q := 5) C dX2_hasSetting_4 rfl 1 rfl rfl ?_
    refine x_aload_n (q := 6) C dX2_hasSetting_5 rfl 0 rfl rfl ?_
    refine xg_X2_settings (q := 9) C tfl_X2_15 dX2_hasSetting_6 rfl ?_
    refine x_icmp_ge (q := 12) (tgt := 16) C dX2_hasSetting_9 (by decide) rfl (fun c9 => ?_) (fun c9 => ?_)
    · refine x_iconst (q := 17) (v := nI 0) C dX2_hasSetting_16 (by decide) rfl ?_
      exact x_zret C dX2_hasSetting_17 rfl ⟨bI_f (by simp only [isK, isS, fa_lt, fa_le] at *; omega), rfl, rfl⟩
    · refine x_iconst (q := 13) (v := nI 1) C dX2_hasSetting_12 (by decide) rfl ?_
      refine x_goto (tgt := 17) C dX2_hasSetting_13 (by decide) ?_
      exact x_zret C dX2_hasSetting_17 rfl ⟨bI_t (by simp only [isK, isS, fa_lt, fa_le] at *; omega), rfl, rfl⟩

set_option maxRecDepth 100000 in
set_option maxHeartbeats 4000000 in
theorem c_X2_hasValue (hD : ∀ P T, va_D A (wX ad cI cZ P T)) {P T : St} (ok : okX P) (k v : Int32) : XMI l D (tyz cI cZ) (wX ad cI cZ) A yX2_hasValue cX2_hasValue 3 (some .boolean) rmX2_hasValue [.ref (ad 1), .int k, .int v] P T (fun r P' T' => r = bI (isV P k v) ∧ P' = P ∧ T' = T) := by
  have okc := ok.1
  have hk6 := okc_kn6 okc
  have hS144 := okc_S144 okc
  have hS1 := okc_S1 okc
  have hnr := okc_nr12 okc
  have hnt := okc_nt60 okc
  have hnz := okc_nz50 okc
  have hsd := okc_sdb okc
  refine x_start_i (lv := [(0, .ref (ad 1)), (1, .int k), (2, .int v)]) (own := RX2) (by decide) rfl hD (Nat.le_of_ble_eq_true rfl) rfl ?_
  intro p e s m args below meth c C
  refine x_aload_n (q := 1) C dX2_hasValue_0 rfl 0 rfl rfl ?_
  refine x_iload_n (q := 2) C dX2_hasValue_1 rfl 1 rfl rfl ?_
  refine x_Vf (q := 5) (As := [.int k]) (rest := []) C (c_X2_hasKnob hD k ) xs_X2_hasKnob tim_X2_hasKnob tsel_X2_hasKnob tml_X2_41 (by decide) 1 rfl (ci := 2) rfl rfl rfl (Nat.le_of_ble_eq_true rfl) dX2_hasValue_2 rfl ?_
  refine x_if_eq_b (q := 8) (tgt := 26) C dX2_hasValue_5 (by decide) rfl (fun c5 => ?_) (fun c5 => ?_)
  · refine x_iconst (q := 27) (v := nI 0) C dX2_hasValue_26 (by decide) rfl ?_
    exact x_zret C dX2_hasValue_27 rfl ⟨bI_f (fun h => c5 h.1), rfl, rfl⟩
  · obtain ⟨a, ha, rfl⟩ := isK_nat okc c5
    refine x_iload_n (q := 9) C dX2_hasValue_8 rfl 2 rfl rfl ?_
    refine x_if_lt (q := 12) (tgt := 26) C dX2_hasValue_9 (by decide) rfl (fun c9 => ?_) (fun c9 => ?_)
    · refine x_iconst (q := 27) (v := nI 0) C dX2_hasValue_26 (by decide) rfl ?_
      exact x_zret C dX2_hasValue_27 rfl ⟨bI_f (fun h => by obtain ⟨_, h1, h2⟩ := h; rw [nI_clamp (by omega), okc_sz okc ha] at h2; simp only [fa_lt, fa_le] at *; omega), rfl, rfl⟩
    · refine x_iload_n (q := 13) C dX2_hasValue_12 rfl 2 rfl rfl ?_
      refine x_aload_n (q := 14) C dX2_hasValue_13 rfl 0 rfl rfl ?_
      refine xg_X2_sizes (q := 17) C tfl_X2_18 dX2_hasValue_14 rfl ?_
      refine x_iload_n (q := 18) C dX2_hasValue_17 rfl 1 rfl rfl ?_
      refine xa_X8 (q := 19) C (by omega) dX2_hasValue_18 rfl ?_
      refine x_topn (sz P a) (okc_sz (P := P) okc (by omega)) ?_
      refine x_icmp_ge (q := 22) (tgt := 26) C dX2_hasValue_19 (by decide) rfl (fun c19 => ?_) (fun c19 => ?_)
      · refine x_iconst (q := 27) (v := nI 0) C dX2_hasValue_26 (by decide) rfl ?_
        exact x_zret C dX2_hasValue_27 rfl ⟨bI_f (fun h => by obtain ⟨_, h1, h2⟩ := h; rw [nI_clamp (by omega), okc_sz okc ha] at h2; simp only [fa_lt, fa_le] at *; omega), rfl, rfl⟩
      · refine x_iconst (q := 23) (v := nI 1) C dX2_hasValue_22 (by decide) rfl ?_
        refine x_goto (tgt := 27) C dX2_hasValue_23 (by decide) ?_
        exact x_zret C dX2_hasValue_27 rfl ⟨bI_t ⟨c5, by simp only [fa_lt, fa_le] at *; omega, by rw [nI_clamp (by omega), okc_sz okc ha]; simp only [fa_lt, fa_le] at *; omega⟩, rfl, rfl⟩

set_option maxRecDepth 100000 in
set_option maxHeartbeats 4000000 in
theorem c_X2_hasRoomFor (hD : ∀ P T, va_D A (wX ad cI cZ P T)) {P T : St} (v : Int32) : XMI l D (tyz cI cZ) (wX ad cI cZ) A yX2_hasRoomFor cX2_hasRoomFor 2 (some .boolean) rmX2_hasRoomFor [.ref (ad 1), .int v] P T (fun r P' T' => r = bI (P 20 0 < nI 6 ∧ P 21 0 * v ≤ nI 144) ∧ P' = P ∧ T' = T) := by
  refine x_start_i (lv := [(0, .ref (ad 1)), (1, .int v)]) (own := RX2) (by decide) rfl hD (Nat.le_of_ble_eq_true rfl) rfl ?_
  intro p e s m args below meth c C
  refine x_aload_n (q := 1) C dX2_hasRoomFor_0 rfl 0 rfl rfl ?_
  refine xg_X2_many (q := 4) C tfl_X2_9 dX2_hasRoomFor_1 rfl ?_
  refine x_bipush (q := 6) (v := nI 6) C dX2_hasRoomFor_4 (by decide) rfl ?_
  refine x_icmp_ge (q := 9) (tgt := 25) C dX2_hasRoomFor_6 (by decide) rfl (fun c6 => ?_) (fun c6 => ?_)
  · refine x_iconst (q := 26) (v := nI 0) C dX2_hasRoomFor_25 (by decide) rfl ?_
    exact x_zret C dX2_hasRoomFor_26 rfl ⟨bI_f (by simp only [isK, isS, fa_lt, fa_le] at *; omega), rfl, rfl⟩
  · refine x_aload_n (q := 10) C dX2_hasRoomFor_9 rfl 0 rfl rfl ?_
    refine xg_X2_settings (q := 13) C tfl_X2_15 dX2_hasRoomFor_10 rfl ?_
    refine x_iload_n (q := 14) C dX2_hasRoomFor_13 rfl 1 rfl rfl ?_
    refine x_imul (q := 15) C dX2_hasRoomFor_14 rfl ?_
    refine x_sipush (q := 18) (v := nI 144) C dX2_hasRoomFor_15 (by decide) rfl ?_
    refine x_icmp_gt (q := 21) (tgt := 25) C dX2_hasRoomFor_18 (by decide) rfl (fun c18 => ?_) (fun c18 => ?_)
    · refine x_iconst (q := 26) (v := nI 0) C dX2_hasRoomFor_25 (by decide) rfl ?_
      exact x_zret C dX2_hasRoomFor_26 rfl ⟨bI_f (by simp only [isK, isS, fa_lt, fa_le] at *; omega), rfl, rfl⟩
    · refine x_iconst (q := 22) (v := nI 1) C dX2_hasRoomFor_21 (by decide) rfl ?_
      refine x_goto (tgt := 26) C dX2_hasRoomFor_22 (by decide) ?_
      exact x_zret C dX2_hasRoomFor_26 rfl ⟨bI_t (by simp only [isK, isS, fa_lt, fa_le] at *; omega), rfl, rfl⟩

set_option maxRecDepth 100000 in
set_option maxHeartbeats 4000000 in
theorem c_X2_changePlace (hD : ∀ P T, va_D A (wX ad cI cZ P T)) {P T : St} (k v : Nat) (hk : k < 6) (hv : v < 4) (x : Int32) : XMI l D (tyz cI cZ) (wX ad cI cZ) A yX2_changePlace cX2_changePlace 5 (some .int) rmX2_changePlace [.ref (ad 1), .int (nI k), .int (nI v), .int x] P T (fun r P' T' => r = P 2 (k * 4 + v) ∧ P' = st1 P 2 (k * 4 + v) x ∧ T' = T) := by
  refine x_start_i (lv := [(0, .ref (ad 1)), (1, .int (nI k)), (2, .int (nI v)), (3, .int x)]) (own := RX2) (by decide) rfl hD (Nat.le_of_ble_eq_true rfl) rfl ?_
  intro p e s m args below meth c C
  refine x_aload_n (q := 1) C dX2_changePlace_0 rfl 0 rfl rfl ?_
  refine xg_X2_places (q := 4) C tfl_X2_25 dX2_changePlace_1 rfl ?_
  refine x_iload_n (q := 5) C dX2_changePlace_4 rfl 1 rfl rfl ?_
  refine x_iload_n (q := 6) C dX2_changePlace_5 rfl 2 rfl rfl ?_
  refine x_Sf (q := 9) (As := [.int (nI k), .int (nI v)]) (rest := [.ref (ad 10)]) C (c_X2_slot hD k v ) xs_X2_slot tst_X2_slot tml_X2_37 (by decide) rfl rfl (Nat.le_of_ble_eq_true rfl) dX2_changePlace_6 rfl ?_
  refine xa_X10 (q := 10) C (by omega) dX2_changePlace_9 rfl ?_
  refine x_topi (fun z1 hz1 => ?_)
  refine x_istore (q := 12) (lv' := [(0, .ref (ad 1)), (1, .int (nI k)), (2, .int (nI v)), (3, .int x), (4, .int z1)]) C dX2_changePlace_10 (by decide) rfl rfl rfl ?_
  refine x_aload_n (q := 13) C dX2_changePlace_12 rfl 0 rfl rfl ?_
  refine xg_X2_places (q := 16) C tfl_X2_25 dX2_changePlace_13 rfl ?_
  refine x_iload_n (q := 17) C dX2_changePlace_16 rfl 1 rfl rfl ?_
  refine x_iload_n (q := 18) C dX2_changePlace_17 rfl 2 rfl rfl ?_
  refine x_Sf (q := 21) (As := [.int (nI k), .int (nI v)]) (rest := [.ref (ad 10)]) C (c_X2_slot hD k v ) xs_X2_slot tst_X2_slot tml_X2_37 (by decide) rfl rfl (Nat.le_of_ble_eq_true rfl) dX2_changePlace_18 rfl ?_
  refine x_iload_n (q := 22) C dX2_changePlace_21 rfl 3 rfl rfl ?_
  refine xs_X10 (q := 23) C (by omega) dX2_changePlace_22 rfl ?_
  refine x_iload (q := 25) C dX2_changePlace_23 4 rfl rfl ?_
  exact x_iret C dX2_changePlace_25 ⟨hz1, rfl, rfl⟩

set_option maxRecDepth 100000 in
set_option maxHeartbeats 4000000 in
theorem c_X2_changeSteepness (hD : ∀ P T, va_D A (wX ad cI cZ P T)) {P T : St} (k : Nat) (hk : k < 6) (x : Int32) : XMI l D (tyz cI cZ) (wX ad cI cZ) A yX2_changeSteepness cX2_changeSteepness 4 (some .int) rmX2_changeSteepness [.ref (ad 1), .int (nI k), .int x] P T (fun r P' T' => r = P 3 k ∧ P' = st1 P 3 k x ∧ T' = T) := by
  refine x_start_i (lv := [(0, .ref (ad 1)), (1, .int (nI k)), (2, .int x)]) (own := RX2) (by decide) rfl hD (Nat.le_of_ble_eq_true rfl) rfl ?_
  intro p e s m args below meth c C
  refine x_aload_n (q := 1) C dX2_changeSteepness_0 rfl 0 rfl rfl ?_
  refine xg_X2_steepness (q := 4) C tfl_X2_28 dX2_changeSteepness_1 rfl ?_
  refine x_iload_n (q := 5) C dX2_changeSteepness_4 rfl 1 rfl rfl ?_
  refine xa_X11 (q := 6) C (by omega) dX2_changeSteepness_5 rfl ?_
  refine x_istore_n (q := 7) (lv' := [(0, .ref (ad 1)), (1, .int (nI k)), (2, .int x), (3, .int (P 3 k))]) C dX2_changeSteepness_6 rfl (by decide) rfl rfl rfl ?_
  refine x_aload_n (q := 8) C dX2_changeSteepness_7 rfl 0 rfl rfl ?_
  refine xg_X2_steepness (q := 11) C tfl_X2_28 dX2_changeSteepness_8 rfl ?_
  refine x_iload_n (q := 12) C dX2_changeSteepness_11 rfl 1 rfl rfl ?_
  refine x_iload_n (q := 13) C dX2_changeSteepness_12 rfl 2 rfl rfl ?_
  refine xs_X11 (q := 14) C (by omega) dX2_changeSteepness_13 rfl ?_
  refine x_iload_n (q := 15) C dX2_changeSteepness_14 rfl 3 rfl rfl ?_
  exact x_iret C dX2_changeSteepness_15 ⟨rfl, rfl, rfl⟩

set_option maxRecDepth 100000 in
set_option maxHeartbeats 4000000 in
theorem c_X2_valueIn (hD : ∀ P T, va_D A (wX ad cI cZ P T)) {P T : St} (ok : okX P) (x k : Nat) (hx : x < 2 ^ 31) (hk : k < kn P) : XMI l D (tyz cI cZ) (wX ad cI cZ) A yX2_valueIn cX2_valueIn 3 (some .int) rmX2_valueIn [.ref (ad 1), .int (nI x), .int (nI k)] P T (fun r P' T' => r = nI (val P x k) ∧ P' = P ∧ T' = T) := by
  have okc := ok.1
  have hk6 := okc_kn6 okc
  have hS144 := okc_S144 okc
  have hS1 := okc_S1 okc
  have hnr := okc_nr12 okc
  have hnt := okc_nt60 okc
  have hnz := okc_nz50 okc
  have hsd := okc_sdb okc
  refine x_start_i (lv := [(0, .ref (ad 1)), (1, .int (nI x)), (2, .int (nI k))]) (own := RX2) (by decide) rfl hD (Nat.le_of_ble_eq_true rfl) rfl ?_
  intro p e s m args below meth c C
  refine x_iload_n (q := 1) C dX2_valueIn_0 rfl 1 rfl rfl ?_
  refine x_aload_n (q := 2) C dX2_valueIn_1 rfl 0 rfl rfl ?_
  refine xg_X2_strides (q := 5) C tfl_X2_22 dX2_valueIn_2 rfl ?_
  refine x_iload_n (q := 6) C dX2_valueIn_5 rfl 2 rfl rfl ?_
  refine xa_X9 (q := 7) C (by omega) dX2_valueIn_6 rfl ?_
  refine x_topn (pst (sz P) k) (ok.2.1 _ (by omega)) ?_
  refine x_idiv_n (q := 8) C dX2_valueIn_7 hx (okc_p0 okc hk) (by have := okc_pS okc hk; omega) rfl ?_
  refine x_aload_n (q := 9) C dX2_valueIn_8 rfl 0 rfl rfl ?_
  refine xg_X2_sizes (q := 12) C tfl_X2_18 dX2_valueIn_9 rfl ?_
  refine x_iload_n (q := 13) C dX2_valueIn_12 rfl 2 rfl rfl ?_
  refine xa_X8 (q := 14) C (by omega) dX2_valueIn_13 rfl ?_
  refine x_topn (sz P k) (okc_sz (P := P) okc (by omega)) ?_
  refine x_irem_n (q := 15) C dX2_valueIn_14 (Nat.lt_of_le_of_lt (Nat.div_le_self _ _) hx) (by have := okc_sz2 okc hk; omega) (by have := okc_sz2 okc hk; omega) rfl ?_
  exact x_iret C dX2_valueIn_15 ⟨rfl, rfl, rfl⟩

set_option maxRecDepth 100000 in
set_option maxHeartbeats 4000000 in
theorem c_X2_moved (hD : ∀ P T, va_D A (wX ad cI cZ P T)) {P T : St} (ok : okX P) (x k v : Nat) (hx : x < 2 ^ 31) (hk : k < kn P) : XMI l D (tyz cI cZ) (wX ad cI cZ) A yX2_moved cX2_moved 4 (some .int) rmX2_moved [.ref (ad 1), .int (nI x), .int (nI k), .int (nI v)] P T (fun r P' T' => r = nI (mv P x k v) ∧ P' = P ∧ T' = T) := by
  have okc := ok.1
  have hk6 := okc_kn6 okc
  have hS144 := okc_S144 okc
  have hS1 := okc_S1 okc
  have hnr := okc_nr12 okc
  have hnt := okc_nt60 okc
  have hnz := okc_nz50 okc
  have hsd := okc_sdb okc
  refine x_start_i (lv := [(0, .ref (ad 1)), (1, .int (nI x)), (2, .int (nI k)), (3, .int (nI v))]) (own := RX2) (by decide) rfl hD (Nat.le_of_ble_eq_true rfl) rfl ?_
  intro p e s m args below meth c C
  refine x_iload_n (q := 1) C dX2_moved_0 rfl 1 rfl rfl ?_
  refine x_iload_n (q := 2) C dX2_moved_1 rfl 3 rfl rfl ?_
  refine x_aload_n (q := 3) C dX2_moved_2 rfl 0 rfl rfl ?_
  refine x_iload_n (q := 4) C dX2_moved_3 rfl 1 rfl rfl ?_
  refine x_iload_n (q := 5) C dX2_moved_4 rfl 2 rfl rfl ?_
  refine x_Vf (q := 8) (As := [.int (nI x), .int (nI k)]) (rest := [.int (nI v), .int (nI x)]) C (c_X2_valueIn hD ok x k (by omega) (by omega)) xs_X2_valueIn tim_X2_valueIn tsel_X2_valueIn tml_X2_45 (by decide) 1 rfl (ci := 2) rfl rfl rfl (Nat.le_of_ble_eq_true rfl) dX2_moved_5 rfl ?_
  refine x_isub (q := 9) C dX2_moved_8 rfl ?_
  refine x_aload_n (q := 10) C dX2_moved_9 rfl 0 rfl rfl ?_
  refine xg_X2_strides (q := 13) C tfl_X2_22 dX2_moved_10 rfl ?_
  refine x_iload_n (q := 14) C dX2_moved_13 rfl 2 rfl rfl ?_
  refine xa_X9 (q := 15) C (by omega) dX2_moved_14 rfl ?_
  refine x_topn (pst (sz P) k) (ok.2.1 _ (by omega)) ?_
  refine x_imul (q := 16) C dX2_moved_15 rfl ?_
  refine x_iadd (q := 17) C dX2_moved_16 rfl ?_
  exact x_iret C dX2_moved_17 ⟨mv_eq P x k v, rfl, rfl⟩

set_option maxRecDepth 100000 in
set_option maxHeartbeats 4000000 in
theorem c_X2_off (hD : ∀ P T, va_D A (wX ad cI cZ P T)) {P T : St} (ok : okX P) (x y : Nat) (hx : x < 2 ^ 31) (hy : y < 2 ^ 31) : XMI l D (tyz cI cZ) (wX ad cI cZ) A yX2_off cX2_off 6 (some .int) rmX2_off [.ref (ad 1), .int (nI x), .int (nI y)] P T (fun r P' T' => r = off P x y ∧ P' = P ∧ T' = T) := by
  have okc := ok.1
  have hk6 := okc_kn6 okc
  have hS144 := okc_S144 okc
  have hS1 := okc_S1 okc
  have hnr := okc_nr12 okc
  have hnt := okc_nt60 okc
  have hnz := okc_nz50 okc
  have hsd := okc_sdb okc
  refine x_start_i (lv := [(0, .ref (ad 1)), (1, .int (nI x)), (2, .int (nI y))]) (own := RX2) (by decide) rfl hD (Nat.le_of_ble_eq_true rfl) rfl ?_
  intro p e s m args below meth c C
  refine x_iconst (q := 1) (v := nI 0) C dX2_off_0 (by decide) rfl ?_
  refine x_istore_n (q := 2) (lv' := [(0, .ref (ad 1)), (1, .int (nI x)), (2, .int (nI y)), (3, .int (nI 0))]) C dX2_off_1 rfl (by decide) rfl rfl rfl ?_
  refine x_iconst (q := 3) (v := nI 0) C dX2_off_2 (by decide) rfl ?_
  refine x_istore (q := 5) (lv' := [(0, .ref (ad 1)), (1, .int (nI x)), (2, .int (nI y)), (3, .int (nI 0)), (4, .int (nI 0))]) C dX2_off_3 (by decide) rfl rfl rfl ?_
  have L5 : ∀ (f1 : Nat) (i : Nat) (a : Int32), (i ≤ kn P) → (a = sm (oft P x y) i) → kn P - i < f1 → XW p l e rmX2_off s m args below meth c D (wX ad cI cZ) A 6 (MQ below (XPI D (tyz cI cZ) (wX ad cI cZ) A (fun r P' T' => r = off P x y ∧ P' = P ∧ T' = T)) args s 0 0 A) 5 [(0, .ref (ad 1)), (1, .int (nI x)), (2, .int (nI y)), (3, .int a), (4, .int (nI i))] [] P T := by
    intro f1
    induction f1 with
    | zero => intro i a hi ha hm; exact absurd hm (Nat.not_lt_zero _)
    | succ f1 ih5 =>
      intro i a hi ha hm5
      refine x_iload (q := 7) C dX2_off_5 4 rfl rfl ?_
      refine x_aload_n (q := 8) C dX2_off_7 rfl 0 rfl rfl ?_
      refine xg_X2_many (q := 11) C tfl_X2_9 dX2_off_8 rfl ?_
      refine x_topn (kn P) (okc_kn (P := P) okc) ?_
      refine x_icmp_ge_n (q := 14) (tgt := 73) C dX2_off_11 (by omega) (by omega) (by decide) rfl (fun c11 => ?_) (fun c11 => ?_)
      · refine x_iload_n (q := 74) C dX2_off_73 rfl 3 rfl rfl ?_
        exact x_iret C dX2_off_74 ⟨by rw [ha, show i = kn P by omega]; rfl, rfl, rfl⟩
      · refine x_aload_n (q := 15) C dX2_off_14 rfl 0 rfl rfl ?_
        refine xg_X2_places (q := 18) C tfl_X2_25 dX2_off_15 rfl ?_
        refine x_iload (q := 20) C dX2_off_18 4 rfl rfl ?_
        refine x_aload_n (q := 21) C dX2_off_20 rfl 0 rfl rfl ?_
        refine x_iload_n (q := 22) C dX2_off_21 rfl 1 rfl rfl ?_
        refine x_iload (q := 24) C dX2_off_22 4 rfl rfl ?_
        refine x_Vf (q := 27) (As := [.int (nI x), .int (nI i)]) (rest := [.int (nI i), .ref (ad 10)]) C (c_X2_valueIn hD ok x i (by omega) (by omega)) xs_X2_valueIn tim_X2_valueIn tsel_X2_valueIn tml_X2_45 (by decide) 1 rfl (ci := 2) rfl rfl rfl (Nat.le_of_ble_eq_true rfl) dX2_off_24 rfl ?_
        refine x_Sf (q := 30) (As := [.int (nI i), .int (nI (val P x i))]) (rest := [.ref (ad 10)]) C (c_X2_slot hD i (val P x i) ) xs_X2_slot tst_X2_slot tml_X2_37 (by decide) rfl rfl (Nat.le_of_ble_eq_true rfl) dX2_off_27 rfl ?_
        refine xa_X10 (q := 31) C (slv_lt okc x (by omega)) dX2_off_30 rfl ?_
        refine x_aload_n (q := 32) C dX2_off_31 rfl 0 rfl rfl ?_
        refine xg_X2_places (q := 35) C tfl_X2_25 dX2_off_32 rfl ?_
        refine x_iload (q := 37) C dX2_off_35 4 rfl rfl ?_
        refine x_aload_n (q := 38) C dX2_off_37 rfl 0 rfl rfl ?_
        refine x_iload_n (q := 39) C dX2_off_38 rfl 2 rfl rfl ?_
        refine x_iload (q := 41) C dX2_off_39 4 rfl rfl ?_
        refine x_Vf (q := 44) (As := [.int (nI y), .int (nI i)]) (rest := [.int (nI i), .ref (ad 10), .int (P 2 (i * 4 + (val P x i)))]) C (c_X2_valueIn hD ok y i (by omega) (by omega)) xs_X2_valueIn tim_X2_valueIn tsel_X2_valueIn tml_X2_45 (by decide) 1 rfl (ci := 2) rfl rfl rfl (Nat.le_of_ble_eq_true rfl) dX2_off_41 rfl ?_
        refine x_Sf (q := 47) (As := [.int (nI i), .int (nI (val P y i))]) (rest := [.ref (ad 10), .int (P 2 (i * 4 + (val P x i)))]) C (c_X2_slot hD i (val P y i) ) xs_X2_slot tst_X2_slot tml_X2_37 (by decide) rfl rfl (Nat.le_of_ble_eq_true rfl) dX2_off_44 rfl ?_
        refine xa_X10 (q := 48) C (slv_lt okc y (by omega)) dX2_off_47 rfl ?_
        refine x_isub (q := 49) C dX2_off_48 rfl ?_
        refine x_topi (fun z2 hz2 => ?_)
        refine x_istore (q := 51) (lv' := [(0, .ref (ad 1)), (1, .int (nI x)), (2, .int (nI y)), (3, .int a), (4, .int (nI i)), (5, .int z2)]) C dX2_off_49 (by decide) rfl rfl rfl ?_
        refine x_iload_n (q := 52) C dX2_off_51 rfl 3 rfl rfl ?_
        refine x_iload (q := 54) C dX2_off_52 5 rfl rfl ?_
        refine x_mabs (q := 57) C tml_X2_48 tst_Mabs tini_Math tco_Mabs (by decide) (Nat.le_of_ble_eq_true rfl) dX2_off_54 rfl ?_
        refine x_aload_n (q := 58) C dX2_off_57 rfl 0 rfl rfl ?_
        refine xg_X2_steepness (q := 61) C tfl_X2_28 dX2_off_58 rfl ?_
        refine x_iload (q := 63) C dX2_off_61 4 rfl rfl ?_
        refine xa_X11 (q := 64) C (by omega) dX2_off_63 rfl ?_
        refine x_imul (q := 65) C dX2_off_64 rfl ?_
        refine x_iadd (q := 66) C dX2_off_65 rfl ?_
        refine x_topi (fun z3 hz3 => ?_)
        refine x_istore_n (q := 67) (lv' := [(0, .ref (ad 1)), (1, .int (nI x)), (2, .int (nI y)), (3, .int z3), (4, .int (nI i)), (5, .int z2)]) C dX2_off_66 rfl (by decide) rfl rfl rfl ?_
        refine x_iinc (q := 70) (v := nI (i + 1)) (lv' := [(0, .ref (ad 1)), (1, .int (nI x)), (2, .int (nI y)), (3, .int z3), (4, .int (nI (i + 1))), (5, .int z2)]) C dX2_off_67 4 rfl (nI_add i 1) (by decide) rfl rfl rfl ?_
        refine x_goto (tgt := 5) C dX2_off_70 (by decide) ?_
        refine x_lv [0, 1, 2, 3, 4] rfl ?_
        exact ih5 (i + 1) z3 (by omega) (by rw [hz3, hz2, ha]; rfl) (by omega)
  exact L5 _ 0 0 (Nat.zero_le _) rfl (Nat.lt_succ_self _)

set_option maxRecDepth 100000 in
set_option maxHeartbeats 4000000 in
theorem c_X2_add (hD : ∀ P T, va_D A (wX ad cI cZ P T)) {P T : St} (ok : okX P) (v : Nat) (hv : v ≤ 4) (hk : kn P < 6) : XMI l D (tyz cI cZ) (wX ad cI cZ) A yX2_add cX2_add 4 (some .int) rmX2_add [.ref (ad 1), .int (nI v)] P T (fun r P' T' => r = nI (kn P) ∧ addR P v P' ∧ T' = T) := by
  have okc := ok.1
  have hk6 := okc_kn6 okc
  have hS144 := okc_S144 okc
  have hS1 := okc_S1 okc
  have hnr := okc_nr12 okc
  have hnt := okc_nt60 okc
  have hnz := okc_nz50 okc
  have hsd := okc_sdb okc
  refine x_start_i (lv := [(0, .ref (ad 1)), (1, .int (nI v))]) (own := RX2) (by decide) rfl hD (Nat.le_of_ble_eq_true rfl) rfl ?_
  intro p e s m args below meth c C
  refine x_aload_n (q := 1) C dX2_add_0 rfl 0 rfl rfl ?_
  refine xg_X2_many (q := 4) C tfl_X2_9 dX2_add_1 rfl ?_
  refine x_topn (kn P) (okc_kn (P := P) okc) ?_
  refine x_istore_n (q := 5) (lv' := [(0, .ref (ad 1)), (1, .int (nI v)), (2, .int (nI (kn P)))]) C dX2_add_4 rfl (by decide) rfl rfl rfl ?_
  refine x_aload_n (q := 6) C dX2_add_5 rfl 0 rfl rfl ?_
  refine xg_X2_sizes (q := 9) C tfl_X2_18 dX2_add_6 rfl ?_
  refine x_iload_n (q := 10) C dX2_add_9 rfl 2 rfl rfl ?_
  refine x_iload_n (q := 11) C dX2_add_10 rfl 1 rfl rfl ?_
  refine xs_X8 (q := 12) C (by omega) dX2_add_11 rfl ?_
  refine x_aload_n (q := 13) C dX2_add_12 rfl 0 rfl rfl ?_
  refine xg_X2_strides (q := 16) C tfl_X2_22 dX2_add_13 rfl ?_
  refine x_iload_n (q := 17) C dX2_add_16 rfl 2 rfl rfl ?_
  refine x_aload_n (q := 18) C dX2_add_17 rfl 0 rfl rfl ?_
  refine xg_X2_settings (q := 21) C tfl_X2_15 dX2_add_18 rfl ?_
  refine x_topn (nS P) (okc_S (P := P) okc) ?_
  refine xs_X9 (q := 22) C (by omega) dX2_add_21 rfl ?_
  refine x_iconst (q := 23) (v := nI 0) C dX2_add_22 (by decide) rfl ?_
  refine x_istore_n (q := 24) (lv' := [(0, .ref (ad 1)), (1, .int (nI v)), (2, .int (nI (kn P))), (3, .int (nI 0))]) C dX2_add_23 rfl (by decide) rfl rfl rfl ?_
  have L24 : ∀ (f1 : Nat) (j : Nat) (Pq : St), (j ≤ v) → (∀ a, a ≠ 2 → Pq a = (st1 (st1 P 0 (kn P) (nI v)) 1 (kn P) (nI (nS P))) a) → (∀ i, Pq 2 i = if kn P * 4 ≤ i ∧ i < kn P * 4 + j then nI (i - kn P * 4) else P 2 i) → v - j < f1 → XW p l e rmX2_add s m args below meth c D (wX ad cI cZ) A 4 (MQ below (XPI D (tyz cI cZ) (wX ad cI cZ) A (fun r P' T' => r = nI (kn P) ∧ addR P v P' ∧ T' = T)) args s 0 0 A) 24 [(0, .ref (ad 1)), (1, .int (nI v)), (2, .int (nI (kn P))), (3, .int (nI j))] [] Pq T := by
    intro f1
    induction f1 with
    | zero => intro j Pq hj hq hq2 hm; exact absurd hm (Nat.not_lt_zero _)
    | succ f1 ih24 =>
      intro j Pq hj hq hq2 hm24
      refine x_iload_n (q := 25) C dX2_add_24 rfl 3 rfl rfl ?_
      refine x_iload_n (q := 26) C dX2_add_25 rfl 1 rfl rfl ?_
      refine x_icmp_ge_n (q := 29) (tgt := 46) C dX2_add_26 (by omega) (by omega) (by decide) rfl (fun c26 => ?_) (fun c26 => ?_)
      · refine x_aload_n (q := 47) C dX2_add_46 rfl 0 rfl rfl ?_
        refine x_dup (q := 48) C dX2_add_47 rfl rfl ?_
        refine xg_X2_settings (q := 51) C tfl_X2_15 dX2_add_48 rfl ?_
        refine x_topn (nS P) (by rw [hq 21 (by decide)]; exact okc_S (P := P) okc) ?_
        refine x_iload_n (q := 52) C dX2_add_51 rfl 1 rfl rfl ?_
        refine x_imul_n (q := 53) C dX2_add_52 rfl ?_
        refine xp_X2_settings (q := 56) C tfl_X2_15 dX2_add_53 rfl ?_
        refine x_aload_n (q := 57) C dX2_add_56 rfl 0 rfl rfl ?_
        refine x_dup (q := 58) C dX2_add_57 rfl rfl ?_
        refine xg_X2_many (q := 61) C tfl_X2_9 dX2_add_58 rfl ?_
        refine x_topn (kn P) (by rw [st1_ne (by decide), hq 20 (by decide)]; exact okc_kn (P := P) okc) ?_
        refine x_iconst (q := 62) (v := nI 1) C dX2_add_61 (by decide) rfl ?_
        refine x_iadd_n (q := 63) C dX2_add_62 rfl ?_
        refine xp_X2_many (q := 66) C tfl_X2_9 dX2_add_63 rfl ?_
        refine x_iload_n (q := 67) C dX2_add_66 rfl 2 rfl rfl ?_
        exact x_iret C dX2_add_67 ⟨rfl, ⟨by rw [st1_eq, st1_ne (by decide), hq 20 (by decide)]; rfl, by rw [st1_ne (by decide), st1_eq, hq 21 (by decide)]; rfl, by rw [st1_ne (by decide), st1_ne (by decide), hq 0 (by decide)]; rfl, by rw [st1_ne (by decide), st1_ne (by decide), hq 1 (by decide)]; rfl, fun i => by rw [st1_ne (by decide), st1_ne (by decide), hq2, show j = v by omega], fun j h0 h1 h2 h3 h4 => by rw [st1_ne h3, st1_ne h4, hq j h2, st1_ne h1, st1_ne h0]⟩, rfl⟩
      · refine x_aload_n (q := 30) C dX2_add_29 rfl 0 rfl rfl ?_
        refine xg_X2_places (q := 33) C tfl_X2_25 dX2_add_30 rfl ?_
        refine x_iload_n (q := 34) C dX2_add_33 rfl 2 rfl rfl ?_
        refine x_iload_n (q := 35) C dX2_add_34 rfl 3 rfl rfl ?_
        refine x_Sf (q := 38) (As := [.int (nI (kn P)), .int (nI j)]) (rest := [.ref (ad 10)]) C (c_X2_slot hD (kn P) j ) xs_X2_slot tst_X2_slot tml_X2_37 (by decide) rfl rfl (Nat.le_of_ble_eq_true rfl) dX2_add_35 rfl ?_
        refine x_iload_n (q := 39) C dX2_add_38 rfl 3 rfl rfl ?_
        refine xs_X10 (q := 40) C (by omega) dX2_add_39 rfl ?_
        refine x_iinc (q := 43) (v := nI (j + 1)) (lv' := [(0, .ref (ad 1)), (1, .int (nI v)), (2, .int (nI (kn P))), (3, .int (nI (j + 1)))]) C dX2_add_40 3 rfl (nI_add j 1) (by decide) rfl rfl rfl ?_
        refine x_goto (tgt := 24) C dX2_add_43 (by decide) ?_
        exact ih24 (j + 1) _ (by omega) (fun a h => by rw [st1_ne h]; exact hq a h) (fun i => by rw [st1_eq]; by_cases h : i = kn P * 4 + j <;> simp only [upd, h, if_true, if_false, hq2] <;> (first | (rw [if_pos (by omega)]; congr 1; omega) | (split <;> (first | (rw [if_pos (by omega)]; done) | (rw [if_neg (by omega)]; done))))) (by omega)
  exact L24 _ 0 _ (Nat.zero_le _) (fun _ _ => rfl) (fun i => by rw [if_neg (by omega)]; rfl) (Nat.lt_succ_self _)

end KNOBS
end
section
abbrev isT (P : St) (i : Int32) : Prop := 0 ≤ i ∧ i < P 24 0
theorem isT_nat {P : St} (okc : okC P) {x : Int32} (h : isT P x) : ∃ a : Nat, a < nt P ∧ x = nI a := by
  have h6 := okc_nt60 okc
  obtain ⟨h0, h1⟩ := h
  rw [okc_nt okc] at h1
  exact nat_of (by omega) h0 h1
theorem isT_of {P : St} (okc : okC P) {a : Nat} (h : a < nt P) : isT P (nI a) := by
  have h6 := okc_nt60 okc
  exact ⟨nI_pos' (by omega), by rw [okc_nt okc]; exact nI_lt h (by omega)⟩
/-- the seed's next -/
def nsd (s : Nat) : Nat := (s * 69069 + 5) % 1073741824
def dnz (s z : Nat) : Int32 := nI (nsd s / 64 % (2 * z + 1)) - nI z
theorem draw_eq {s : Nat} (h : s < 1073741824) : ((nI s).toInt64 * 69069 + 5 - ((nI s).toInt64 * 69069 + 5) / 1073741824 * 1073741824).toInt32 = nI (nsd s) := by
  have e : ((nI s).toInt64 * 69069 + 5) = lN (s * 69069 + 5) := by
    rw [nI_l (by omega), ← lN_add, ← lN_mul]; rfl
  rw [e, show (1073741824 : Int64) = lN 1073741824 from rfl, pk_lRem (by omega) (by decide) (by decide), lN_i]; rfl
theorem nsd_lt (s : Nat) : nsd s < 1073741824 := Nat.mod_lt _ (by decide)
/-- a trial of x, worth w -/
def tryP (P : St) (x : Nat) (w : Int32) : St := st1 (st1 (st1 (st1 P 12 (nt P) (nI x)) 26 0 (nI (nsd (sdv P)))) 13 (nt P) (w + dnz (sdv P) (nz P))) 24 0 (nI (nt P + 1))
def fi (P : St) (x : Nat) : Nat := fa_first (fun i => decide (tx P i = x)) (nt P)
theorem first_at {p : Nat → Bool} {n i : Nat} (hi : i < n) (h : ∀ j, j < i → p j = false) (hp : p i = true) : fa_first p n = i := by
  rcases Nat.lt_trichotomy (fa_first p n) i with q | q | q
  · have h1 := fa_first_yes p n (by omega)
    rw [h _ q] at h1; cases h1
  · exact q
  · rw [fa_first_no p n i q] at hp; cases hp
theorem first_no {p : Nat → Bool} {n : Nat} (h : ∀ j, j < n → p j = false) : fa_first p n = n := by
  rcases Nat.lt_or_ge (fa_first p n) n with q | q
  · have h1 := fa_first_yes p n q
    rw [h _ q] at h1; cases h1
  · exact Nat.le_antisymm (fa_first_le p n) q
theorem fi_at {P : St} {x i : Nat} (hi : i < nt P) (h : ∀ j, j < i → tx P j ≠ x) (hp : tx P i = x) : fi P x = i := first_at hi (fun j hj => decide_eq_false (h j hj)) (decide_eq_true hp)
theorem fi_no {P : St} {x : Nat} (h : ∀ j, j < nt P → tx P j ≠ x) : fi P x = nt P := first_no (fun j hj => decide_eq_false (h j hj))
theorem fi_tx {P : St} {x : Nat} (h : fi P x < nt P) : tx P (fi P x) = x := of_decide_eq_true (fa_first_yes _ _ h)
theorem fi_le (P : St) (x : Nat) : fi P x ≤ nt P := fa_first_le _ _
theorem fi_lt {P : St} {x j : Nat} (hj : j < nt P) (h : tx P j = x) : fi P x ≤ j := by
  rcases Nat.lt_or_ge j (fi P x) with q | q
  · exact absurd h (of_decide_eq_false (fa_first_no _ _ _ q))
  · exact q
/-- the class's answer of the first trial -/
def foX (P : St) (x : Nat) : Int32 := if fi P x < nt P then nI (fi P x) else -4
def dst (P : St) : Nat := fa_cnt (fun i => decide (fi P (tx P i) = i)) (nt P)
/-- rule i is against x; no rule is -/
abbrev agX (P : St) (x i : Nat) : Prop := nI (val P x (rk1 P i)) = P 6 i ∧ ¬ bI (nI (val P x (rk2 P i)) = P 8 i) = P 4 i
abbrev alX (P : St) (x : Nat) : Prop := ∀ i, i < nr P → ¬ agX P x i
def wjt (P : St) (x b a : Nat) : Int32 := P 10 (slv P x a * 24 + slv P x b)
def wot (P : St) (x b : Nat) : Int32 := P 9 (slv P x b) + sm (wjt P x b) b
def wo (P : St) (x : Nat) : Int32 := P 23 0 + sm (wot P x) (kn P)
theorem st1_at {P : St} {j i : Nat} {v : Int32} : st1 P j i v j i = v := by simp [st1, va_up, upd]
theorem st1_no {P : St} {j i i' : Nat} {v : Int32} (h : i' ≠ i) : st1 P j i v j i' = P j i' := by simp [st1, va_up, upd, h]
end
section
section TRIALS
variable {l : Launch} {D : va_G} {ad : Nat → Nat} {cI cZ : ClassId} {A : Nat → Prop}

set_option maxRecDepth 100000 in
set_option maxHeartbeats 4000000 in
theorem c_X6_howMany (hD : ∀ P T, va_D A (wX ad cI cZ P T)) {P T : St} : XMI l D (tyz cI cZ) (wX ad cI cZ) A yX6_howMany cX6_howMany 1 (some .int) rmX6_howMany [.ref (ad 4)] P T (fun r P' T' => r = P 24 0 ∧ P' = P ∧ T' = T) := by
  refine x_start_i (lv := [(0, .ref (ad 4))]) (own := RX6) (by decide) rfl hD (Nat.le_of_ble_eq_true rfl) rfl ?_
  intro p e s m args below meth c C
  refine x_aload_n (q := 1) C dX6_howMany_0 rfl 0 rfl rfl ?_
  refine xg_X6_many (q := 4) C tfl_X6_9 dX6_howMany_1 rfl ?_
  exact x_iret C dX6_howMany_4 ⟨rfl, rfl, rfl⟩

set_option maxRecDepth 100000 in
set_option maxHeartbeats 4000000 in
theorem c_X6_currentNoise (hD : ∀ P T, va_D A (wX ad cI cZ P T)) {P T : St} : XMI l D (tyz cI cZ) (wX ad cI cZ) A yX6_currentNoise cX6_currentNoise 1 (some .int) rmX6_currentNoise [.ref (ad 4)] P T (fun r P' T' => r = P 25 0 ∧ P' = P ∧ T' = T) := by
  refine x_start_i (lv := [(0, .ref (ad 4))]) (own := RX6) (by decide) rfl hD (Nat.le_of_ble_eq_true rfl) rfl ?_
  intro p e s m args below meth c C
  refine x_aload_n (q := 1) C dX6_currentNoise_0 rfl 0 rfl rfl ?_
  refine xg_X6_noise (q := 4) C tfl_X6_15 dX6_currentNoise_1 rfl ?_
  exact x_iret C dX6_currentNoise_4 ⟨rfl, rfl, rfl⟩

set_option maxRecDepth 100000 in
set_option maxHeartbeats 4000000 in
theorem c_X5_howMany (hD : ∀ P T, va_D A (wX ad cI cZ P T)) {P T : St} : XMI l D (tyz cI cZ) (wX ad cI cZ) A yX5_howMany cX5_howMany 1 (some .int) rmX5_howMany [.ref (ad 2)] P T (fun r P' T' => r = P 22 0 ∧ P' = P ∧ T' = T) := by
  refine x_start_i (lv := [(0, .ref (ad 2))]) (own := RX5) (by decide) rfl hD (Nat.le_of_ble_eq_true rfl) rfl ?_
  intro p e s m args below meth c C
  refine x_aload_n (q := 1) C dX5_howMany_0 rfl 0 rfl rfl ?_
  refine xg_X5_many (q := 4) C tfl_X5_9 dX5_howMany_1 rfl ?_
  exact x_iret C dX5_howMany_4 ⟨rfl, rfl, rfl⟩

set_option maxRecDepth 100000 in
set_option maxHeartbeats 4000000 in
theorem c_X6_settingAt (hD : ∀ P T, va_D A (wX ad cI cZ P T)) {P T : St} (i : Nat) (hi : i < 60) : XMI l D (tyz cI cZ) (wX ad cI cZ) A yX6_settingAt cX6_settingAt 2 (some .int) rmX6_settingAt [.ref (ad 4), .int (nI i)] P T (fun r P' T' => r = P 12 i ∧ P' = P ∧ T' = T) := by
  refine x_start_i (lv := [(0, .ref (ad 4)), (1, .int (nI i))]) (own := RX6) (by decide) rfl hD (Nat.le_of_ble_eq_true rfl) rfl ?_
  intro p e s m args below meth c C
  refine x_aload_n (q := 1) C dX6_settingAt_0 rfl 0 rfl rfl ?_
  refine xg_X6_settings (q := 4) C tfl_X6_21 dX6_settingAt_1 rfl ?_
  refine x_iload_n (q := 5) C dX6_settingAt_4 rfl 1 rfl rfl ?_
  refine xa_X20 (q := 6) C (by omega) dX6_settingAt_5 rfl ?_
  exact x_iret C dX6_settingAt_6 ⟨rfl, rfl, rfl⟩

set_option maxRecDepth 100000 in
set_option maxHeartbeats 4000000 in
theorem c_X6_readingAt (hD : ∀ P T, va_D A (wX ad cI cZ P T)) {P T : St} (i : Nat) (hi : i < 60) : XMI l D (tyz cI cZ) (wX ad cI cZ) A yX6_readingAt cX6_readingAt 2 (some .int) rmX6_readingAt [.ref (ad 4), .int (nI i)] P T (fun r P' T' => r = P 13 i ∧ P' = P ∧ T' = T) := by
  refine x_start_i (lv := [(0, .ref (ad 4)), (1, .int (nI i))]) (own := RX6) (by decide) rfl hD (Nat.le_of_ble_eq_true rfl) rfl ?_
  intro p e s m args below meth c C
  refine x_aload_n (q := 1) C dX6_readingAt_0 rfl 0 rfl rfl ?_
  refine xg_X6_readings (q := 4) C tfl_X6_25 dX6_readingAt_1 rfl ?_
  refine x_iload_n (q := 5) C dX6_readingAt_4 rfl 1 rfl rfl ?_
  refine xa_X21 (q := 6) C (by omega) dX6_readingAt_5 rfl ?_
  exact x_iret C dX6_readingAt_6 ⟨rfl, rfl, rfl⟩

set_option maxRecDepth 100000 in
set_option maxHeartbeats 4000000 in
theorem c_X6_isFull (hD : ∀ P T, va_D A (wX ad cI cZ P T)) {P T : St} : XMI l D (tyz cI cZ) (wX ad cI cZ) A yX6_isFull cX6_isFull 1 (some .boolean) rmX6_isFull [.ref (ad 4)] P T (fun r P' T' => r = bI (nI 60 ≤ P 24 0) ∧ P' = P ∧ T' = T) := by
  refine x_start_i (lv := [(0, .ref (ad 4))]) (own := RX6) (by decide) rfl hD (Nat.le_of_ble_eq_true rfl) rfl ?_
  intro p e s m args below meth c C
  refine x_aload_n (q := 1) C dX6_isFull_0 rfl 0 rfl rfl ?_
  refine xg_X6_many (q := 4) C tfl_X6_9 dX6_isFull_1 rfl ?_
  refine x_bipush (q := 6) (v := nI 60) C dX6_isFull_4 (by decide) rfl ?_
  refine x_icmp_lt (q := 9) (tgt := 13) C dX6_isFull_6 (by decide) rfl (fun c6 => ?_) (fun c6 => ?_)
  · refine x_iconst (q := 14) (v := nI 0) C dX6_isFull_13 (by decide) rfl ?_
    exact x_zret C dX6_isFull_14 rfl ⟨bI_f (by simp only [isT, fa_lt, fa_le] at *; omega), rfl, rfl⟩
  · refine x_iconst (q := 10) (v := nI 1) C dX6_isFull_9 (by decide) rfl ?_
    refine x_goto (tgt := 14) C dX6_isFull_10 (by decide) ?_
    exact x_zret C dX6_isFull_14 rfl ⟨bI_t (by simp only [isT, fa_lt, fa_le] at *; omega), rfl, rfl⟩

set_option maxRecDepth 100000 in
set_option maxHeartbeats 4000000 in
theorem c_X5_isFull (hD : ∀ P T, va_D A (wX ad cI cZ P T)) {P T : St} : XMI l D (tyz cI cZ) (wX ad cI cZ) A yX5_isFull cX5_isFull 1 (some .boolean) rmX5_isFull [.ref (ad 2)] P T (fun r P' T' => r = bI (nI 12 ≤ P 22 0) ∧ P' = P ∧ T' = T) := by
  refine x_start_i (lv := [(0, .ref (ad 2))]) (own := RX5) (by decide) rfl hD (Nat.le_of_ble_eq_true rfl) rfl ?_
  intro p e s m args below meth c C
  refine x_aload_n (q := 1) C dX5_isFull_0 rfl 0 rfl rfl ?_
  refine xg_X5_many (q := 4) C tfl_X5_9 dX5_isFull_1 rfl ?_
  refine x_bipush (q := 6) (v := nI 12) C dX5_isFull_4 (by decide) rfl ?_
  refine x_icmp_lt (q := 9) (tgt := 13) C dX5_isFull_6 (by decide) rfl (fun c6 => ?_) (fun c6 => ?_)
  · refine x_iconst (q := 14) (v := nI 0) C dX5_isFull_13 (by decide) rfl ?_
    exact x_zret C dX5_isFull_14 rfl ⟨bI_f (by simp only [isT, fa_lt, fa_le] at *; omega), rfl, rfl⟩
  · refine x_iconst (q := 10) (v := nI 1) C dX5_isFull_9 (by decide) rfl ?_
    refine x_goto (tgt := 14) C dX5_isFull_10 (by decide) ?_
    exact x_zret C dX5_isFull_14 rfl ⟨bI_t (by simp only [isT, fa_lt, fa_le] at *; omega), rfl, rfl⟩

set_option maxRecDepth 100000 in
set_option maxHeartbeats 4000000 in
theorem c_X6_has (hD : ∀ P T, va_D A (wX ad cI cZ P T)) {P T : St} (i : Int32) : XMI l D (tyz cI cZ) (wX ad cI cZ) A yX6_has cX6_has 2 (some .boolean) rmX6_has [.ref (ad 4), .int i] P T (fun r P' T' => r = bI (isT P i) ∧ P' = P ∧ T' = T) := by
  refine x_start_i (lv := [(0, .ref (ad 4)), (1, .int i)]) (own := RX6) (by decide) rfl hD (Nat.le_of_ble_eq_true rfl) rfl ?_
  intro p e s m args below meth c C
  refine x_iload_n (q := 1) C dX6_has_0 rfl 1 rfl rfl ?_
  refine x_if_lt (q := 4) (tgt := 16) C dX6_has_1 (by decide) rfl (fun c1 => ?_) (fun c1 => ?_)
  · refine x_iconst (q := 17) (v := nI 0) C dX6_has_16 (by decide) rfl ?_
    exact x_zret C dX6_has_17 rfl ⟨bI_f (by simp only [isT, fa_lt, fa_le] at *; omega), rfl, rfl⟩
  · refine x_iload_n (q := 5) C dX6_has_4 rfl 1 rfl rfl ?_
    refine x_aload_n (q := 6) C dX6_has_5 rfl 0 rfl rfl ?_
    refine xg_X6_many (q := 9) C tfl_X6_9 dX6_has_6 rfl ?_
    refine x_icmp_ge (q := 12) (tgt := 16) C dX6_has_9 (by decide) rfl (fun c9 => ?_) (fun c9 => ?_)
    · refine x_iconst (q := 17) (v := nI 0) C dX6_has_16 (by decide) rfl ?_
      exact x_zret C dX6_has_17 rfl ⟨bI_f (by simp only [isT, fa_lt, fa_le] at *; omega), rfl, rfl⟩
    · refine x_iconst (q := 13) (v := nI 1) C dX6_has_12 (by decide) rfl ?_
      refine x_goto (tgt := 17) C dX6_has_13 (by decide) ?_
      exact x_zret C dX6_has_17 rfl ⟨bI_t (by simp only [isT, fa_lt, fa_le] at *; omega), rfl, rfl⟩

set_option maxRecDepth 100000 in
set_option maxHeartbeats 4000000 in
theorem c_X6_changeNoise (hD : ∀ P T, va_D A (wX ad cI cZ P T)) {P T : St} (x : Int32) : XMI l D (tyz cI cZ) (wX ad cI cZ) A yX6_changeNoise cX6_changeNoise 3 (some .int) rmX6_changeNoise [.ref (ad 4), .int x] P T (fun r P' T' => r = P 25 0 ∧ P' = st1 P 25 0 x ∧ T' = T) := by
  refine x_start_i (lv := [(0, .ref (ad 4)), (1, .int x)]) (own := RX6) (by decide) rfl hD (Nat.le_of_ble_eq_true rfl) rfl ?_
  intro p e s m args below meth c C
  refine x_aload_n (q := 1) C dX6_changeNoise_0 rfl 0 rfl rfl ?_
  refine xg_X6_noise (q := 4) C tfl_X6_15 dX6_changeNoise_1 rfl ?_
  refine x_istore_n (q := 5) (lv' := [(0, .ref (ad 4)), (1, .int x), (2, .int (P 25 0))]) C dX6_changeNoise_4 rfl (by decide) rfl rfl rfl ?_
  refine x_aload_n (q := 6) C dX6_changeNoise_5 rfl 0 rfl rfl ?_
  refine x_iload_n (q := 7) C dX6_changeNoise_6 rfl 1 rfl rfl ?_
  refine xp_X6_noise (q := 10) C tfl_X6_15 dX6_changeNoise_7 rfl ?_
  refine x_iload_n (q := 11) C dX6_changeNoise_10 rfl 2 rfl rfl ?_
  exact x_iret C dX6_changeNoise_11 ⟨rfl, rfl, rfl⟩

set_option maxRecDepth 100000 in
set_option maxHeartbeats 4000000 in
theorem c_X1_changeBase (hD : ∀ P T, va_D A (wX ad cI cZ P T)) {P T : St} (x : Int32) : XMI l D (tyz cI cZ) (wX ad cI cZ) A yX1_changeBase cX1_changeBase 3 (some .int) rmX1_changeBase [.ref (ad 3), .int x] P T (fun r P' T' => r = P 23 0 ∧ P' = st1 P 23 0 x ∧ T' = T) := by
  refine x_start_i (lv := [(0, .ref (ad 3)), (1, .int x)]) (own := RX1) (by decide) rfl hD (Nat.le_of_ble_eq_true rfl) rfl ?_
  intro p e s m args below meth c C
  refine x_aload_n (q := 1) C dX1_changeBase_0 rfl 0 rfl rfl ?_
  refine xg_X1_base (q := 4) C tfl_X1_9 dX1_changeBase_1 rfl ?_
  refine x_istore_n (q := 5) (lv' := [(0, .ref (ad 3)), (1, .int x), (2, .int (P 23 0))]) C dX1_changeBase_4 rfl (by decide) rfl rfl rfl ?_
  refine x_aload_n (q := 6) C dX1_changeBase_5 rfl 0 rfl rfl ?_
  refine x_iload_n (q := 7) C dX1_changeBase_6 rfl 1 rfl rfl ?_
  refine xp_X1_base (q := 10) C tfl_X1_9 dX1_changeBase_7 rfl ?_
  refine x_iload_n (q := 11) C dX1_changeBase_10 rfl 2 rfl rfl ?_
  exact x_iret C dX1_changeBase_11 ⟨rfl, rfl, rfl⟩

set_option maxRecDepth 100000 in
set_option maxHeartbeats 4000000 in
theorem c_X6_changeSeed (hD : ∀ P T, va_D A (wX ad cI cZ P T)) {P T : St} (x : Int32) : XMV l D (tyz cI cZ) (wX ad cI cZ) A yX6_changeSeed cX6_changeSeed 2 none rmX6_changeSeed [.ref (ad 4), .int x] P T (fun P' T' => P' = st1 P 26 0 x ∧ T' = T) := by
  refine x_start_v (lv := [(0, .ref (ad 4)), (1, .int x)]) (own := RX6) (by decide) rfl hD (Nat.le_of_ble_eq_true rfl) rfl ?_
  intro p e s m args below meth c C
  refine x_aload_n (q := 1) C dX6_changeSeed_0 rfl 0 rfl rfl ?_
  refine x_iload_n (q := 2) C dX6_changeSeed_1 rfl 1 rfl rfl ?_
  refine xp_X6_seed (q := 5) C tfl_X6_18 dX6_changeSeed_2 rfl ?_
  exact x_vret C dX6_changeSeed_5 ⟨rfl, rfl⟩

set_option maxRecDepth 100000 in
set_option maxHeartbeats 4000000 in
theorem c_X6_clear (hD : ∀ P T, va_D A (wX ad cI cZ P T)) {P T : St} : XMV l D (tyz cI cZ) (wX ad cI cZ) A yX6_clear cX6_clear 1 none rmX6_clear [.ref (ad 4)] P T (fun P' T' => P' = st1 P 24 0 (nI 0) ∧ T' = T) := by
  refine x_start_v (lv := [(0, .ref (ad 4))]) (own := RX6) (by decide) rfl hD (Nat.le_of_ble_eq_true rfl) rfl ?_
  intro p e s m args below meth c C
  refine x_aload_n (q := 1) C dX6_clear_0 rfl 0 rfl rfl ?_
  refine x_iconst (q := 2) (v := nI 0) C dX6_clear_1 (by decide) rfl ?_
  refine xp_X6_many (q := 5) C tfl_X6_9 dX6_clear_2 rfl ?_
  exact x_vret C dX6_clear_5 ⟨rfl, rfl⟩

set_option maxRecDepth 100000 in
set_option maxHeartbeats 4000000 in
theorem c_X6_drawNoise (hD : ∀ P T, va_D A (wX ad cI cZ P T)) {P T : St} (sd z : Nat) (h1 : P 26 0 = nI sd) (h2 : sd < 1073741824) (h3 : P 25 0 = nI z) (h4 : z ≤ 50) : XMI l D (tyz cI cZ) (wX ad cI cZ) A yX6_drawNoise cX6_drawNoise 1 (some .int) rmX6_drawNoise [.ref (ad 4)] P T (fun r P' T' => r = dnz sd z ∧ P' = st1 P 26 0 (nI (nsd sd)) ∧ T' = T) := by
  have h5 := nsd_lt sd
  refine x_start_i (lv := [(0, .ref (ad 4))]) (own := RX6) (by decide) rfl hD (Nat.le_of_ble_eq_true rfl) rfl ?_
  intro p e s m args below meth c C
  refine x_aload_n (q := 1) C dX6_drawNoise_0 rfl 0 rfl rfl ?_
  refine x_aload_n (q := 2) C dX6_drawNoise_1 rfl 0 rfl rfl ?_
  refine xg_X6_seed (q := 5) C tfl_X6_18 dX6_drawNoise_2 rfl ?_
  refine x_topn (sd) h1 ?_
  refine x_i2l (q := 6) C dX6_drawNoise_5 rfl ?_
  refine x_ldc2 (q := 9) C tk_X6_32 dX6_drawNoise_6 rfl ?_
  refine x_lmul (q := 10) C dX6_drawNoise_9 rfl ?_
  refine x_ldc2 (q := 13) C tk_X6_34 dX6_drawNoise_10 rfl ?_
  refine x_ladd (q := 14) C dX6_drawNoise_13 rfl ?_
  refine x_ldc2 (q := 17) C tk_X6_36 dX6_drawNoise_14 rfl ?_
  refine x_lrem (q := 18) C dX6_drawNoise_17 (by decide) rfl ?_
  refine x_l2i (q := 19) C dX6_drawNoise_18 rfl ?_
  refine x_topn (nsd sd) (draw_eq h2) ?_
  refine xp_X6_seed (q := 22) C tfl_X6_18 dX6_drawNoise_19 rfl ?_
  refine x_aload_n (q := 23) C dX6_drawNoise_22 rfl 0 rfl rfl ?_
  refine xg_X6_seed (q := 26) C tfl_X6_18 dX6_drawNoise_23 rfl ?_
  refine x_topn (nsd sd) st1_at ?_
  refine x_bipush (q := 28) (v := nI 64) C dX6_drawNoise_26 (by decide) rfl ?_
  refine x_idiv_n (q := 29) C dX6_drawNoise_28 (by omega) (by omega) (by omega) rfl ?_
  refine x_iconst (q := 30) (v := nI 2) C dX6_drawNoise_29 (by decide) rfl ?_
  refine x_aload_n (q := 31) C dX6_drawNoise_30 rfl 0 rfl rfl ?_
  refine xg_X6_noise (q := 34) C tfl_X6_15 dX6_drawNoise_31 rfl ?_
  refine x_topn (z) h3 ?_
  refine x_imul_n (q := 35) C dX6_drawNoise_34 rfl ?_
  refine x_iconst (q := 36) (v := nI 1) C dX6_drawNoise_35 (by decide) rfl ?_
  refine x_iadd_n (q := 37) C dX6_drawNoise_36 rfl ?_
  refine x_irem_n (q := 38) C dX6_drawNoise_37 (by omega) (by omega) (by omega) rfl ?_
  refine x_aload_n (q := 39) C dX6_drawNoise_38 rfl 0 rfl rfl ?_
  refine xg_X6_noise (q := 42) C tfl_X6_15 dX6_drawNoise_39 rfl ?_
  refine x_topn (z) h3 ?_
  refine x_isub (q := 43) C dX6_drawNoise_42 rfl ?_
  exact x_iret C dX6_drawNoise_43 ⟨rfl, rfl, rfl⟩

set_option maxRecDepth 100000 in
set_option maxHeartbeats 4000000 in
theorem c_X6_add (hD : ∀ P T, va_D A (wX ad cI cZ P T)) {P T : St} (ok : okX P) (x : Nat) (v : Int32) (hn : nt P < 60) : XMV l D (tyz cI cZ) (wX ad cI cZ) A yX6_add cX6_add 3 none rmX6_add [.ref (ad 4), .int (nI x), .int v] P T (fun P' T' => P' = tryP P x v ∧ T' = T) := by
  have okc := ok.1
  have hk6 := okc_kn6 okc
  have hS144 := okc_S144 okc
  have hS1 := okc_S1 okc
  have hnr := okc_nr12 okc
  have hnt := okc_nt60 okc
  have hnz := okc_nz50 okc
  have hsd := okc_sdb okc
  refine x_start_v (lv := [(0, .ref (ad 4)), (1, .int (nI x)), (2, .int v)]) (own := RX6) (by decide) rfl hD (Nat.le_of_ble_eq_true rfl) rfl ?_
  intro p e s m args below meth c C
  refine x_aload_n (q := 1) C dX6_add_0 rfl 0 rfl rfl ?_
  refine xg_X6_settings (q := 4) C tfl_X6_21 dX6_add_1 rfl ?_
  refine x_aload_n (q := 5) C dX6_add_4 rfl 0 rfl rfl ?_
  refine xg_X6_many (q := 8) C tfl_X6_9 dX6_add_5 rfl ?_
  refine x_topn (nt P) (okc_nt (P := P) okc) ?_
  refine x_iload_n (q := 9) C dX6_add_8 rfl 1 rfl rfl ?_
  refine xs_X20 (q := 10) C (by omega) dX6_add_9 rfl ?_
  refine x_aload_n (q := 11) C dX6_add_10 rfl 0 rfl rfl ?_
  refine xg_X6_readings (q := 14) C tfl_X6_25 dX6_add_11 rfl ?_
  refine x_aload_n (q := 15) C dX6_add_14 rfl 0 rfl rfl ?_
  refine xg_X6_many (q := 18) C tfl_X6_9 dX6_add_15 rfl ?_
  refine x_topn (nt P) (okc_nt (P := P) okc) ?_
  refine x_iload_n (q := 19) C dX6_add_18 rfl 2 rfl rfl ?_
  refine x_aload_n (q := 20) C dX6_add_19 rfl 0 rfl rfl ?_
  refine x_Vf (q := 23) (As := []) (rest := [.int v, .int (nI (nt P)), .ref (ad 21)]) C (c_X6_drawNoise hD (sdv P) (nz P) (okc_sd (P := P) okc) (by omega) (okc_nz (P := P) okc) (by omega)) xs_X6_drawNoise tim_X6_drawNoise tsel_X6_drawNoise tml_X6_28 (by decide) 4 rfl (ci := 6) rfl rfl rfl (Nat.le_of_ble_eq_true rfl) dX6_add_20 rfl ?_
  refine x_iadd (q := 24) C dX6_add_23 rfl ?_
  refine xs_X21 (q := 25) C (by omega) dX6_add_24 rfl ?_
  refine x_aload_n (q := 26) C dX6_add_25 rfl 0 rfl rfl ?_
  refine x_dup (q := 27) C dX6_add_26 rfl rfl ?_
  refine xg_X6_many (q := 30) C tfl_X6_9 dX6_add_27 rfl ?_
  refine x_topn (nt P) (okc_nt (P := P) okc) ?_
  refine x_iconst (q := 31) (v := nI 1) C dX6_add_30 (by decide) rfl ?_
  refine x_iadd_n (q := 32) C dX6_add_31 rfl ?_
  refine xp_X6_many (q := 35) C tfl_X6_9 dX6_add_32 rfl ?_
  exact x_vret C dX6_add_35 ⟨rfl, rfl⟩

set_option maxRecDepth 100000 in
set_option maxHeartbeats 4000000 in
theorem c_X6_firstOf (hD : ∀ P T, va_D A (wX ad cI cZ P T)) {P T : St} (ok : okX P) (x : Nat) (hx : x < 2 ^ 31) : XMI l D (tyz cI cZ) (wX ad cI cZ) A yX6_firstOf cX6_firstOf 3 (some .int) rmX6_firstOf [.ref (ad 4), .int (nI x)] P T (fun r P' T' => r = foX P x ∧ P' = P ∧ T' = T) := by
  have okc := ok.1
  have hk6 := okc_kn6 okc
  have hS144 := okc_S144 okc
  have hS1 := okc_S1 okc
  have hnr := okc_nr12 okc
  have hnt := okc_nt60 okc
  have hnz := okc_nz50 okc
  have hsd := okc_sdb okc
  refine x_start_i (lv := [(0, .ref (ad 4)), (1, .int (nI x))]) (own := RX6) (by decide) rfl hD (Nat.le_of_ble_eq_true rfl) rfl ?_
  intro p e s m args below meth c C
  refine x_iconst (q := 1) (v := nI 0) C dX6_firstOf_0 (by decide) rfl ?_
  refine x_istore_n (q := 2) (lv' := [(0, .ref (ad 4)), (1, .int (nI x)), (2, .int (nI 0))]) C dX6_firstOf_1 rfl (by decide) rfl rfl rfl ?_
  have L2 : ∀ (f1 : Nat) (i : Nat), (i ≤ nt P) → (∀ j, j < i → tx P j ≠ x) → nt P - i < f1 → XW p l e rmX6_firstOf s m args below meth c D (wX ad cI cZ) A 3 (MQ below (XPI D (tyz cI cZ) (wX ad cI cZ) A (fun r P' T' => r = foX P x ∧ P' = P ∧ T' = T)) args s 0 0 A) 2 [(0, .ref (ad 4)), (1, .int (nI x)), (2, .int (nI i))] [] P T := by
    intro f1
    induction f1 with
    | zero => intro i hi hq hm; exact absurd hm (Nat.not_lt_zero _)
    | succ f1 ih2 =>
      intro i hi hq hm2
      refine x_iload_n (q := 3) C dX6_firstOf_2 rfl 2 rfl rfl ?_
      refine x_aload_n (q := 4) C dX6_firstOf_3 rfl 0 rfl rfl ?_
      refine xg_X6_many (q := 7) C tfl_X6_9 dX6_firstOf_4 rfl ?_
      refine x_topn (nt P) (okc_nt (P := P) okc) ?_
      refine x_icmp_ge_n (q := 10) (tgt := 28) C dX6_firstOf_7 (by omega) (by omega) (by decide) rfl (fun c7 => ?_) (fun c7 => ?_)
      · refine x_bipush (q := 30) (v := (-4)) C dX6_firstOf_28 (by decide) rfl ?_
        exact x_iret C dX6_firstOf_30 ⟨by rw [foX, fi_no (fun j hj => hq j (by omega)), if_neg (Nat.lt_irrefl _)], rfl, rfl⟩
      · refine x_aload_n (q := 11) C dX6_firstOf_10 rfl 0 rfl rfl ?_
        refine xg_X6_settings (q := 14) C tfl_X6_21 dX6_firstOf_11 rfl ?_
        refine x_iload_n (q := 15) C dX6_firstOf_14 rfl 2 rfl rfl ?_
        refine xa_X20 (q := 16) C (by omega) dX6_firstOf_15 rfl ?_
        refine x_topn (tx P i) (okc_tx (P := P) okc (by omega)) ?_
        refine x_iload_n (q := 17) C dX6_firstOf_16 rfl 1 rfl rfl ?_
        refine x_icmp_ne_n (q := 20) (tgt := 22) C dX6_firstOf_17 (by have := okc_txS okc (i := i) (by omega); omega) (by omega) (by decide) rfl (fun c17 => ?_) (fun c17 => ?_)
        · refine x_iinc (q := 25) (v := nI (i + 1)) (lv' := [(0, .ref (ad 4)), (1, .int (nI x)), (2, .int (nI (i + 1)))]) C dX6_firstOf_22 2 rfl (nI_add i 1) (by decide) rfl rfl rfl ?_
          refine x_goto (tgt := 2) C dX6_firstOf_25 (by decide) ?_
          exact ih2 (i + 1) (by omega) (lt_s hq c17) (by omega)
        · refine x_iload_n (q := 21) C dX6_firstOf_20 rfl 2 rfl rfl ?_
          exact x_iret C dX6_firstOf_21 ⟨by rw [foX, fi_at (by omega) hq c17, if_pos (by omega)], rfl, rfl⟩
  exact L2 _ 0 (Nat.zero_le _) (fun j hj => absurd hj (Nat.not_lt_zero j)) (Nat.lt_succ_self _)

set_option maxRecDepth 100000 in
set_option maxHeartbeats 4000000 in
theorem c_X6_howManySettings (hD : ∀ P T, va_D A (wX ad cI cZ P T)) {P T : St} (ok : okX P) : XMI l D (tyz cI cZ) (wX ad cI cZ) A yX6_howManySettings cX6_howManySettings 3 (some .int) rmX6_howManySettings [.ref (ad 4)] P T (fun r P' T' => r = nI (dst P) ∧ P' = P ∧ T' = T) := by
  have okc := ok.1
  have hk6 := okc_kn6 okc
  have hS144 := okc_S144 okc
  have hS1 := okc_S1 okc
  have hnr := okc_nr12 okc
  have hnt := okc_nt60 okc
  have hnz := okc_nz50 okc
  have hsd := okc_sdb okc
  refine x_start_i (lv := [(0, .ref (ad 4))]) (own := RX6) (by decide) rfl hD (Nat.le_of_ble_eq_true rfl) rfl ?_
  intro p e s m args below meth c C
  refine x_iconst (q := 1) (v := nI 0) C dX6_howManySettings_0 (by decide) rfl ?_
  refine x_istore_n (q := 2) (lv' := [(0, .ref (ad 4)), (1, .int (nI 0))]) C dX6_howManySettings_1 rfl (by decide) rfl rfl rfl ?_
  refine x_iconst (q := 3) (v := nI 0) C dX6_howManySettings_2 (by decide) rfl ?_
  refine x_istore_n (q := 4) (lv' := [(0, .ref (ad 4)), (1, .int (nI 0)), (2, .int (nI 0))]) C dX6_howManySettings_3 rfl (by decide) rfl rfl rfl ?_
  have L4 : ∀ (f1 : Nat) (i : Nat) (n : Nat), (i ≤ nt P) → (n = fa_cnt (fun i => decide (fi P (tx P i) = i)) i) → nt P - i < f1 → XW p l e rmX6_howManySettings s m args below meth c D (wX ad cI cZ) A 3 (MQ below (XPI D (tyz cI cZ) (wX ad cI cZ) A (fun r P' T' => r = nI (dst P) ∧ P' = P ∧ T' = T)) args s 0 0 A) 4 [(0, .ref (ad 4)), (1, .int (nI n)), (2, .int (nI i))] [] P T := by
    intro f1
    induction f1 with
    | zero => intro i n hi hn hm; exact absurd hm (Nat.not_lt_zero _)
    | succ f1 ih4 =>
      intro i n hi hn hm4
      refine x_iload_n (q := 5) C dX6_howManySettings_4 rfl 2 rfl rfl ?_
      refine x_aload_n (q := 6) C dX6_howManySettings_5 rfl 0 rfl rfl ?_
      refine xg_X6_many (q := 9) C tfl_X6_9 dX6_howManySettings_6 rfl ?_
      refine x_topn (nt P) (okc_nt (P := P) okc) ?_
      refine x_icmp_ge_n (q := 12) (tgt := 35) C dX6_howManySettings_9 (by omega) (by omega) (by decide) rfl (fun c9 => ?_) (fun c9 => ?_)
      · refine x_iload_n (q := 36) C dX6_howManySettings_35 rfl 1 rfl rfl ?_
        exact x_iret C dX6_howManySettings_36 ⟨by rw [hn, show i = nt P by omega]; rfl, rfl, rfl⟩
      · refine x_aload_n (q := 13) C dX6_howManySettings_12 rfl 0 rfl rfl ?_
        refine x_aload_n (q := 14) C dX6_howManySettings_13 rfl 0 rfl rfl ?_
        refine xg_X6_settings (q := 17) C tfl_X6_21 dX6_howManySettings_14 rfl ?_
        refine x_iload_n (q := 18) C dX6_howManySettings_17 rfl 2 rfl rfl ?_
        refine xa_X20 (q := 19) C (by omega) dX6_howManySettings_18 rfl ?_
        refine x_topn (tx P i) (okc_tx (P := P) okc (by omega)) ?_
        refine x_Vf (q := 22) (As := [.int (nI (tx P i))]) (rest := []) C (c_X6_firstOf hD ok (tx P i) (by have := okc_txS okc (i := i) (by omega); omega)) xs_X6_firstOf tim_X6_firstOf tsel_X6_firstOf tml_X6_38 (by decide) 4 rfl (ci := 6) rfl rfl rfl (Nat.le_of_ble_eq_true rfl) dX6_howManySettings_19 rfl ?_
        refine x_topn (fi P (tx P i)) (by rw [foX, if_pos (Nat.lt_of_le_of_lt (fi_lt (by omega) rfl) (show i < nt P by omega))]) ?_
        refine x_iload_n (q := 23) C dX6_howManySettings_22 rfl 2 rfl rfl ?_
        refine x_icmp_ne_n (q := 26) (tgt := 29) C dX6_howManySettings_23 (by have := fi_le P (tx P i); omega) (by omega) (by decide) rfl (fun c23 => ?_) (fun c23 => ?_)
        · refine x_iinc (q := 32) (v := nI (i + 1)) (lv' := [(0, .ref (ad 4)), (1, .int (nI n)), (2, .int (nI (i + 1)))]) C dX6_howManySettings_29 2 rfl (nI_add i 1) (by decide) rfl rfl rfl ?_
          refine x_goto (tgt := 4) C dX6_howManySettings_32 (by decide) ?_
          exact ih4 (i + 1) n (by omega) (by rw [fa_cnt, ← hn, if_neg (by simpa using c23)]; rfl) (by omega)
        · refine x_iinc (q := 29) (v := nI (n + 1)) (lv' := [(0, .ref (ad 4)), (1, .int (nI (n + 1))), (2, .int (nI i))]) C dX6_howManySettings_26 1 rfl (nI_add n 1) (by decide) rfl rfl rfl ?_
          refine x_iinc (q := 32) (v := nI (i + 1)) (lv' := [(0, .ref (ad 4)), (1, .int (nI (n + 1))), (2, .int (nI (i + 1)))]) C dX6_howManySettings_29 2 rfl (nI_add i 1) (by decide) rfl rfl rfl ?_
          refine x_goto (tgt := 4) C dX6_howManySettings_32 (by decide) ?_
          exact ih4 (i + 1) (n + 1) (by omega) (by rw [fa_cnt, ← hn, if_pos (decide_eq_true c23)]) (by omega)
  exact L4 _ 0 0 (Nat.zero_le _) rfl (Nat.lt_succ_self _)

end TRIALS
end
section
section RULES
variable {l : Launch} {D : va_G} {ad : Nat → Nat} {cI cZ : ClassId} {A : Nat → Prop}

set_option maxRecDepth 100000 in
set_option maxHeartbeats 4000000 in
theorem c_X5_add (hD : ∀ P T, va_D A (wX ad cI cZ P T)) {P T : St} (ok : okX P) (nb a v b x : Int32) (hnb : vp_nar .boolean nb = nb) (hn : nr P < 12) : XMV l D (tyz cI cZ) (wX ad cI cZ) A yX5_add cX5_add 6 none rmX5_add [.ref (ad 2), .int nb, .int a, .int v, .int b, .int x] P T (fun P' T' => P' = st1 (st1 (st1 (st1 (st1 (st1 P 4 (nr P) nb) 5 (nr P) a) 6 (nr P) v) 7 (nr P) b) 8 (nr P) x) 22 0 (nI (nr P + 1)) ∧ T' = T) := by
  have okc := ok.1
  have hk6 := okc_kn6 okc
  have hS144 := okc_S144 okc
  have hS1 := okc_S1 okc
  have hnr := okc_nr12 okc
  have hnt := okc_nt60 okc
  have hnz := okc_nz50 okc
  have hsd := okc_sdb okc
  refine x_start_v (lv := [(0, .ref (ad 2)), (1, .int nb), (2, .int a), (3, .int v), (4, .int b), (5, .int x)]) (own := RX5) (by decide) rfl hD (Nat.le_of_ble_eq_true rfl) rfl ?_
  intro p e s m args below meth c C
  refine x_aload_n (q := 1) C dX5_add_0 rfl 0 rfl rfl ?_
  refine xg_X5_needs (q := 4) C tfl_X5_15 dX5_add_1 rfl ?_
  refine x_aload_n (q := 5) C dX5_add_4 rfl 0 rfl rfl ?_
  refine xg_X5_many (q := 8) C tfl_X5_9 dX5_add_5 rfl ?_
  refine x_topn (nr P) (okc_nr (P := P) okc) ?_
  refine x_iload_n (q := 9) C dX5_add_8 rfl 1 rfl rfl ?_
  refine xs_X12 (q := 10) C (by omega) hnb dX5_add_9 rfl ?_
  refine x_aload_n (q := 11) C dX5_add_10 rfl 0 rfl rfl ?_
  refine xg_X5_firstKnobs (q := 14) C tfl_X5_19 dX5_add_11 rfl ?_
  refine x_aload_n (q := 15) C dX5_add_14 rfl 0 rfl rfl ?_
  refine xg_X5_many (q := 18) C tfl_X5_9 dX5_add_15 rfl ?_
  refine x_topn (nr P) (okc_nr (P := P) okc) ?_
  refine x_iload_n (q := 19) C dX5_add_18 rfl 2 rfl rfl ?_
  refine xs_X13 (q := 20) C (by omega) dX5_add_19 rfl ?_
  refine x_aload_n (q := 21) C dX5_add_20 rfl 0 rfl rfl ?_
  refine xg_X5_firstValues (q := 24) C tfl_X5_23 dX5_add_21 rfl ?_
  refine x_aload_n (q := 25) C dX5_add_24 rfl 0 rfl rfl ?_
  refine xg_X5_many (q := 28) C tfl_X5_9 dX5_add_25 rfl ?_
  refine x_topn (nr P) (okc_nr (P := P) okc) ?_
  refine x_iload_n (q := 29) C dX5_add_28 rfl 3 rfl rfl ?_
  refine xs_X14 (q := 30) C (by omega) dX5_add_29 rfl ?_
  refine x_aload_n (q := 31) C dX5_add_30 rfl 0 rfl rfl ?_
  refine xg_X5_secondKnobs (q := 34) C tfl_X5_26 dX5_add_31 rfl ?_
  refine x_aload_n (q := 35) C dX5_add_34 rfl 0 rfl rfl ?_
  refine xg_X5_many (q := 38) C tfl_X5_9 dX5_add_35 rfl ?_
  refine x_topn (nr P) (okc_nr (P := P) okc) ?_
  refine x_iload (q := 40) C dX5_add_38 4 rfl rfl ?_
  refine xs_X15 (q := 41) C (by omega) dX5_add_40 rfl ?_
  refine x_aload_n (q := 42) C dX5_add_41 rfl 0 rfl rfl ?_
  refine xg_X5_secondValues (q := 45) C tfl_X5_29 dX5_add_42 rfl ?_
  refine x_aload_n (q := 46) C dX5_add_45 rfl 0 rfl rfl ?_
  refine xg_X5_many (q := 49) C tfl_X5_9 dX5_add_46 rfl ?_
  refine x_topn (nr P) (okc_nr (P := P) okc) ?_
  refine x_iload (q := 51) C dX5_add_49 5 rfl rfl ?_
  refine xs_X16 (q := 52) C (by omega) dX5_add_51 rfl ?_
  refine x_aload_n (q := 53) C dX5_add_52 rfl 0 rfl rfl ?_
  refine x_dup (q := 54) C dX5_add_53 rfl rfl ?_
  refine xg_X5_many (q := 57) C tfl_X5_9 dX5_add_54 rfl ?_
  refine x_topn (nr P) (okc_nr (P := P) okc) ?_
  refine x_iconst (q := 58) (v := nI 1) C dX5_add_57 (by decide) rfl ?_
  refine x_iadd_n (q := 59) C dX5_add_58 rfl ?_
  refine xp_X5_many (q := 62) C tfl_X5_9 dX5_add_59 rfl ?_
  exact x_vret C dX5_add_62 ⟨rfl, rfl⟩

set_option maxRecDepth 100000 in
set_option maxHeartbeats 4000000 in
theorem c_X5_dropLatest (hD : ∀ P T, va_D A (wX ad cI cZ P T)) {P T : St} (ok : okX P) (hn : 0 < nr P) : XMV l D (tyz cI cZ) (wX ad cI cZ) A yX5_dropLatest cX5_dropLatest 1 none rmX5_dropLatest [.ref (ad 2)] P T (fun P' T' => P' = st1 P 22 0 (nI (nr P - 1)) ∧ T' = T) := by
  have okc := ok.1
  have hk6 := okc_kn6 okc
  have hS144 := okc_S144 okc
  have hS1 := okc_S1 okc
  have hnr := okc_nr12 okc
  have hnt := okc_nt60 okc
  have hnz := okc_nz50 okc
  have hsd := okc_sdb okc
  refine x_start_v (lv := [(0, .ref (ad 2))]) (own := RX5) (by decide) rfl hD (Nat.le_of_ble_eq_true rfl) rfl ?_
  intro p e s m args below meth c C
  refine x_aload_n (q := 1) C dX5_dropLatest_0 rfl 0 rfl rfl ?_
  refine x_dup (q := 2) C dX5_dropLatest_1 rfl rfl ?_
  refine xg_X5_many (q := 5) C tfl_X5_9 dX5_dropLatest_2 rfl ?_
  refine x_topn (nr P) (okc_nr (P := P) okc) ?_
  refine x_iconst (q := 6) (v := nI 1) C dX5_dropLatest_5 (by decide) rfl ?_
  refine x_isub_n (q := 7) C dX5_dropLatest_6 (by omega) rfl ?_
  refine xp_X5_many (q := 10) C tfl_X5_9 dX5_dropLatest_7 rfl ?_
  exact x_vret C dX5_dropLatest_10 ⟨rfl, rfl⟩

set_option maxRecDepth 100000 in
set_option maxHeartbeats 4000000 in
theorem c_X5_isAgainst (hD : ∀ P T, va_D A (wX ad cI cZ P T)) {P T : St} (ok : okX P) (i x : Nat) (hi : i < nr P) (hx : x < 2 ^ 31) : XMI l D (tyz cI cZ) (wX ad cI cZ) A yX5_isAgainst cX5_isAgainst 5 (some .boolean) rmX5_isAgainst [.ref (ad 2), .int (nI i), .int (nI x), .ref (ad 1)] P T (fun r P' T' => r = bI (agX P x i) ∧ P' = P ∧ T' = T) := by
  have okc := ok.1
  have hk6 := okc_kn6 okc
  have hS144 := okc_S144 okc
  have hS1 := okc_S1 okc
  have hnr := okc_nr12 okc
  have hnt := okc_nt60 okc
  have hnz := okc_nz50 okc
  have hsd := okc_sdb okc
  have h51 := (ok.2.2.1 i hi).1.2
  have h72 := (ok.2.2.1 i hi).2.2
  refine x_start_i (lv := [(0, .ref (ad 2)), (1, .int (nI i)), (2, .int (nI x)), (3, .ref (ad 1))]) (own := RX5) (by decide) rfl hD (Nat.le_of_ble_eq_true rfl) rfl ?_
  intro p e s m args below meth c C
  refine x_aload_n (q := 1) C dX5_isAgainst_0 rfl 3 rfl rfl ?_
  refine x_iload_n (q := 2) C dX5_isAgainst_1 rfl 2 rfl rfl ?_
  refine x_aload_n (q := 3) C dX5_isAgainst_2 rfl 0 rfl rfl ?_
  refine xg_X5_firstKnobs (q := 6) C tfl_X5_19 dX5_isAgainst_3 rfl ?_
  refine x_iload_n (q := 7) C dX5_isAgainst_6 rfl 1 rfl rfl ?_
  refine xa_X13 (q := 8) C (by omega) dX5_isAgainst_7 rfl ?_
  refine x_topn (rk1 P i) (ok.2.2.1 _ (by omega)).1.1 ?_
  refine x_Vf (q := 11) (As := [.int (nI x), .int (nI (rk1 P i))]) (rest := []) C (c_X2_valueIn hD ok x (rk1 P i) (by omega) (by omega)) xs_X2_valueIn tim_X2_valueIn tsel_X2_valueIn tml_X5_36 (by decide) 1 rfl (ci := 2) rfl rfl rfl (Nat.le_of_ble_eq_true rfl) dX5_isAgainst_8 rfl ?_
  refine x_aload_n (q := 12) C dX5_isAgainst_11 rfl 0 rfl rfl ?_
  refine xg_X5_firstValues (q := 15) C tfl_X5_23 dX5_isAgainst_12 rfl ?_
  refine x_iload_n (q := 16) C dX5_isAgainst_15 rfl 1 rfl rfl ?_
  refine xa_X14 (q := 17) C (by omega) dX5_isAgainst_16 rfl ?_
  refine x_icmp_eq (q := 20) (tgt := 22) C dX5_isAgainst_17 (by decide) rfl (fun c17 => ?_) (fun c17 => ?_)
  · refine x_aload_n (q := 23) C dX5_isAgainst_22 rfl 3 rfl rfl ?_
    refine x_iload_n (q := 24) C dX5_isAgainst_23 rfl 2 rfl rfl ?_
    refine x_aload_n (q := 25) C dX5_isAgainst_24 rfl 0 rfl rfl ?_
    refine xg_X5_secondKnobs (q := 28) C tfl_X5_26 dX5_isAgainst_25 rfl ?_
    refine x_iload_n (q := 29) C dX5_isAgainst_28 rfl 1 rfl rfl ?_
    refine xa_X15 (q := 30) C (by omega) dX5_isAgainst_29 rfl ?_
    refine x_topn (rk2 P i) (ok.2.2.1 _ (by omega)).2.1 ?_
    refine x_Vf (q := 33) (As := [.int (nI x), .int (nI (rk2 P i))]) (rest := []) C (c_X2_valueIn hD ok x (rk2 P i) (by omega) (by omega)) xs_X2_valueIn tim_X2_valueIn tsel_X2_valueIn tml_X5_36 (by decide) 1 rfl (ci := 2) rfl rfl rfl (Nat.le_of_ble_eq_true rfl) dX5_isAgainst_30 rfl ?_
    refine x_aload_n (q := 34) C dX5_isAgainst_33 rfl 0 rfl rfl ?_
    refine xg_X5_secondValues (q := 37) C tfl_X5_29 dX5_isAgainst_34 rfl ?_
    refine x_iload_n (q := 38) C dX5_isAgainst_37 rfl 1 rfl rfl ?_
    refine xa_X16 (q := 39) C (by omega) dX5_isAgainst_38 rfl ?_
    refine x_icmp_ne (q := 42) (tgt := 46) C dX5_isAgainst_39 (by decide) rfl (fun c39 => ?_) (fun c39 => ?_)
    · refine x_iconst (q := 47) (v := nI 0) C dX5_isAgainst_46 (by decide) rfl ?_
      refine x_istore (q := 49) (lv' := [(0, .ref (ad 2)), (1, .int (nI i)), (2, .int (nI x)), (3, .ref (ad 1)), (4, .int (nI 0))]) C dX5_isAgainst_47 (by decide) rfl rfl rfl ?_
      refine x_iload (q := 51) C dX5_isAgainst_49 4 rfl rfl ?_
      refine x_aload_n (q := 52) C dX5_isAgainst_51 rfl 0 rfl rfl ?_
      refine xg_X5_needs (q := 55) C tfl_X5_15 dX5_isAgainst_52 rfl ?_
      refine x_iload_n (q := 56) C dX5_isAgainst_55 rfl 1 rfl rfl ?_
      refine xa_X12 (q := 57) C (by omega) dX5_isAgainst_56 rfl ?_
      refine x_icmp_eq (q := 60) (tgt := 64) C dX5_isAgainst_57 (by decide) rfl (fun c57 => ?_) (fun c57 => ?_)
      · refine x_iconst (q := 65) (v := nI 0) C dX5_isAgainst_64 (by decide) rfl ?_
        exact x_zret C dX5_isAgainst_65 rfl ⟨bI_f (fun h => h.2 (by rw [← bI_f c39]; exact c57)), rfl, rfl⟩
      · refine x_iconst (q := 61) (v := nI 1) C dX5_isAgainst_60 (by decide) rfl ?_
        refine x_goto (tgt := 65) C dX5_isAgainst_61 (by decide) ?_
        exact x_zret C dX5_isAgainst_65 rfl ⟨bI_t ⟨c17, by rw [← bI_f c39]; exact c57⟩, rfl, rfl⟩
    · refine x_iconst (q := 43) (v := nI 1) C dX5_isAgainst_42 (by decide) rfl ?_
      refine x_goto (tgt := 47) C dX5_isAgainst_43 (by decide) ?_
      refine x_istore (q := 49) (lv' := [(0, .ref (ad 2)), (1, .int (nI i)), (2, .int (nI x)), (3, .ref (ad 1)), (4, .int (nI 1))]) C dX5_isAgainst_47 (by decide) rfl rfl rfl ?_
      refine x_iload (q := 51) C dX5_isAgainst_49 4 rfl rfl ?_
      refine x_aload_n (q := 52) C dX5_isAgainst_51 rfl 0 rfl rfl ?_
      refine xg_X5_needs (q := 55) C tfl_X5_15 dX5_isAgainst_52 rfl ?_
      refine x_iload_n (q := 56) C dX5_isAgainst_55 rfl 1 rfl rfl ?_
      refine xa_X12 (q := 57) C (by omega) dX5_isAgainst_56 rfl ?_
      refine x_icmp_eq (q := 60) (tgt := 64) C dX5_isAgainst_57 (by decide) rfl (fun c57 => ?_) (fun c57 => ?_)
      · refine x_iconst (q := 65) (v := nI 0) C dX5_isAgainst_64 (by decide) rfl ?_
        exact x_zret C dX5_isAgainst_65 rfl ⟨bI_f (fun h => h.2 (by rw [← bI_t c39]; exact c57)), rfl, rfl⟩
      · refine x_iconst (q := 61) (v := nI 1) C dX5_isAgainst_60 (by decide) rfl ?_
        refine x_goto (tgt := 65) C dX5_isAgainst_61 (by decide) ?_
        exact x_zret C dX5_isAgainst_65 rfl ⟨bI_t ⟨c17, by rw [← bI_t c39]; exact c57⟩, rfl, rfl⟩
  · refine x_iconst (q := 21) (v := nI 0) C dX5_isAgainst_20 (by decide) rfl ?_
    exact x_zret C dX5_isAgainst_21 rfl ⟨bI_f (fun h => c17 h.1), rfl, rfl⟩

set_option maxRecDepth 100000 in
set_option maxHeartbeats 4000000 in
theorem c_X5_allow (hD : ∀ P T, va_D A (wX ad cI cZ P T)) {P T : St} (ok : okX P) (x : Nat) (hx : x < 2 ^ 31) : XMI l D (tyz cI cZ) (wX ad cI cZ) A yX5_allow cX5_allow 4 (some .boolean) rmX5_allow [.ref (ad 2), .int (nI x), .ref (ad 1)] P T (fun r P' T' => r = bI (alX P x) ∧ P' = P ∧ T' = T) := by
  have okc := ok.1
  have hk6 := okc_kn6 okc
  have hS144 := okc_S144 okc
  have hS1 := okc_S1 okc
  have hnr := okc_nr12 okc
  have hnt := okc_nt60 okc
  have hnz := okc_nz50 okc
  have hsd := okc_sdb okc
  refine x_start_i (lv := [(0, .ref (ad 2)), (1, .int (nI x)), (2, .ref (ad 1))]) (own := RX5) (by decide) rfl hD (Nat.le_of_ble_eq_true rfl) rfl ?_
  intro p e s m args below meth c C
  refine x_iconst (q := 1) (v := nI 0) C dX5_allow_0 (by decide) rfl ?_
  refine x_istore_n (q := 2) (lv' := [(0, .ref (ad 2)), (1, .int (nI x)), (2, .ref (ad 1)), (3, .int (nI 0))]) C dX5_allow_1 rfl (by decide) rfl rfl rfl ?_
  have L2 : ∀ (f1 : Nat) (i : Nat), (i ≤ nr P) → (∀ j, j < i → ¬ agX P x j) → nr P - i < f1 → XW p l e rmX5_allow s m args below meth c D (wX ad cI cZ) A 4 (MQ below (XPI D (tyz cI cZ) (wX ad cI cZ) A (fun r P' T' => r = bI (alX P x) ∧ P' = P ∧ T' = T)) args s 0 0 A) 2 [(0, .ref (ad 2)), (1, .int (nI x)), (2, .ref (ad 1)), (3, .int (nI i))] [] P T := by
    intro f1
    induction f1 with
    | zero => intro i hi hq hm; exact absurd hm (Nat.not_lt_zero _)
    | succ f1 ih2 =>
      intro i hi hq hm2
      refine x_iload_n (q := 3) C dX5_allow_2 rfl 3 rfl rfl ?_
      refine x_aload_n (q := 4) C dX5_allow_3 rfl 0 rfl rfl ?_
      refine xg_X5_many (q := 7) C tfl_X5_9 dX5_allow_4 rfl ?_
      refine x_topn (nr P) (okc_nr (P := P) okc) ?_
      refine x_icmp_ge_n (q := 10) (tgt := 28) C dX5_allow_7 (by omega) (by omega) (by decide) rfl (fun c7 => ?_) (fun c7 => ?_)
      · refine x_iconst (q := 29) (v := nI 1) C dX5_allow_28 (by decide) rfl ?_
        exact x_zret C dX5_allow_29 rfl ⟨bI_t (fun j hj => hq j (by omega)), rfl, rfl⟩
      · refine x_aload_n (q := 11) C dX5_allow_10 rfl 0 rfl rfl ?_
        refine x_iload_n (q := 12) C dX5_allow_11 rfl 3 rfl rfl ?_
        refine x_iload_n (q := 13) C dX5_allow_12 rfl 1 rfl rfl ?_
        refine x_aload_n (q := 14) C dX5_allow_13 rfl 2 rfl rfl ?_
        refine x_Vf (q := 17) (As := [.int (nI i), .int (nI x), .ref (ad 1)]) (rest := []) C (c_X5_isAgainst hD ok i x (by omega) (by omega)) xs_X5_isAgainst tim_X5_isAgainst tsel_X5_isAgainst tml_X5_32 (by decide) 2 rfl (ci := 5) rfl rfl rfl (Nat.le_of_ble_eq_true rfl) dX5_allow_14 rfl ?_
        refine x_if_eq_b (q := 20) (tgt := 22) C dX5_allow_17 (by decide) rfl (fun c17 => ?_) (fun c17 => ?_)
        · refine x_iinc (q := 25) (v := nI (i + 1)) (lv' := [(0, .ref (ad 2)), (1, .int (nI x)), (2, .ref (ad 1)), (3, .int (nI (i + 1)))]) C dX5_allow_22 3 rfl (nI_add i 1) (by decide) rfl rfl rfl ?_
          refine x_goto (tgt := 2) C dX5_allow_25 (by decide) ?_
          exact ih2 (i + 1) (by omega) (lt_s hq c17) (by omega)
        · refine x_iconst (q := 21) (v := nI 0) C dX5_allow_20 (by decide) rfl ?_
          exact x_zret C dX5_allow_21 rfl ⟨bI_f (fun h => h i (by omega) c17), rfl, rfl⟩
  exact L2 _ 0 (Nat.zero_le _) (fun j hj => absurd hj (Nat.not_lt_zero j)) (Nat.lt_succ_self _)

set_option maxRecDepth 100000 in
set_option maxHeartbeats 4000000 in
theorem c_X1_changeSingle (hD : ∀ P T, va_D A (wX ad cI cZ P T)) {P T : St} (k v : Nat) (hk : k < 6) (hv : v < 4) (x : Int32) : XMI l D (tyz cI cZ) (wX ad cI cZ) A yX1_changeSingle cX1_changeSingle 6 (some .int) rmX1_changeSingle [.ref (ad 3), .int (nI k), .int (nI v), .int x] P T (fun r P' T' => r = P 9 (k * 4 + v) ∧ P' = st1 P 9 (k * 4 + v) x ∧ T' = T) := by
  refine x_start_i (lv := [(0, .ref (ad 3)), (1, .int (nI k)), (2, .int (nI v)), (3, .int x)]) (own := RX1) (by decide) rfl hD (Nat.le_of_ble_eq_true rfl) rfl ?_
  intro p e s m args below meth c C
  refine x_iload_n (q := 1) C dX1_changeSingle_0 rfl 1 rfl rfl ?_
  refine x_iload_n (q := 2) C dX1_changeSingle_1 rfl 2 rfl rfl ?_
  refine x_Sf (q := 5) (As := [.int (nI k), .int (nI v)]) (rest := []) C (c_X2_slot hD k v ) xs_X2_slot tst_X2_slot tml_X1_25 (by decide) rfl rfl (Nat.le_of_ble_eq_true rfl) dX1_changeSingle_2 rfl ?_
  refine x_namen (fun n1 hn1 => ?_)
  refine x_istore (q := 7) (lv' := [(0, .ref (ad 3)), (1, .int (nI k)), (2, .int (nI v)), (3, .int x), (4, .int (nI n1))]) C dX1_changeSingle_5 (by decide) rfl rfl rfl ?_
  refine x_aload_n (q := 8) C dX1_changeSingle_7 rfl 0 rfl rfl ?_
  refine xg_X1_singles (q := 11) C tfl_X1_15 dX1_changeSingle_8 rfl ?_
  refine x_iload (q := 13) C dX1_changeSingle_11 4 rfl rfl ?_
  refine xa_X17 (q := 14) C (by omega) dX1_changeSingle_13 rfl ?_
  refine x_istore (q := 16) (lv' := [(0, .ref (ad 3)), (1, .int (nI k)), (2, .int (nI v)), (3, .int x), (4, .int (nI n1)), (5, .int (P 9 n1))]) C dX1_changeSingle_14 (by decide) rfl rfl rfl ?_
  refine x_aload_n (q := 17) C dX1_changeSingle_16 rfl 0 rfl rfl ?_
  refine xg_X1_singles (q := 20) C tfl_X1_15 dX1_changeSingle_17 rfl ?_
  refine x_iload (q := 22) C dX1_changeSingle_20 4 rfl rfl ?_
  refine x_iload_n (q := 23) C dX1_changeSingle_22 rfl 3 rfl rfl ?_
  refine xs_X17 (q := 24) C (by omega) dX1_changeSingle_23 rfl ?_
  refine x_iload (q := 26) C dX1_changeSingle_24 5 rfl rfl ?_
  exact x_iret C dX1_changeSingle_26 ⟨by rw [hn1], by rw [hn1], rfl⟩

set_option maxRecDepth 100000 in
set_option maxHeartbeats 4000000 in
theorem c_X1_changeJoint (hD : ∀ P T, va_D A (wX ad cI cZ P T)) {P T : St} (k v b y : Nat) (hk : k < 6) (hv : v < 4) (hb : b < 6) (hy : y < 4) (x : Int32) : XMI l D (tyz cI cZ) (wX ad cI cZ) A yX1_changeJoint cX1_changeJoint 8 (some .int) rmX1_changeJoint [.ref (ad 3), .int (nI k), .int (nI v), .int (nI b), .int (nI y), .int x] P T (fun r P' T' => r = P 10 ((k * 4 + v) * 24 + (b * 4 + y)) ∧ P' = st1 P 10 ((k * 4 + v) * 24 + (b * 4 + y)) x ∧ T' = T) := by
  refine x_start_i (lv := [(0, .ref (ad 3)), (1, .int (nI k)), (2, .int (nI v)), (3, .int (nI b)), (4, .int (nI y)), (5, .int x)]) (own := RX1) (by decide) rfl hD (Nat.le_of_ble_eq_true rfl) rfl ?_
  intro p e s m args below meth c C
  refine x_iload_n (q := 1) C dX1_changeJoint_0 rfl 1 rfl rfl ?_
  refine x_iload_n (q := 2) C dX1_changeJoint_1 rfl 2 rfl rfl ?_
  refine x_Sf (q := 5) (As := [.int (nI k), .int (nI v)]) (rest := []) C (c_X2_slot hD k v ) xs_X2_slot tst_X2_slot tml_X1_25 (by decide) rfl rfl (Nat.le_of_ble_eq_true rfl) dX1_changeJoint_2 rfl ?_
  refine x_bipush (q := 7) (v := nI 24) C dX1_changeJoint_5 (by decide) rfl ?_
  refine x_imul_n (q := 8) C dX1_changeJoint_7 rfl ?_
  refine x_iload_n (q := 9) C dX1_changeJoint_8 rfl 3 rfl rfl ?_
  refine x_iload (q := 11) C dX1_changeJoint_9 4 rfl rfl ?_
  refine x_Sf (q := 14) (As := [.int (nI b), .int (nI y)]) (rest := [.int (nI ((k * 4 + v) * 24))]) C (c_X2_slot hD b y ) xs_X2_slot tst_X2_slot tml_X1_25 (by decide) rfl rfl (Nat.le_of_ble_eq_true rfl) dX1_changeJoint_11 rfl ?_
  refine x_iadd_n (q := 15) C dX1_changeJoint_14 rfl ?_
  refine x_namen (fun n1 hn1 => ?_)
  refine x_istore (q := 17) (lv' := [(0, .ref (ad 3)), (1, .int (nI k)), (2, .int (nI v)), (3, .int (nI b)), (4, .int (nI y)), (5, .int x), (6, .int (nI n1))]) C dX1_changeJoint_15 (by decide) rfl rfl rfl ?_
  refine x_aload_n (q := 18) C dX1_changeJoint_17 rfl 0 rfl rfl ?_
  refine xg_X1_joints (q := 21) C tfl_X1_19 dX1_changeJoint_18 rfl ?_
  refine x_iload (q := 23) C dX1_changeJoint_21 6 rfl rfl ?_
  refine xa_X18 (q := 24) C (by omega) dX1_changeJoint_23 rfl ?_
  refine x_istore (q := 26) (lv' := [(0, .ref (ad 3)), (1, .int (nI k)), (2, .int (nI v)), (3, .int (nI b)), (4, .int (nI y)), (5, .int x), (6, .int (nI n1)), (7, .int (P 10 n1))]) C dX1_changeJoint_24 (by decide) rfl rfl rfl ?_
  refine x_aload_n (q := 27) C dX1_changeJoint_26 rfl 0 rfl rfl ?_
  refine xg_X1_joints (q := 30) C tfl_X1_19 dX1_changeJoint_27 rfl ?_
  refine x_iload (q := 32) C dX1_changeJoint_30 6 rfl rfl ?_
  refine x_iload (q := 34) C dX1_changeJoint_32 5 rfl rfl ?_
  refine xs_X18 (q := 35) C (by omega) dX1_changeJoint_34 rfl ?_
  refine x_iload (q := 37) C dX1_changeJoint_35 7 rfl rfl ?_
  exact x_iret C dX1_changeJoint_37 ⟨by rw [hn1], by rw [hn1], rfl⟩

set_option maxRecDepth 100000 in
set_option maxHeartbeats 4000000 in
theorem c_X1_sumFor (hD : ∀ P T, va_D A (wX ad cI cZ P T)) {P T : St} (ok : okX P) (x : Nat) (hx : x < 2 ^ 31) : XMI l D (tyz cI cZ) (wX ad cI cZ) A yX1_sumFor cX1_sumFor 6 (some .int) rmX1_sumFor [.ref (ad 3), .int (nI x), .ref (ad 1)] P T (fun r P' T' => r = wo P x ∧ P' = P ∧ ∀ j, j ≠ 11 → T' j = T j) := by
  have okc := ok.1
  have hk6 := okc_kn6 okc
  have hS144 := okc_S144 okc
  have hS1 := okc_S1 okc
  have hnr := okc_nr12 okc
  have hnt := okc_nt60 okc
  have hnz := okc_nz50 okc
  have hsd := okc_sdb okc
  refine x_start_i (lv := [(0, .ref (ad 3)), (1, .int (nI x)), (2, .ref (ad 1))]) (own := RX1) (by decide) rfl hD (Nat.le_of_ble_eq_true rfl) rfl ?_
  intro p e s m args below meth c C
  refine x_aload_n (q := 1) C dX1_sumFor_0 rfl 0 rfl rfl ?_
  refine xg_X1_base (q := 4) C tfl_X1_9 dX1_sumFor_1 rfl ?_
  refine x_istore_n (q := 5) (lv' := [(0, .ref (ad 3)), (1, .int (nI x)), (2, .ref (ad 1)), (3, .int (P 23 0))]) C dX1_sumFor_4 rfl (by decide) rfl rfl rfl ?_
  refine x_iconst (q := 6) (v := nI 0) C dX1_sumFor_5 (by decide) rfl ?_
  refine x_istore (q := 8) (lv' := [(0, .ref (ad 3)), (1, .int (nI x)), (2, .ref (ad 1)), (3, .int (P 23 0)), (4, .int (nI 0))]) C dX1_sumFor_6 (by decide) rfl rfl rfl ?_
  have L8 : ∀ (f1 : Nat) (b : Nat) (a : Int32) (Tq : St), (b ≤ kn P) → (a = P 23 0 + sm (wot P x) b) → (∀ j, j ≠ 11 → Tq j = T j) → (∀ j, j < b → Tq 11 j = nI (slv P x j)) → kn P - b < f1 → XW p l e rmX1_sumFor s m args below meth c D (wX ad cI cZ) A 6 (MQ below (XPI D (tyz cI cZ) (wX ad cI cZ) A (fun r P' T' => r = wo P x ∧ P' = P ∧ ∀ j, j ≠ 11 → T' j = T j)) args s 0 0 A) 8 [(0, .ref (ad 3)), (1, .int (nI x)), (2, .ref (ad 1)), (3, .int a), (4, .int (nI b))] [] P Tq := by
    intro f1
    induction f1 with
    | zero => intro b a Tq hb ha hT hs hm; exact absurd hm (Nat.not_lt_zero _)
    | succ f1 ih8 =>
      intro b a Tq hb ha hT hs hm8
      refine x_iload (q := 10) C dX1_sumFor_8 4 rfl rfl ?_
      refine x_aload_n (q := 11) C dX1_sumFor_10 rfl 2 rfl rfl ?_
      refine x_Vf (q := 14) (As := []) (rest := [.int (nI b)]) C (c_X2_howMany hD ) xs_X2_howMany tim_X2_howMany tsel_X2_howMany tml_X1_31 (by decide) 1 rfl (ci := 2) rfl rfl rfl (Nat.le_of_ble_eq_true rfl) dX1_sumFor_11 rfl ?_
      refine x_topn (kn P) (okc_kn (P := P) okc) ?_
      refine x_icmp_ge_n (q := 17) (tgt := 99) C dX1_sumFor_14 (by omega) (by omega) (by decide) rfl (fun c14 => ?_) (fun c14 => ?_)
      · refine x_iload_n (q := 100) C dX1_sumFor_99 rfl 3 rfl rfl ?_
        exact x_iret C dX1_sumFor_100 ⟨by rw [ha, show b = kn P by omega]; rfl, rfl, hT⟩
      · refine x_aload_n (q := 18) C dX1_sumFor_17 rfl 0 rfl rfl ?_
        refine xg_X1_slots (q := 21) C tfl_X1_22 dX1_sumFor_18 rfl ?_
        refine x_iload (q := 23) C dX1_sumFor_21 4 rfl rfl ?_
        refine x_iload (q := 25) C dX1_sumFor_23 4 rfl rfl ?_
        refine x_aload_n (q := 26) C dX1_sumFor_25 rfl 2 rfl rfl ?_
        refine x_iload_n (q := 27) C dX1_sumFor_26 rfl 1 rfl rfl ?_
        refine x_iload (q := 29) C dX1_sumFor_27 4 rfl rfl ?_
        refine x_Vf (q := 32) (As := [.int (nI x), .int (nI b)]) (rest := [.int (nI b), .int (nI b), .ref (ad 19)]) C (c_X2_valueIn hD ok x b (by omega) (by omega)) xs_X2_valueIn tim_X2_valueIn tsel_X2_valueIn tml_X1_35 (by decide) 1 rfl (ci := 2) rfl rfl rfl (Nat.le_of_ble_eq_true rfl) dX1_sumFor_29 rfl ?_
        refine x_Sf (q := 35) (As := [.int (nI b), .int (nI (val P x b))]) (rest := [.int (nI b), .ref (ad 19)]) C (c_X2_slot hD b (val P x b) ) xs_X2_slot tst_X2_slot tml_X1_25 (by decide) rfl rfl (Nat.le_of_ble_eq_true rfl) dX1_sumFor_32 rfl ?_
        refine xs_X19 (q := 36) C (by omega) dX1_sumFor_35 rfl ?_
        refine x_iload_n (q := 37) C dX1_sumFor_36 rfl 3 rfl rfl ?_
        refine x_aload_n (q := 38) C dX1_sumFor_37 rfl 0 rfl rfl ?_
        refine xg_X1_singles (q := 41) C tfl_X1_15 dX1_sumFor_38 rfl ?_
        refine x_aload_n (q := 42) C dX1_sumFor_41 rfl 0 rfl rfl ?_
        refine xg_X1_slots (q := 45) C tfl_X1_22 dX1_sumFor_42 rfl ?_
        refine x_iload (q := 47) C dX1_sumFor_45 4 rfl rfl ?_
        refine xa_X19 (q := 48) C (by omega) dX1_sumFor_47 rfl ?_
        refine x_topn (slv P x b) st1_at ?_
        refine xa_X17 (q := 49) C (slv_lt okc x (by omega)) dX1_sumFor_48 rfl ?_
        refine x_iadd (q := 50) C dX1_sumFor_49 rfl ?_
        refine x_topi (fun z2 hz2 => ?_)
        refine x_istore_n (q := 51) (lv' := [(0, .ref (ad 3)), (1, .int (nI x)), (2, .ref (ad 1)), (3, .int z2), (4, .int (nI b))]) C dX1_sumFor_50 rfl (by decide) rfl rfl rfl ?_
        have hz := hz2
        refine x_iconst (q := 52) (v := nI 0) C dX1_sumFor_51 (by decide) rfl ?_
        refine x_istore (q := 54) (lv' := [(0, .ref (ad 3)), (1, .int (nI x)), (2, .ref (ad 1)), (3, .int z2), (4, .int (nI b)), (5, .int (nI 0))]) C dX1_sumFor_52 (by decide) rfl rfl rfl ?_
        have L54 : ∀ (f3 : Nat) (a2 : Nat) (c2 : Int32), (a2 ≤ b) → (c2 = z2 + sm (wjt P x b) a2) → b - a2 < f3 → XW p l e rmX1_sumFor s m args below meth c D (wX ad cI cZ) A 6 (MQ below (XPI D (tyz cI cZ) (wX ad cI cZ) A (fun r P' T' => r = wo P x ∧ P' = P ∧ ∀ j, j ≠ 11 → T' j = T j)) args s 0 0 A) 54 [(0, .ref (ad 3)), (1, .int (nI x)), (2, .ref (ad 1)), (3, .int c2), (4, .int (nI b)), (5, .int (nI a2))] [] P (st1 Tq 11 b (nI (b * 4 + (val P x b)))) := by
          intro f3
          induction f3 with
          | zero => intro a2 c2 h2 ha2 hm; exact absurd hm (Nat.not_lt_zero _)
          | succ f3 ih54 =>
            intro a2 c2 h2 ha2 hm54
            refine x_iload (q := 56) C dX1_sumFor_54 5 rfl rfl ?_
            refine x_iload (q := 58) C dX1_sumFor_56 4 rfl rfl ?_
            refine x_icmp_ge_n (q := 61) (tgt := 93) C dX1_sumFor_58 (by omega) (by omega) (by decide) rfl (fun c58 => ?_) (fun c58 => ?_)
            · refine x_iinc (q := 96) (v := nI (b + 1)) (lv' := [(0, .ref (ad 3)), (1, .int (nI x)), (2, .ref (ad 1)), (3, .int c2), (4, .int (nI (b + 1))), (5, .int (nI a2))]) C dX1_sumFor_93 4 rfl (nI_add b 1) (by decide) rfl rfl rfl ?_
              refine x_goto (tgt := 8) C dX1_sumFor_96 (by decide) ?_
              refine x_lv [0, 1, 2, 3, 4] rfl ?_
              exact ih8 (b + 1) _ _ (by omega) (by rw [ha2, show a2 = b by omega, hz, sm, wot, Int32.add_assoc, ha, Int32.add_assoc]) (fun j hj => by rw [st1_ne hj]; exact hT j hj) (lt_s (fun j hj => by rw [st1_no (by omega)]; exact hs j hj) st1_at) (by omega)
            · refine x_iload_n (q := 62) C dX1_sumFor_61 rfl 3 rfl rfl ?_
              refine x_aload_n (q := 63) C dX1_sumFor_62 rfl 0 rfl rfl ?_
              refine xg_X1_joints (q := 66) C tfl_X1_19 dX1_sumFor_63 rfl ?_
              refine x_aload_n (q := 67) C dX1_sumFor_66 rfl 0 rfl rfl ?_
              refine xg_X1_slots (q := 70) C tfl_X1_22 dX1_sumFor_67 rfl ?_
              refine x_iload (q := 72) C dX1_sumFor_70 5 rfl rfl ?_
              refine xa_X19 (q := 73) C (by omega) dX1_sumFor_72 rfl ?_
              refine x_topn (slv P x a2) (by rw [st1_no (by omega)]; exact hs a2 (by omega)) ?_
              refine x_bipush (q := 75) (v := nI 24) C dX1_sumFor_73 (by decide) rfl ?_
              refine x_imul_n (q := 76) C dX1_sumFor_75 rfl ?_
              refine x_aload_n (q := 77) C dX1_sumFor_76 rfl 0 rfl rfl ?_
              refine xg_X1_slots (q := 80) C tfl_X1_22 dX1_sumFor_77 rfl ?_
              refine x_iload (q := 82) C dX1_sumFor_80 4 rfl rfl ?_
              refine xa_X19 (q := 83) C (by omega) dX1_sumFor_82 rfl ?_
              refine x_topn (slv P x b) st1_at ?_
              refine x_iadd_n (q := 84) C dX1_sumFor_83 rfl ?_
              refine xa_X18 (q := 85) C (by have := slv_lt okc x (k := a2) (by omega); have := slv_lt okc x (k := b) (by omega); omega) dX1_sumFor_84 rfl ?_
              refine x_iadd (q := 86) C dX1_sumFor_85 rfl ?_
              refine x_topi (fun z4 hz4 => ?_)
              refine x_istore_n (q := 87) (lv' := [(0, .ref (ad 3)), (1, .int (nI x)), (2, .ref (ad 1)), (3, .int z4), (4, .int (nI b)), (5, .int (nI a2))]) C dX1_sumFor_86 rfl (by decide) rfl rfl rfl ?_
              refine x_iinc (q := 90) (v := nI (a2 + 1)) (lv' := [(0, .ref (ad 3)), (1, .int (nI x)), (2, .ref (ad 1)), (3, .int z4), (4, .int (nI b)), (5, .int (nI (a2 + 1)))]) C dX1_sumFor_87 5 rfl (nI_add a2 1) (by decide) rfl rfl rfl ?_
              refine x_goto (tgt := 54) C dX1_sumFor_90 (by decide) ?_
              exact ih54 (a2 + 1) _ (by omega) (by rw [hz4, ha2, sm, Int32.add_assoc]; rfl) (by omega)
        exact L54 _ 0 _ (Nat.zero_le _) (Int32.add_zero _).symm (Nat.lt_succ_self _)
  exact L8 _ 0 _ _ (Nat.zero_le _) (Int32.add_zero _).symm (fun _ _ => rfl) (fun j hj => absurd hj (Nat.not_lt_zero j)) (Nat.lt_succ_self _)

end RULES
end
section
def alL (P : St) (n : Nat) : List Nat := (List.range n).filter (fun x => decide (alX P x))
theorem alL_y {P : St} {n : Nat} (h : alX P n) : alL P (n + 1) = alL P n ++ [n] := by
  unfold alL
  rw [List.range_succ, List.filter_append]
  congr 1
  simp only [List.filter_cons, List.filter_nil, decide_eq_true h, if_true]
theorem alL_n {P : St} {n : Nat} (h : ¬ alX P n) : alL P (n + 1) = alL P n := by
  unfold alL
  rw [List.range_succ, List.filter_append]
  simp only [List.filter_cons, List.filter_nil, decide_eq_false h]
  simp
theorem alL_len (P : St) (n : Nat) : (alL P n).length ≤ n := by
  refine Nat.le_trans (List.length_filter_le _ _) ?_
  rw [List.length_range]; exact Nat.le_refl _
theorem alL_mem {P : St} {n x : Nat} : x ∈ alL P n ↔ x < n ∧ alX P x := by
  unfold alL
  rw [List.mem_filter, List.mem_range, decide_eq_true_iff]
theorem getD_mem {L : List Nat} {i : Nat} (h : i < L.length) : L.getD i 0 ∈ L := by
  rw [List.getD_eq_getElem?_getD, List.getElem?_eq_getElem h]
  exact List.getElem_mem h
/-- the open settings are the list's -/
def opn (T : St) (L : List Nat) : Prop := T 27 0 = nI L.length ∧ ∀ i, i < L.length → T 14 i = nI (L.getD i 0)
theorem opn_push {T : St} {L : List Nat} {x : Nat} (h : opn T L) : opn (st1 (st1 T 14 L.length (nI x)) 27 0 (nI (L.length + 1))) (L ++ [x]) := by
  refine ⟨?_, fun i hi => ?_⟩
  · rw [st1_at, List.length_append]; rfl
  · rw [st1_ne (by decide)]
    rw [List.length_append, List.length_singleton] at hi
    by_cases q : i = L.length
    · rw [q, st1_at]; simp
    · rw [st1_no q, h.2 i (by omega)]
      congr 1
      rw [List.getD_eq_getElem?_getD, List.getD_eq_getElem?_getD, List.getElem?_append_left (by omega)]
theorem opn_keep {T T' : St} {L : List Nat} (h : opn T L) (h1 : T' 27 = T 27) (h2 : T' 14 = T 14) : opn T' L := ⟨by rw [h1]; exact h.1, fun i hi => by rw [h2]; exact h.2 i hi⟩
def mx (a b : Int32) : Int32 := if a < b then b else a
def mn (a b : Int32) : Int32 := if a > b then b else a
def slk (P : St) (x i : Nat) : Int32 := P 25 0 + off P x (tx P i)
def flX (P : St) (x : Nat) : Nat → Int32
  | 0 => -1000000
  | n + 1 => mx (flX P x n) (P 13 n - slk P x n)
def rfX (P : St) (x : Nat) : Nat → Int32
  | 0 => 1000000
  | n + 1 => mn (rfX P x n) (P 13 n + slk P x n)
def gf (f : Nat → Int32) : Nat → Int32
  | 0 => -1000000
  | n + 1 => mx (gf f n) (f n)
/-- which is next among the first n, by their roofs -/
def nxo (f : Nat → Int32) (bar : Int32) : Nat → Option Nat
  | 0 => none
  | n + 1 => match nxo f bar n with
    | none => if bar ≤ f n then some n else none
    | some j => if bar ≤ f n ∧ f j < f n then some n else some j
theorem nxo_lt {f : Nat → Int32} {bar : Int32} : ∀ {n j : Nat}, nxo f bar n = some j → j < n
  | 0, j, h => by cases h
  | n + 1, j, h => by
    unfold nxo at h
    cases hq : nxo f bar n with
    | none =>
      rw [hq] at h
      dsimp only at h
      split at h
      · cases h; exact Nat.lt_succ_self _
      · cases h
    | some i =>
      rw [hq] at h
      dsimp only at h
      have := nxo_lt hq
      split at h
      · cases h; exact Nat.lt_succ_self _
      · cases h; omega
def lk (T : St) (L : List Nat) (j i : Nat) : Int32 := T j (L.getD i 0)
def barX (T : St) (L : List Nat) : Int32 := gf (lk T L 16) L.length
def lmX (T : St) (L : List Nat) : Nat := fa_cnt (fun i => decide (barX T L ≤ lk T L 17 i)) L.length
def noX (T : St) (L : List Nat) (n : Nat) : Int32 := match nxo (lk T L 17) (barX T L) n with
  | none => -4
  | some j => nI (L.getD j 0)
theorem cnt_y {p : Nat → Bool} {i n : Nat} (hn : n = fa_cnt p i) (h : p i = true) : n + 1 = fa_cnt p (i + 1) := by rw [fa_cnt, ← hn, if_pos h]
theorem cnt_n {p : Nat → Bool} {i n : Nat} (hn : n = fa_cnt p i) (h : p i = false) : n = fa_cnt p (i + 1) := by rw [fa_cnt, ← hn, h]; rfl
def nov (L : List Nat) : Option Nat → Int32
  | none => -4
  | some j => nI (L.getD j 0)
theorem noX_eq (T : St) (L : List Nat) (n : Nat) : noX T L n = nov L (nxo (lk T L 17) (barX T L) n) := by
  unfold noX nov; rfl
theorem nI_ne4 {n : Nat} (h : n < 2 ^ 31) : nI n ≠ -4 := fun e => by
  have h1 := nI_toInt h
  rw [e] at h1
  have h2 : Int32.toInt (-4) = -4 := by decide
  omega
theorem nov_none {L : List Nat} {o : Option Nat} {n : Nat} (hb : ∀ x ∈ L, x < 144) (hn : n ≤ L.length) (ho : ∀ j, o = some j → j < n) (h : nov L o = -4) : o = none := by
  cases o with
  | none => rfl
  | some j =>
    have := hb _ (getD_mem (L := L) (i := j) (Nat.lt_of_lt_of_le (ho j rfl) hn))
    exact absurd h (nI_ne4 (by omega))
theorem nov_some {L : List Nat} {o : Option Nat} (h : ¬ nov L o = -4) : ∃ j, o = some j := by
  cases o with
  | none => exact absurd rfl h
  | some j => exact ⟨j, rfl⟩
theorem nxo_low {f : Nat → Int32} {bar : Int32} {n : Nat} (h : f n < bar) : nxo f bar (n + 1) = nxo f bar n := by
  have h1 : ¬ bar ≤ f n := Int32.not_le.mpr h
  rw [nxo]
  cases nxo f bar n <;> simp [h1]
theorem nxo_in0 {f : Nat → Int32} {bar : Int32} {n : Nat} (h : bar ≤ f n) (h0 : nxo f bar n = none) : nxo f bar (n + 1) = some n := by
  rw [nxo, h0]; simp [h]
theorem nxo_in1 {f : Nat → Int32} {bar : Int32} {n j : Nat} (h : bar ≤ f n) (h0 : nxo f bar n = some j) (h1 : f j < f n) : nxo f bar (n + 1) = some n := by
  rw [nxo, h0]; simp [h, h1]
theorem nxo_no {f : Nat → Int32} {bar : Int32} {n j : Nat} (h0 : nxo f bar n = some j) (h1 : f n ≤ f j) : nxo f bar (n + 1) = some j := by
  have h2 : ¬ f j < f n := Int32.not_lt.mpr h1
  rw [nxo, h0]; simp [h2]
end
section
section OPEN
variable {l : Launch} {D : va_G} {ad : Nat → Nat} {cI cZ : ClassId} {A : Nat → Prop}

set_option maxRecDepth 100000 in
set_option maxHeartbeats 4000000 in
theorem c_X3_howMany (hD : ∀ P T, va_D A (wX ad cI cZ P T)) {P T : St} : XMI l D (tyz cI cZ) (wX ad cI cZ) A yX3_howMany cX3_howMany 1 (some .int) rmX3_howMany [.ref (ad 5)] P T (fun r P' T' => r = T 27 0 ∧ P' = P ∧ T' = T) := by
  refine x_start_i (lv := [(0, .ref (ad 5))]) (own := RX3) (by decide) rfl hD (Nat.le_of_ble_eq_true rfl) rfl ?_
  intro p e s m args below meth c C
  refine x_aload_n (q := 1) C dX3_howMany_0 rfl 0 rfl rfl ?_
  refine xg_X3_many (q := 4) C tfl_X3_9 dX3_howMany_1 rfl ?_
  exact x_iret C dX3_howMany_4 ⟨rfl, rfl, rfl⟩

set_option maxRecDepth 100000 in
set_option maxHeartbeats 4000000 in
theorem c_X3_settingAt (hD : ∀ P T, va_D A (wX ad cI cZ P T)) {P T : St} (i : Nat) (hi : i < 144) : XMI l D (tyz cI cZ) (wX ad cI cZ) A yX3_settingAt cX3_settingAt 2 (some .int) rmX3_settingAt [.ref (ad 5), .int (nI i)] P T (fun r P' T' => r = T 14 i ∧ P' = P ∧ T' = T) := by
  refine x_start_i (lv := [(0, .ref (ad 5)), (1, .int (nI i))]) (own := RX3) (by decide) rfl hD (Nat.le_of_ble_eq_true rfl) rfl ?_
  intro p e s m args below meth c C
  refine x_aload_n (q := 1) C dX3_settingAt_0 rfl 0 rfl rfl ?_
  refine xg_X3_settings (q := 4) C tfl_X3_15 dX3_settingAt_1 rfl ?_
  refine x_iload_n (q := 5) C dX3_settingAt_4 rfl 1 rfl rfl ?_
  refine xa_X22 (q := 6) C (by omega) dX3_settingAt_5 rfl ?_
  exact x_iret C dX3_settingAt_6 ⟨rfl, rfl, rfl⟩

set_option maxRecDepth 100000 in
set_option maxHeartbeats 4000000 in
theorem c_X3_worthAt (hD : ∀ P T, va_D A (wX ad cI cZ P T)) {P T : St} (i : Nat) (hi : i < 144) : XMI l D (tyz cI cZ) (wX ad cI cZ) A yX3_worthAt cX3_worthAt 2 (some .int) rmX3_worthAt [.ref (ad 5), .int (nI i)] P T (fun r P' T' => r = T 15 i ∧ P' = P ∧ T' = T) := by
  refine x_start_i (lv := [(0, .ref (ad 5)), (1, .int (nI i))]) (own := RX3) (by decide) rfl hD (Nat.le_of_ble_eq_true rfl) rfl ?_
  intro p e s m args below meth c C
  refine x_aload_n (q := 1) C dX3_worthAt_0 rfl 0 rfl rfl ?_
  refine xg_X3_worths (q := 4) C tfl_X3_19 dX3_worthAt_1 rfl ?_
  refine x_iload_n (q := 5) C dX3_worthAt_4 rfl 1 rfl rfl ?_
  refine xa_X23 (q := 6) C (by omega) dX3_worthAt_5 rfl ?_
  exact x_iret C dX3_worthAt_6 ⟨rfl, rfl, rfl⟩

set_option maxRecDepth 100000 in
set_option maxHeartbeats 4000000 in
theorem c_X0_floorOf (hD : ∀ P T, va_D A (wX ad cI cZ P T)) {P T : St} (i : Nat) (hi : i < 144) : XMI l D (tyz cI cZ) (wX ad cI cZ) A yX0_floorOf cX0_floorOf 2 (some .int) rmX0_floorOf [.ref (ad 6), .int (nI i)] P T (fun r P' T' => r = T 16 i ∧ P' = P ∧ T' = T) := by
  refine x_start_i (lv := [(0, .ref (ad 6)), (1, .int (nI i))]) (own := RX0) (by decide) rfl hD (Nat.le_of_ble_eq_true rfl) rfl ?_
  intro p e s m args below meth c C
  refine x_aload_n (q := 1) C dX0_floorOf_0 rfl 0 rfl rfl ?_
  refine xg_X0_floors (q := 4) C tfl_X0_9 dX0_floorOf_1 rfl ?_
  refine x_iload_n (q := 5) C dX0_floorOf_4 rfl 1 rfl rfl ?_
  refine xa_X24 (q := 6) C (by omega) dX0_floorOf_5 rfl ?_
  exact x_iret C dX0_floorOf_6 ⟨rfl, rfl, rfl⟩

set_option maxRecDepth 100000 in
set_option maxHeartbeats 4000000 in
theorem c_X0_roofOf (hD : ∀ P T, va_D A (wX ad cI cZ P T)) {P T : St} (i : Nat) (hi : i < 144) : XMI l D (tyz cI cZ) (wX ad cI cZ) A yX0_roofOf cX0_roofOf 2 (some .int) rmX0_roofOf [.ref (ad 6), .int (nI i)] P T (fun r P' T' => r = T 17 i ∧ P' = P ∧ T' = T) := by
  refine x_start_i (lv := [(0, .ref (ad 6)), (1, .int (nI i))]) (own := RX0) (by decide) rfl hD (Nat.le_of_ble_eq_true rfl) rfl ?_
  intro p e s m args below meth c C
  refine x_aload_n (q := 1) C dX0_roofOf_0 rfl 0 rfl rfl ?_
  refine xg_X0_roofs (q := 4) C tfl_X0_15 dX0_roofOf_1 rfl ?_
  refine x_iload_n (q := 5) C dX0_roofOf_4 rfl 1 rfl rfl ?_
  refine xa_X25 (q := 6) C (by omega) dX0_roofOf_5 rfl ?_
  exact x_iret C dX0_roofOf_6 ⟨rfl, rfl, rfl⟩

set_option maxRecDepth 100000 in
set_option maxHeartbeats 4000000 in
theorem c_X4_countingWays (hD : ∀ P T, va_D A (wX ad cI cZ P T)) {P T : St} : XMI l D (tyz cI cZ) (wX ad cI cZ) A yX4_countingWays cX4_countingWays 1 (some .int) rmX4_countingWays [.ref (ad 7)] P T (fun r P' T' => r = T 29 0 ∧ P' = P ∧ T' = T) := by
  refine x_start_i (lv := [(0, .ref (ad 7))]) (own := RX4) (by decide) rfl hD (Nat.le_of_ble_eq_true rfl) rfl ?_
  intro p e s m args below meth c C
  refine x_aload_n (q := 1) C dX4_countingWays_0 rfl 0 rfl rfl ?_
  refine xg_X4_counting (q := 4) C tfl_X4_15 dX4_countingWays_1 rfl ?_
  exact x_iret C dX4_countingWays_4 ⟨rfl, rfl, rfl⟩

set_option maxRecDepth 100000 in
set_option maxHeartbeats 4000000 in
theorem c_X4_allWays (hD : ∀ P T, va_D A (wX ad cI cZ P T)) {P T : St} : XMI l D (tyz cI cZ) (wX ad cI cZ) A yX4_allWays cX4_allWays 1 (some .int) rmX4_allWays [.ref (ad 7)] P T (fun r P' T' => r = T 30 0 ∧ P' = P ∧ T' = T) := by
  refine x_start_i (lv := [(0, .ref (ad 7))]) (own := RX4) (by decide) rfl hD (Nat.le_of_ble_eq_true rfl) rfl ?_
  intro p e s m args below meth c C
  refine x_aload_n (q := 1) C dX4_allWays_0 rfl 0 rfl rfl ?_
  refine xg_X4_all (q := 4) C tfl_X4_18 dX4_allWays_1 rfl ?_
  exact x_iret C dX4_allWays_4 ⟨rfl, rfl, rfl⟩

set_option maxRecDepth 100000 in
set_option maxHeartbeats 4000000 in
theorem c_X3_gather (hD : ∀ P T, va_D A (wX ad cI cZ P T)) {P T : St} (ok : okX P) : XMV l D (tyz cI cZ) (wX ad cI cZ) A yX3_gather cX3_gather 4 none rmX3_gather [.ref (ad 5), .ref (ad 1), .ref (ad 2)] P T (fun P' T' => P' = P ∧ (∀ j, j ≠ 14 → j ≠ 27 → T' j = T j) ∧ opn T' (alL P (nS P))) := by
  have okc := ok.1
  have hk6 := okc_kn6 okc
  have hS144 := okc_S144 okc
  have hS1 := okc_S1 okc
  have hnr := okc_nr12 okc
  have hnt := okc_nt60 okc
  have hnz := okc_nz50 okc
  have hsd := okc_sdb okc
  refine x_start_v (lv := [(0, .ref (ad 5)), (1, .ref (ad 1)), (2, .ref (ad 2))]) (own := RX3) (by decide) rfl hD (Nat.le_of_ble_eq_true rfl) rfl ?_
  intro p e s m args below meth c C
  refine x_aload_n (q := 1) C dX3_gather_0 rfl 0 rfl rfl ?_
  refine x_iconst (q := 2) (v := nI 0) C dX3_gather_1 (by decide) rfl ?_
  refine xp_X3_many (q := 5) C tfl_X3_9 dX3_gather_2 rfl ?_
  refine x_iconst (q := 6) (v := nI 0) C dX3_gather_5 (by decide) rfl ?_
  refine x_istore_n (q := 7) (lv' := [(0, .ref (ad 5)), (1, .ref (ad 1)), (2, .ref (ad 2)), (3, .int (nI 0))]) C dX3_gather_6 rfl (by decide) rfl rfl rfl ?_
  have L7 : ∀ (f1 : Nat) (x : Nat) (Tq : St), (x ≤ nS P) → (∀ j, j ≠ 14 → j ≠ 27 → Tq j = T j) → (opn Tq (alL P x)) → nS P - x < f1 → XW p l e rmX3_gather s m args below meth c D (wX ad cI cZ) A 4 (MQ below (XPV D (tyz cI cZ) (wX ad cI cZ) A (fun P' T' => P' = P ∧ (∀ j, j ≠ 14 → j ≠ 27 → T' j = T j) ∧ opn T' (alL P (nS P)))) args s 0 0 A) 7 [(0, .ref (ad 5)), (1, .ref (ad 1)), (2, .ref (ad 2)), (3, .int (nI x))] [] P Tq := by
    intro f1
    induction f1 with
    | zero => intro x Tq hx hT hO hm; exact absurd hm (Nat.not_lt_zero _)
    | succ f1 ih7 =>
      intro x Tq hx hT hO hm7
      refine x_iload_n (q := 8) C dX3_gather_7 rfl 3 rfl rfl ?_
      refine x_aload_n (q := 9) C dX3_gather_8 rfl 1 rfl rfl ?_
      refine x_Vf (q := 12) (As := []) (rest := [.int (nI x)]) C (c_X2_howManySettings hD ) xs_X2_howManySettings tim_X2_howManySettings tsel_X2_howManySettings tml_X3_22 (by decide) 1 rfl (ci := 2) rfl rfl rfl (Nat.le_of_ble_eq_true rfl) dX3_gather_9 rfl ?_
      refine x_topn (nS P) (okc_S (P := P) okc) ?_
      refine x_icmp_ge_n (q := 15) (tgt := 50) C dX3_gather_12 (by omega) (by omega) (by decide) rfl (fun c12 => ?_) (fun c12 => ?_)
      · exact x_vret C dX3_gather_50 ⟨rfl, hT, by rw [show nS P = x by omega]; exact hO⟩
      · refine x_aload_n (q := 16) C dX3_gather_15 rfl 2 rfl rfl ?_
        refine x_iload_n (q := 17) C dX3_gather_16 rfl 3 rfl rfl ?_
        refine x_aload_n (q := 18) C dX3_gather_17 rfl 1 rfl rfl ?_
        refine x_Vf (q := 21) (As := [.int (nI x), .ref (ad 1)]) (rest := []) C (c_X5_allow hD ok x (by omega)) xs_X5_allow tim_X5_allow tsel_X5_allow tml_X3_28 (by decide) 2 rfl (ci := 5) rfl rfl rfl (Nat.le_of_ble_eq_true rfl) dX3_gather_18 rfl ?_
        refine x_if_eq_b (q := 24) (tgt := 44) C dX3_gather_21 (by decide) rfl (fun c21 => ?_) (fun c21 => ?_)
        · refine x_iinc (q := 47) (v := nI (x + 1)) (lv' := [(0, .ref (ad 5)), (1, .ref (ad 1)), (2, .ref (ad 2)), (3, .int (nI (x + 1)))]) C dX3_gather_44 3 rfl (nI_add x 1) (by decide) rfl rfl rfl ?_
          refine x_goto (tgt := 7) C dX3_gather_47 (by decide) ?_
          exact ih7 (x + 1) _ (by omega) hT (by rw [alL_n c21]; exact hO) (by omega)
        · refine x_aload_n (q := 25) C dX3_gather_24 rfl 0 rfl rfl ?_
          refine xg_X3_settings (q := 28) C tfl_X3_15 dX3_gather_25 rfl ?_
          refine x_aload_n (q := 29) C dX3_gather_28 rfl 0 rfl rfl ?_
          refine xg_X3_many (q := 32) C tfl_X3_9 dX3_gather_29 rfl ?_
          refine x_topn ((alL P x).length) hO.1 ?_
          refine x_iload_n (q := 33) C dX3_gather_32 rfl 3 rfl rfl ?_
          refine xs_X22 (q := 34) C (by have := alL_len P x; omega) dX3_gather_33 rfl ?_
          refine x_aload_n (q := 35) C dX3_gather_34 rfl 0 rfl rfl ?_
          refine x_dup (q := 36) C dX3_gather_35 rfl rfl ?_
          refine xg_X3_many (q := 39) C tfl_X3_9 dX3_gather_36 rfl ?_
          refine x_topn ((alL P x).length) hO.1 ?_
          refine x_iconst (q := 40) (v := nI 1) C dX3_gather_39 (by decide) rfl ?_
          refine x_iadd_n (q := 41) C dX3_gather_40 rfl ?_
          refine xp_X3_many (q := 44) C tfl_X3_9 dX3_gather_41 rfl ?_
          refine x_iinc (q := 47) (v := nI (x + 1)) (lv' := [(0, .ref (ad 5)), (1, .ref (ad 1)), (2, .ref (ad 2)), (3, .int (nI (x + 1)))]) C dX3_gather_44 3 rfl (nI_add x 1) (by decide) rfl rfl rfl ?_
          refine x_goto (tgt := 7) C dX3_gather_47 (by decide) ?_
          exact ih7 (x + 1) _ (by omega) (fun j h1 h2 => by rw [st1_ne h2, st1_ne h1]; exact hT j h1 h2) (by rw [alL_y c21]; exact opn_push hO) (by omega)
  exact L7 _ 0 _ (Nat.zero_le _) (fun j h1 h2 => st1_ne h2) ⟨st1_at, fun i hi => absurd hi (Nat.not_lt_zero i)⟩ (Nat.lt_succ_self _)

set_option maxRecDepth 100000 in
set_option maxHeartbeats 4000000 in
theorem c_X3_weigh (hD : ∀ P T, va_D A (wX ad cI cZ P T)) {P T : St} (ok : okX P) (L : List Nat) (hO : opn T L) (hlen : L.length ≤ 144) (hb : ∀ x ∈ L, x < 144) : XMV l D (tyz cI cZ) (wX ad cI cZ) A yX3_weigh cX3_weigh 4 none rmX3_weigh [.ref (ad 5), .ref (ad 1), .ref (ad 3)] P T (fun P' T' => P' = P ∧ (∀ j, j ≠ 11 → j ≠ 15 → T' j = T j) ∧ ∀ i, i < L.length → T' 15 i = wo P (L.getD i 0)) := by
  have okc := ok.1
  have hk6 := okc_kn6 okc
  have hS144 := okc_S144 okc
  have hS1 := okc_S1 okc
  have hnr := okc_nr12 okc
  have hnt := okc_nt60 okc
  have hnz := okc_nz50 okc
  have hsd := okc_sdb okc
  refine x_start_v (lv := [(0, .ref (ad 5)), (1, .ref (ad 1)), (2, .ref (ad 3))]) (own := RX3) (by decide) rfl hD (Nat.le_of_ble_eq_true rfl) rfl ?_
  intro p e s m args below meth c C
  refine x_iconst (q := 1) (v := nI 0) C dX3_weigh_0 (by decide) rfl ?_
  refine x_istore_n (q := 2) (lv' := [(0, .ref (ad 5)), (1, .ref (ad 1)), (2, .ref (ad 3)), (3, .int (nI 0))]) C dX3_weigh_1 rfl (by decide) rfl rfl rfl ?_
  have L2 : ∀ (f1 : Nat) (i : Nat) (Tq : St), (i ≤ L.length) → (∀ j, j ≠ 11 → j ≠ 15 → Tq j = T j) → (∀ j, j < i → Tq 15 j = wo P (L.getD j 0)) → L.length - i < f1 → XW p l e rmX3_weigh s m args below meth c D (wX ad cI cZ) A 4 (MQ below (XPV D (tyz cI cZ) (wX ad cI cZ) A (fun P' T' => P' = P ∧ (∀ j, j ≠ 11 → j ≠ 15 → T' j = T j) ∧ ∀ i, i < L.length → T' 15 i = wo P (L.getD i 0))) args s 0 0 A) 2 [(0, .ref (ad 5)), (1, .ref (ad 1)), (2, .ref (ad 3)), (3, .int (nI i))] [] P Tq := by
    intro f1
    induction f1 with
    | zero => intro i Tq hi hT hW hm; exact absurd hm (Nat.not_lt_zero _)
    | succ f1 ih2 =>
      intro i Tq hi hT hW hm2
      refine x_iload_n (q := 3) C dX3_weigh_2 rfl 3 rfl rfl ?_
      refine x_aload_n (q := 4) C dX3_weigh_3 rfl 0 rfl rfl ?_
      refine xg_X3_many (q := 7) C tfl_X3_9 dX3_weigh_4 rfl ?_
      refine x_topn (L.length) (by rw [hT 27 (by decide) (by decide)]; exact hO.1) ?_
      refine x_icmp_ge_n (q := 10) (tgt := 33) C dX3_weigh_7 (by omega) (by omega) (by decide) rfl (fun c7 => ?_) (fun c7 => ?_)
      · exact x_vret C dX3_weigh_33 ⟨rfl, hT, fun j hj => hW j (by omega)⟩
      · have hLb := hb _ (getD_mem (L := L) (i := i) (by omega))
        refine x_aload_n (q := 11) C dX3_weigh_10 rfl 0 rfl rfl ?_
        refine xg_X3_worths (q := 14) C tfl_X3_19 dX3_weigh_11 rfl ?_
        refine x_iload_n (q := 15) C dX3_weigh_14 rfl 3 rfl rfl ?_
        refine x_aload_n (q := 16) C dX3_weigh_15 rfl 2 rfl rfl ?_
        refine x_aload_n (q := 17) C dX3_weigh_16 rfl 0 rfl rfl ?_
        refine xg_X3_settings (q := 20) C tfl_X3_15 dX3_weigh_17 rfl ?_
        refine x_iload_n (q := 21) C dX3_weigh_20 rfl 3 rfl rfl ?_
        refine xa_X22 (q := 22) C (by omega) dX3_weigh_21 rfl ?_
        refine x_topn (L.getD i 0) (by rw [hT 14 (by decide) (by decide)]; exact hO.2 i (by omega)) ?_
        refine x_aload_n (q := 23) C dX3_weigh_22 rfl 1 rfl rfl ?_
        refine x_Vi (q := 26) (As := [.int (nI (L.getD i 0)), .ref (ad 1)]) (rest := [.int (nI i), .ref (ad 23)]) C (c_X1_sumFor hD ok (L.getD i 0) (by omega)) xs_X1_sumFor tim_X1_sumFor tsel_X1_sumFor tml_X3_34 (by decide) 3 rfl (ci := 1) rfl rfl rfl (Nat.le_of_ble_eq_true rfl) dX3_weigh_23 rfl (fun rz Pz T23 hT23 => ?_)
        obtain ⟨hrz, hPz, hT23⟩ := hT23
        rw [hrz, hPz]; clear hrz hPz Pz rz
        refine xs_X23 (q := 27) C (by omega) dX3_weigh_26 rfl ?_
        refine x_iinc (q := 30) (v := nI (i + 1)) (lv' := [(0, .ref (ad 5)), (1, .ref (ad 1)), (2, .ref (ad 3)), (3, .int (nI (i + 1)))]) C dX3_weigh_27 3 rfl (nI_add i 1) (by decide) rfl rfl rfl ?_
        refine x_goto (tgt := 2) C dX3_weigh_30 (by decide) ?_
        exact ih2 (i + 1) _ (by omega) (fun j h1 h2 => by rw [st1_ne h2, hT23 j h1]; exact hT j h1 h2) (lt_s (fun j hj => by rw [st1_no (by omega), hT23 15 (by decide)]; exact hW j hj) st1_at) (by omega)
  exact L2 _ 0 _ (Nat.zero_le _) (fun _ _ _ => rfl) (fun j hj => absurd hj (Nat.not_lt_zero j)) (Nat.lt_succ_self _)

end OPEN
end
section
section BOUNDS
variable {l : Launch} {D : va_G} {ad : Nat → Nat} {cI cZ : ClassId} {A : Nat → Prop}

set_option maxRecDepth 100000 in
set_option maxHeartbeats 4000000 in
theorem c_X0_tighten (hD : ∀ P T, va_D A (wX ad cI cZ P T)) {P T : St} (ok : okX P) (x i : Nat) (hx : x < 144) (hi : i < nt P) : XMV l D (tyz cI cZ) (wX ad cI cZ) A yX0_tighten cX0_tighten 6 none rmX0_tighten [.ref (ad 6), .int (nI x), .int (nI i), .ref (ad 4), .ref (ad 1)] P T (fun P' T' => P' = P ∧ T' = st1 (st1 T 16 x (mx (T 16 x) (P 13 i - slk P x i))) 17 x (mn (T 17 x) (P 13 i + slk P x i))) := by
  have okc := ok.1
  have hk6 := okc_kn6 okc
  have hS144 := okc_S144 okc
  have hS1 := okc_S1 okc
  have hnr := okc_nr12 okc
  have hnt := okc_nt60 okc
  have hnz := okc_nz50 okc
  have hsd := okc_sdb okc
  have htx := okc_txS okc hi
  refine x_start_v (lv := [(0, .ref (ad 6)), (1, .int (nI x)), (2, .int (nI i)), (3, .ref (ad 4)), (4, .ref (ad 1))]) (own := RX0) (by decide) rfl hD (Nat.le_of_ble_eq_true rfl) rfl ?_
  intro p e s m args below meth c C
  refine x_aload_n (q := 1) C dX0_tighten_0 rfl 3 rfl rfl ?_
  refine x_Vf (q := 4) (As := []) (rest := []) C (c_X6_currentNoise hD ) xs_X6_currentNoise tim_X6_currentNoise tsel_X6_currentNoise tml_X0_39 (by decide) 4 rfl (ci := 6) rfl rfl rfl (Nat.le_of_ble_eq_true rfl) dX0_tighten_1 rfl ?_
  refine x_aload (q := 6) C dX0_tighten_4 4 rfl rfl ?_
  refine x_iload_n (q := 7) C dX0_tighten_6 rfl 1 rfl rfl ?_
  refine x_aload_n (q := 8) C dX0_tighten_7 rfl 3 rfl rfl ?_
  refine x_iload_n (q := 9) C dX0_tighten_8 rfl 2 rfl rfl ?_
  refine x_Vf (q := 12) (As := [.int (nI i)]) (rest := [.int (nI x), .ref (ad 1), .int (P 25 0)]) C (c_X6_settingAt hD i (by omega)) xs_X6_settingAt tim_X6_settingAt tsel_X6_settingAt tml_X0_42 (by decide) 4 rfl (ci := 6) rfl rfl rfl (Nat.le_of_ble_eq_true rfl) dX0_tighten_9 rfl ?_
  refine x_topn (tx P i) (okc_tx okc hi) ?_
  refine x_Vf (q := 15) (As := [.int (nI x), .int (nI (tx P i))]) (rest := [.int (P 25 0)]) C (c_X2_off hD ok x (tx P i) (by omega) (by omega)) xs_X2_off tim_X2_off tsel_X2_off tml_X0_46 (by decide) 1 rfl (ci := 2) rfl rfl rfl (Nat.le_of_ble_eq_true rfl) dX0_tighten_12 rfl ?_
  refine x_iadd (q := 16) C dX0_tighten_15 rfl ?_
  refine x_topi (fun z1 hz1 => ?_)
  refine x_istore (q := 18) (lv' := [(0, .ref (ad 6)), (1, .int (nI x)), (2, .int (nI i)), (3, .ref (ad 4)), (4, .ref (ad 1)), (5, .int z1)]) C dX0_tighten_16 (by decide) rfl rfl rfl ?_
  refine x_aload_n (q := 19) C dX0_tighten_18 rfl 0 rfl rfl ?_
  refine xg_X0_floors (q := 22) C tfl_X0_9 dX0_tighten_19 rfl ?_
  refine x_iload_n (q := 23) C dX0_tighten_22 rfl 1 rfl rfl ?_
  refine x_aload_n (q := 24) C dX0_tighten_23 rfl 0 rfl rfl ?_
  refine xg_X0_floors (q := 27) C tfl_X0_9 dX0_tighten_24 rfl ?_
  refine x_iload_n (q := 28) C dX0_tighten_27 rfl 1 rfl rfl ?_
  refine xa_X24 (q := 29) C (by omega) dX0_tighten_28 rfl ?_
  refine x_aload_n (q := 30) C dX0_tighten_29 rfl 3 rfl rfl ?_
  refine x_iload_n (q := 31) C dX0_tighten_30 rfl 2 rfl rfl ?_
  refine x_Vf (q := 34) (As := [.int (nI i)]) (rest := [.int (T 16 x), .int (nI x), .ref (ad 24)]) C (c_X6_readingAt hD i (by omega)) xs_X6_readingAt tim_X6_readingAt tsel_X6_readingAt tml_X0_50 (by decide) 4 rfl (ci := 6) rfl rfl rfl (Nat.le_of_ble_eq_true rfl) dX0_tighten_31 rfl ?_
  refine x_iload (q := 36) C dX0_tighten_34 5 rfl rfl ?_
  refine x_isub (q := 37) C dX0_tighten_36 rfl ?_
  refine x_mmax (q := 40) C tml_X0_53 tst_Mmax tini_Math tco_Mmax (by decide) (Nat.le_of_ble_eq_true rfl) dX0_tighten_37 rfl ?_
  refine xs_X24 (q := 41) C (by omega) dX0_tighten_40 rfl ?_
  refine x_aload_n (q := 42) C dX0_tighten_41 rfl 0 rfl rfl ?_
  refine xg_X0_roofs (q := 45) C tfl_X0_15 dX0_tighten_42 rfl ?_
  refine x_iload_n (q := 46) C dX0_tighten_45 rfl 1 rfl rfl ?_
  refine x_aload_n (q := 47) C dX0_tighten_46 rfl 0 rfl rfl ?_
  refine xg_X0_roofs (q := 50) C tfl_X0_15 dX0_tighten_47 rfl ?_
  refine x_iload_n (q := 51) C dX0_tighten_50 rfl 1 rfl rfl ?_
  refine xa_X25 (q := 52) C (by omega) dX0_tighten_51 rfl ?_
  refine x_aload_n (q := 53) C dX0_tighten_52 rfl 3 rfl rfl ?_
  refine x_iload_n (q := 54) C dX0_tighten_53 rfl 2 rfl rfl ?_
  refine x_Vf (q := 57) (As := [.int (nI i)]) (rest := [.int ((st1 T 16 x (if (T 16 x) < ((P 13 i) - z1) then (P 13 i) - z1 else T 16 x)) 17 x), .int (nI x), .ref (ad 25)]) C (c_X6_readingAt hD i (by omega)) xs_X6_readingAt tim_X6_readingAt tsel_X6_readingAt tml_X0_50 (by decide) 4 rfl (ci := 6) rfl rfl rfl (Nat.le_of_ble_eq_true rfl) dX0_tighten_54 rfl ?_
  refine x_iload (q := 59) C dX0_tighten_57 5 rfl rfl ?_
  refine x_iadd (q := 60) C dX0_tighten_59 rfl ?_
  refine x_mmin (q := 63) C tml_X0_58 tst_Mmin tini_Math tco_Mmin (by decide) (Nat.le_of_ble_eq_true rfl) dX0_tighten_60 rfl ?_
  refine xs_X25 (q := 64) C (by omega) dX0_tighten_63 rfl ?_
  exact x_vret C dX0_tighten_64 ⟨rfl, by rw [hz1]; rfl⟩

set_option maxRecDepth 100000 in
set_option maxHeartbeats 4000000 in
theorem c_X0_measure (hD : ∀ P T, va_D A (wX ad cI cZ P T)) {P T : St} (ok : okX P) (x : Nat) (hx : x < 144) : XMV l D (tyz cI cZ) (wX ad cI cZ) A yX0_measure cX0_measure 5 none rmX0_measure [.ref (ad 6), .int (nI x), .ref (ad 4), .ref (ad 1)] P T (fun P' T' => P' = P ∧ (∀ j, j ≠ 16 → j ≠ 17 → T' j = T j) ∧ (T' 16 x = flX P x (nt P) ∧ ∀ j, j ≠ x → T' 16 j = T 16 j) ∧ (T' 17 x = rfX P x (nt P) ∧ ∀ j, j ≠ x → T' 17 j = T 17 j)) := by
  have okc := ok.1
  have hk6 := okc_kn6 okc
  have hS144 := okc_S144 okc
  have hS1 := okc_S1 okc
  have hnr := okc_nr12 okc
  have hnt := okc_nt60 okc
  have hnz := okc_nz50 okc
  have hsd := okc_sdb okc
  refine x_start_v (lv := [(0, .ref (ad 6)), (1, .int (nI x)), (2, .ref (ad 4)), (3, .ref (ad 1))]) (own := RX0) (by decide) rfl hD (Nat.le_of_ble_eq_true rfl) rfl ?_
  intro p e s m args below meth c C
  refine x_aload_n (q := 1) C dX0_measure_0 rfl 0 rfl rfl ?_
  refine xg_X0_floors (q := 4) C tfl_X0_9 dX0_measure_1 rfl ?_
  refine x_iload_n (q := 5) C dX0_measure_4 rfl 1 rfl rfl ?_
  refine x_ldc (q := 7) C tk_X0_28 dX0_measure_5 rfl ?_
  refine xs_X24 (q := 8) C (by omega) dX0_measure_7 rfl ?_
  refine x_aload_n (q := 9) C dX0_measure_8 rfl 0 rfl rfl ?_
  refine xg_X0_roofs (q := 12) C tfl_X0_15 dX0_measure_9 rfl ?_
  refine x_iload_n (q := 13) C dX0_measure_12 rfl 1 rfl rfl ?_
  refine x_ldc (q := 15) C tk_X0_29 dX0_measure_13 rfl ?_
  refine x_topn (1000000) (by decide) ?_
  refine xs_X25 (q := 16) C (by omega) dX0_measure_15 rfl ?_
  refine x_iconst (q := 17) (v := nI 0) C dX0_measure_16 (by decide) rfl ?_
  refine x_istore (q := 19) (lv' := [(0, .ref (ad 6)), (1, .int (nI x)), (2, .ref (ad 4)), (3, .ref (ad 1)), (4, .int (nI 0))]) C dX0_measure_17 (by decide) rfl rfl rfl ?_
  have L19 : ∀ (f1 : Nat) (i : Nat) (Tq : St), (i ≤ nt P) → (∀ j, j ≠ 16 → j ≠ 17 → Tq j = T j) → (Tq 16 x = flX P x i ∧ ∀ j, j ≠ x → Tq 16 j = T 16 j) → (Tq 17 x = rfX P x i ∧ ∀ j, j ≠ x → Tq 17 j = T 17 j) → nt P - i < f1 → XW p l e rmX0_measure s m args below meth c D (wX ad cI cZ) A 5 (MQ below (XPV D (tyz cI cZ) (wX ad cI cZ) A (fun P' T' => P' = P ∧ (∀ j, j ≠ 16 → j ≠ 17 → T' j = T j) ∧ (T' 16 x = flX P x (nt P) ∧ ∀ j, j ≠ x → T' 16 j = T 16 j) ∧ (T' 17 x = rfX P x (nt P) ∧ ∀ j, j ≠ x → T' 17 j = T 17 j))) args s 0 0 A) 19 [(0, .ref (ad 6)), (1, .int (nI x)), (2, .ref (ad 4)), (3, .ref (ad 1)), (4, .int (nI i))] [] P Tq := by
    intro f1
    induction f1 with
    | zero => intro i Tq hi hT hf hr hm; exact absurd hm (Nat.not_lt_zero _)
    | succ f1 ih19 =>
      intro i Tq hi hT hf hr hm19
      refine x_iload (q := 21) C dX0_measure_19 4 rfl rfl ?_
      refine x_aload_n (q := 22) C dX0_measure_21 rfl 2 rfl rfl ?_
      refine x_Vf (q := 25) (As := []) (rest := [.int (nI i)]) C (c_X6_howMany hD ) xs_X6_howMany tim_X6_howMany tsel_X6_howMany tml_X0_30 (by decide) 4 rfl (ci := 6) rfl rfl rfl (Nat.le_of_ble_eq_true rfl) dX0_measure_22 rfl ?_
      refine x_topn (nt P) (okc_nt (P := P) okc) ?_
      refine x_icmp_ge_n (q := 28) (tgt := 43) C dX0_measure_25 (by omega) (by omega) (by decide) rfl (fun c25 => ?_) (fun c25 => ?_)
      · exact x_vret C dX0_measure_43 ⟨rfl, hT, by rw [show nt P = i by omega]; exact hf, by rw [show nt P = i by omega]; exact hr⟩
      · refine x_aload_n (q := 29) C dX0_measure_28 rfl 0 rfl rfl ?_
        refine x_iload_n (q := 30) C dX0_measure_29 rfl 1 rfl rfl ?_
        refine x_iload (q := 32) C dX0_measure_30 4 rfl rfl ?_
        refine x_aload_n (q := 33) C dX0_measure_32 rfl 2 rfl rfl ?_
        refine x_aload_n (q := 34) C dX0_measure_33 rfl 3 rfl rfl ?_
        refine x_Vg (q := 37) (As := [.int (nI x), .int (nI i), .ref (ad 4), .ref (ad 1)]) (rest := []) C (c_X0_tighten hD ok x i (by omega) (by omega)) xs_X0_tighten tim_X0_tighten tsel_X0_tighten tml_X0_35 (by decide) 6 rfl (ci := 0) rfl rfl rfl (Nat.le_of_ble_eq_true rfl) dX0_measure_34 rfl ?_
        refine x_iinc (q := 40) (v := nI (i + 1)) (lv' := [(0, .ref (ad 6)), (1, .int (nI x)), (2, .ref (ad 4)), (3, .ref (ad 1)), (4, .int (nI (i + 1)))]) C dX0_measure_37 4 rfl (nI_add i 1) (by decide) rfl rfl rfl ?_
        refine x_goto (tgt := 19) C dX0_measure_40 (by decide) ?_
        exact ih19 (i + 1) _ (by omega) (fun j h1 h2 => by rw [st1_ne h2, st1_ne h1]; exact hT j h1 h2) ⟨by rw [st1_ne (by decide), st1_at, hf.1]; rfl, fun j hj => by rw [st1_ne (by decide), st1_no hj]; exact hf.2 j hj⟩ ⟨by rw [st1_at, hr.1]; rfl, fun j hj => by rw [st1_no hj, st1_ne (by decide)]; exact hr.2 j hj⟩ (by omega)
  exact L19 _ 0 _ (Nat.zero_le _) (fun j h1 h2 => by rw [st1_ne h2, st1_ne h1]) ⟨by rw [st1_ne (by decide), st1_at]; rfl, fun j hj => by rw [st1_ne (by decide), st1_no hj]⟩ ⟨by rw [st1_at]; rfl, fun j hj => by rw [st1_no hj, st1_ne (by decide)]⟩ (Nat.lt_succ_self _)

set_option maxRecDepth 100000 in
set_option maxHeartbeats 4000000 in
theorem c_X0_measureAll (hD : ∀ P T, va_D A (wX ad cI cZ P T)) {P T : St} (ok : okX P) : XMV l D (tyz cI cZ) (wX ad cI cZ) A yX0_measureAll cX0_measureAll 4 none rmX0_measureAll [.ref (ad 6), .ref (ad 4), .ref (ad 1)] P T (fun P' T' => P' = P ∧ (∀ j, j ≠ 16 → j ≠ 17 → T' j = T j) ∧ (∀ j, j < nS P → T' 16 j = flX P j (nt P)) ∧ (∀ j, j < nS P → T' 17 j = rfX P j (nt P))) := by
  have okc := ok.1
  have hk6 := okc_kn6 okc
  have hS144 := okc_S144 okc
  have hS1 := okc_S1 okc
  have hnr := okc_nr12 okc
  have hnt := okc_nt60 okc
  have hnz := okc_nz50 okc
  have hsd := okc_sdb okc
  refine x_start_v (lv := [(0, .ref (ad 6)), (1, .ref (ad 4)), (2, .ref (ad 1))]) (own := RX0) (by decide) rfl hD (Nat.le_of_ble_eq_true rfl) rfl ?_
  intro p e s m args below meth c C
  refine x_iconst (q := 1) (v := nI 0) C dX0_measureAll_0 (by decide) rfl ?_
  refine x_istore_n (q := 2) (lv' := [(0, .ref (ad 6)), (1, .ref (ad 4)), (2, .ref (ad 1)), (3, .int (nI 0))]) C dX0_measureAll_1 rfl (by decide) rfl rfl rfl ?_
  have L2 : ∀ (f1 : Nat) (x : Nat) (Tq : St), (x ≤ nS P) → (∀ j, j ≠ 16 → j ≠ 17 → Tq j = T j) → ((∀ j, j < x → Tq 16 j = flX P j (nt P)) ∧ ∀ j, x ≤ j → Tq 16 j = T 16 j) → ((∀ j, j < x → Tq 17 j = rfX P j (nt P)) ∧ ∀ j, x ≤ j → Tq 17 j = T 17 j) → nS P - x < f1 → XW p l e rmX0_measureAll s m args below meth c D (wX ad cI cZ) A 4 (MQ below (XPV D (tyz cI cZ) (wX ad cI cZ) A (fun P' T' => P' = P ∧ (∀ j, j ≠ 16 → j ≠ 17 → T' j = T j) ∧ (∀ j, j < nS P → T' 16 j = flX P j (nt P)) ∧ (∀ j, j < nS P → T' 17 j = rfX P j (nt P)))) args s 0 0 A) 2 [(0, .ref (ad 6)), (1, .ref (ad 4)), (2, .ref (ad 1)), (3, .int (nI x))] [] P Tq := by
    intro f1
    induction f1 with
    | zero => intro x Tq hx hT hf hr hm; exact absurd hm (Nat.not_lt_zero _)
    | succ f1 ih2 =>
      intro x Tq hx hT hf hr hm2
      refine x_iload_n (q := 3) C dX0_measureAll_2 rfl 3 rfl rfl ?_
      refine x_aload_n (q := 4) C dX0_measureAll_3 rfl 2 rfl rfl ?_
      refine x_Vf (q := 7) (As := []) (rest := [.int (nI x)]) C (c_X2_howManySettings hD ) xs_X2_howManySettings tim_X2_howManySettings tsel_X2_howManySettings tml_X0_18 (by decide) 1 rfl (ci := 2) rfl rfl rfl (Nat.le_of_ble_eq_true rfl) dX0_measureAll_4 rfl ?_
      refine x_topn (nS P) (okc_S (P := P) okc) ?_
      refine x_icmp_ge_n (q := 10) (tgt := 23) C dX0_measureAll_7 (by omega) (by omega) (by decide) rfl (fun c7 => ?_) (fun c7 => ?_)
      · exact x_vret C dX0_measureAll_23 ⟨rfl, hT, fun j hj => hf.1 j (by omega), fun j hj => hr.1 j (by omega)⟩
      · refine x_aload_n (q := 11) C dX0_measureAll_10 rfl 0 rfl rfl ?_
        refine x_iload_n (q := 12) C dX0_measureAll_11 rfl 3 rfl rfl ?_
        refine x_aload_n (q := 13) C dX0_measureAll_12 rfl 1 rfl rfl ?_
        refine x_aload_n (q := 14) C dX0_measureAll_13 rfl 2 rfl rfl ?_
        refine x_Vv (q := 17) (As := [.int (nI x), .ref (ad 4), .ref (ad 1)]) (rest := []) C (c_X0_measure hD ok x (by omega)) xs_X0_measure tim_X0_measure tsel_X0_measure tml_X0_24 (by decide) 6 rfl (ci := 0) rfl rfl rfl (Nat.le_of_ble_eq_true rfl) dX0_measureAll_14 rfl (fun Pz T14 hg => ?_)
        obtain ⟨hPz, hT14, hF14, hR14⟩ := hg
        rw [hPz]; clear hPz Pz
        refine x_iinc (q := 20) (v := nI (x + 1)) (lv' := [(0, .ref (ad 6)), (1, .ref (ad 4)), (2, .ref (ad 1)), (3, .int (nI (x + 1)))]) C dX0_measureAll_17 3 rfl (nI_add x 1) (by decide) rfl rfl rfl ?_
        refine x_goto (tgt := 2) C dX0_measureAll_20 (by decide) ?_
        exact ih2 (x + 1) _ (by omega) (fun j h1 h2 => by rw [hT14 j h1 h2]; exact hT j h1 h2) ⟨lt_s (fun j hj => by rw [hF14.2 j (by omega)]; exact hf.1 j hj) hF14.1, fun j hj => by rw [hF14.2 j (by omega)]; exact hf.2 j (by omega)⟩ ⟨lt_s (fun j hj => by rw [hR14.2 j (by omega)]; exact hr.1 j hj) hR14.1, fun j hj => by rw [hR14.2 j (by omega)]; exact hr.2 j (by omega)⟩ (by omega)
  exact L2 _ 0 _ (Nat.zero_le _) (fun _ _ _ => rfl) ⟨fun j hj => absurd hj (Nat.not_lt_zero j), fun _ _ => rfl⟩ ⟨fun j hj => absurd hj (Nat.not_lt_zero j), fun _ _ => rfl⟩ (Nat.lt_succ_self _)

set_option maxRecDepth 100000 in
set_option maxHeartbeats 4000000 in
theorem c_X0_tightenByLatest (hD : ∀ P T, va_D A (wX ad cI cZ P T)) {P T : St} (ok : okX P) (hn : 0 < nt P) : XMV l D (tyz cI cZ) (wX ad cI cZ) A yX0_tightenByLatest cX0_tightenByLatest 4 none rmX0_tightenByLatest [.ref (ad 6), .ref (ad 4), .ref (ad 1)] P T (fun P' T' => P' = P ∧ (∀ j, j ≠ 16 → j ≠ 17 → T' j = T j) ∧ (∀ j, j < nS P → T' 16 j = mx (T 16 j) (P 13 (nt P - 1) - slk P j (nt P - 1))) ∧ (∀ j, j < nS P → T' 17 j = mn (T 17 j) (P 13 (nt P - 1) + slk P j (nt P - 1)))) := by
  have okc := ok.1
  have hk6 := okc_kn6 okc
  have hS144 := okc_S144 okc
  have hS1 := okc_S1 okc
  have hnr := okc_nr12 okc
  have hnt := okc_nt60 okc
  have hnz := okc_nz50 okc
  have hsd := okc_sdb okc
  refine x_start_v (lv := [(0, .ref (ad 6)), (1, .ref (ad 4)), (2, .ref (ad 1))]) (own := RX0) (by decide) rfl hD (Nat.le_of_ble_eq_true rfl) rfl ?_
  intro p e s m args below meth c C
  refine x_iconst (q := 1) (v := nI 0) C dX0_tightenByLatest_0 (by decide) rfl ?_
  refine x_istore_n (q := 2) (lv' := [(0, .ref (ad 6)), (1, .ref (ad 4)), (2, .ref (ad 1)), (3, .int (nI 0))]) C dX0_tightenByLatest_1 rfl (by decide) rfl rfl rfl ?_
  have L2 : ∀ (f1 : Nat) (x : Nat) (Tq : St), (x ≤ nS P) → (∀ j, j ≠ 16 → j ≠ 17 → Tq j = T j) → ((∀ j, j < x → Tq 16 j = mx (T 16 j) (P 13 (nt P - 1) - slk P j (nt P - 1))) ∧ ∀ j, x ≤ j → Tq 16 j = T 16 j) → ((∀ j, j < x → Tq 17 j = mn (T 17 j) (P 13 (nt P - 1) + slk P j (nt P - 1))) ∧ ∀ j, x ≤ j → Tq 17 j = T 17 j) → nS P - x < f1 → XW p l e rmX0_tightenByLatest s m args below meth c D (wX ad cI cZ) A 4 (MQ below (XPV D (tyz cI cZ) (wX ad cI cZ) A (fun P' T' => P' = P ∧ (∀ j, j ≠ 16 → j ≠ 17 → T' j = T j) ∧ (∀ j, j < nS P → T' 16 j = mx (T 16 j) (P 13 (nt P - 1) - slk P j (nt P - 1))) ∧ (∀ j, j < nS P → T' 17 j = mn (T 17 j) (P 13 (nt P - 1) + slk P j (nt P - 1))))) args s 0 0 A) 2 [(0, .ref (ad 6)), (1, .ref (ad 4)), (2, .ref (ad 1)), (3, .int (nI x))] [] P Tq := by
    intro f1
    induction f1 with
    | zero => intro x Tq hx hT hf hr hm; exact absurd hm (Nat.not_lt_zero _)
    | succ f1 ih2 =>
      intro x Tq hx hT hf hr hm2
      refine x_iload_n (q := 3) C dX0_tightenByLatest_2 rfl 3 rfl rfl ?_
      refine x_aload_n (q := 4) C dX0_tightenByLatest_3 rfl 2 rfl rfl ?_
      refine x_Vf (q := 7) (As := []) (rest := [.int (nI x)]) C (c_X2_howManySettings hD ) xs_X2_howManySettings tim_X2_howManySettings tsel_X2_howManySettings tml_X0_18 (by decide) 1 rfl (ci := 2) rfl rfl rfl (Nat.le_of_ble_eq_true rfl) dX0_tightenByLatest_4 rfl ?_
      refine x_topn (nS P) (okc_S (P := P) okc) ?_
      refine x_icmp_ge_n (q := 10) (tgt := 29) C dX0_tightenByLatest_7 (by omega) (by omega) (by decide) rfl (fun c7 => ?_) (fun c7 => ?_)
      · exact x_vret C dX0_tightenByLatest_29 ⟨rfl, hT, fun j hj => hf.1 j (by omega), fun j hj => hr.1 j (by omega)⟩
      · refine x_aload_n (q := 11) C dX0_tightenByLatest_10 rfl 0 rfl rfl ?_
        refine x_iload_n (q := 12) C dX0_tightenByLatest_11 rfl 3 rfl rfl ?_
        refine x_aload_n (q := 13) C dX0_tightenByLatest_12 rfl 1 rfl rfl ?_
        refine x_Vf (q := 16) (As := []) (rest := [.int (nI x), .ref (ad 6)]) C (c_X6_howMany hD ) xs_X6_howMany tim_X6_howMany tsel_X6_howMany tml_X0_30 (by decide) 4 rfl (ci := 6) rfl rfl rfl (Nat.le_of_ble_eq_true rfl) dX0_tightenByLatest_13 rfl ?_
        refine x_topn (nt P) (okc_nt (P := P) okc) ?_
        refine x_iconst (q := 17) (v := nI 1) C dX0_tightenByLatest_16 (by decide) rfl ?_
        refine x_isub_n (q := 18) C dX0_tightenByLatest_17 (by omega) rfl ?_
        refine x_aload_n (q := 19) C dX0_tightenByLatest_18 rfl 1 rfl rfl ?_
        refine x_aload_n (q := 20) C dX0_tightenByLatest_19 rfl 2 rfl rfl ?_
        refine x_Vg (q := 23) (As := [.int (nI x), .int (nI ((nt P) - 1)), .ref (ad 4), .ref (ad 1)]) (rest := []) C (c_X0_tighten hD ok x ((nt P) - 1) (by omega) (by omega)) xs_X0_tighten tim_X0_tighten tsel_X0_tighten tml_X0_35 (by decide) 6 rfl (ci := 0) rfl rfl rfl (Nat.le_of_ble_eq_true rfl) dX0_tightenByLatest_20 rfl ?_
        refine x_iinc (q := 26) (v := nI (x + 1)) (lv' := [(0, .ref (ad 6)), (1, .ref (ad 4)), (2, .ref (ad 1)), (3, .int (nI (x + 1)))]) C dX0_tightenByLatest_23 3 rfl (nI_add x 1) (by decide) rfl rfl rfl ?_
        refine x_goto (tgt := 2) C dX0_tightenByLatest_26 (by decide) ?_
        exact ih2 (x + 1) _ (by omega) (fun j h1 h2 => by rw [st1_ne h2, st1_ne h1]; exact hT j h1 h2) ⟨lt_s (fun j hj => by rw [st1_ne (by decide), st1_no (by omega)]; exact hf.1 j hj) (by rw [st1_ne (by decide), st1_at, hf.2 x (Nat.le_refl _)]), fun j hj => by rw [st1_ne (by decide), st1_no (by omega)]; exact hf.2 j (by omega)⟩ ⟨lt_s (fun j hj => by rw [st1_no (by omega), st1_ne (by decide)]; exact hr.1 j hj) (by rw [st1_at, hr.2 x (Nat.le_refl _)]), fun j hj => by rw [st1_no (by omega), st1_ne (by decide)]; exact hr.2 j (by omega)⟩ (by omega)
  exact L2 _ 0 _ (Nat.zero_le _) (fun _ _ _ => rfl) ⟨fun j hj => absurd hj (Nat.not_lt_zero j), fun _ _ => rfl⟩ ⟨fun j hj => absurd hj (Nat.not_lt_zero j), fun _ _ => rfl⟩ (Nat.lt_succ_self _)

set_option maxRecDepth 100000 in
set_option maxHeartbeats 4000000 in
theorem c_X0_greatestFloor (hD : ∀ P T, va_D A (wX ad cI cZ P T)) {P T : St} (L : List Nat) (hO : opn T L) (hlen : L.length ≤ 144) (hb : ∀ x ∈ L, x < 144) : XMI l D (tyz cI cZ) (wX ad cI cZ) A yX0_greatestFloor cX0_greatestFloor 4 (some .int) rmX0_greatestFloor [.ref (ad 6), .ref (ad 5)] P T (fun r P' T' => r = barX T L ∧ P' = P ∧ T' = T) := by
  refine x_start_i (lv := [(0, .ref (ad 6)), (1, .ref (ad 5))]) (own := RX0) (by decide) rfl hD (Nat.le_of_ble_eq_true rfl) rfl ?_
  intro p e s m args below meth c C
  refine x_ldc (q := 2) C tk_X0_28 dX0_greatestFloor_0 rfl ?_
  refine x_istore_n (q := 3) (lv' := [(0, .ref (ad 6)), (1, .ref (ad 5)), (2, .int ((-1000000)))]) C dX0_greatestFloor_2 rfl (by decide) rfl rfl rfl ?_
  refine x_iconst (q := 4) (v := nI 0) C dX0_greatestFloor_3 (by decide) rfl ?_
  refine x_istore_n (q := 5) (lv' := [(0, .ref (ad 6)), (1, .ref (ad 5)), (2, .int ((-1000000))), (3, .int (nI 0))]) C dX0_greatestFloor_4 rfl (by decide) rfl rfl rfl ?_
  have L5 : ∀ (f1 : Nat) (i : Nat) (a : Int32), (i ≤ L.length) → (a = gf (lk T L 16) i) → L.length - i < f1 → XW p l e rmX0_greatestFloor s m args below meth c D (wX ad cI cZ) A 4 (MQ below (XPI D (tyz cI cZ) (wX ad cI cZ) A (fun r P' T' => r = barX T L ∧ P' = P ∧ T' = T)) args s 0 0 A) 5 [(0, .ref (ad 6)), (1, .ref (ad 5)), (2, .int a), (3, .int (nI i))] [] P T := by
    intro f1
    induction f1 with
    | zero => intro i a hi ha hm; exact absurd hm (Nat.not_lt_zero _)
    | succ f1 ih5 =>
      intro i a hi ha hm5
      refine x_iload_n (q := 6) C dX0_greatestFloor_5 rfl 3 rfl rfl ?_
      refine x_aload_n (q := 7) C dX0_greatestFloor_6 rfl 1 rfl rfl ?_
      refine x_Vf (q := 10) (As := []) (rest := [.int (nI i)]) C (c_X3_howMany hD ) xs_X3_howMany tim_X3_howMany tsel_X3_howMany tml_X0_65 (by decide) 5 rfl (ci := 3) rfl rfl rfl (Nat.le_of_ble_eq_true rfl) dX0_greatestFloor_7 rfl ?_
      refine x_topn (L.length) hO.1 ?_
      refine x_icmp_ge_n (q := 13) (tgt := 34) C dX0_greatestFloor_10 (by omega) (by omega) (by decide) rfl (fun c10 => ?_) (fun c10 => ?_)
      · refine x_iload_n (q := 35) C dX0_greatestFloor_34 rfl 2 rfl rfl ?_
        exact x_iret C dX0_greatestFloor_35 ⟨by rw [ha, show i = L.length by omega]; rfl, rfl, rfl⟩
      · have hLb := hb _ (getD_mem (L := L) (i := i) (by omega))
        refine x_iload_n (q := 14) C dX0_greatestFloor_13 rfl 2 rfl rfl ?_
        refine x_aload_n (q := 15) C dX0_greatestFloor_14 rfl 0 rfl rfl ?_
        refine xg_X0_floors (q := 18) C tfl_X0_9 dX0_greatestFloor_15 rfl ?_
        refine x_aload_n (q := 19) C dX0_greatestFloor_18 rfl 1 rfl rfl ?_
        refine x_iload_n (q := 20) C dX0_greatestFloor_19 rfl 3 rfl rfl ?_
        refine x_Vf (q := 23) (As := [.int (nI i)]) (rest := [.ref (ad 24), .int a]) C (c_X3_settingAt hD i (by omega)) xs_X3_settingAt tim_X3_settingAt tsel_X3_settingAt tml_X0_68 (by decide) 5 rfl (ci := 3) rfl rfl rfl (Nat.le_of_ble_eq_true rfl) dX0_greatestFloor_20 rfl ?_
        refine x_topn (L.getD i 0) (hO.2 i (by omega)) ?_
        refine xa_X24 (q := 24) C (by omega) dX0_greatestFloor_23 rfl ?_
        refine x_mmax (q := 27) C tml_X0_53 tst_Mmax tini_Math tco_Mmax (by decide) (Nat.le_of_ble_eq_true rfl) dX0_greatestFloor_24 rfl ?_
        refine x_topi (fun z2 hz2 => ?_)
        refine x_istore_n (q := 28) (lv' := [(0, .ref (ad 6)), (1, .ref (ad 5)), (2, .int z2), (3, .int (nI i))]) C dX0_greatestFloor_27 rfl (by decide) rfl rfl rfl ?_
        refine x_iinc (q := 31) (v := nI (i + 1)) (lv' := [(0, .ref (ad 6)), (1, .ref (ad 5)), (2, .int z2), (3, .int (nI (i + 1)))]) C dX0_greatestFloor_28 3 rfl (nI_add i 1) (by decide) rfl rfl rfl ?_
        refine x_goto (tgt := 5) C dX0_greatestFloor_31 (by decide) ?_
        exact ih5 (i + 1) _ (by omega) (by rw [hz2, ha]; rfl) (by omega)
  exact L5 _ 0 _ (Nat.zero_le _) rfl (Nat.lt_succ_self _)

set_option maxRecDepth 100000 in
set_option maxHeartbeats 4000000 in
theorem c_X0_howManyLeft (hD : ∀ P T, va_D A (wX ad cI cZ P T)) {P T : St} (L : List Nat) (hO : opn T L) (hlen : L.length ≤ 144) (hb : ∀ x ∈ L, x < 144) : XMI l D (tyz cI cZ) (wX ad cI cZ) A yX0_howManyLeft cX0_howManyLeft 5 (some .int) rmX0_howManyLeft [.ref (ad 6), .ref (ad 5)] P T (fun r P' T' => r = nI (lmX T L) ∧ P' = P ∧ T' = T) := by
  refine x_start_i (lv := [(0, .ref (ad 6)), (1, .ref (ad 5))]) (own := RX0) (by decide) rfl hD (Nat.le_of_ble_eq_true rfl) rfl ?_
  intro p e s m args below meth c C
  refine x_aload_n (q := 1) C dX0_howManyLeft_0 rfl 0 rfl rfl ?_
  refine x_aload_n (q := 2) C dX0_howManyLeft_1 rfl 1 rfl rfl ?_
  refine x_Vf (q := 5) (As := [.ref (ad 5)]) (rest := []) C (c_X0_greatestFloor hD L hO hlen hb ) xs_X0_greatestFloor tim_X0_greatestFloor tsel_X0_greatestFloor tml_X0_61 (by decide) 6 rfl (ci := 0) rfl rfl rfl (Nat.le_of_ble_eq_true rfl) dX0_howManyLeft_2 rfl ?_
  refine x_istore_n (q := 6) (lv' := [(0, .ref (ad 6)), (1, .ref (ad 5)), (2, .int (barX T L))]) C dX0_howManyLeft_5 rfl (by decide) rfl rfl rfl ?_
  refine x_iconst (q := 7) (v := nI 0) C dX0_howManyLeft_6 (by decide) rfl ?_
  refine x_istore_n (q := 8) (lv' := [(0, .ref (ad 6)), (1, .ref (ad 5)), (2, .int (barX T L)), (3, .int (nI 0))]) C dX0_howManyLeft_7 rfl (by decide) rfl rfl rfl ?_
  refine x_iconst (q := 9) (v := nI 0) C dX0_howManyLeft_8 (by decide) rfl ?_
  refine x_istore (q := 11) (lv' := [(0, .ref (ad 6)), (1, .ref (ad 5)), (2, .int (barX T L)), (3, .int (nI 0)), (4, .int (nI 0))]) C dX0_howManyLeft_9 (by decide) rfl rfl rfl ?_
  have L11 : ∀ (f1 : Nat) (i : Nat) (n : Nat), (i ≤ L.length) → (n = fa_cnt (fun i => decide (barX T L ≤ lk T L 17 i)) i) → L.length - i < f1 → XW p l e rmX0_howManyLeft s m args below meth c D (wX ad cI cZ) A 5 (MQ below (XPI D (tyz cI cZ) (wX ad cI cZ) A (fun r P' T' => r = nI (lmX T L) ∧ P' = P ∧ T' = T)) args s 0 0 A) 11 [(0, .ref (ad 6)), (1, .ref (ad 5)), (2, .int (barX T L)), (3, .int (nI n)), (4, .int (nI i))] [] P T := by
    intro f1
    induction f1 with
    | zero => intro i n hi hn hm; exact absurd hm (Nat.not_lt_zero _)
    | succ f1 ih11 =>
      intro i n hi hn hm11
      refine x_iload (q := 13) C dX0_howManyLeft_11 4 rfl rfl ?_
      refine x_aload_n (q := 14) C dX0_howManyLeft_13 rfl 1 rfl rfl ?_
      refine x_Vf (q := 17) (As := []) (rest := [.int (nI i)]) C (c_X3_howMany hD ) xs_X3_howMany tim_X3_howMany tsel_X3_howMany tml_X0_65 (by decide) 5 rfl (ci := 3) rfl rfl rfl (Nat.le_of_ble_eq_true rfl) dX0_howManyLeft_14 rfl ?_
      refine x_topn (L.length) hO.1 ?_
      refine x_icmp_ge_n (q := 20) (tgt := 44) C dX0_howManyLeft_17 (by omega) (by omega) (by decide) rfl (fun c17 => ?_) (fun c17 => ?_)
      · refine x_iload_n (q := 45) C dX0_howManyLeft_44 rfl 3 rfl rfl ?_
        exact x_iret C dX0_howManyLeft_45 ⟨by rw [hn, show i = L.length by omega]; rfl, rfl, rfl⟩
      · have hLb := hb _ (getD_mem (L := L) (i := i) (by omega))
        refine x_aload_n (q := 21) C dX0_howManyLeft_20 rfl 0 rfl rfl ?_
        refine xg_X0_roofs (q := 24) C tfl_X0_15 dX0_howManyLeft_21 rfl ?_
        refine x_aload_n (q := 25) C dX0_howManyLeft_24 rfl 1 rfl rfl ?_
        refine x_iload (q := 27) C dX0_howManyLeft_25 4 rfl rfl ?_
        refine x_Vf (q := 30) (As := [.int (nI i)]) (rest := [.ref (ad 25)]) C (c_X3_settingAt hD i (by omega)) xs_X3_settingAt tim_X3_settingAt tsel_X3_settingAt tml_X0_68 (by decide) 5 rfl (ci := 3) rfl rfl rfl (Nat.le_of_ble_eq_true rfl) dX0_howManyLeft_27 rfl ?_
        refine x_topn (L.getD i 0) (hO.2 i (by omega)) ?_
        refine xa_X25 (q := 31) C (by omega) dX0_howManyLeft_30 rfl ?_
        refine x_iload_n (q := 32) C dX0_howManyLeft_31 rfl 2 rfl rfl ?_
        refine x_icmp_lt (q := 35) (tgt := 38) C dX0_howManyLeft_32 (by decide) rfl (fun c32 => ?_) (fun c32 => ?_)
        · refine x_iinc (q := 41) (v := nI (i + 1)) (lv' := [(0, .ref (ad 6)), (1, .ref (ad 5)), (2, .int (barX T L)), (3, .int (nI n)), (4, .int (nI (i + 1)))]) C dX0_howManyLeft_38 4 rfl (nI_add i 1) (by decide) rfl rfl rfl ?_
          refine x_goto (tgt := 11) C dX0_howManyLeft_41 (by decide) ?_
          exact ih11 (i + 1) n (by omega) (cnt_n hn (decide_eq_false (Int32.not_le.mpr c32))) (by omega)
        · refine x_iinc (q := 38) (v := nI (n + 1)) (lv' := [(0, .ref (ad 6)), (1, .ref (ad 5)), (2, .int (barX T L)), (3, .int (nI (n + 1))), (4, .int (nI i))]) C dX0_howManyLeft_35 3 rfl (nI_add n 1) (by decide) rfl rfl rfl ?_
          refine x_iinc (q := 41) (v := nI (i + 1)) (lv' := [(0, .ref (ad 6)), (1, .ref (ad 5)), (2, .int (barX T L)), (3, .int (nI (n + 1))), (4, .int (nI (i + 1)))]) C dX0_howManyLeft_38 4 rfl (nI_add i 1) (by decide) rfl rfl rfl ?_
          refine x_goto (tgt := 11) C dX0_howManyLeft_41 (by decide) ?_
          exact ih11 (i + 1) (n + 1) (by omega) (cnt_y hn (decide_eq_true (fa_of_nlt c32))) (by omega)
  exact L11 _ 0 0 (Nat.zero_le _) rfl (Nat.lt_succ_self _)

set_option maxRecDepth 100000 in
set_option maxHeartbeats 4000000 in
theorem c_X0_nextOf (hD : ∀ P T, va_D A (wX ad cI cZ P T)) {P T : St} (L : List Nat) (hO : opn T L) (hlen : L.length ≤ 144) (hb : ∀ x ∈ L, x < 144) : XMI l D (tyz cI cZ) (wX ad cI cZ) A yX0_nextOf cX0_nextOf 6 (some .int) rmX0_nextOf [.ref (ad 6), .ref (ad 5)] P T (fun r P' T' => r = noX T L L.length ∧ P' = P ∧ T' = T) := by
  refine x_start_i (lv := [(0, .ref (ad 6)), (1, .ref (ad 5))]) (own := RX0) (by decide) rfl hD (Nat.le_of_ble_eq_true rfl) rfl ?_
  intro p e s m args below meth c C
  refine x_aload_n (q := 1) C dX0_nextOf_0 rfl 0 rfl rfl ?_
  refine x_aload_n (q := 2) C dX0_nextOf_1 rfl 1 rfl rfl ?_
  refine x_Vf (q := 5) (As := [.ref (ad 5)]) (rest := []) C (c_X0_greatestFloor hD L hO hlen hb ) xs_X0_greatestFloor tim_X0_greatestFloor tsel_X0_greatestFloor tml_X0_61 (by decide) 6 rfl (ci := 0) rfl rfl rfl (Nat.le_of_ble_eq_true rfl) dX0_nextOf_2 rfl ?_
  refine x_istore_n (q := 6) (lv' := [(0, .ref (ad 6)), (1, .ref (ad 5)), (2, .int (barX T L))]) C dX0_nextOf_5 rfl (by decide) rfl rfl rfl ?_
  refine x_bipush (q := 8) (v := (-4)) C dX0_nextOf_6 (by decide) rfl ?_
  refine x_istore_n (q := 9) (lv' := [(0, .ref (ad 6)), (1, .ref (ad 5)), (2, .int (barX T L)), (3, .int ((-4)))]) C dX0_nextOf_8 rfl (by decide) rfl rfl rfl ?_
  refine x_iconst (q := 10) (v := nI 0) C dX0_nextOf_9 (by decide) rfl ?_
  refine x_istore (q := 12) (lv' := [(0, .ref (ad 6)), (1, .ref (ad 5)), (2, .int (barX T L)), (3, .int ((-4))), (4, .int (nI 0))]) C dX0_nextOf_10 (by decide) rfl rfl rfl ?_
  have L12 : ∀ (f1 : Nat) (i : Nat) (o : Option Nat), (i ≤ L.length) → (o = nxo (lk T L 17) (barX T L) i) → L.length - i < f1 → XW p l e rmX0_nextOf s m args below meth c D (wX ad cI cZ) A 6 (MQ below (XPI D (tyz cI cZ) (wX ad cI cZ) A (fun r P' T' => r = noX T L L.length ∧ P' = P ∧ T' = T)) args s 0 0 A) 12 [(0, .ref (ad 6)), (1, .ref (ad 5)), (2, .int (barX T L)), (3, .int (nov L o)), (4, .int (nI i))] [] P T := by
    intro f1
    induction f1 with
    | zero => intro i o hi ho hm; exact absurd hm (Nat.not_lt_zero _)
    | succ f1 ih12 =>
      intro i o hi ho hm12
      refine x_iload (q := 14) C dX0_nextOf_12 4 rfl rfl ?_
      refine x_aload_n (q := 15) C dX0_nextOf_14 rfl 1 rfl rfl ?_
      refine x_Vf (q := 18) (As := []) (rest := [.int (nI i)]) C (c_X3_howMany hD ) xs_X3_howMany tim_X3_howMany tsel_X3_howMany tml_X0_65 (by decide) 5 rfl (ci := 3) rfl rfl rfl (Nat.le_of_ble_eq_true rfl) dX0_nextOf_15 rfl ?_
      refine x_topn (L.length) hO.1 ?_
      refine x_icmp_ge_n (q := 21) (tgt := 71) C dX0_nextOf_18 (by omega) (by omega) (by decide) rfl (fun c18 => ?_) (fun c18 => ?_)
      · refine x_iload_n (q := 72) C dX0_nextOf_71 rfl 3 rfl rfl ?_
        exact x_iret C dX0_nextOf_72 ⟨by rw [noX_eq, ho, show i = L.length by omega], rfl, rfl⟩
      · have hLb := hb _ (getD_mem (L := L) (i := i) (by omega))
        refine x_aload_n (q := 22) C dX0_nextOf_21 rfl 1 rfl rfl ?_
        refine x_iload (q := 24) C dX0_nextOf_22 4 rfl rfl ?_
        refine x_Vf (q := 27) (As := [.int (nI i)]) (rest := []) C (c_X3_settingAt hD i (by omega)) xs_X3_settingAt tim_X3_settingAt tsel_X3_settingAt tml_X0_68 (by decide) 5 rfl (ci := 3) rfl rfl rfl (Nat.le_of_ble_eq_true rfl) dX0_nextOf_24 rfl ?_
        refine x_topn (L.getD i 0) (hO.2 i (by omega)) ?_
        refine x_istore (q := 29) (lv' := [(0, .ref (ad 6)), (1, .ref (ad 5)), (2, .int (barX T L)), (3, .int (nov L o)), (4, .int (nI i)), (5, .int (nI (L.getD i 0)))]) C dX0_nextOf_27 (by decide) rfl rfl rfl ?_
        refine x_aload_n (q := 30) C dX0_nextOf_29 rfl 0 rfl rfl ?_
        refine xg_X0_roofs (q := 33) C tfl_X0_15 dX0_nextOf_30 rfl ?_
        refine x_iload (q := 35) C dX0_nextOf_33 5 rfl rfl ?_
        refine xa_X25 (q := 36) C (by omega) dX0_nextOf_35 rfl ?_
        refine x_iload_n (q := 37) C dX0_nextOf_36 rfl 2 rfl rfl ?_
        refine x_icmp_lt (q := 40) (tgt := 65) C dX0_nextOf_37 (by decide) rfl (fun c37 => ?_) (fun c37 => ?_)
        · refine x_iinc (q := 68) (v := nI (i + 1)) (lv' := [(0, .ref (ad 6)), (1, .ref (ad 5)), (2, .int (barX T L)), (3, .int (nov L o)), (4, .int (nI (i + 1))), (5, .int (nI (L.getD i 0)))]) C dX0_nextOf_65 4 rfl (nI_add i 1) (by decide) rfl rfl rfl ?_
          refine x_goto (tgt := 12) C dX0_nextOf_68 (by decide) ?_
          refine x_lv [0, 1, 2, 3, 4] rfl ?_
          exact ih12 (i + 1) o (by omega) (by rw [nxo_low (f := lk T L 17) (n := i) c37]; exact ho) (by omega)
        · refine x_iload_n (q := 41) C dX0_nextOf_40 rfl 3 rfl rfl ?_
          refine x_bipush (q := 43) (v := (-4)) C dX0_nextOf_41 (by decide) rfl ?_
          refine x_icmp_eq (q := 46) (tgt := 62) C dX0_nextOf_43 (by decide) rfl (fun c43 => ?_) (fun c43 => ?_)
          · obtain rfl := nov_none hb hi (fun j hj => nxo_lt (by rw [← ho]; exact hj)) c43
            refine x_iload (q := 64) C dX0_nextOf_62 5 rfl rfl ?_
            refine x_istore_n (q := 65) (lv' := [(0, .ref (ad 6)), (1, .ref (ad 5)), (2, .int (barX T L)), (3, .int (nI (L.getD i 0))), (4, .int (nI i)), (5, .int (nI (L.getD i 0)))]) C dX0_nextOf_64 rfl (by decide) rfl rfl rfl ?_
            refine x_iinc (q := 68) (v := nI (i + 1)) (lv' := [(0, .ref (ad 6)), (1, .ref (ad 5)), (2, .int (barX T L)), (3, .int (nI (L.getD i 0))), (4, .int (nI (i + 1))), (5, .int (nI (L.getD i 0)))]) C dX0_nextOf_65 4 rfl (nI_add i 1) (by decide) rfl rfl rfl ?_
            refine x_goto (tgt := 12) C dX0_nextOf_68 (by decide) ?_
            refine x_lv [0, 1, 2, 3, 4] rfl ?_
            exact ih12 (i + 1) (some i) (by omega) (by first | exact (nxo_in0 (f := lk T L 17) (n := i) (fa_of_nlt c37) ho.symm).symm | exact (nxo_in1 (f := lk T L 17) (n := i) (fa_of_nlt c37) ho.symm (fa_of_nle c59)).symm) (by omega)
          · obtain ⟨j, rfl⟩ := nov_some c43
            have hjL := hb _ (getD_mem (L := L) (i := j) (by have := nxo_lt ho.symm; omega))
            refine x_aload_n (q := 47) C dX0_nextOf_46 rfl 0 rfl rfl ?_
            refine xg_X0_roofs (q := 50) C tfl_X0_15 dX0_nextOf_47 rfl ?_
            refine x_iload (q := 52) C dX0_nextOf_50 5 rfl rfl ?_
            refine xa_X25 (q := 53) C (by omega) dX0_nextOf_52 rfl ?_
            refine x_aload_n (q := 54) C dX0_nextOf_53 rfl 0 rfl rfl ?_
            refine xg_X0_roofs (q := 57) C tfl_X0_15 dX0_nextOf_54 rfl ?_
            refine x_iload_n (q := 58) C dX0_nextOf_57 rfl 3 rfl rfl ?_
            refine x_topn (L.getD j 0) rfl ?_
            refine xa_X25 (q := 59) C (by omega) dX0_nextOf_58 rfl ?_
            refine x_icmp_le (q := 62) (tgt := 65) C dX0_nextOf_59 (by decide) rfl (fun c59 => ?_) (fun c59 => ?_)
            · refine x_iinc (q := 68) (v := nI (i + 1)) (lv' := [(0, .ref (ad 6)), (1, .ref (ad 5)), (2, .int (barX T L)), (3, .int (nov L (some j))), (4, .int (nI (i + 1))), (5, .int (nI (L.getD i 0)))]) C dX0_nextOf_65 4 rfl (nI_add i 1) (by decide) rfl rfl rfl ?_
              refine x_goto (tgt := 12) C dX0_nextOf_68 (by decide) ?_
              refine x_lv [0, 1, 2, 3, 4] rfl ?_
              exact ih12 (i + 1) (some j) (by omega) (nxo_no (f := lk T L 17) (n := i) ho.symm c59).symm (by omega)
            · refine x_iload (q := 64) C dX0_nextOf_62 5 rfl rfl ?_
              refine x_istore_n (q := 65) (lv' := [(0, .ref (ad 6)), (1, .ref (ad 5)), (2, .int (barX T L)), (3, .int (nI (L.getD i 0))), (4, .int (nI i)), (5, .int (nI (L.getD i 0)))]) C dX0_nextOf_64 rfl (by decide) rfl rfl rfl ?_
              refine x_iinc (q := 68) (v := nI (i + 1)) (lv' := [(0, .ref (ad 6)), (1, .ref (ad 5)), (2, .int (barX T L)), (3, .int (nI (L.getD i 0))), (4, .int (nI (i + 1))), (5, .int (nI (L.getD i 0)))]) C dX0_nextOf_65 4 rfl (nI_add i 1) (by decide) rfl rfl rfl ?_
              refine x_goto (tgt := 12) C dX0_nextOf_68 (by decide) ?_
              refine x_lv [0, 1, 2, 3, 4] rfl ?_
              exact ih12 (i + 1) (some i) (by omega) (by first | exact (nxo_in0 (f := lk T L 17) (n := i) (fa_of_nlt c37) ho.symm).symm | exact (nxo_in1 (f := lk T L 17) (n := i) (fa_of_nlt c37) ho.symm (fa_of_nle c59)).symm) (by omega)
  exact L12 _ 0 none (Nat.zero_le _) rfl (Nat.lt_succ_self _)

end BOUNDS
end
section
/-- the first 8 readings of x among the first n trials -/
def rl (P : St) (x : Nat) : Nat → List Int32
  | 0 => []
  | n + 1 => if tx P n = x ∧ (rl P x n).length < 8 then rl P x n ++ [P 13 n] else rl P x n
theorem rl_8 (P : St) (x : Nat) : ∀ n, (rl P x n).length ≤ 8
  | 0 => Nat.zero_le _
  | n + 1 => by
    have h := rl_8 P x n
    unfold rl
    split
    · rename_i q; rw [List.length_append, List.length_singleton]; omega
    · exact h
theorem rl_y {P : St} {x n : Nat} (h : tx P n = x) (h8 : (rl P x n).length < 8) : rl P x (n + 1) = rl P x n ++ [P 13 n] := by rw [rl, if_pos ⟨h, h8⟩]
theorem rl_n {P : St} {x n : Nat} (h : ¬ tx P n = x) : rl P x (n + 1) = rl P x n := by rw [rl, if_neg (fun q => h q.1)]
theorem rl_full {P : St} {x n : Nat} (h8 : ¬ (rl P x n).length < 8) : ∀ k, rl P x (n + k) = rl P x n
  | 0 => rfl
  | k + 1 => by
    have h := rl_full h8 k
    rw [← Nat.add_assoc, rl, h, if_neg (fun q => h8 q.2)]
theorem rl_end {P : St} {x n m : Nat} (h8 : ¬ (rl P x n).length < 8) (h : n ≤ m) : rl P x m = rl P x n := by
  obtain ⟨k, rfl⟩ := Nat.exists_eq_add_of_le h
  exact rl_full h8 k
/-- the gathered readings are the list's -/
def rdg (T : St) (L : List Int32) : Prop := T 28 0 = nI L.length ∧ ∀ i, i < L.length → T 18 i = L.getD i 0
theorem rdg_push {T : St} {L : List Int32} {v : Int32} (h : rdg T L) : rdg (st1 (st1 T 18 L.length v) 28 0 (nI (L.length + 1))) (L ++ [v]) := by
  refine ⟨?_, fun i hi => ?_⟩
  · rw [st1_at, List.length_append]; rfl
  · rw [st1_ne (by decide)]
    rw [List.length_append, List.length_singleton] at hi
    by_cases q : i = L.length
    · rw [q, st1_at]; simp
    · rw [st1_no q, h.2 i (by omega)]
      rw [List.getD_eq_getElem?_getD, List.getD_eq_getElem?_getD, List.getElem?_append_left (by omega)]
theorem rdg_keep {T T' : St} {L : List Int32} (h : rdg T L) (h1 : T' 28 = T 28) (h2 : T' 18 = T 18) : rdg T' L := ⟨by rw [h1]; exact h.1, fun i hi => by rw [h2]; exact h.2 i hi⟩
def rkt (L : List Int32) (i j : Nat) : Nat := if L.getD j 0 < L.getD i 0 then 2 else if L.getD j 0 = L.getD i 0 ∧ j ≠ i then 1 else 0
def rk (L : List Int32) (i : Nat) : Nat := fb_sm (rkt L i) L.length
theorem rkt_2 (L : List Int32) (i j : Nat) : rkt L i j ≤ 2 := by
  unfold rkt
  split
  · exact Nat.le_refl _
  · split <;> decide
theorem rk_sm (L : List Int32) (i : Nat) : ∀ n, fb_sm (rkt L i) n ≤ 2 * n
  | 0 => Nat.le_refl _
  | n + 1 => by
    have h := rk_sm L i n
    have := rkt_2 L i n
    rw [fb_sm]; omega
theorem rkt_self (L : List Int32) (i : Nat) : rkt L i i = 0 := by
  unfold rkt
  rw [if_neg (by simp [fa_lt]), if_neg (fun h => h.2 rfl)]
theorem rk_smi (L : List Int32) (i : Nat) : ∀ n, i < n → fb_sm (rkt L i) n + 2 ≤ 2 * n
  | 0, h => absurd h (Nat.not_lt_zero _)
  | n + 1, h => by
    have h2 := rkt_2 L i n
    rw [fb_sm]
    by_cases q : i = n
    · have := rk_sm L i n
      rw [← q] at this ⊢; rw [rkt_self]; omega
    · have := rk_smi L i n (by omega); omega
theorem rk_30 {L : List Int32} {i : Nat} (h : L.length ≤ 16) (hi : i < L.length) : rk L i ≤ 30 := by
  have := rk_smi L i L.length hi
  unfold rk; omega
/-- in how many ways n of the first i have ranks of the sum s -/
def dpf (r : Nat → Nat) : Nat → Nat → Nat → Int32
  | 0, n, s => if n = 0 ∧ s = 0 then 1 else 0
  | i + 1, n, s => dpf r i n s + (if 1 ≤ n ∧ r i ≤ s then dpf r i (n - 1) (s - r i) else 0)
def sfr (f : Nat → Int32) (a b : Nat) : Int32 := sm (fun k => f (a + k)) (b - a)
def rdl (P : St) (x y : Nat) : List Int32 := rl P x (nt P) ++ rl P y (nt P)
def dueX (P : St) (x y : Nat) : Nat := fb_sm (fun k => rk (rdl P x y) ((rl P x (nt P)).length + k)) (rl P y (nt P)).length
def cwX (P : St) (x y : Nat) : Int32 := sfr (dpf (rk (rdl P x y)) (rdl P x y).length (rl P y (nt P)).length) (dueX P x y) 241
def awX (P : St) (x y : Nat) : Int32 := sfr (dpf (rk (rdl P x y)) (rdl P x y).length (rl P y (nt P)).length) 0 241
theorem rdl_len (P : St) (x y : Nat) : (rdl P x y).length = (rl P x (nt P)).length + (rl P y (nt P)).length := List.length_append
/-- the rows of ways while the row nn takes in the rank r at s -/
def wyo (g : Nat → Int32) (r : Nat → Nat) (i most nn s : Nat) : Prop := ∀ n k, n ≤ most → k < 241 → g (n * 241 + k) = if nn < n ∨ (n = nn ∧ k < s + r i) then dpf r (i + 1) n k else dpf r i n k
theorem wyo_step {g : Nat → Int32} {r : Nat → Nat} {i most nn s : Nat} (h : wyo g r i most nn s) (hnn : 0 < nn) (hm : nn ≤ most) (hs : s + r i < 241) :
    wyo (upd g (nn * 241 + s + r i) (g (nn * 241 + s + r i) + g ((nn - 1) * 241 + s))) r i most nn (s + 1) := by
  intro n k hn hk
  have e1 : g (nn * 241 + s + r i) = dpf r i nn (s + r i) := by
    rw [Nat.add_assoc, h nn (s + r i) hm hs, if_neg (by omega)]
  have e2 : g ((nn - 1) * 241 + s) = dpf r i (nn - 1) s := by
    rw [h (nn - 1) s (by omega) (by omega), if_neg (by omega)]
  by_cases q : n = nn ∧ k = s + r i
  · obtain ⟨rfl, rfl⟩ := q
    rw [Nat.add_assoc, upd, if_pos rfl, if_pos (by omega), ← Nat.add_assoc, e1, e2, dpf, if_pos (by omega), Nat.add_sub_cancel]
  · rw [upd, if_neg (fun e => q (by have := Nat.div_add_mod (n * 241 + k) 241; omega)), h n k hn hk]
    by_cases q2 : nn < n ∨ (n = nn ∧ k < s + r i)
    · rw [if_pos q2, if_pos (by omega)]
    · rw [if_neg q2, if_neg (by omega)]
theorem wyo_row {g : Nat → Int32} {r : Nat → Nat} {i most nn s : Nat} (h : wyo g r i most nn s) (hnn : 0 < nn) (hs : ¬ s + r i < 241) : wyo g r i most (nn - 1) 0 := by
  intro n k hn hk
  rw [h n k hn hk]
  by_cases q2 : nn < n ∨ (n = nn ∧ k < s + r i)
  · rw [if_pos q2, if_pos (by omega)]
  · rw [if_neg q2]
    by_cases q3 : nn - 1 < n ∨ (n = nn - 1 ∧ k < 0 + r i)
    · rw [if_pos q3, dpf, if_neg (by omega), Int32.add_zero]
    · rw [if_neg q3]
theorem wyo_next {g : Nat → Int32} {r : Nat → Nat} {i most : Nat} (h : wyo g r i most 0 0) : ∀ n k, n ≤ most → k < 241 → g (n * 241 + k) = dpf r (i + 1) n k := by
  intro n k hn hk
  rw [h n k hn hk]
  by_cases q2 : 0 < n ∨ (n = 0 ∧ k < 0 + r i)
  · rw [if_pos q2]
  · rw [if_neg q2, dpf, if_neg (by omega), Int32.add_zero]
theorem wyo_begin {g : Nat → Int32} {r : Nat → Nat} {i most : Nat} (h : ∀ n k, n ≤ most → k < 241 → g (n * 241 + k) = dpf r i n k) : wyo g r i most most 0 := by
  intro n k hn hk
  rw [h n k hn hk]
  by_cases q2 : most < n ∨ (n = most ∧ k < 0 + r i)
  · rw [if_pos q2, dpf, if_neg (by omega), Int32.add_zero]
  · rw [if_neg q2]
theorem nI_m1 {a : Nat} (h : 1 ≤ a) : nI a - nI 1 = nI (a - 1) := pk_sub h
theorem nI_m1lt {a : Nat} (ha : a < 2 ^ 30) : nI a - nI 1 < 0 ↔ a = 0 := by
  constructor
  · intro h
    rcases Nat.eq_zero_or_pos a with q | q
    · exact q
    · rw [nI_m1 q] at h; exact absurd h (nI_pos (by omega))
  · rintro rfl; decide
theorem upd_0 {f : Nat → Int32} {i : Nat} {v : Int32} : upd f i v i = v := by simp [upd]
theorem ways0 {T : St} {r : Nat → Nat} (hF : ∀ j, j < 2169 → T 19 j = nI 0) {n k : Nat} (h1 : n ≤ 8) (h2 : k < 241) : st1 T 19 0 (nI 1) 19 (n * 241 + k) = dpf r 0 n k := by
  rw [dpf]
  by_cases q : n = 0 ∧ k = 0
  · obtain ⟨rfl, rfl⟩ := q
    rw [if_pos ⟨rfl, rfl⟩]; exact st1_at
  · rw [st1_no (by omega), hF _ (by omega), if_neg q]; rfl
theorem sm_congr {f g : Nat → Int32} : ∀ {n : Nat}, (∀ k, k < n → f k = g k) → sm f n = sm g n
  | 0, _ => rfl
  | n + 1, h => by rw [sm, sm, sm_congr (fun k hk => h k (Nat.lt_succ_of_lt hk)), h n (Nat.lt_succ_self n)]
theorem sfr_congr {f g : Nat → Int32} {a b : Nat} (h : ∀ k, k < b → f k = g k) : sfr f a b = sfr g a b := sm_congr (fun k hk => h (a + k) (by omega))
theorem due_240 (P : St) (x y : Nat) : dueX P x y ≤ 240 := by
  have hx := rl_8 P x (nt P)
  have hy := rl_8 P y (nt P)
  have hl := rdl_len P x y
  have h := fb_sm_bound (f := fun k => rk (rdl P x y) ((rl P x (nt P)).length + k)) (c := 30) (n := (rl P y (nt P)).length) (fun k hk => rk_30 (by omega) (by omega))
  unfold dueX
  omega
end
section
section RANKS
variable {l : Launch} {D : va_G} {ad : Nat → Nat} {cI cZ : ClassId} {A : Nat → Prop}

set_option maxRecDepth 100000 in
set_option maxHeartbeats 4000000 in
theorem c_X4_gather (hD : ∀ P T, va_D A (wX ad cI cZ P T)) {P T : St} (ok : okX P) (x : Nat) (hx : x < 2 ^ 31) (L : List Int32) (hL : rdg T L) (h8 : L.length ≤ 8) : XMV l D (tyz cI cZ) (wX ad cI cZ) A yX4_gather cX4_gather 5 none rmX4_gather [.ref (ad 7), .int (nI x), .ref (ad 4)] P T (fun P' T' => P' = P ∧ (∀ j, j ≠ 18 → j ≠ 28 → T' j = T j) ∧ rdg T' (L ++ rl P x (nt P))) := by
  have okc := ok.1
  have hk6 := okc_kn6 okc
  have hS144 := okc_S144 okc
  have hS1 := okc_S1 okc
  have hnr := okc_nr12 okc
  have hnt := okc_nt60 okc
  have hnz := okc_nz50 okc
  have hsd := okc_sdb okc
  refine x_start_v (lv := [(0, .ref (ad 7)), (1, .int (nI x)), (2, .ref (ad 4))]) (own := RX4) (by decide) rfl hD (Nat.le_of_ble_eq_true rfl) rfl ?_
  intro p e s m args below meth c C
  refine x_aload_n (q := 1) C dX4_gather_0 rfl 0 rfl rfl ?_
  refine xg_X4_many (q := 4) C tfl_X4_11 dX4_gather_1 rfl ?_
  refine x_topn (L.length) hL.1 ?_
  refine x_bipush (q := 6) (v := nI 8) C dX4_gather_4 (by decide) rfl ?_
  refine x_iadd_n (q := 7) C dX4_gather_6 rfl ?_
  refine x_namen (fun n1 hn1 => ?_)
  refine x_istore_n (q := 8) (lv' := [(0, .ref (ad 7)), (1, .int (nI x)), (2, .ref (ad 4)), (3, .int (nI n1))]) C dX4_gather_7 rfl (by decide) rfl rfl rfl ?_
  refine x_iconst (q := 9) (v := nI 0) C dX4_gather_8 (by decide) rfl ?_
  refine x_istore (q := 11) (lv' := [(0, .ref (ad 7)), (1, .int (nI x)), (2, .ref (ad 4)), (3, .int (nI n1)), (4, .int (nI 0))]) C dX4_gather_9 (by decide) rfl rfl rfl ?_
  have L11 : ∀ (f2 : Nat) (i : Nat) (Tq : St), (i ≤ nt P) → (∀ j, j ≠ 18 → j ≠ 28 → Tq j = T j) → (rdg Tq (L ++ rl P x i)) → nt P - i < f2 → XW p l e rmX4_gather s m args below meth c D (wX ad cI cZ) A 5 (MQ below (XPV D (tyz cI cZ) (wX ad cI cZ) A (fun P' T' => P' = P ∧ (∀ j, j ≠ 18 → j ≠ 28 → T' j = T j) ∧ rdg T' (L ++ rl P x (nt P)))) args s 0 0 A) 11 [(0, .ref (ad 7)), (1, .int (nI x)), (2, .ref (ad 4)), (3, .int (nI n1)), (4, .int (nI i))] [] P Tq := by
    intro f2
    induction f2 with
    | zero => intro i Tq hi hT hG hm; exact absurd hm (Nat.not_lt_zero _)
    | succ f2 ih11 =>
      intro i Tq hi hT hG hm11
      refine x_iload (q := 13) C dX4_gather_11 4 rfl rfl ?_
      refine x_aload_n (q := 14) C dX4_gather_13 rfl 2 rfl rfl ?_
      refine x_Vf (q := 17) (As := []) (rest := [.int (nI i)]) C (c_X6_howMany hD ) xs_X6_howMany tim_X6_howMany tsel_X6_howMany tml_X4_44 (by decide) 4 rfl (ci := 6) rfl rfl rfl (Nat.le_of_ble_eq_true rfl) dX4_gather_14 rfl ?_
      refine x_topn (nt P) (okc_nt (P := P) okc) ?_
      refine x_icmp_ge_n (q := 20) (tgt := 69) C dX4_gather_17 (by omega) (by omega) (by decide) rfl (fun c17 => ?_) (fun c17 => ?_)
      · exact x_vret C dX4_gather_69 ⟨rfl, hT, by first | (rw [show nt P = i by omega]; exact hG) | (rw [rl_end (n := i) (by rw [List.length_append] at c25; omega) hi]; exact hG)⟩
      · have hr8 := rl_8 P x i
        have hLl : (L ++ rl P x i).length = L.length + (rl P x i).length := List.length_append
        have htx := okc_txS okc (i := i) (by omega)
        refine x_aload_n (q := 21) C dX4_gather_20 rfl 0 rfl rfl ?_
        refine xg_X4_many (q := 24) C tfl_X4_11 dX4_gather_21 rfl ?_
        refine x_topn ((L ++ rl P x i).length) hG.1 ?_
        refine x_iload_n (q := 25) C dX4_gather_24 rfl 3 rfl rfl ?_
        refine x_icmp_ge_n (q := 28) (tgt := 69) C dX4_gather_25 (by omega) (by omega) (by decide) rfl (fun c25 => ?_) (fun c25 => ?_)
        · exact x_vret C dX4_gather_69 ⟨rfl, hT, by first | (rw [show nt P = i by omega]; exact hG) | (rw [rl_end (n := i) (by rw [List.length_append] at c25; omega) hi]; exact hG)⟩
        · refine x_aload_n (q := 29) C dX4_gather_28 rfl 2 rfl rfl ?_
          refine x_iload (q := 31) C dX4_gather_29 4 rfl rfl ?_
          refine x_Vf (q := 34) (As := [.int (nI i)]) (rest := []) C (c_X6_settingAt hD i (by omega)) xs_X6_settingAt tim_X6_settingAt tsel_X6_settingAt tml_X4_50 (by decide) 4 rfl (ci := 6) rfl rfl rfl (Nat.le_of_ble_eq_true rfl) dX4_gather_31 rfl ?_
          refine x_topn (tx P i) (okc_tx okc (by omega)) ?_
          refine x_iload_n (q := 35) C dX4_gather_34 rfl 1 rfl rfl ?_
          refine x_icmp_ne_n (q := 38) (tgt := 63) C dX4_gather_35 (by omega) (by omega) (by decide) rfl (fun c35 => ?_) (fun c35 => ?_)
          · refine x_iinc (q := 66) (v := nI (i + 1)) (lv' := [(0, .ref (ad 7)), (1, .int (nI x)), (2, .ref (ad 4)), (3, .int (nI n1)), (4, .int (nI (i + 1)))]) C dX4_gather_63 4 rfl (nI_add i 1) (by decide) rfl rfl rfl ?_
            refine x_goto (tgt := 11) C dX4_gather_66 (by decide) ?_
            exact ih11 (i + 1) _ (by omega) hT (by rw [rl_n c35]; exact hG) (by omega)
          · refine x_aload_n (q := 39) C dX4_gather_38 rfl 0 rfl rfl ?_
            refine xg_X4_readings (q := 42) C tfl_X4_21 dX4_gather_39 rfl ?_
            refine x_aload_n (q := 43) C dX4_gather_42 rfl 0 rfl rfl ?_
            refine xg_X4_many (q := 46) C tfl_X4_11 dX4_gather_43 rfl ?_
            refine x_topn ((L ++ rl P x i).length) hG.1 ?_
            refine x_aload_n (q := 47) C dX4_gather_46 rfl 2 rfl rfl ?_
            refine x_iload (q := 49) C dX4_gather_47 4 rfl rfl ?_
            refine x_Vf (q := 52) (As := [.int (nI i)]) (rest := [.int (nI ((L ++ rl P x i).length)), .ref (ad 26)]) C (c_X6_readingAt hD i (by omega)) xs_X6_readingAt tim_X6_readingAt tsel_X6_readingAt tml_X4_53 (by decide) 4 rfl (ci := 6) rfl rfl rfl (Nat.le_of_ble_eq_true rfl) dX4_gather_49 rfl ?_
            refine xs_X26 (q := 53) C (by omega) dX4_gather_52 rfl ?_
            refine x_aload_n (q := 54) C dX4_gather_53 rfl 0 rfl rfl ?_
            refine x_dup (q := 55) C dX4_gather_54 rfl rfl ?_
            refine xg_X4_many (q := 58) C tfl_X4_11 dX4_gather_55 rfl ?_
            refine x_topn ((L ++ rl P x i).length) hG.1 ?_
            refine x_iconst (q := 59) (v := nI 1) C dX4_gather_58 (by decide) rfl ?_
            refine x_iadd_n (q := 60) C dX4_gather_59 rfl ?_
            refine xp_X4_many (q := 63) C tfl_X4_11 dX4_gather_60 rfl ?_
            refine x_iinc (q := 66) (v := nI (i + 1)) (lv' := [(0, .ref (ad 7)), (1, .int (nI x)), (2, .ref (ad 4)), (3, .int (nI n1)), (4, .int (nI (i + 1)))]) C dX4_gather_63 4 rfl (nI_add i 1) (by decide) rfl rfl rfl ?_
            refine x_goto (tgt := 11) C dX4_gather_66 (by decide) ?_
            exact ih11 (i + 1) _ (by omega) (fun j h1 h2 => by rw [st1_ne h2, st1_ne h1]; exact hT j h1 h2) (by rw [rl_y c35 (by rw [List.length_append] at c25; omega), ← List.append_assoc]; exact rdg_push hG) (by omega)
  exact L11 _ 0 _ (Nat.zero_le _) (fun _ _ _ => rfl) (by rw [rl, List.append_nil]; exact hL) (Nat.lt_succ_self _)

set_option maxRecDepth 100000 in
set_option maxHeartbeats 4000000 in
theorem c_X4_rankAt (hD : ∀ P T, va_D A (wX ad cI cZ P T)) {P T : St} (L : List Int32) (hL : rdg T L) (h16 : L.length ≤ 16) (i : Nat) (hi : i < L.length) : XMI l D (tyz cI cZ) (wX ad cI cZ) A yX4_rankAt cX4_rankAt 4 (some .int) rmX4_rankAt [.ref (ad 7), .int (nI i)] P T (fun r P' T' => r = nI (rk L i) ∧ P' = P ∧ T' = T) := by
  refine x_start_i (lv := [(0, .ref (ad 7)), (1, .int (nI i))]) (own := RX4) (by decide) rfl hD (Nat.le_of_ble_eq_true rfl) rfl ?_
  intro p e s m args below meth c C
  refine x_iconst (q := 1) (v := nI 0) C dX4_rankAt_0 (by decide) rfl ?_
  refine x_istore_n (q := 2) (lv' := [(0, .ref (ad 7)), (1, .int (nI i)), (2, .int (nI 0))]) C dX4_rankAt_1 rfl (by decide) rfl rfl rfl ?_
  refine x_iconst (q := 3) (v := nI 0) C dX4_rankAt_2 (by decide) rfl ?_
  refine x_istore_n (q := 4) (lv' := [(0, .ref (ad 7)), (1, .int (nI i)), (2, .int (nI 0)), (3, .int (nI 0))]) C dX4_rankAt_3 rfl (by decide) rfl rfl rfl ?_
  have L4 : ∀ (f1 : Nat) (j : Nat) (n : Nat), (j ≤ L.length) → (n = fb_sm (rkt L i) j) → L.length - j < f1 → XW p l e rmX4_rankAt s m args below meth c D (wX ad cI cZ) A 4 (MQ below (XPI D (tyz cI cZ) (wX ad cI cZ) A (fun r P' T' => r = nI (rk L i) ∧ P' = P ∧ T' = T)) args s 0 0 A) 4 [(0, .ref (ad 7)), (1, .int (nI i)), (2, .int (nI n)), (3, .int (nI j))] [] P T := by
    intro f1
    induction f1 with
    | zero => intro j n hj hn hm; exact absurd hm (Nat.not_lt_zero _)
    | succ f1 ih4 =>
      intro j n hj hn hm4
      refine x_iload_n (q := 5) C dX4_rankAt_4 rfl 3 rfl rfl ?_
      refine x_aload_n (q := 6) C dX4_rankAt_5 rfl 0 rfl rfl ?_
      refine xg_X4_many (q := 9) C tfl_X4_11 dX4_rankAt_6 rfl ?_
      refine x_topn (L.length) hL.1 ?_
      refine x_icmp_ge_n (q := 12) (tgt := 62) C dX4_rankAt_9 (by omega) (by omega) (by decide) rfl (fun c9 => ?_) (fun c9 => ?_)
      · refine x_iload_n (q := 63) C dX4_rankAt_62 rfl 2 rfl rfl ?_
        exact x_iret C dX4_rankAt_63 ⟨by rw [hn, show j = L.length by omega]; rfl, rfl, rfl⟩
      · refine x_aload_n (q := 13) C dX4_rankAt_12 rfl 0 rfl rfl ?_
        refine xg_X4_readings (q := 16) C tfl_X4_21 dX4_rankAt_13 rfl ?_
        refine x_iload_n (q := 17) C dX4_rankAt_16 rfl 3 rfl rfl ?_
        refine xa_X26 (q := 18) C (by omega) dX4_rankAt_17 rfl ?_
        refine x_tope (L.getD j 0) (hL.2 j (by omega)) ?_
        refine x_aload_n (q := 19) C dX4_rankAt_18 rfl 0 rfl rfl ?_
        refine xg_X4_readings (q := 22) C tfl_X4_21 dX4_rankAt_19 rfl ?_
        refine x_iload_n (q := 23) C dX4_rankAt_22 rfl 1 rfl rfl ?_
        refine xa_X26 (q := 24) C (by omega) dX4_rankAt_23 rfl ?_
        refine x_tope (L.getD i 0) (hL.2 i (by omega)) ?_
        refine x_icmp_ge (q := 27) (tgt := 33) C dX4_rankAt_24 (by decide) rfl (fun c24 => ?_) (fun c24 => ?_)
        · refine x_aload_n (q := 34) C dX4_rankAt_33 rfl 0 rfl rfl ?_
          refine xg_X4_readings (q := 37) C tfl_X4_21 dX4_rankAt_34 rfl ?_
          refine x_iload_n (q := 38) C dX4_rankAt_37 rfl 3 rfl rfl ?_
          refine xa_X26 (q := 39) C (by omega) dX4_rankAt_38 rfl ?_
          refine x_tope (L.getD j 0) (hL.2 j (by omega)) ?_
          refine x_aload_n (q := 40) C dX4_rankAt_39 rfl 0 rfl rfl ?_
          refine xg_X4_readings (q := 43) C tfl_X4_21 dX4_rankAt_40 rfl ?_
          refine x_iload_n (q := 44) C dX4_rankAt_43 rfl 1 rfl rfl ?_
          refine xa_X26 (q := 45) C (by omega) dX4_rankAt_44 rfl ?_
          refine x_tope (L.getD i 0) (hL.2 i (by omega)) ?_
          refine x_icmp_ne (q := 48) (tgt := 56) C dX4_rankAt_45 (by decide) rfl (fun c45 => ?_) (fun c45 => ?_)
          · refine x_iinc (q := 59) (v := nI (j + 1)) (lv' := [(0, .ref (ad 7)), (1, .int (nI i)), (2, .int (nI n)), (3, .int (nI (j + 1)))]) C dX4_rankAt_56 3 rfl (nI_add j 1) (by decide) rfl rfl rfl ?_
            refine x_goto (tgt := 4) C dX4_rankAt_59 (by decide) ?_
            exact ih4 (j + 1) n (by omega) (by rw [fb_sm, ← hn, rkt, if_neg (Int32.not_lt.mpr c24), if_neg (fun h => by first | exact c45 h.1 | exact h.2 c50)]; rfl) (by omega)
          · refine x_iload_n (q := 49) C dX4_rankAt_48 rfl 3 rfl rfl ?_
            refine x_iload_n (q := 50) C dX4_rankAt_49 rfl 1 rfl rfl ?_
            refine x_icmp_eq_n (q := 53) (tgt := 56) C dX4_rankAt_50 (by omega) (by omega) (by decide) rfl (fun c50 => ?_) (fun c50 => ?_)
            · refine x_iinc (q := 59) (v := nI (j + 1)) (lv' := [(0, .ref (ad 7)), (1, .int (nI i)), (2, .int (nI n)), (3, .int (nI (j + 1)))]) C dX4_rankAt_56 3 rfl (nI_add j 1) (by decide) rfl rfl rfl ?_
              refine x_goto (tgt := 4) C dX4_rankAt_59 (by decide) ?_
              exact ih4 (j + 1) n (by omega) (by rw [fb_sm, ← hn, rkt, if_neg (Int32.not_lt.mpr c24), if_neg (fun h => by first | exact c45 h.1 | exact h.2 c50)]; rfl) (by omega)
            · refine x_iinc (q := 56) (v := nI (n + 1)) (lv' := [(0, .ref (ad 7)), (1, .int (nI i)), (2, .int (nI (n + 1))), (3, .int (nI j))]) C dX4_rankAt_53 2 rfl (nI_add n 1) (by decide) rfl rfl rfl ?_
              refine x_iinc (q := 59) (v := nI (j + 1)) (lv' := [(0, .ref (ad 7)), (1, .int (nI i)), (2, .int (nI (n + 1))), (3, .int (nI (j + 1)))]) C dX4_rankAt_56 3 rfl (nI_add j 1) (by decide) rfl rfl rfl ?_
              refine x_goto (tgt := 4) C dX4_rankAt_59 (by decide) ?_
              exact ih4 (j + 1) (n + 1) (by omega) (by rw [fb_sm, ← hn, rkt, if_neg (Int32.not_lt.mpr c24), if_pos ⟨c45, c50⟩]) (by omega)
        · refine x_iinc (q := 30) (v := nI (n + 2)) (lv' := [(0, .ref (ad 7)), (1, .int (nI i)), (2, .int (nI (n + 2))), (3, .int (nI j))]) C dX4_rankAt_27 2 rfl (nI_add n 2) (by decide) rfl rfl rfl ?_
          refine x_goto (tgt := 56) C dX4_rankAt_30 (by decide) ?_
          refine x_iinc (q := 59) (v := nI (j + 1)) (lv' := [(0, .ref (ad 7)), (1, .int (nI i)), (2, .int (nI (n + 2))), (3, .int (nI (j + 1)))]) C dX4_rankAt_56 3 rfl (nI_add j 1) (by decide) rfl rfl rfl ?_
          refine x_goto (tgt := 4) C dX4_rankAt_59 (by decide) ?_
          exact ih4 (j + 1) (n + 2) (by omega) (by rw [fb_sm, ← hn, rkt, if_pos (fa_of_nle c24)]) (by omega)
  exact L4 _ 0 0 (Nat.zero_le _) rfl (Nat.lt_succ_self _)

set_option maxRecDepth 100000 in
set_option maxHeartbeats 4000000 in
theorem c_X4_waysFrom (hD : ∀ P T, va_D A (wX ad cI cZ P T)) {P T : St} (b n : Nat) (hb : b ≤ 241) (hn : n ≤ 8) : XMI l D (tyz cI cZ) (wX ad cI cZ) A yX4_waysFrom cX4_waysFrom 5 (some .int) rmX4_waysFrom [.ref (ad 7), .int (nI b), .int (nI n)] P T (fun r P' T' => r = sfr (fun k => T 19 (n * 241 + k)) b 241 ∧ P' = P ∧ T' = T) := by
  refine x_start_i (lv := [(0, .ref (ad 7)), (1, .int (nI b)), (2, .int (nI n))]) (own := RX4) (by decide) rfl hD (Nat.le_of_ble_eq_true rfl) rfl ?_
  intro p e s m args below meth c C
  refine x_iconst (q := 1) (v := nI 0) C dX4_waysFrom_0 (by decide) rfl ?_
  refine x_istore_n (q := 2) (lv' := [(0, .ref (ad 7)), (1, .int (nI b)), (2, .int (nI n)), (3, .int (nI 0))]) C dX4_waysFrom_1 rfl (by decide) rfl rfl rfl ?_
  refine x_iload_n (q := 3) C dX4_waysFrom_2 rfl 1 rfl rfl ?_
  refine x_istore (q := 5) (lv' := [(0, .ref (ad 7)), (1, .int (nI b)), (2, .int (nI n)), (3, .int (nI 0)), (4, .int (nI b))]) C dX4_waysFrom_3 (by decide) rfl rfl rfl ?_
  have L5 : ∀ (f1 : Nat) (t : Nat) (a : Int32), (b ≤ t ∧ t ≤ 241) → (a = sm (fun k => T 19 (n * 241 + (b + k))) (t - b)) → 241 - t < f1 → XW p l e rmX4_waysFrom s m args below meth c D (wX ad cI cZ) A 5 (MQ below (XPI D (tyz cI cZ) (wX ad cI cZ) A (fun r P' T' => r = sfr (fun k => T 19 (n * 241 + k)) b 241 ∧ P' = P ∧ T' = T)) args s 0 0 A) 5 [(0, .ref (ad 7)), (1, .int (nI b)), (2, .int (nI n)), (3, .int a), (4, .int (nI t))] [] P T := by
    intro f1
    induction f1 with
    | zero => intro t a ht ha hm; exact absurd hm (Nat.not_lt_zero _)
    | succ f1 ih5 =>
      intro t a ht ha hm5
      refine x_iload (q := 7) C dX4_waysFrom_5 4 rfl rfl ?_
      refine x_sipush (q := 10) (v := nI 241) C dX4_waysFrom_7 (by decide) rfl ?_
      refine x_icmp_ge_n (q := 13) (tgt := 35) C dX4_waysFrom_10 (by omega) (by omega) (by decide) rfl (fun c10 => ?_) (fun c10 => ?_)
      · refine x_iload_n (q := 36) C dX4_waysFrom_35 rfl 3 rfl rfl ?_
        exact x_iret C dX4_waysFrom_36 ⟨by rw [ha, show t = 241 by omega]; rfl, rfl, rfl⟩
      · refine x_iload_n (q := 14) C dX4_waysFrom_13 rfl 3 rfl rfl ?_
        refine x_aload_n (q := 15) C dX4_waysFrom_14 rfl 0 rfl rfl ?_
        refine xg_X4_ways (q := 18) C tfl_X4_25 dX4_waysFrom_15 rfl ?_
        refine x_iload_n (q := 19) C dX4_waysFrom_18 rfl 2 rfl rfl ?_
        refine x_sipush (q := 22) (v := nI 241) C dX4_waysFrom_19 (by decide) rfl ?_
        refine x_imul_n (q := 23) C dX4_waysFrom_22 rfl ?_
        refine x_iload (q := 25) C dX4_waysFrom_23 4 rfl rfl ?_
        refine x_iadd_n (q := 26) C dX4_waysFrom_25 rfl ?_
        refine xa_X27 (q := 27) C (by omega) dX4_waysFrom_26 rfl ?_
        refine x_iadd (q := 28) C dX4_waysFrom_27 rfl ?_
        refine x_topi (fun z2 hz2 => ?_)
        refine x_istore_n (q := 29) (lv' := [(0, .ref (ad 7)), (1, .int (nI b)), (2, .int (nI n)), (3, .int z2), (4, .int (nI t))]) C dX4_waysFrom_28 rfl (by decide) rfl rfl rfl ?_
        refine x_iinc (q := 32) (v := nI (t + 1)) (lv' := [(0, .ref (ad 7)), (1, .int (nI b)), (2, .int (nI n)), (3, .int z2), (4, .int (nI (t + 1)))]) C dX4_waysFrom_29 4 rfl (nI_add t 1) (by decide) rfl rfl rfl ?_
        refine x_goto (tgt := 5) C dX4_waysFrom_32 (by decide) ?_
        exact ih5 (t + 1) _ (by omega) (by rw [hz2, ha, show t + 1 - b = t - b + 1 by omega, sm, show b + (t - b) = t by omega]) (by omega)
  exact L5 _ b 0 ⟨Nat.le_refl _, hb⟩ (by rw [Nat.sub_self]; rfl) (Nat.lt_succ_self _)

set_option maxRecDepth 100000 in
set_option maxHeartbeats 4000000 in
theorem c_J7_fill_53178 (hD : ∀ P T, va_D A (wX ad cI cZ P T)) {P T : St} (x : Int32) : XMV l D (tyz cI cZ) (wX ad cI cZ) A yJ7_fill_53178 cJ7_fill_53178 4 none rmJ7_fill_53178 [.ref (ad 27), .int x] P T (fun P' T' => P' = P ∧ (∀ j, j ≠ 19 → T' j = T j) ∧ ∀ j, j < 2169 → T' 19 j = x) := by
  refine x_start_v (lv := [(0, .ref (ad 27)), (1, .int x)]) (own := RJ7) (by decide) rfl hD (Nat.le_of_ble_eq_true rfl) rfl ?_
  intro p e s m args below meth c C
  refine x_iconst (q := 1) (v := nI 0) C dJ7_fill_53178_0 (by decide) rfl ?_
  refine x_istore_n (q := 2) (lv' := [(0, .ref (ad 27)), (1, .int x), (2, .int (nI 0))]) C dJ7_fill_53178_1 rfl (by decide) rfl rfl rfl ?_
  refine x_aload_n (q := 3) C dJ7_fill_53178_2 rfl 0 rfl rfl ?_
  refine x_alen (q := 4) (cA := cI) (n := 2169) C 27 0 rfl rfl dJ7_fill_53178_3 rfl ?_
  refine x_istore_n (q := 5) (lv' := [(0, .ref (ad 27)), (1, .int x), (2, .int (nI 0)), (3, .int (nI 2169))]) C dJ7_fill_53178_4 rfl (by decide) rfl rfl rfl ?_
  have L5 : ∀ (f1 : Nat) (k : Nat) (Tq : St), (k ≤ 2169) → (∀ j, j ≠ 19 → Tq j = T j) → (∀ j, j < k → Tq 19 j = x) → 2169 - k < f1 → XW p l e rmJ7_fill_53178 s m args below meth c D (wX ad cI cZ) A 4 (MQ below (XPV D (tyz cI cZ) (wX ad cI cZ) A (fun P' T' => P' = P ∧ (∀ j, j ≠ 19 → T' j = T j) ∧ ∀ j, j < 2169 → T' 19 j = x)) args s 0 0 A) 5 [(0, .ref (ad 27)), (1, .int x), (2, .int (nI k)), (3, .int (nI 2169))] [] P Tq := by
    intro f1
    induction f1 with
    | zero => intro k Tq hk hT hF hm; exact absurd hm (Nat.not_lt_zero _)
    | succ f1 ih5 =>
      intro k Tq hk hT hF hm5
      refine x_iload_n (q := 6) C dJ7_fill_53178_5 rfl 2 rfl rfl ?_
      refine x_iload_n (q := 7) C dJ7_fill_53178_6 rfl 3 rfl rfl ?_
      refine x_icmp_ge_n (q := 10) (tgt := 20) C dJ7_fill_53178_7 (by omega) (by omega) (by decide) rfl (fun c7 => ?_) (fun c7 => ?_)
      · exact x_vret C dJ7_fill_53178_20 ⟨rfl, hT, fun j hj => hF j (by omega)⟩
      · refine x_aload_n (q := 11) C dJ7_fill_53178_10 rfl 0 rfl rfl ?_
        refine x_iload_n (q := 12) C dJ7_fill_53178_11 rfl 2 rfl rfl ?_
        refine x_iload_n (q := 13) C dJ7_fill_53178_12 rfl 1 rfl rfl ?_
        refine xs_X27 (q := 14) C (by omega) dJ7_fill_53178_13 rfl ?_
        refine x_iinc (q := 17) (v := nI (k + 1)) (lv' := [(0, .ref (ad 27)), (1, .int x), (2, .int (nI (k + 1))), (3, .int (nI 2169))]) C dJ7_fill_53178_14 2 rfl (nI_add k 1) (by decide) rfl rfl rfl ?_
        refine x_goto (tgt := 5) C dJ7_fill_53178_17 (by decide) ?_
        exact ih5 (k + 1) _ (by omega) (fun j h => by rw [st1_ne h]; exact hT j h) (lt_s (fun j hj => by rw [st1_no (by omega)]; exact hF j hj) st1_at) (by omega)
  exact L5 _ 0 _ (Nat.zero_le _) (fun _ _ => rfl) (fun j hj => absurd hj (Nat.not_lt_zero j)) (Nat.lt_succ_self _)

set_option maxRecDepth 100000 in
set_option maxHeartbeats 4000000 in
theorem c_X4_spreadWays (hD : ∀ P T, va_D A (wX ad cI cZ P T)) {P T : St} (L : List Int32) (hL : rdg T L) (h16 : L.length ≤ 16) (most : Nat) (hm : most ≤ 8) : XMV l D (tyz cI cZ) (wX ad cI cZ) A yX4_spreadWays cX4_spreadWays 6 none rmX4_spreadWays [.ref (ad 7), .int (nI most)] P T (fun P' T' => P' = P ∧ (∀ j, j ≠ 19 → T' j = T j) ∧ ∀ n k, n ≤ most → k < 241 → T' 19 (n * 241 + k) = dpf (rk L) L.length n k) := by
  refine x_start_v (lv := [(0, .ref (ad 7)), (1, .int (nI most))]) (own := RX4) (by decide) rfl hD (Nat.le_of_ble_eq_true rfl) rfl ?_
  intro p e s m args below meth c C
  refine x_aload_n (q := 1) C dX4_spreadWays_0 rfl 0 rfl rfl ?_
  refine xg_X4_ways (q := 4) C tfl_X4_25 dX4_spreadWays_1 rfl ?_
  refine x_iconst (q := 5) (v := nI 0) C dX4_spreadWays_4 (by decide) rfl ?_
  refine x_Sv (q := 8) (As := [.ref (ad 27), .int (nI 0)]) (rest := []) C (c_J7_fill_53178 hD (nI 0)) xs_J7_fill_53178 tst_J7_fill_53178 tml_X4_56 (by decide) rfl rfl (Nat.le_of_ble_eq_true rfl) dX4_spreadWays_5 rfl (fun Pz T5 hg => ?_)
  obtain ⟨hPz, hT5, hF5⟩ := hg
  rw [hPz]; clear hPz Pz
  refine x_aload_n (q := 9) C dX4_spreadWays_8 rfl 0 rfl rfl ?_
  refine xg_X4_ways (q := 12) C tfl_X4_25 dX4_spreadWays_9 rfl ?_
  refine x_iconst (q := 13) (v := nI 0) C dX4_spreadWays_12 (by decide) rfl ?_
  refine x_iconst (q := 14) (v := nI 1) C dX4_spreadWays_13 (by decide) rfl ?_
  refine xs_X27 (q := 15) C (by omega) dX4_spreadWays_14 rfl ?_
  refine x_iconst (q := 16) (v := nI 0) C dX4_spreadWays_15 (by decide) rfl ?_
  refine x_istore_n (q := 17) (lv' := [(0, .ref (ad 7)), (1, .int (nI most)), (2, .int (nI 0))]) C dX4_spreadWays_16 rfl (by decide) rfl rfl rfl ?_
  have L17 : ∀ (f4 : Nat) (i : Nat) (Tq : St), (i ≤ L.length) → (∀ j, j ≠ 19 → Tq j = T j) → (∀ n k, n ≤ most → k < 241 → Tq 19 (n * 241 + k) = dpf (rk L) i n k) → L.length - i < f4 → XW p l e rmX4_spreadWays s m args below meth c D (wX ad cI cZ) A 6 (MQ below (XPV D (tyz cI cZ) (wX ad cI cZ) A (fun P' T' => P' = P ∧ (∀ j, j ≠ 19 → T' j = T j) ∧ ∀ n k, n ≤ most → k < 241 → T' 19 (n * 241 + k) = dpf (rk L) L.length n k)) args s 0 0 A) 17 [(0, .ref (ad 7)), (1, .int (nI most)), (2, .int (nI i))] [] P Tq := by
    intro f4
    induction f4 with
    | zero => intro i Tq hi hT hw hm; exact absurd hm (Nat.not_lt_zero _)
    | succ f4 ih17 =>
      intro i Tq hi hT hw hm17
      refine x_iload_n (q := 18) C dX4_spreadWays_17 rfl 2 rfl rfl ?_
      refine x_aload_n (q := 19) C dX4_spreadWays_18 rfl 0 rfl rfl ?_
      refine xg_X4_many (q := 22) C tfl_X4_11 dX4_spreadWays_19 rfl ?_
      refine x_topn (L.length) (by rw [hT 28 (by decide)]; exact hL.1) ?_
      refine x_icmp_ge_n (q := 25) (tgt := 107) C dX4_spreadWays_22 (by omega) (by omega) (by decide) rfl (fun c22 => ?_) (fun c22 => ?_)
      · exact x_vret C dX4_spreadWays_107 ⟨rfl, hT, by rw [show L.length = i by omega]; exact hw⟩
      · refine x_aload_n (q := 26) C dX4_spreadWays_25 rfl 0 rfl rfl ?_
        refine x_iload_n (q := 27) C dX4_spreadWays_26 rfl 2 rfl rfl ?_
        refine x_Vf (q := 30) (As := [.int (nI i)]) (rest := []) C (c_X4_rankAt hD L (rdg_keep hL (hT 28 (by decide)) (hT 18 (by decide))) h16 i (by omega)) xs_X4_rankAt tim_X4_rankAt tsel_X4_rankAt tml_X4_32 (by decide) 7 rfl (ci := 4) rfl rfl rfl (Nat.le_of_ble_eq_true rfl) dX4_spreadWays_27 rfl ?_
        refine x_istore_n (q := 31) (lv' := [(0, .ref (ad 7)), (1, .int (nI most)), (2, .int (nI i)), (3, .int (nI (rk L i)))]) C dX4_spreadWays_30 rfl (by decide) rfl rfl rfl ?_
        have hr30 := rk_30 h16 (show i < L.length by omega)
        refine x_iload_n (q := 32) C dX4_spreadWays_31 rfl 1 rfl rfl ?_
        refine x_iconst (q := 33) (v := nI 1) C dX4_spreadWays_32 (by decide) rfl ?_
        refine x_isub (q := 34) C dX4_spreadWays_33 rfl ?_
        refine x_istore (q := 36) (lv' := [(0, .ref (ad 7)), (1, .int (nI most)), (2, .int (nI i)), (3, .int (nI (rk L i))), (4, .int ((nI most) - (nI 1)))]) C dX4_spreadWays_34 (by decide) rfl rfl rfl ?_
        have L36 : ∀ (f5 : Nat) (nn : Nat) (Tr : St), (nn ≤ most) → (∀ j, j ≠ 19 → Tr j = T j) → (wyo (Tr 19) (rk L) i most nn 0) → nn < f5 → XW p l e rmX4_spreadWays s m args below meth c D (wX ad cI cZ) A 6 (MQ below (XPV D (tyz cI cZ) (wX ad cI cZ) A (fun P' T' => P' = P ∧ (∀ j, j ≠ 19 → T' j = T j) ∧ ∀ n k, n ≤ most → k < 241 → T' 19 (n * 241 + k) = dpf (rk L) L.length n k)) args s 0 0 A) 36 [(0, .ref (ad 7)), (1, .int (nI most)), (2, .int (nI i)), (3, .int (nI (rk L i))), (4, .int (nI nn - nI 1))] [] P Tr := by
          intro f5
          induction f5 with
          | zero => intro nn Tr hnn hT2 hw2 hm; exact absurd hm (Nat.not_lt_zero _)
          | succ f5 ih36 =>
            intro nn Tr hnn hT2 hw2 hm36
            refine x_iload (q := 38) C dX4_spreadWays_36 4 rfl rfl ?_
            refine x_if_lt (q := 41) (tgt := 101) C dX4_spreadWays_38 (by decide) rfl (fun c38 => ?_) (fun c38 => ?_)
            · replace c38 := (nI_m1lt (by omega)).mp c38
              refine x_iinc (q := 104) (v := nI (i + 1)) (lv' := [(0, .ref (ad 7)), (1, .int (nI most)), (2, .int (nI (i + 1))), (3, .int (nI (rk L i))), (4, .int (nI nn - nI 1))]) C dX4_spreadWays_101 2 rfl (nI_add i 1) (by decide) rfl rfl rfl ?_
              refine x_goto (tgt := 17) C dX4_spreadWays_104 (by decide) ?_
              refine x_lv [0, 1, 2] rfl ?_
              exact ih17 (i + 1) _ (by omega) hT2 (wyo_next (by rw [show nn = 0 from c38] at hw2; exact hw2)) (by omega)
            · have hn0 : 0 < nn := Nat.pos_of_ne_zero (fun h => c38 ((nI_m1lt (by omega)).mpr h))
              rw [nI_m1 (show 1 ≤ nn by omega)]
              refine x_iconst (q := 42) (v := nI 0) C dX4_spreadWays_41 (by decide) rfl ?_
              refine x_istore (q := 44) (lv' := [(0, .ref (ad 7)), (1, .int (nI most)), (2, .int (nI i)), (3, .int (nI (rk L i))), (4, .int (nI (nn - 1))), (5, .int (nI 0))]) C dX4_spreadWays_42 (by decide) rfl rfl rfl ?_
              have L44 : ∀ (f6 : Nat) (t : Nat) (Tt : St), (t ≤ 241) → (∀ j, j ≠ 19 → Tt j = T j) → (wyo (Tt 19) (rk L) i most nn t) → 241 - t < f6 → XW p l e rmX4_spreadWays s m args below meth c D (wX ad cI cZ) A 6 (MQ below (XPV D (tyz cI cZ) (wX ad cI cZ) A (fun P' T' => P' = P ∧ (∀ j, j ≠ 19 → T' j = T j) ∧ ∀ n k, n ≤ most → k < 241 → T' 19 (n * 241 + k) = dpf (rk L) L.length n k)) args s 0 0 A) 44 [(0, .ref (ad 7)), (1, .int (nI most)), (2, .int (nI i)), (3, .int (nI (rk L i))), (4, .int (nI (nn - 1))), (5, .int (nI t))] [] P Tt := by
                intro f6
                induction f6 with
                | zero => intro t Tt h241 hT3 hw3 hm; exact absurd hm (Nat.not_lt_zero _)
                | succ f6 ih44 =>
                  intro t Tt h241 hT3 hw3 hm44
                  refine x_iload (q := 46) C dX4_spreadWays_44 5 rfl rfl ?_
                  refine x_iload_n (q := 47) C dX4_spreadWays_46 rfl 3 rfl rfl ?_
                  refine x_iadd_n (q := 48) C dX4_spreadWays_47 rfl ?_
                  refine x_sipush (q := 51) (v := nI 241) C dX4_spreadWays_48 (by decide) rfl ?_
                  refine x_icmp_ge_n (q := 54) (tgt := 95) C dX4_spreadWays_51 (by omega) (by omega) (by decide) rfl (fun c51 => ?_) (fun c51 => ?_)
                  · refine x_iinc (q := 98) (v := nI (nn - 1) - nI 1) (lv' := [(0, .ref (ad 7)), (1, .int (nI most)), (2, .int (nI i)), (3, .int (nI (rk L i))), (4, .int (nI (nn - 1) - nI 1)), (5, .int (nI t))]) C dX4_spreadWays_95 4 rfl (by rw [Int32.sub_eq_add_neg]; rfl) (by decide) rfl rfl rfl ?_
                    refine x_goto (tgt := 36) C dX4_spreadWays_98 (by decide) ?_
                    refine x_lv [0, 1, 2, 3, 4] rfl ?_
                    exact ih36 (nn - 1) _ (by omega) hT3 (wyo_row hw3 (by omega) (by omega)) (by omega)
                  · refine x_aload_n (q := 55) C dX4_spreadWays_54 rfl 0 rfl rfl ?_
                    refine xg_X4_ways (q := 58) C tfl_X4_25 dX4_spreadWays_55 rfl ?_
                    refine x_iload (q := 60) C dX4_spreadWays_58 4 rfl rfl ?_
                    refine x_iconst (q := 61) (v := nI 1) C dX4_spreadWays_60 (by decide) rfl ?_
                    refine x_iadd_n (q := 62) C dX4_spreadWays_61 rfl ?_
                    refine x_sipush (q := 65) (v := nI 241) C dX4_spreadWays_62 (by decide) rfl ?_
                    refine x_imul_n (q := 66) C dX4_spreadWays_65 rfl ?_
                    refine x_iload (q := 68) C dX4_spreadWays_66 5 rfl rfl ?_
                    refine x_iadd_n (q := 69) C dX4_spreadWays_68 rfl ?_
                    refine x_iload_n (q := 70) C dX4_spreadWays_69 rfl 3 rfl rfl ?_
                    refine x_iadd_n (q := 71) C dX4_spreadWays_70 rfl ?_
                    refine x_dup2 (q := 72) C dX4_spreadWays_71 rfl rfl rfl ?_
                    refine xa_X27 (q := 73) C (by omega) dX4_spreadWays_72 rfl ?_
                    refine x_aload_n (q := 74) C dX4_spreadWays_73 rfl 0 rfl rfl ?_
                    refine xg_X4_ways (q := 77) C tfl_X4_25 dX4_spreadWays_74 rfl ?_
                    refine x_iload (q := 79) C dX4_spreadWays_77 4 rfl rfl ?_
                    refine x_sipush (q := 82) (v := nI 241) C dX4_spreadWays_79 (by decide) rfl ?_
                    refine x_imul_n (q := 83) C dX4_spreadWays_82 rfl ?_
                    refine x_iload (q := 85) C dX4_spreadWays_83 5 rfl rfl ?_
                    refine x_iadd_n (q := 86) C dX4_spreadWays_85 rfl ?_
                    refine xa_X27 (q := 87) C (by omega) dX4_spreadWays_86 rfl ?_
                    refine x_iadd (q := 88) C dX4_spreadWays_87 rfl ?_
                    refine xs_X27 (q := 89) C (by omega) dX4_spreadWays_88 rfl ?_
                    refine x_iinc (q := 92) (v := nI (t + 1)) (lv' := [(0, .ref (ad 7)), (1, .int (nI most)), (2, .int (nI i)), (3, .int (nI (rk L i))), (4, .int (nI (nn - 1))), (5, .int (nI (t + 1)))]) C dX4_spreadWays_89 5 rfl (nI_add t 1) (by decide) rfl rfl rfl ?_
                    refine x_goto (tgt := 44) C dX4_spreadWays_92 (by decide) ?_
                    exact ih44 (t + 1) _ (by omega) (fun j h => by rw [st1_ne h]; exact hT3 j h) (by rw [st1_eq]; have e := wyo_step hw3 (by omega) hnn (by omega); rw [show nn - 1 + 1 = nn by omega]; exact e) (by omega)
              exact L44 _ 0 _ (Nat.zero_le _) hT2 hw2 (Nat.lt_succ_self _)
        exact L36 _ most _ (Nat.le_refl _) hT (wyo_begin hw) (Nat.lt_succ_self _)
  exact L17 _ 0 _ (Nat.zero_le _) (fun j h => by rw [st1_ne h]; exact hT5 j h) (fun n k h1 h2 => ways0 hF5 (by omega) h2) (Nat.lt_succ_self _)

set_option maxRecDepth 100000 in
set_option maxHeartbeats 4000000 in
theorem c_X4_compare (hD : ∀ P T, va_D A (wX ad cI cZ P T)) {P T : St} (ok : okX P) (x y : Nat) (hx : x < 2 ^ 31) (hy : y < 2 ^ 31) : XMV l D (tyz cI cZ) (wX ad cI cZ) A yX4_compare cX4_compare 7 none rmX4_compare [.ref (ad 7), .int (nI x), .int (nI y), .ref (ad 4)] P T (fun P' T' => P' = P ∧ T' 29 0 = cwX P x y ∧ T' 30 0 = awX P x y) := by
  have okc := ok.1
  have hk6 := okc_kn6 okc
  have hS144 := okc_S144 okc
  have hS1 := okc_S1 okc
  have hnr := okc_nr12 okc
  have hnt := okc_nt60 okc
  have hnz := okc_nz50 okc
  have hsd := okc_sdb okc
  have hx8 := rl_8 P x (nt P)
  have hy8 := rl_8 P y (nt P)
  have hll := rdl_len P x y
  have hl16 : (rdl P x y).length ≤ 16 := by omega
  have hdue := due_240 P x y
  refine x_start_v (lv := [(0, .ref (ad 7)), (1, .int (nI x)), (2, .int (nI y)), (3, .ref (ad 4))]) (own := RX4) (by decide) rfl hD (Nat.le_of_ble_eq_true rfl) rfl ?_
  intro p e s m args below meth c C
  refine x_aload_n (q := 1) C dX4_compare_0 rfl 0 rfl rfl ?_
  refine x_iconst (q := 2) (v := nI 0) C dX4_compare_1 (by decide) rfl ?_
  refine xp_X4_many (q := 5) C tfl_X4_11 dX4_compare_2 rfl ?_
  refine x_aload_n (q := 6) C dX4_compare_5 rfl 0 rfl rfl ?_
  refine x_iload_n (q := 7) C dX4_compare_6 rfl 1 rfl rfl ?_
  refine x_aload_n (q := 8) C dX4_compare_7 rfl 3 rfl rfl ?_
  refine x_Vv (q := 11) (As := [.int (nI x), .ref (ad 4)]) (rest := []) C (c_X4_gather hD ok x (by omega) [] ⟨st1_at, fun i hi => absurd hi (Nat.not_lt_zero i)⟩ (Nat.zero_le _)) xs_X4_gather tim_X4_gather tsel_X4_gather tml_X4_28 (by decide) 7 rfl (ci := 4) rfl rfl rfl (Nat.le_of_ble_eq_true rfl) dX4_compare_8 rfl (fun Pz T8 hg => ?_)
  obtain ⟨hPz, hT8, hG8⟩ := hg
  rw [hPz]; clear hPz Pz
  rw [List.nil_append] at hG8
  refine x_aload_n (q := 12) C dX4_compare_11 rfl 0 rfl rfl ?_
  refine xg_X4_many (q := 15) C tfl_X4_11 dX4_compare_12 rfl ?_
  refine x_topn ((rl P x (nt P)).length) hG8.1 ?_
  refine x_istore (q := 17) (lv' := [(0, .ref (ad 7)), (1, .int (nI x)), (2, .int (nI y)), (3, .ref (ad 4)), (4, .int (nI ((rl P x (nt P)).length)))]) C dX4_compare_15 (by decide) rfl rfl rfl ?_
  refine x_aload_n (q := 18) C dX4_compare_17 rfl 0 rfl rfl ?_
  refine x_iload_n (q := 19) C dX4_compare_18 rfl 2 rfl rfl ?_
  refine x_aload_n (q := 20) C dX4_compare_19 rfl 3 rfl rfl ?_
  refine x_Vv (q := 23) (As := [.int (nI y), .ref (ad 4)]) (rest := []) C (c_X4_gather hD ok y (by omega) _ hG8 hx8) xs_X4_gather tim_X4_gather tsel_X4_gather tml_X4_28 (by decide) 7 rfl (ci := 4) rfl rfl rfl (Nat.le_of_ble_eq_true rfl) dX4_compare_20 rfl (fun Pz T20 hg => ?_)
  obtain ⟨hPz, hT20, hG20⟩ := hg
  rw [hPz]; clear hPz Pz
  replace hG20 : rdg T20 (rdl P x y) := hG20
  refine x_iconst (q := 24) (v := nI 0) C dX4_compare_23 (by decide) rfl ?_
  refine x_istore (q := 26) (lv' := [(0, .ref (ad 7)), (1, .int (nI x)), (2, .int (nI y)), (3, .ref (ad 4)), (4, .int (nI ((rl P x (nt P)).length))), (5, .int (nI 0))]) C dX4_compare_24 (by decide) rfl rfl rfl ?_
  refine x_iload (q := 28) C dX4_compare_26 4 rfl rfl ?_
  refine x_istore (q := 30) (lv' := [(0, .ref (ad 7)), (1, .int (nI x)), (2, .int (nI y)), (3, .ref (ad 4)), (4, .int (nI ((rl P x (nt P)).length))), (5, .int (nI 0)), (6, .int (nI ((rl P x (nt P)).length)))]) C dX4_compare_28 (by decide) rfl rfl rfl ?_
  have L30 : ∀ (f7 : Nat) (j : Nat) (d : Nat), ((rl P x (nt P)).length ≤ j ∧ j ≤ (rdl P x y).length) → (d = fb_sm (fun k => rk (rdl P x y) ((rl P x (nt P)).length + k)) (j - (rl P x (nt P)).length)) → (rdl P x y).length - j < f7 → XW p l e rmX4_compare s m args below meth c D (wX ad cI cZ) A 7 (MQ below (XPV D (tyz cI cZ) (wX ad cI cZ) A (fun P' T' => P' = P ∧ T' 29 0 = cwX P x y ∧ T' 30 0 = awX P x y)) args s 0 0 A) 30 [(0, .ref (ad 7)), (1, .int (nI x)), (2, .int (nI y)), (3, .ref (ad 4)), (4, .int (nI ((rl P x (nt P)).length))), (5, .int (nI d)), (6, .int (nI j))] [] P T20 := by
    intro f7
    induction f7 with
    | zero => intro j d hj hd hm; exact absurd hm (Nat.not_lt_zero _)
    | succ f7 ih30 =>
      intro j d hj hd hm30
      refine x_iload (q := 32) C dX4_compare_30 6 rfl rfl ?_
      refine x_aload_n (q := 33) C dX4_compare_32 rfl 0 rfl rfl ?_
      refine xg_X4_many (q := 36) C tfl_X4_11 dX4_compare_33 rfl ?_
      refine x_topn ((rdl P x y).length) hG20.1 ?_
      refine x_icmp_ge_n (q := 39) (tgt := 56) C dX4_compare_36 (by omega) (by omega) (by decide) rfl (fun c36 => ?_) (fun c36 => ?_)
      · obtain rfl : d = dueX P x y := by rw [hd, show j - (rl P x (nt P)).length = (rl P y (nt P)).length by omega]; rfl
        refine x_aload_n (q := 57) C dX4_compare_56 rfl 0 rfl rfl ?_
        refine xg_X4_many (q := 60) C tfl_X4_11 dX4_compare_57 rfl ?_
        refine x_topn ((rdl P x y).length) hG20.1 ?_
        refine x_iload (q := 62) C dX4_compare_60 4 rfl rfl ?_
        refine x_isub_n (q := 63) C dX4_compare_62 (by omega) rfl ?_
        refine x_topn ((rl P y (nt P)).length) (by rw [hll, Nat.add_sub_cancel_left]) ?_
        refine x_istore (q := 65) (lv' := [(0, .ref (ad 7)), (1, .int (nI x)), (2, .int (nI y)), (3, .ref (ad 4)), (4, .int (nI ((rl P x (nt P)).length))), (5, .int (nI (dueX P x y))), (6, .int (nI ((rl P y (nt P)).length)))]) C dX4_compare_63 (by decide) rfl rfl rfl ?_
        refine x_aload_n (q := 66) C dX4_compare_65 rfl 0 rfl rfl ?_
        refine x_iload (q := 68) C dX4_compare_66 6 rfl rfl ?_
        refine x_Vv (q := 71) (As := [.int (nI ((rl P y (nt P)).length))]) (rest := []) C (c_X4_spreadWays hD (rdl P x y) hG20 hl16 ((rl P y (nt P)).length) (by omega)) xs_X4_spreadWays tim_X4_spreadWays tsel_X4_spreadWays tml_X4_36 (by decide) 7 rfl (ci := 4) rfl rfl rfl (Nat.le_of_ble_eq_true rfl) dX4_compare_68 rfl (fun Pz T68 hg => ?_)
        obtain ⟨hPz, hT68, hS68⟩ := hg
        rw [hPz]; clear hPz Pz
        refine x_aload_n (q := 72) C dX4_compare_71 rfl 0 rfl rfl ?_
        refine x_aload_n (q := 73) C dX4_compare_72 rfl 0 rfl rfl ?_
        refine x_iload (q := 75) C dX4_compare_73 5 rfl rfl ?_
        refine x_iload (q := 77) C dX4_compare_75 6 rfl rfl ?_
        refine x_Vf (q := 80) (As := [.int (nI (dueX P x y)), .int (nI ((rl P y (nt P)).length))]) (rest := [.ref (ad 7)]) C (c_X4_waysFrom hD (dueX P x y) ((rl P y (nt P)).length) (by omega) (by omega)) xs_X4_waysFrom tim_X4_waysFrom tsel_X4_waysFrom tml_X4_40 (by decide) 7 rfl (ci := 4) rfl rfl rfl (Nat.le_of_ble_eq_true rfl) dX4_compare_77 rfl ?_
        refine xp_X4_counting (q := 83) C tfl_X4_15 dX4_compare_80 rfl ?_
        refine x_aload_n (q := 84) C dX4_compare_83 rfl 0 rfl rfl ?_
        refine x_aload_n (q := 85) C dX4_compare_84 rfl 0 rfl rfl ?_
        refine x_iconst (q := 86) (v := nI 0) C dX4_compare_85 (by decide) rfl ?_
        refine x_iload (q := 88) C dX4_compare_86 6 rfl rfl ?_
        refine x_Vf (q := 91) (As := [.int (nI 0), .int (nI ((rl P y (nt P)).length))]) (rest := [.ref (ad 7)]) C (c_X4_waysFrom hD 0 ((rl P y (nt P)).length) (by omega) (by omega)) xs_X4_waysFrom tim_X4_waysFrom tsel_X4_waysFrom tml_X4_40 (by decide) 7 rfl (ci := 4) rfl rfl rfl (Nat.le_of_ble_eq_true rfl) dX4_compare_88 rfl ?_
        refine xp_X4_all (q := 94) C tfl_X4_18 dX4_compare_91 rfl ?_
        exact x_vret C dX4_compare_94 ⟨rfl, by rw [st1_ne (by decide), st1_at]; exact sfr_congr (fun k hk => hS68 _ k (Nat.le_refl _) hk), by rw [st1_at]; exact sfr_congr (fun k hk => hS68 _ k (Nat.le_refl _) hk)⟩
      · refine x_iload (q := 41) C dX4_compare_39 5 rfl rfl ?_
        refine x_aload_n (q := 42) C dX4_compare_41 rfl 0 rfl rfl ?_
        refine x_iload (q := 44) C dX4_compare_42 6 rfl rfl ?_
        refine x_Vf (q := 47) (As := [.int (nI j)]) (rest := [.int (nI d)]) C (c_X4_rankAt hD (rdl P x y) hG20 hl16 j (by omega)) xs_X4_rankAt tim_X4_rankAt tsel_X4_rankAt tml_X4_32 (by decide) 7 rfl (ci := 4) rfl rfl rfl (Nat.le_of_ble_eq_true rfl) dX4_compare_44 rfl ?_
        refine x_iadd_n (q := 48) C dX4_compare_47 rfl ?_
        refine x_namen (fun n11 hn11 => ?_)
        refine x_istore (q := 50) (lv' := [(0, .ref (ad 7)), (1, .int (nI x)), (2, .int (nI y)), (3, .ref (ad 4)), (4, .int (nI ((rl P x (nt P)).length))), (5, .int (nI n11)), (6, .int (nI j))]) C dX4_compare_48 (by decide) rfl rfl rfl ?_
        refine x_iinc (q := 53) (v := nI (j + 1)) (lv' := [(0, .ref (ad 7)), (1, .int (nI x)), (2, .int (nI y)), (3, .ref (ad 4)), (4, .int (nI ((rl P x (nt P)).length))), (5, .int (nI n11)), (6, .int (nI (j + 1)))]) C dX4_compare_50 6 rfl (nI_add j 1) (by decide) rfl rfl rfl ?_
        refine x_goto (tgt := 30) C dX4_compare_53 (by decide) ?_
        exact ih30 (j + 1) n11 (by omega) (by rw [hn11, hd, show j + 1 - (rl P x (nt P)).length = j - (rl P x (nt P)).length + 1 by omega, fb_sm, show (rl P x (nt P)).length + (j - (rl P x (nt P)).length) = j by omega]) (by omega)
  exact L30 _ (rl P x (nt P)).length 0 ⟨Nat.le_refl _, by omega⟩ (by rw [Nat.sub_self]; rfl) (Nat.lt_succ_self _)

end RANKS
end
