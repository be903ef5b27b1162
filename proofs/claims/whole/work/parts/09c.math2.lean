abbrev isK (P : St) (k : Int32) : Prop := 0 ≤ k ∧ k < P 20 0
abbrev isV (P : St) (k v : Int32) : Prop := isK P k ∧ 0 ≤ v ∧ v < P 0 k.toNatClampNeg
abbrev isS (P : St) (x : Int32) : Prop := 0 ≤ x ∧ x < P 21 0
theorem nat_of {x : Int32} {n : Nat} (hn : n < 2 ^ 31) (h0 : 0 ≤ x) (h : x < nI n) : ∃ a : Nat, a < n ∧ x = nI a := by
  obtain ⟨j, hj, rfl⟩ := nI_of (x := x) (fun q => by rw [fa_lt] at q; rw [fa_le] at h0; omega)
  exact ⟨j, (nI_ltI hj hn).mp h, rfl⟩
theorem isK_nat {P : St} (okc : okC P) {k : Int32} (h : isK P k) : ∃ a : Nat, a < kn P ∧ k = nI a := by
  have h6 := okc_kn6 okc
  obtain ⟨h0, h1⟩ := h
  rw [okc_kn okc] at h1
  exact nat_of (by omega) h0 h1
theorem isK_of {P : St} (okc : okC P) {a : Nat} (h : a < kn P) : isK P (nI a) := by
  have h6 := okc_kn6 okc
  exact ⟨nI_pos' (by omega), by rw [okc_kn okc]; exact nI_lt h (by omega)⟩
theorem isV_nat {P : St} (okc : okC P) {k v : Int32} (h : isV P k v) : ∃ a b : Nat, a < kn P ∧ b < sz P a ∧ k = nI a ∧ v = nI b := by
  have h6 := okc_kn6 okc
  obtain ⟨hk, h0, h1⟩ := h
  obtain ⟨a, ha, rfl⟩ := isK_nat okc hk
  rw [nI_clamp (by omega), okc_sz okc ha] at h1
  have := okc_sz2 okc ha
  obtain ⟨b, hb, rfl⟩ := nat_of (by omega) h0 h1
  exact ⟨a, b, ha, hb, rfl, rfl⟩
theorem isV_of {P : St} (okc : okC P) {a b : Nat} (h : a < kn P) (hb : b < sz P a) : isV P (nI a) (nI b) := by
  have h6 := okc_kn6 okc
  have := okc_sz2 okc h
  exact ⟨isK_of okc h, nI_pos' (by omega), by rw [nI_clamp (by omega), okc_sz okc h]; exact nI_lt hb (by omega)⟩
theorem isS_nat {P : St} (okc : okC P) {x : Int32} (h : isS P x) : ∃ a : Nat, a < nS P ∧ x = nI a := by
  have h6 := okc_S144 okc
  obtain ⟨h0, h1⟩ := h
  rw [okc_S okc] at h1
  exact nat_of (by omega) h0 h1
theorem isS_of {P : St} (okc : okC P) {a : Nat} (h : a < nS P) : isS P (nI a) := by
  have h6 := okc_S144 okc
  exact ⟨nI_pos' (by omega), by rw [okc_S okc]; exact nI_lt h (by omega)⟩
def ab (d : Int32) : Int32 := if 0 ≤ d then d else 0 - d
def oft (P : St) (x y k : Nat) : Int32 := ab (P 2 (slv P x k) - P 2 (slv P y k)) * P 3 k
def off (P : St) (x y : Nat) : Int32 := sm (oft P x y) (kn P)
/-- a knob comes (the class's arrays) -/
def addR (P : St) (v : Nat) (P' : St) : Prop := P' 20 = upd (P 20) 0 (nI (kn P + 1)) ∧ P' 21 = upd (P 21) 0 (nI (nS P * v)) ∧ P' 0 = upd (P 0) (kn P) (nI v) ∧ P' 1 = upd (P 1) (kn P) (nI (nS P)) ∧ (∀ i, P' 2 i = if kn P * 4 ≤ i ∧ i < kn P * 4 + v then nI (i - kn P * 4) else P 2 i) ∧ ∀ j, j ≠ 0 → j ≠ 1 → j ≠ 2 → j ≠ 20 → j ≠ 21 → P' j = P j
theorem st1_ne {P : St} {j i k : Nat} {v : Int32} (h : k ≠ j) : st1 P j i v k = P k := by simp [st1, va_up, h]
theorem st1_eq {P : St} {j i : Nat} {v : Int32} : st1 P j i v j = upd (P j) i v := by simp [st1, va_up]
