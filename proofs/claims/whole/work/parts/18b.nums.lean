/-! numbers that don't wrap -/
theorem ti_add {a b : Int32} (h1 : -2147483648 ≤ a.toInt + b.toInt) (h2 : a.toInt + b.toInt < 2147483648) : (a + b).toInt = a.toInt + b.toInt := by
  rw [Int32.toInt_add]; exact Int.bmod_eq_of_le (by omega) (by omega)
theorem ti_sub {a b : Int32} (h1 : -2147483648 ≤ a.toInt - b.toInt) (h2 : a.toInt - b.toInt < 2147483648) : (a - b).toInt = a.toInt - b.toInt := by
  rw [Int32.toInt_sub]; exact Int.bmod_eq_of_le (by omega) (by omega)
theorem ti_mul {a b : Int32} (h1 : -2147483648 ≤ a.toInt * b.toInt) (h2 : a.toInt * b.toInt < 2147483648) : (a * b).toInt = a.toInt * b.toInt := by
  rw [Int32.toInt_mul]; exact Int.bmod_eq_of_le (by omega) (by omega)
theorem sm_bd {f : Nat → Int32} {lo hi : Int} : ∀ {n : Nat}, n ≤ 6 → -1000000 ≤ lo → lo ≤ 0 → 0 ≤ hi → hi ≤ 1000000 → (∀ k, k < n → lo ≤ (f k).toInt ∧ (f k).toInt ≤ hi) → 6 * lo ≤ (sm f n).toInt ∧ (sm f n).toInt ≤ 6 * hi ∧ (n : Int) * lo ≤ (sm f n).toInt ∧ (sm f n).toInt ≤ (n : Int) * hi
  | 0, _, _, h2, h3, _, _ => by
    have e : (sm f 0).toInt = 0 := by show Int32.toInt 0 = 0; decide
    rw [e]; simp; omega
  | n + 1, hn, h1, h2, h3, h4, h => by
    obtain ⟨-, -, i3, i4⟩ := sm_bd (n := n) (by omega) h1 h2 h3 h4 (fun k hk => h k (by omega))
    obtain ⟨j1, j2⟩ := h n (by omega)
    have hn0 : (0 : Int) ≤ n := Int.natCast_nonneg n
    have hn6 : (n : Int) ≤ 5 := by omega
    have e1 : ((n + 1 : Nat) : Int) * lo = (n : Int) * lo + lo := by rw [Int.natCast_add, Int.add_mul]; simp
    have e2 : ((n + 1 : Nat) : Int) * hi = (n : Int) * hi + hi := by rw [Int.natCast_add, Int.add_mul]; simp
    have b1 : 5 * lo ≤ (n : Int) * lo := Int.mul_le_mul_of_nonpos_right hn6 h2
    have b2 : (n : Int) * hi ≤ 5 * hi := Int.mul_le_mul_of_nonneg_right hn6 h3
    rw [sm, ti_add (by omega) (by omega), e1, e2]
    omega
theorem wo_bd {P : St} (okc : okC P) (x : Nat) : -43000 ≤ (wo P x).toInt ∧ (wo P x).toInt ≤ 43000 := by
  have h6 := okc_kn6 okc
  have hE := okc.2.2.2.2.2.2.2.2.1
  have key : ∀ b, b < kn P → -7000 ≤ (wot P x b).toInt ∧ (wot P x b).toInt ≤ 7000 := by
    intro b hb
    have hs := slv_lt okc x hb
    have h9 := hE.1 _ hs
    have hj : ∀ a, a < b → -1000 ≤ (wjt P x b a).toInt ∧ (wjt P x b a).toInt ≤ 1000 := fun a ha => hE.2.1 _ (by have := slv_lt okc x (k := a) (by omega); omega)
    have hm := sm_bd (f := wjt P x b) (lo := -1000) (hi := 1000) (n := b) (by omega) (by decide) (by decide) (by decide) (by decide) hj
    unfold wot
    rw [ti_add (by omega) (by omega)]
    omega
  have hm := sm_bd (f := wot P x) (lo := -7000) (hi := 7000) (n := kn P) h6 (by decide) (by decide) (by decide) (by decide) key
  have hb := hE.2.2
  unfold wo
  rw [ti_add (by omega) (by omega)]
  omega
theorem dnz_bd (s : Nat) {z : Nat} (hz : z ≤ 50) : -50 ≤ (dnz s z).toInt ∧ (dnz s z).toInt ≤ 50 := by
  have hm := Nat.mod_lt (nsd s / 64) (show 0 < 2 * z + 1 by omega)
  unfold dnz
  have e1 := nI_toInt (n := nsd s / 64 % (2 * z + 1)) (by omega)
  have e2 := nI_toInt (n := z) (by omega)
  rw [ti_sub (by omega) (by omega), e1, e2]
  omega
