abbrev isT (P : St) (i : Int32) : Prop := 0 ≤ i ∧ i < P 24 0
theorem isT_nat {P : St} (okc : okC P) {x : Int32} (h : isT P x) : ∃ a : Nat, a < nt P ∧ x = nI a := by
  have h6 := okc_nt60 okc
  obtain ⟨h0, h1⟩ := h
  rw [okc_nt okc] at h1
  exact nat_of (by omega) h0 h1
theorem isT_of {P : St} (okc : okC P) {a : Nat} (h : a < nt P) : isT P (nI a) := by
  have h6 := okc_nt60 okc
  exact ⟨nI_pos' (by omega), by rw [okc_nt okc]; exact nI_lt h (by omega)⟩
/-- the seed's next -/
def nsd (s : Nat) : Nat := (s * 69069 + 5) % 1073741824
def dnz (s z : Nat) : Int32 := nI (nsd s / 64 % (2 * z + 1)) - nI z
theorem draw_eq {s : Nat} (h : s < 1073741824) : ((nI s).toInt64 * 69069 + 5 - ((nI s).toInt64 * 69069 + 5) / 1073741824 * 1073741824).toInt32 = nI (nsd s) := by
  have e : ((nI s).toInt64 * 69069 + 5) = lN (s * 69069 + 5) := by
    rw [nI_l (by omega), ← lN_add, ← lN_mul]; rfl
  rw [e, show (1073741824 : Int64) = lN 1073741824 from rfl, pk_lRem (by omega) (by decide) (by decide), lN_i]; rfl
theorem nsd_lt (s : Nat) : nsd s < 1073741824 := Nat.mod_lt _ (by decide)
/-- a trial of x, worth w -/
def tryP (P : St) (x : Nat) (w : Int32) : St := st1 (st1 (st1 (st1 P 12 (nt P) (nI x)) 26 0 (nI (nsd (sdv P)))) 13 (nt P) (w + dnz (sdv P) (nz P))) 24 0 (nI (nt P + 1))
def fi (P : St) (x : Nat) : Nat := fa_first (fun i => decide (tx P i = x)) (nt P)
theorem first_at {p : Nat → Bool} {n i : Nat} (hi : i < n) (h : ∀ j, j < i → p j = false) (hp : p i = true) : fa_first p n = i := by
  rcases Nat.lt_trichotomy (fa_first p n) i with q | q | q
  · have h1 := fa_first_yes p n (by omega)
    rw [h _ q] at h1; cases h1
  · exact q
  · rw [fa_first_no p n i q] at hp; cases hp
theorem first_no {p : Nat → Bool} {n : Nat} (h : ∀ j, j < n → p j = false) : fa_first p n = n := by
  rcases Nat.lt_or_ge (fa_first p n) n with q | q
  · have h1 := fa_first_yes p n q
    rw [h _ q] at h1; cases h1
  · exact Nat.le_antisymm (fa_first_le p n) q
theorem fi_at {P : St} {x i : Nat} (hi : i < nt P) (h : ∀ j, j < i → tx P j ≠ x) (hp : tx P i = x) : fi P x = i := first_at hi (fun j hj => decide_eq_false (h j hj)) (decide_eq_true hp)
theorem fi_no {P : St} {x : Nat} (h : ∀ j, j < nt P → tx P j ≠ x) : fi P x = nt P := first_no (fun j hj => decide_eq_false (h j hj))
theorem fi_tx {P : St} {x : Nat} (h : fi P x < nt P) : tx P (fi P x) = x := of_decide_eq_true (fa_first_yes _ _ h)
theorem fi_le (P : St) (x : Nat) : fi P x ≤ nt P := fa_first_le _ _
theorem fi_lt {P : St} {x j : Nat} (hj : j < nt P) (h : tx P j = x) : fi P x ≤ j := by
  rcases Nat.lt_or_ge j (fi P x) with q | q
  · exact absurd h (of_decide_eq_false (fa_first_no _ _ _ q))
  · exact q
/-- the class's answer of the first trial -/
def foX (P : St) (x : Nat) : Int32 := if fi P x < nt P then nI (fi P x) else -4
def dst (P : St) : Nat := fa_cnt (fun i => decide (fi P (tx P i) = i)) (nt P)
/-- rule i is against x; no rule is -/
abbrev agX (P : St) (x i : Nat) : Prop := nI (val P x (rk1 P i)) = P 6 i ∧ ¬ bI (nI (val P x (rk2 P i)) = P 8 i) = P 4 i
abbrev alX (P : St) (x : Nat) : Prop := ∀ i, i < nr P → ¬ agX P x i
def wjt (P : St) (x b a : Nat) : Int32 := P 10 (slv P x a * 24 + slv P x b)
def wot (P : St) (x b : Nat) : Int32 := P 9 (slv P x b) + sm (wjt P x b) b
def wo (P : St) (x : Nat) : Int32 := P 23 0 + sm (wot P x) (kn P)
theorem st1_at {P : St} {j i : Nat} {v : Int32} : st1 P j i v j i = v := by simp [st1, va_up, upd]
theorem st1_no {P : St} {j i i' : Nat} {v : Int32} (h : i' ≠ i) : st1 P j i v j i' = P j i' := by simp [st1, va_up, upd, h]
