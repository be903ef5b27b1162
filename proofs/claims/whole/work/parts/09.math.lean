/-! the words of the state, for class and reference alike -/
def kn (P : St) : Nat := (P 20 0).toNatClampNeg
def nS (P : St) : Nat := (P 21 0).toNatClampNeg
def sz (P : St) (k : Nat) : Nat := (P 0 k).toNatClampNeg
def nr (P : St) : Nat := (P 22 0).toNatClampNeg
def nt (P : St) : Nat := (P 24 0).toNatClampNeg
def nz (P : St) : Nat := (P 25 0).toNatClampNeg
def sdv (P : St) : Nat := (P 26 0).toNatClampNeg
def tx (P : St) (i : Nat) : Nat := (P 12 i).toNatClampNeg
def rk1 (P : St) (i : Nat) : Nat := (P 5 i).toNatClampNeg
def rk2 (P : St) (i : Nat) : Nat := (P 7 i).toNatClampNeg
def pst (f : Nat → Nat) : Nat → Nat
  | 0 => 1
  | k + 1 => pst f k * f k
def val (P : St) (x k : Nat) : Nat := x / pst (sz P) k % sz P k
def mv (P : St) (x k v : Nat) : Nat := x - val P x k * pst (sz P) k + v * pst (sz P) k
def slv (P : St) (x b : Nat) : Nat := b * 4 + val P x b
def sm (f : Nat → Int32) : Nat → Int32
  | 0 => 0
  | n + 1 => sm f n + f n
def okC (P : St) : Prop :=
  (P 20 0 = nI (kn P) ∧ kn P ≤ 6) ∧
  (P 21 0 = nI (nS P) ∧ nS P = pst (sz P) (kn P) ∧ nS P ≤ 144) ∧
  (∀ k, k < kn P → P 0 k = nI (sz P k) ∧ 2 ≤ sz P k ∧ sz P k ≤ 4) ∧
  (P 22 0 = nI (nr P) ∧ nr P ≤ 12) ∧
  (P 24 0 = nI (nt P) ∧ nt P ≤ 60) ∧
  (∀ i, i < nt P → P 12 i = nI (tx P i) ∧ tx P i < nS P) ∧
  (P 25 0 = nI (nz P) ∧ nz P ≤ 50) ∧
  (P 26 0 = nI (sdv P) ∧ sdv P < 1073741824) ∧
  ((∀ j, j < 24 → -1000 ≤ (P 9 j).toInt ∧ (P 9 j).toInt ≤ 1000) ∧ (∀ j, j < 576 → -1000 ≤ (P 10 j).toInt ∧ (P 10 j).toInt ≤ 1000) ∧ (-1000 ≤ (P 23 0).toInt ∧ (P 23 0).toInt ≤ 1000)) ∧
  ((∀ k, k < kn P → ∀ v, v < sz P k → -100 ≤ (P 2 (k * 4 + v)).toInt ∧ (P 2 (k * 4 + v)).toInt ≤ 100) ∧ (∀ k, k < 6 → 0 ≤ (P 3 k).toInt ∧ (P 3 k).toInt ≤ 100)) ∧
  (∀ i, i < nt P → -100000 ≤ (P 13 i).toInt ∧ (P 13 i).toInt ≤ 100000)
theorem okc_kn {P : St} (h : okC P) : P 20 0 = nI (kn P) := h.1.1
theorem okc_kn6 {P : St} (h : okC P) : kn P ≤ 6 := h.1.2
theorem okc_S {P : St} (h : okC P) : P 21 0 = nI (nS P) := h.2.1.1
theorem okc_Sp {P : St} (h : okC P) : nS P = pst (sz P) (kn P) := h.2.1.2.1
theorem okc_S144 {P : St} (h : okC P) : nS P ≤ 144 := h.2.1.2.2
theorem okc_sz {P : St} (h : okC P) {k : Nat} (hk : k < kn P) : P 0 k = nI (sz P k) := (h.2.2.1 k hk).1
theorem okc_sz2 {P : St} (h : okC P) {k : Nat} (hk : k < kn P) : 2 ≤ sz P k ∧ sz P k ≤ 4 := (h.2.2.1 k hk).2
theorem okc_nr {P : St} (h : okC P) : P 22 0 = nI (nr P) := h.2.2.2.1.1
theorem okc_nr12 {P : St} (h : okC P) : nr P ≤ 12 := h.2.2.2.1.2
theorem okc_nt {P : St} (h : okC P) : P 24 0 = nI (nt P) := h.2.2.2.2.1.1
theorem okc_nt60 {P : St} (h : okC P) : nt P ≤ 60 := h.2.2.2.2.1.2
theorem okc_tx {P : St} (h : okC P) {i : Nat} (hi : i < nt P) : P 12 i = nI (tx P i) := (h.2.2.2.2.2.1 i hi).1
theorem okc_txS {P : St} (h : okC P) {i : Nat} (hi : i < nt P) : tx P i < nS P := (h.2.2.2.2.2.1 i hi).2
theorem okc_nz {P : St} (h : okC P) : P 25 0 = nI (nz P) := h.2.2.2.2.2.2.1.1
theorem okc_nz50 {P : St} (h : okC P) : nz P ≤ 50 := h.2.2.2.2.2.2.1.2
theorem okc_sd {P : St} (h : okC P) : P 26 0 = nI (sdv P) := h.2.2.2.2.2.2.2.1.1
theorem okc_sdb {P : St} (h : okC P) : sdv P < 1073741824 := h.2.2.2.2.2.2.2.1.2
def okX (P : St) : Prop := okC P ∧ (∀ k, k < kn P → P 1 k = nI (pst (sz P) k)) ∧ (∀ i, i < nr P → (P 5 i = nI (rk1 P i) ∧ rk1 P i < kn P) ∧ (P 7 i = nI (rk2 P i) ∧ rk2 P i < kn P)) ∧ ∀ i, P 4 i = 0 ∨ P 4 i = 1
theorem pst_pos {f : Nat → Nat} : ∀ {n : Nat}, (∀ k, k < n → 1 ≤ f k) → 0 < pst f n
  | 0, _ => Nat.one_pos
  | n + 1, h => Nat.mul_pos (pst_pos (fun k hk => h k (Nat.lt_succ_of_lt hk))) (h n (Nat.lt_succ_self n))
theorem pst_mono {f : Nat → Nat} {n : Nat} (h : ∀ k, k < n → 1 ≤ f k) : ∀ {k : Nat}, k ≤ n → pst f k ≤ pst f n := by
  induction n with
  | zero => intro k hk; rw [Nat.le_zero.mp hk]; exact Nat.le_refl _
  | succ n ih =>
    intro k hk
    rcases Nat.lt_or_ge k (n + 1) with q | q
    · refine Nat.le_trans (ih (fun k hk => h k (Nat.lt_succ_of_lt hk)) (Nat.le_of_lt_succ q)) ?_
      exact Nat.le_mul_of_pos_right _ (h n (Nat.lt_succ_self n))
    · rw [Nat.le_antisymm hk q]; exact Nat.le_refl _
theorem okc_one {P : St} (h : okC P) : ∀ k, k < kn P → 1 ≤ sz P k := fun k hk => Nat.le_trans (by decide) (okc_sz2 h hk).1
theorem okc_p0 {P : St} (h : okC P) {k : Nat} (hk : k < kn P) : 0 < pst (sz P) k := pst_pos (fun j hj => okc_one h j (Nat.lt_trans hj hk))
theorem okc_pS {P : St} (h : okC P) {k : Nat} (hk : k < kn P) : pst (sz P) k ≤ 144 := Nat.le_trans (pst_mono (okc_one h) (Nat.le_of_lt hk)) (by rw [← okc_Sp h]; exact okc_S144 h)
theorem okc_S1 {P : St} (h : okC P) : 1 ≤ nS P := by rw [okc_Sp h]; exact pst_pos (okc_one h)
theorem val_lt {P : St} (h : okC P) (x : Nat) {k : Nat} (hk : k < kn P) : val P x k < sz P k := Nat.mod_lt _ (Nat.lt_of_lt_of_le (by decide) (okc_sz2 h hk).1)
theorem val_lt4 {P : St} (h : okC P) (x : Nat) {k : Nat} (hk : k < kn P) : val P x k < 4 := Nat.lt_of_lt_of_le (val_lt h x hk) (okc_sz2 h hk).2
theorem slv_lt {P : St} (h : okC P) (x : Nat) {k : Nat} (hk : k < kn P) : slv P x k < 24 := by
  have h1 := val_lt4 h x hk
  have h2 := okc_kn6 h
  unfold slv
  omega
/-- a setting less what one knob gives it -/
theorem val_le (P : St) (x k : Nat) : val P x k * pst (sz P) k ≤ x := by
  unfold val
  refine Nat.le_trans (Nat.mul_le_mul_right _ (Nat.mod_le _ _)) ?_
  rw [Nat.mul_comm]
  exact Nat.mul_div_le x _
theorem mv_eq (P : St) (x k v : Nat) : nI x + (nI v - nI (val P x k)) * nI (pst (sz P) k) = nI (mv P x k v) := by
  have h := val_le P x k
  unfold mv
  generalize val P x k = a at h ⊢
  generalize pst (sz P) k = b at h ⊢
  have e1 : nI x = nI (x - a * b) + nI (a * b) := by rw [nI_add, Nat.sub_add_cancel h]
  rw [← nI_add, ← pk_mul v b, e1, Int32.sub_mul, pk_mul a b, Int32.add_assoc]
  congr 1
  rw [Int32.add_comm, Int32.sub_add_cancel]
theorem pst_dvd {f : Nat → Nat} : ∀ {n k : Nat}, k ≤ n → ∃ c, pst f n = pst f k * c := by
  intro n
  induction n with
  | zero => intro k hk; rw [Nat.le_zero.mp hk]; exact ⟨1, (Nat.mul_one _).symm⟩
  | succ n ih =>
    intro k hk
    rcases Nat.lt_or_ge k (n + 1) with q | q
    · obtain ⟨c, hc⟩ := ih (Nat.le_of_lt_succ q)
      exact ⟨c * f n, by rw [pst, hc, Nat.mul_assoc]⟩
    · rw [Nat.le_antisymm hk q]; exact ⟨1, (Nat.mul_one _).symm⟩
theorem mv_lt {P : St} (h : okC P) {x k v : Nat} (hx : x < nS P) (hk : k < kn P) (hv : v < sz P k) : mv P x k v < nS P := by
  obtain ⟨c, hc⟩ := pst_dvd (f := sz P) (n := kn P) (k := k + 1) hk
  rw [pst] at hc
  have hp := okc_p0 h hk
  rw [okc_Sp h] at hx ⊢
  unfold mv val
  generalize hpe : pst (sz P) k = p at hp hc ⊢
  generalize sz P k = z at hv hc ⊢
  have hz : 0 < z := Nat.lt_of_le_of_lt (Nat.zero_le _) hv
  rw [hc] at hx ⊢
  have e1 := Nat.div_add_mod x p
  have e2 := Nat.div_add_mod (x / p) z
  have hr := Nat.mod_lt x hp
  have hq : x / p / z < c := by
    rw [Nat.div_div_eq_div_mul]
    exact Nat.div_lt_of_lt_mul hx
  generalize hA : x / p / z = A at hq e2
  generalize hB : x / p % z = B at e2
  generalize hC : x % p = C at hr e1
  have hx2 : x = p * (z * A + B) + C := by rw [e2, e1]
  have e3 : x - B * p + v * p = p * (z * A + v) + C := by
    rw [hx2, Nat.mul_add, Nat.mul_add, Nat.mul_comm B p, Nat.mul_comm v p]
    omega
  rw [e3]
  have h1 : z * A + v + 1 ≤ z * c := by
    have : z * (A + 1) ≤ z * c := Nat.mul_le_mul_left z hq
    rw [Nat.mul_succ] at this
    omega
  have h2 : p * (z * A + v + 1) ≤ p * (z * c) := Nat.mul_le_mul_left p h1
  rw [Nat.mul_succ] at h2
  rw [Nat.mul_assoc]
  omega
