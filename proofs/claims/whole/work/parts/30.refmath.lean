/-- the reference's state in the class's words -/
def cX (N : St) : St := fun j => match j with
  | 1 => fun k => nI (pst (sz N) k)
  | 4 => fun i => N 4 (5 * i)
  | 5 => fun i => N 4 (5 * i + 1)
  | 6 => fun i => N 4 (5 * i + 2)
  | 7 => fun i => N 4 (5 * i + 3)
  | 8 => fun i => N 4 (5 * i + 4)
  | j => N j
def okN (P : St) : Prop := okX (cX P)
theorem okN_c {P : St} (h : okN P) : okC P := h.1
abbrev inL (x a b : Int64) : Prop := a ≤ x ∧ x ≤ b
theorem inL_i {x a b : Int32} {la lb : Int64} (ha : la = a.toInt64) (hb : lb = b.toInt64) : inL x.toInt64 la lb ↔ inR x a b := by
  subst ha; subst hb
  exact ⟨fun h => ⟨(fa_wide_le _ _).mp h.1, (fa_wide_le _ _).mp h.2⟩, fun h => ⟨(fa_wide_le _ _).mpr h.1, (fa_wide_le _ _).mpr h.2⟩⟩
theorem inR_pred {x : Int32} {n : Nat} (hn : n < 2 ^ 30) : inR x (nI 0) (nI n - nI 1) ↔ 0 ≤ x ∧ x < nI n := by
  have e := pk_sub_toInt (a := n) (b := 1) hn (by decide)
  have e2 := nI_toInt (n := n) (by omega)
  have e3 : (nI 0).toInt = 0 := by decide
  have e4 : Int32.toInt 0 = 0 := by decide
  simp only [inR, fa_le, fa_lt, e, e2, e3, e4]
  omega
theorem inL_pred {x : Int32} {n : Nat} (hn : n < 2 ^ 30) : inL x.toInt64 0 (nI n - nI 1).toInt64 ↔ 0 ≤ x ∧ x < nI n := (inL_i (a := nI 0) (b := nI n - nI 1) (by decide) rfl).trans (inR_pred hn)
theorem in_K {P : St} (okc : okC P) {x : Int32} : inL x.toInt64 0 (nI (kn P) - nI 1).toInt64 ↔ isK P x := by
  have := okc_kn6 okc
  rw [inL_pred (by omega), isK, okc_kn okc]
theorem in_S {P : St} (okc : okC P) {x : Int32} : inL x.toInt64 0 (nI (nS P) - nI 1).toInt64 ↔ isS P x := by
  have := okc_S144 okc
  rw [inL_pred (by omega), isS, okc_S okc]
theorem in_T {P : St} (okc : okC P) {x : Int32} : inL x.toInt64 0 (nI (nt P) - nI 1).toInt64 ↔ isT P x := by
  have := okc_nt60 okc
  rw [inL_pred (by omega), isT, okc_nt okc]
def okK (P : St) : Prop := (P 20 0 = nI (kn P) ∧ kn P ≤ 6) ∧ (P 21 0 = nI (nS P) ∧ nS P = pst (sz P) (kn P) ∧ nS P ≤ 144) ∧ (∀ k, k < kn P → P 0 k = nI (sz P k) ∧ 2 ≤ sz P k ∧ sz P k ≤ 4)
theorem okC_K {P : St} (h : okC P) : okK P := ⟨h.1, h.2.1, h.2.2.1⟩
theorem okk_one {P : St} (h : okK P) : ∀ k, k < kn P → 1 ≤ sz P k := fun k hk => Nat.le_trans (by decide) (h.2.2 k hk).2.1
theorem okk_p0 {P : St} (h : okK P) {k : Nat} (hk : k ≤ kn P) : 0 < pst (sz P) k := pst_pos (fun j hj => okk_one h j (Nat.lt_of_lt_of_le hj hk))
theorem okk_pS {P : St} (h : okK P) {k : Nat} (hk : k ≤ kn P) : pst (sz P) k ≤ 144 := Nat.le_trans (pst_mono (okk_one h) hk) (by rw [← h.2.1.2.1]; exact h.2.1.2.2)
theorem okk_val4 {P : St} (h : okK P) (x : Nat) {k : Nat} (hk : k < kn P) : val P x k < 4 := Nat.lt_of_lt_of_le (Nat.mod_lt _ (Nat.lt_of_lt_of_le (by decide) (h.2.2 k hk).2.1)) (h.2.2 k hk).2.2
theorem okk_slv {P : St} (h : okK P) (x : Nat) {k : Nat} (hk : k < kn P) : slv P x k < 24 := by
  have h1 := okk_val4 h x hk
  have h2 := h.1.2
  unfold slv
  omega
def woN (P : St) (x : Nat) : Int32 := P 23 0 + sm (fun a => P 9 (slv P x a) + sm (fun t => P 10 (slv P x a * 24 + slv P x (a + 1 + t))) (kn P - (a + 1))) (kn P)
theorem sm_add (f g : Nat → Int32) : ∀ n, sm (fun k => f k + g k) n = sm f n + sm g n
  | 0 => rfl
  | n + 1 => by
    rw [sm, sm, sm, sm_add f g n]
    rw [Int32.add_assoc, Int32.add_assoc, ← Int32.add_assoc (sm g n), Int32.add_comm (sm g n) (f n), Int32.add_assoc]
theorem sm_sw (f : Nat → Nat → Int32) : ∀ n, sm (fun b => sm (fun a => f a b) b) n = sm (fun a => sm (fun t => f a (a + 1 + t)) (n - (a + 1))) n
  | 0 => rfl
  | n + 1 => by
    rw [sm, sm_sw f n, sm, show n + 1 - (n + 1) = 0 by omega, sm, Int32.add_zero, ← sm_add]
    exact sm_congr (fun k hk => by rw [show n + 1 - (k + 1) = n - (k + 1) + 1 by omega, sm, show k + 1 + (n - (k + 1)) = n by omega])
theorem wo_N (P : St) (x : Nat) : woN P x = wo P x := by
  unfold woN wo wot wjt
  rw [sm_add, sm_add, sm_sw (fun a b => P 10 (slv P x a * 24 + slv P x b))]
/-- the reference's answer of the first trial -/
def foN (P : St) (x : Nat) : Int32 := if fi P x < nt P then nI (fi P x) else -1
theorem foN_neg {P : St} {x : Nat} (h : nt P ≤ 60) : foN P x < 0 ↔ ¬ fi P x < nt P := by
  unfold foN
  by_cases q : fi P x < nt P
  · rw [if_pos q]; exact ⟨fun e => absurd e (nI_pos (by omega)), fun e => absurd q e⟩
  · rw [if_neg q]; exact ⟨fun _ => q, fun _ => by decide⟩
theorem foN_in {P : St} {x : Nat} (h : fi P x < nt P) : foN P x = nI (fi P x) := if_pos h
abbrev fst1 (P : St) (x : Nat) (c : Nat) (z : Int32) : Prop := (z = -1 ∧ ∀ j, c ≤ j → j < nt P → tx P j ≠ x) ∨ ∃ k, z = nI k ∧ c ≤ k ∧ k < nt P ∧ tx P k = x ∧ ∀ j, c ≤ j → j < k → tx P j ≠ x
theorem fst1_end {P : St} {x : Nat} {z : Int32} (h : fst1 P x 0 z) : z = foN P x := by
  rcases h with ⟨rfl, h⟩ | ⟨k, rfl, -, h1, h2, h3⟩
  · rw [foN, fi_no (fun j hj => h j (Nat.zero_le _) hj), if_neg (Nat.lt_irrefl _)]
  · rw [foN, fi_at h1 (fun j hj => h3 j (Nat.zero_le _) hj) h2, if_pos h1]
theorem fst1_y {P : St} {x c : Nat} {z : Int32} (hc : c < nt P) (e : tx P c = x) : fst1 P x c (nI c) := Or.inr ⟨c, rfl, Nat.le_refl _, hc, e, fun j h1 h2 => by omega⟩
theorem fst1_n {P : St} {x c : Nat} {z : Int32} (h : fst1 P x (c + 1) z) (e : ¬ tx P c = x) : fst1 P x c z := by
  rcases h with ⟨rfl, h⟩ | ⟨k, rfl, h0, h1, h2, h3⟩
  · refine Or.inl ⟨rfl, fun j hj hn => ?_⟩
    rcases Nat.eq_or_lt_of_le hj with q | q
    · rw [← q]; exact e
    · exact h j q hn
  · refine Or.inr ⟨k, rfl, by omega, h1, h2, fun j hj hn => ?_⟩
    rcases Nat.eq_or_lt_of_le hj with q | q
    · rw [← q]; exact e
    · exact h3 j q hn
theorem ag_c {P : St} (ok : okN P) {x i : Nat} : agX (cX P) x i ↔ nI (val P x (rk1 (cX P) i)) = P 4 (5 * i + 2) ∧ (if P 4 (5 * i) = nI 1 then ¬ nI (val P x (rk2 (cX P) i)) = P 4 (5 * i + 4) else nI (val P x (rk2 (cX P) i)) = P 4 (5 * i + 4)) := by
  have h4 : P 4 (5 * i) = 0 ∨ P 4 (5 * i) = 1 := ok.2.2.2 i
  show (nI (val P x (rk1 (cX P) i)) = P 4 (5 * i + 2) ∧ ¬ bI (nI (val P x (rk2 (cX P) i)) = P 4 (5 * i + 4)) = P 4 (5 * i)) ↔ _
  have e1 : (nI 1 : Int32) = 1 := by decide
  rw [e1]
  rcases h4 with h | h <;> rw [h] <;> by_cases q : nI (val P x (rk2 (cX P) i)) = P 4 (5 * i + 4) <;> simp [bI, q]
theorem lg_lt {x y : Int64} : lg_cmp x y < 0 ↔ x < y := by
  unfold lg_cmp
  have h := Int64.lt_iff_toInt_lt (x := x) (y := y)
  have h2 := Int64.lt_iff_toInt_lt (x := y) (y := x)
  split <;> rename_i q
  · constructor
    · intro e; exact absurd e (by decide)
    · intro e; exfalso; rw [h] at e; rw [gt_iff_lt, h2] at q; omega
  · split <;> rename_i q2
    · exact ⟨fun e => absurd e (by decide), fun e => by subst q2; exfalso; rw [h] at e; omega⟩
    · refine ⟨fun _ => ?_, fun _ => by decide⟩
      rw [h]
      have h3 : x.toInt ≠ y.toInt := fun e => q2 (Int64.toInt_inj.mp e)
      rw [gt_iff_lt, h2] at q
      omega
theorem lg_gt {x y : Int64} : 0 < lg_cmp x y ↔ y < x := by
  unfold lg_cmp
  split <;> rename_i q
  · exact ⟨fun _ => q, fun _ => by decide⟩
  · split
    · exact ⟨fun e => absurd e (by decide), fun e => absurd e q⟩
    · exact ⟨fun e => absurd e (by decide), fun e => absurd e q⟩
theorem in_yes {x a b : Int64} (h1 : ¬ lg_cmp x a < 0) (h2 : ¬ 0 < lg_cmp x b) : inL x a b := ⟨Int64.not_lt.mp (fun h => h1 (lg_lt.mpr h)), Int64.not_lt.mp (fun h => h2 (lg_gt.mpr h))⟩
theorem in_no1 {x a b : Int64} (h1 : lg_cmp x a < 0) : ¬ inL x a b := fun h => Int64.not_lt.mpr h.1 (lg_lt.mp h1)
theorem in_no2 {x a b : Int64} (h2 : 0 < lg_cmp x b) : ¬ inL x a b := fun h => Int64.not_lt.mpr h.2 (lg_gt.mp h2)
theorem ab_pos {d : Int32} (h : 0 ≤ d) : d = ab d := (if_pos h).symm
theorem ab_neg {d : Int32} (h : ¬ 0 ≤ d) : -d = ab d := by rw [ab, if_neg h, Int32.zero_sub]
