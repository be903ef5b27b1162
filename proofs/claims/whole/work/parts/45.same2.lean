/-! the same numbers, counted in two ways -/
/-- a sum over settings that were tried is a sum over first trials -/
theorem sm_zero {f : Nat → Int32} : ∀ {n : Nat}, (∀ k, k < n → f k = 0) → sm f n = 0
  | 0, _ => rfl
  | n + 1, h => by rw [sm, sm_zero (fun k hk => h k (by omega)), h n (by omega)]; rfl
theorem sm_one {f : Nat → Int32} {y : Nat} : ∀ {n : Nat}, y < n → (∀ k, k < n → k ≠ y → f k = 0) → sm f n = f y
  | 0, h, _ => absurd h (Nat.not_lt_zero _)
  | n + 1, h, h2 => by
    rw [sm]
    by_cases q : n = y
    · subst q
      rw [sm_zero (fun k hk => h2 k (by omega) (by omega)), Int32.zero_add]
    · rw [sm_one (n := n) (by omega) (fun k hk => h2 k (by omega)), h2 n (by omega) q, Int32.add_zero]
/-- g is summed over the first places of t's numbers below n; the same over all numbers below S that stand among them -/
theorem sm_first (t : Nat → Nat) (g : Nat → Int32) (S : Nat) : ∀ n, (∀ i, i < n → t i < S) → sm (fun i => if fa_first (fun j => decide (t j = t i)) n = i then g (t i) else 0) n = sm (fun x => if fa_first (fun j => decide (t j = x)) n < n then g x else 0) S := by
  intro n
  induction n with
  | zero => intro _; rw [sm, sm_zero (fun k _ => by rw [if_neg (Nat.not_lt_zero _)])]
  | succ n ih =>
    intro h
    have ih := ih (fun i hi => h i (by omega))
    have fs : ∀ x, fa_first (fun j => decide (t j = x)) (n + 1) = if fa_first (fun j => decide (t j = x)) n < n then fa_first (fun j => decide (t j = x)) n else if t n = x then n else n + 1 := by
      intro x
      rw [fa_first]
      by_cases q : fa_first (fun j => decide (t j = x)) n < n
      · rw [if_pos q, if_pos q]
      · rw [if_neg q, if_neg q]
        by_cases q2 : t n = x <;> simp [q2]
    have hle : ∀ x, fa_first (fun j => decide (t j = x)) n ≤ n := fun x => fa_first_le _ _
    have hin : ∀ i, i < n → fa_first (fun j => decide (t j = t i)) n < n := fun i hi => by
      rcases Nat.lt_or_ge (fa_first (fun j => decide (t j = t i)) n) n with q | q
      · exact q
      · have := fa_first_no (fun j => decide (t j = t i)) n i (by omega)
        simp at this
    have e1 : sm (fun i => if fa_first (fun j => decide (t j = t i)) (n + 1) = i then g (t i) else 0) n = sm (fun i => if fa_first (fun j => decide (t j = t i)) n = i then g (t i) else 0) n :=
      sm_congr (fun i hi => by rw [fs, if_pos (hin i hi)])
    rw [sm, e1, ih]
    have hn := h n (by omega)
    by_cases q : fa_first (fun j => decide (t j = t n)) n < n
    · have e2 : ¬ fa_first (fun j => decide (t j = t n)) (n + 1) = n := by rw [fs, if_pos q]; omega
      rw [if_neg e2, Int32.add_zero]
      refine sm_congr (fun x _ => ?_)
      rw [fs]
      by_cases q3 : fa_first (fun j => decide (t j = x)) n < n
      · rw [if_pos q3, if_pos q3, if_pos (by omega)]
      · rw [if_neg q3, if_neg q3]
        by_cases q4 : t n = x
        · subst q4; exact absurd q q3
        · rw [if_neg q4, if_neg (Nat.lt_irrefl _)]
    · have e2 : fa_first (fun j => decide (t j = t n)) (n + 1) = n := by rw [fs, if_neg q, if_pos rfl]
      rw [if_pos e2]
      have e3 : sm (fun x => if fa_first (fun j => decide (t j = x)) (n + 1) < n + 1 then g x else 0) S = sm (fun x => (if fa_first (fun j => decide (t j = x)) n < n then g x else 0) + (if x = t n then g x else 0)) S := by
        refine sm_congr (fun x _ => ?_)
        rw [fs]
        by_cases q3 : fa_first (fun j => decide (t j = x)) n < n
        · rw [if_pos q3, if_pos q3, if_pos (by omega), if_neg (fun e => by subst e; exact q q3), Int32.add_zero]
        · rw [if_neg q3, if_neg q3]
          by_cases q4 : t n = x
          · subst q4; rw [if_pos rfl, if_pos (by omega), if_pos rfl, Int32.zero_add]
          · rw [if_neg q4, if_neg (Nat.lt_irrefl _), if_neg (fun e => q4 e.symm)]; rfl
      rw [e3, sm_add]
      congr 1
      rw [sm_one hn (fun k _ hk => if_neg hk), if_pos rfl]
theorem cnt_sm (p : Nat → Bool) : ∀ n, nI (fa_cnt p n) = sm (fun i => if p i = true then nI 1 else 0) n
  | 0 => by rw [fa_cnt, sm]; rfl
  | n + 1 => by
    rw [fa_cnt, sm, ← cnt_sm p n, ← nI_add]
    congr 1
    by_cases q : p n = true
    · rw [if_pos q, if_pos q]
    · rw [if_neg q, if_neg q]; rfl
theorem nI_inj2 {a b : Nat} (ha : a < 2 ^ 31) (hb : b < 2 ^ 31) (h : nI a = nI b) : a = b := (nI_eq ha hb).mp h
theorem sm_trials {P : St} (okc : okC P) (g : Nat → Int32) : sm (fun i => if fi P (tx P i) = i then g (tx P i) else 0) (nt P) = sm (fun x => if fi P x < nt P then g x else 0) (nS P) :=
  sm_first (tx P) g (nS P) (nt P) (fun i hi => okc_txS okc hi)
theorem dst_eq {P : St} (okc : okC P) : nI (dst P) = nI (dstN P (nS P)) := by
  unfold dst dstN
  rw [cnt_sm, cnt_sm]
  have h := sm_trials okc (fun _ => nI 1)
  refine Eq.trans ?_ (h.trans ?_)
  · exact sm_congr (fun i _ => by by_cases q : fi P (tx P i) = i <;> simp [q])
  · exact sm_congr (fun i _ => by by_cases q : fi P i < nt P <;> simp [q])
theorem ps_eq {P : St} (okc : okC P) (a v w : Nat) : psX P a v w (nt P) = psN P a v w (nS P) := by
  unfold psX psN
  have h := sm_trials okc (fun x => if val P x a = v ∧ fi P (mv P x a w) < nt P then pdN P a w x else 0)
  refine Eq.trans ?_ (h.trans ?_)
  · refine sm_congr (fun i hi => ?_)
    by_cases q : fi P (tx P i) = i
    · rw [if_pos q]
      refine ite2 ⟨fun z => ⟨z.1, z.2.2⟩, fun z => ⟨z.1, q, z.2⟩⟩ (fun _ => ?_) (fun _ => rfl)
      unfold pdX pdN; rw [q]
    · rw [if_neg q, if_neg (fun z => q z.2.1)]
  · refine sm_congr (fun x _ => ?_)
    by_cases q : fi P x < nt P
    · rw [if_pos q]
      exact ite2 ⟨fun z => ⟨z.1, q, z.2⟩, fun z => ⟨z.1, z.2.2⟩⟩ (fun _ => rfl) (fun _ => rfl)
    · rw [if_neg q, if_neg (fun z => q z.2.1)]
theorem pc_eq {P : St} (okc : okC P) (a v w : Nat) : nI (pcX P a v w (nt P)) = nI (pcN P a v w (nS P)) := by
  unfold pcX pcN
  rw [cnt_sm, cnt_sm]
  have h := sm_trials okc (fun x => if val P x a = v ∧ fi P (mv P x a w) < nt P then nI 1 else 0)
  refine Eq.trans ?_ (h.trans ?_)
  · refine sm_congr (fun i hi => ?_)
    by_cases q : fi P (tx P i) = i
    · rw [if_pos q]
      exact ite2 ⟨fun z => by have := of_decide_eq_true z; exact ⟨this.1, this.2.2⟩, fun z => decide_eq_true ⟨z.1, q, z.2⟩⟩ (fun _ => rfl) (fun _ => rfl)
    · rw [if_neg q, if_neg (fun z => q (of_decide_eq_true z).2.1)]
  · refine sm_congr (fun x _ => ?_)
    by_cases q : fi P x < nt P
    · rw [if_pos q]
      exact ite2 ⟨fun z => decide_eq_true ⟨z.1, q, z.2⟩, fun z => by have := of_decide_eq_true z; exact ⟨this.1, this.2.2⟩⟩ (fun _ => rfl) (fun _ => rfl)
    · rw [if_neg q, if_neg (fun z => q (of_decide_eq_true z).2.1)]
theorem s_pairs {P Q : St} (okc : okC P) (h : rel P Q) (a v w x : Int32) : FpairsX P a v w x = FpairsN Q a v w x := by
  have h6 := okc_kn6 okc
  have okq := okC_rel h okc
  have hc : cPa P a v w x ↔ cPa Q a v w x := and_congr (r_isV okc h a v) (and_congr (r_isV okc h a w) Iff.rfl)
  refine ite2 hc (fun c => ?_) (fun _ => rfl)
  obtain ⟨a1, ha, rfl⟩ := isK_nat okc c.1.1
  rw [cl_nI (by omega)]
  have e13 := r_j h (j := 13) (by decide) (by decide) (by decide) (by decide)
  have ep : ∀ v w i, prX P a1 v w i ↔ prX Q a1 v w i := fun v w i => by unfold prX; rw [r_tx h, r_val h _ ha, r_mv h _ _ ha, r_fi h, r_fi h, r_nt h]
  refine ite2 Iff.rfl (fun _ => ?_) (fun _ => ?_)
  · rw [← pc_eq okq, r_nt h]
    congr 1
    exact fa_cnt_cong (fun k _ => by rw [decide_eq_decide]; exact ep _ _ k)
  · rw [← ps_eq okq, r_nt h]
    refine sm_congr (fun k _ => ite2 (ep _ _ k) (fun _ => ?_) (fun _ => rfl))
    unfold pdX
    rw [r_tx h, r_mv h _ _ ha, r_fi h, e13]
theorem s_count {P Q : St} (okc : okC P) (h : rel P Q) (x : Int32) : FcountX P x = FcountN Q x := by
  have e4 : nI (dst P) = nI (dstN Q (nS Q)) := by
    rw [dst_eq okc]
    congr 1
    unfold dstN
    rw [r_S h]
    exact fa_cnt_cong (fun k _ => by rw [r_fi h, r_nt h])
  unfold FcountX FcountN
  rw [r_j h (j := 20) (by decide) (by decide) (by decide) (by decide), r_j h (j := 21) (by decide) (by decide) (by decide) (by decide), r_j h (j := 22) (by decide) (by decide) (by decide) (by decide), r_j h (j := 24) (by decide) (by decide) (by decide) (by decide), r_j h (j := 25) (by decide) (by decide) (by decide) (by decide), e4]
