/-! the odds don't depend on the order of the readings -/
def rkw (v u : Int32) : Nat := if u < v then 2 else if u = v then 1 else 0
def rkv (L : List Int32) (v : Int32) : Nat := (L.map (rkw v)).sum
theorem rkv_app (a b : List Int32) (v : Int32) : rkv (a ++ b) v = rkv b v + rkv a v := by
  unfold rkv; rw [List.map_append, List.sum_append, Nat.add_comm]
theorem rk_aux (L : List Int32) (i : Nat) : ∀ n, n ≤ L.length → fb_sm (rkt L i) n + (if i < n then 1 else 0) = ((L.take n).map (rkw (L.getD i 0))).sum := by
  intro n
  induction n with
  | zero => intro _; simp [fb_sm]
  | succ n ih =>
    intro hn
    have e : L.getD n 0 = L[n] := by rw [List.getD_eq_getElem?_getD, List.getElem?_eq_getElem (by omega)]; rfl
    rw [fb_sm, List.take_succ_eq_append_getElem (by omega), List.map_append, List.sum_append, ← ih (by omega)]
    simp only [List.map_cons, List.map_nil, List.sum_cons, List.sum_nil]
    rw [← e]
    unfold rkt rkw
    by_cases q : n = i
    · subst q
      rw [if_neg (by simp [fa_lt]), if_neg (fun z => z.2 rfl), if_neg (Nat.lt_irrefl _), if_pos (Nat.lt_succ_self _), if_neg (by simp [fa_lt]), if_pos rfl]
      omega
    · by_cases q1 : L.getD n 0 < L.getD i 0
      · rw [if_pos q1, if_pos q1]
        by_cases q2 : i < n
        · rw [if_pos q2, if_pos (by omega)]; omega
        · rw [if_neg q2, if_neg (by omega)]; omega
      · rw [if_neg q1, if_neg q1]
        by_cases q3 : L.getD n 0 = L.getD i 0
        · rw [if_pos ⟨q3, q⟩, if_pos q3]
          by_cases q2 : i < n
          · rw [if_pos q2, if_pos (by omega)]; omega
          · rw [if_neg q2, if_neg (by omega)]; omega
        · rw [if_neg (fun z => q3 z.1), if_neg q3]
          by_cases q2 : i < n
          · rw [if_pos q2, if_pos (by omega)]; omega
          · rw [if_neg q2, if_neg (by omega)]; omega
theorem rk_v {L : List Int32} {i : Nat} (h : i < L.length) : rk L i = rkv L (L.getD i 0) - 1 := by
  have := rk_aux L i L.length (Nat.le_refl _)
  rw [if_pos h, List.take_length] at this
  unfold rk rkv
  omega
def stf (f : Nat → Nat → Int32) (r : Nat) : Nat → Nat → Int32 := fun n s => f n s + (if 1 ≤ n ∧ r ≤ s then f (n - 1) (s - r) else 0)
def dp0 : Nat → Nat → Int32 := fun n s => if n = 0 ∧ s = 0 then 1 else 0
theorem dpf_fold (r : Nat → Nat) : ∀ i, dpf r i = ((List.range i).map r).foldl stf dp0
  | 0 => rfl
  | i + 1 => by
    rw [List.range_succ, List.map_append, List.foldl_append, ← dpf_fold r i]
    rfl
theorem stf_comm (f : Nat → Nat → Int32) (a b : Nat) : stf (stf f a) b = stf (stf f b) a := by
  funext n s
  unfold stf
  by_cases h2 : 2 ≤ n ∧ a + b ≤ s
  · have q1 : 1 ≤ n ∧ b ≤ s := by omega
    have q2 : 1 ≤ n ∧ a ≤ s := by omega
    have q3 : 1 ≤ n - 1 ∧ a ≤ s - b := by omega
    have q4 : 1 ≤ n - 1 ∧ b ≤ s - a := by omega
    simp only [if_pos q1, if_pos q2, if_pos q3, if_pos q4]
    rw [show s - b - a = s - a - b by omega]
    simp only [Int32.add_assoc]
    congr 1
    rw [← Int32.add_assoc, ← Int32.add_assoc, Int32.add_comm (f (n - 1) (s - a))]
  · have e1 : (if 1 ≤ n - 1 ∧ a ≤ s - b then f (n - 1 - 1) (s - b - a) else 0) = 0 ∨ ¬ (1 ≤ n ∧ b ≤ s) := by
      by_cases q : 1 ≤ n ∧ b ≤ s
      · exact Or.inl (if_neg (by omega))
      · exact Or.inr q
    have e2 : (if 1 ≤ n - 1 ∧ b ≤ s - a then f (n - 1 - 1) (s - a - b) else 0) = 0 ∨ ¬ (1 ≤ n ∧ a ≤ s) := by
      by_cases q : 1 ≤ n ∧ a ≤ s
      · exact Or.inl (if_neg (by omega))
      · exact Or.inr q
    have k1 : (if 1 ≤ n ∧ b ≤ s then f (n - 1) (s - b) + (if 1 ≤ n - 1 ∧ a ≤ s - b then f (n - 1 - 1) (s - b - a) else 0) else 0) = (if 1 ≤ n ∧ b ≤ s then f (n - 1) (s - b) else 0) := by
      by_cases q : 1 ≤ n ∧ b ≤ s
      · rw [if_pos q, if_pos q, e1.resolve_right (fun z => z q), Int32.add_zero]
      · rw [if_neg q, if_neg q]
    have k2 : (if 1 ≤ n ∧ a ≤ s then f (n - 1) (s - a) + (if 1 ≤ n - 1 ∧ b ≤ s - a then f (n - 1 - 1) (s - a - b) else 0) else 0) = (if 1 ≤ n ∧ a ≤ s then f (n - 1) (s - a) else 0) := by
      by_cases q : 1 ≤ n ∧ a ≤ s
      · rw [if_pos q, if_pos q, e2.resolve_right (fun z => z q), Int32.add_zero]
      · rw [if_neg q, if_neg q]
    rw [k1, k2, Int32.add_assoc, Int32.add_assoc, Int32.add_comm (if 1 ≤ n ∧ a ≤ s then f (n - 1) (s - a) else 0)]
theorem fold_one (x : Nat) : ∀ (b : List Nat) (f : Nat → Nat → Int32), b.foldl stf (stf f x) = stf (b.foldl stf f) x
  | [], _ => rfl
  | y :: b, f => by rw [List.foldl_cons, List.foldl_cons, stf_comm, fold_one x b]
theorem fold_sw : ∀ (a b : List Nat) (f : Nat → Nat → Int32), (a ++ b).foldl stf f = (b ++ a).foldl stf f
  | [], b, f => by rw [List.nil_append, List.append_nil]
  | x :: a, b, f => by
    rw [List.cons_append, List.foldl_cons, fold_sw a b, List.foldl_append, List.foldl_append, List.foldl_cons, fold_one]
theorem map_rk (L : List Int32) : (List.range L.length).map (rk L) = L.map (fun v => rkv L v - 1) := by
  refine List.ext_getElem (by simp) (fun i h1 h2 => ?_)
  have h3 : i < L.length := by simpa using h2
  rw [List.getElem_map, List.getElem_map, List.getElem_range, rk_v h3]
  congr 2
  rw [List.getD_eq_getElem?_getD, List.getElem?_eq_getElem h3]; rfl
theorem dp_sw (a b : List Int32) : dpf (rk (a ++ b)) (a ++ b).length = dpf (rk (b ++ a)) (b ++ a).length := by
  have e : ∀ v, rkv (a ++ b) v = rkv (b ++ a) v := fun v => by rw [rkv_app, rkv_app, Nat.add_comm]
  rw [dpf_fold, dpf_fold, map_rk, map_rk]
  simp only [e]
  rw [List.map_append, List.map_append, fold_sw]
theorem due_sw (a b : List Int32) : fb_sm (fun k => rk (a ++ b) (a.length + k)) b.length = fb_sm (rk (b ++ a)) b.length := by
  refine fb_sm_cong (fun k hk => ?_)
  have e : ∀ v, rkv (a ++ b) v = rkv (b ++ a) v := fun v => by rw [rkv_app, rkv_app, Nat.add_comm]
  rw [rk_v (by rw [List.length_append]; omega), rk_v (by rw [List.length_append]; omega), e]
  congr 2
  rw [List.getD_eq_getElem?_getD, List.getD_eq_getElem?_getD, List.getElem?_append_right (by omega), List.getElem?_append_left hk]
  congr 2
  omega
theorem dpf_big {r : Nat → Nat} : ∀ {i n s : Nat}, (∀ k, k < i → r k ≤ 30) → 30 * n < s → dpf r i n s = 0
  | 0, n, s, _, h => by rw [dpf, if_neg (by omega)]
  | i + 1, n, s, hr, h => by
    have h1 := hr i (Nat.lt_succ_self i)
    rw [dpf, dpf_big (fun k hk => hr k (by omega)) h]
    by_cases q : 1 ≤ n ∧ r i ≤ s
    · rw [if_pos q, dpf_big (fun k hk => hr k (by omega)) (by omega)]; rfl
    · rw [if_neg q]; rfl
theorem sfr_more {f : Nat → Int32} {a b : Nat} (hab : a ≤ b) (h : ∀ s, b ≤ s → f s = 0) : ∀ c, sfr f a (b + c) = sfr f a b
  | 0 => rfl
  | c + 1 => by
    have ih := sfr_more hab h c
    unfold sfr at *
    rw [show b + (c + 1) - a = b + c - a + 1 by omega, sm, ih, h _ (by omega), Int32.add_zero]
theorem sm_from (f : Nat → Int32) (a : Nat) : ∀ b, sm (fun s => if a ≤ s then f s else 0) b = sfr f a b
  | 0 => by unfold sfr; rw [Nat.zero_sub, sm, sm]
  | b + 1 => by
    have ih := sm_from f a b
    rw [sm, ih]
    unfold sfr
    by_cases q : a ≤ b
    · rw [if_pos q, show b + 1 - a = b - a + 1 by omega, sm, show a + (b - a) = b by omega]
    · rw [if_neg q, show b + 1 - a = 0 by omega, show b - a = 0 by omega]; exact Int32.add_zero _
theorem odds_eq {P Q : St} (h : rel P Q) (x y : Nat) : cwX P x y = cwN Q x y ∧ awX P x y = awN Q x y := by
  have ex : rl P x (nt P) = rl Q x (nt Q) := by rw [r_rl h, r_nt h]
  have ey : rl P y (nt P) = rl Q y (nt Q) := by rw [r_rl h, r_nt h]
  have hx8 := rl_8 Q x (nt Q)
  have hy8 := rl_8 Q y (nt Q)
  have hl := rdn_len Q x y
  have hD : dpf (rk (rdl P x y)) (rdl P x y).length (rl P y (nt P)).length = DN Q x y := by
    unfold DN rdl rdn
    rw [ex, ey, dp_sw]
  have hdue : dueX P x y = leN Q x y := by
    unfold dueX leN rdl rdn
    rw [ex, ey, due_sw]
  have hz : ∀ s, 241 ≤ s → DN Q x y s = 0 := fun s hs => dpf_big (fun k hk => rk_30 (by omega) hk) (by omega)
  have hle := le_240 Q x y
  constructor
  · unfold cwX cwN
    rw [hD, hdue, sm_from, ← sfr_more (b := 241) (by omega) hz 15]
  · unfold awX awN
    rw [hD, ← sfr_more (b := 241) (by omega) hz 15]
    unfold sfr
    exact sm_congr (fun k _ => by rw [Nat.zero_add])
theorem s_odds {P Q : St} (h : rel P Q) (x y w : Int32) : FoddsX P x y w = (if cTw Q x y ∧ inR w (nI 0) (nI 1) then (if cTr Q (cl x) (cl y) then (if w = 0 then cwN Q (cl x) (cl y) else awN Q (cl x) (cl y)) else -2) else -1) := by
  have ht : cTr P (cl x) (cl y) ↔ cTr Q (cl x) (cl y) := by unfold cTr; rw [r_fi h, r_fi h, r_nt h]
  exact ite2 (and_congr (and_congr (r_isS h x) (and_congr (r_isS h y) Iff.rfl)) Iff.rfl) (fun _ => ite2 ht (fun _ => ite2 Iff.rfl (fun _ => (odds_eq h _ _).1) (fun _ => (odds_eq h _ _).2)) (fun _ => rfl)) (fun _ => rfl)
theorem s_safe {P Q : St} (h : rel P Q) (x y a b : Int32) : FsafeX P x y a b = (if cTw Q x y ∧ inR a (nI 0) (nI 1000) ∧ inR b (nI 1) (nI 1000) then (if cTr Q (cl x) (cl y) then bI (cwN Q (cl x) (cl y) * b ≤ a * awN Q (cl x) (cl y)) else -2) else -1) := by
  have ht : cTr P (cl x) (cl y) ↔ cTr Q (cl x) (cl y) := by unfold cTr; rw [r_fi h, r_fi h, r_nt h]
  refine ite2 (and_congr (and_congr (r_isS h x) (and_congr (r_isS h y) Iff.rfl)) Iff.rfl) (fun _ => ite2 ht (fun _ => ?_) (fun _ => rfl)) (fun _ => rfl)
  rw [(odds_eq h _ _).1, (odds_eq h _ _).2, Int32.mul_comm (awN Q (cl x) (cl y)) a]
