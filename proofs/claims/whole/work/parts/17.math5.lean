/-- the first 8 readings of x among the first n trials -/
def rl (P : St) (x : Nat) : Nat → List Int32
  | 0 => []
  | n + 1 => if tx P n = x ∧ (rl P x n).length < 8 then rl P x n ++ [P 13 n] else rl P x n
theorem rl_8 (P : St) (x : Nat) : ∀ n, (rl P x n).length ≤ 8
  | 0 => Nat.zero_le _
  | n + 1 => by
    have h := rl_8 P x n
    unfold rl
    split
    · rename_i q; rw [List.length_append, List.length_singleton]; omega
    · exact h
theorem rl_y {P : St} {x n : Nat} (h : tx P n = x) (h8 : (rl P x n).length < 8) : rl P x (n + 1) = rl P x n ++ [P 13 n] := by rw [rl, if_pos ⟨h, h8⟩]
theorem rl_n {P : St} {x n : Nat} (h : ¬ tx P n = x) : rl P x (n + 1) = rl P x n := by rw [rl, if_neg (fun q => h q.1)]
theorem rl_full {P : St} {x n : Nat} (h8 : ¬ (rl P x n).length < 8) : ∀ k, rl P x (n + k) = rl P x n
  | 0 => rfl
  | k + 1 => by
    have h := rl_full h8 k
    rw [← Nat.add_assoc, rl, h, if_neg (fun q => h8 q.2)]
theorem rl_end {P : St} {x n m : Nat} (h8 : ¬ (rl P x n).length < 8) (h : n ≤ m) : rl P x m = rl P x n := by
  obtain ⟨k, rfl⟩ := Nat.exists_eq_add_of_le h
  exact rl_full h8 k
/-- the gathered readings are the list's -/
def rdg (T : St) (L : List Int32) : Prop := T 28 0 = nI L.length ∧ ∀ i, i < L.length → T 18 i = L.getD i 0
theorem rdg_push {T : St} {L : List Int32} {v : Int32} (h : rdg T L) : rdg (st1 (st1 T 18 L.length v) 28 0 (nI (L.length + 1))) (L ++ [v]) := by
  refine ⟨?_, fun i hi => ?_⟩
  · rw [st1_at, List.length_append]; rfl
  · rw [st1_ne (by decide)]
    rw [List.length_append, List.length_singleton] at hi
    by_cases q : i = L.length
    · rw [q, st1_at]; simp
    · rw [st1_no q, h.2 i (by omega)]
      rw [List.getD_eq_getElem?_getD, List.getD_eq_getElem?_getD, List.getElem?_append_left (by omega)]
theorem rdg_keep {T T' : St} {L : List Int32} (h : rdg T L) (h1 : T' 28 = T 28) (h2 : T' 18 = T 18) : rdg T' L := ⟨by rw [h1]; exact h.1, fun i hi => by rw [h2]; exact h.2 i hi⟩
def rkt (L : List Int32) (i j : Nat) : Nat := if L.getD j 0 < L.getD i 0 then 2 else if L.getD j 0 = L.getD i 0 ∧ j ≠ i then 1 else 0
def rk (L : List Int32) (i : Nat) : Nat := fb_sm (rkt L i) L.length
theorem rkt_2 (L : List Int32) (i j : Nat) : rkt L i j ≤ 2 := by
  unfold rkt
  split
  · exact Nat.le_refl _
  · split <;> decide
theorem rk_sm (L : List Int32) (i : Nat) : ∀ n, fb_sm (rkt L i) n ≤ 2 * n
  | 0 => Nat.le_refl _
  | n + 1 => by
    have h := rk_sm L i n
    have := rkt_2 L i n
    rw [fb_sm]; omega
theorem rkt_self (L : List Int32) (i : Nat) : rkt L i i = 0 := by
  unfold rkt
  rw [if_neg (by simp [fa_lt]), if_neg (fun h => h.2 rfl)]
theorem rk_smi (L : List Int32) (i : Nat) : ∀ n, i < n → fb_sm (rkt L i) n + 2 ≤ 2 * n
  | 0, h => absurd h (Nat.not_lt_zero _)
  | n + 1, h => by
    have h2 := rkt_2 L i n
    rw [fb_sm]
    by_cases q : i = n
    · have := rk_sm L i n
      rw [← q] at this ⊢; rw [rkt_self]; omega
    · have := rk_smi L i n (by omega); omega
theorem rk_30 {L : List Int32} {i : Nat} (h : L.length ≤ 16) (hi : i < L.length) : rk L i ≤ 30 := by
  have := rk_smi L i L.length hi
  unfold rk; omega
/-- in how many ways n of the first i have ranks of the sum s -/
def dpf (r : Nat → Nat) : Nat → Nat → Nat → Int32
  | 0, n, s => if n = 0 ∧ s = 0 then 1 else 0
  | i + 1, n, s => dpf r i n s + (if 1 ≤ n ∧ r i ≤ s then dpf r i (n - 1) (s - r i) else 0)
def sfr (f : Nat → Int32) (a b : Nat) : Int32 := sm (fun k => f (a + k)) (b - a)
def rdl (P : St) (x y : Nat) : List Int32 := rl P x (nt P) ++ rl P y (nt P)
def dueX (P : St) (x y : Nat) : Nat := fb_sm (fun k => rk (rdl P x y) ((rl P x (nt P)).length + k)) (rl P y (nt P)).length
def cwX (P : St) (x y : Nat) : Int32 := sfr (dpf (rk (rdl P x y)) (rdl P x y).length (rl P y (nt P)).length) (dueX P x y) 241
def awX (P : St) (x y : Nat) : Int32 := sfr (dpf (rk (rdl P x y)) (rdl P x y).length (rl P y (nt P)).length) 0 241
theorem rdl_len (P : St) (x y : Nat) : (rdl P x y).length = (rl P x (nt P)).length + (rl P y (nt P)).length := List.length_append
/-- the rows of ways while the row nn takes in the rank r at s -/
def wyo (g : Nat → Int32) (r : Nat → Nat) (i most nn s : Nat) : Prop := ∀ n k, n ≤ most → k < 241 → g (n * 241 + k) = if nn < n ∨ (n = nn ∧ k < s + r i) then dpf r (i + 1) n k else dpf r i n k
theorem wyo_step {g : Nat → Int32} {r : Nat → Nat} {i most nn s : Nat} (h : wyo g r i most nn s) (hnn : 0 < nn) (hm : nn ≤ most) (hs : s + r i < 241) :
    wyo (upd g (nn * 241 + s + r i) (g (nn * 241 + s + r i) + g ((nn - 1) * 241 + s))) r i most nn (s + 1) := by
  intro n k hn hk
  have e1 : g (nn * 241 + s + r i) = dpf r i nn (s + r i) := by
    rw [Nat.add_assoc, h nn (s + r i) hm hs, if_neg (by omega)]
  have e2 : g ((nn - 1) * 241 + s) = dpf r i (nn - 1) s := by
    rw [h (nn - 1) s (by omega) (by omega), if_neg (by omega)]
  by_cases q : n = nn ∧ k = s + r i
  · obtain ⟨rfl, rfl⟩ := q
    rw [Nat.add_assoc, upd, if_pos rfl, if_pos (by omega), ← Nat.add_assoc, e1, e2, dpf, if_pos (by omega), Nat.add_sub_cancel]
  · rw [upd, if_neg (fun e => q (by have := Nat.div_add_mod (n * 241 + k) 241; omega)), h n k hn hk]
    by_cases q2 : nn < n ∨ (n = nn ∧ k < s + r i)
    · rw [if_pos q2, if_pos (by omega)]
    · rw [if_neg q2, if_neg (by omega)]
theorem wyo_row {g : Nat → Int32} {r : Nat → Nat} {i most nn s : Nat} (h : wyo g r i most nn s) (hnn : 0 < nn) (hs : ¬ s + r i < 241) : wyo g r i most (nn - 1) 0 := by
  intro n k hn hk
  rw [h n k hn hk]
  by_cases q2 : nn < n ∨ (n = nn ∧ k < s + r i)
  · rw [if_pos q2, if_pos (by omega)]
  · rw [if_neg q2]
    by_cases q3 : nn - 1 < n ∨ (n = nn - 1 ∧ k < 0 + r i)
    · rw [if_pos q3, dpf, if_neg (by omega), Int32.add_zero]
    · rw [if_neg q3]
theorem wyo_next {g : Nat → Int32} {r : Nat → Nat} {i most : Nat} (h : wyo g r i most 0 0) : ∀ n k, n ≤ most → k < 241 → g (n * 241 + k) = dpf r (i + 1) n k := by
  intro n k hn hk
  rw [h n k hn hk]
  by_cases q2 : 0 < n ∨ (n = 0 ∧ k < 0 + r i)
  · rw [if_pos q2]
  · rw [if_neg q2, dpf, if_neg (by omega), Int32.add_zero]
theorem wyo_begin {g : Nat → Int32} {r : Nat → Nat} {i most : Nat} (h : ∀ n k, n ≤ most → k < 241 → g (n * 241 + k) = dpf r i n k) : wyo g r i most most 0 := by
  intro n k hn hk
  rw [h n k hn hk]
  by_cases q2 : most < n ∨ (n = most ∧ k < 0 + r i)
  · rw [if_pos q2, dpf, if_neg (by omega), Int32.add_zero]
  · rw [if_neg q2]
theorem nI_m1 {a : Nat} (h : 1 ≤ a) : nI a - nI 1 = nI (a - 1) := pk_sub h
theorem nI_m1lt {a : Nat} (ha : a < 2 ^ 30) : nI a - nI 1 < 0 ↔ a = 0 := by
  constructor
  · intro h
    rcases Nat.eq_zero_or_pos a with q | q
    · exact q
    · rw [nI_m1 q] at h; exact absurd h (nI_pos (by omega))
  · rintro rfl; decide
theorem upd_0 {f : Nat → Int32} {i : Nat} {v : Int32} : upd f i v i = v := by simp [upd]
theorem ways0 {T : St} {r : Nat → Nat} (hF : ∀ j, j < 2169 → T 19 j = nI 0) {n k : Nat} (h1 : n ≤ 8) (h2 : k < 241) : st1 T 19 0 (nI 1) 19 (n * 241 + k) = dpf r 0 n k := by
  rw [dpf]
  by_cases q : n = 0 ∧ k = 0
  · obtain ⟨rfl, rfl⟩ := q
    rw [if_pos ⟨rfl, rfl⟩]; exact st1_at
  · rw [st1_no (by omega), hF _ (by omega), if_neg q]; rfl
theorem sm_congr {f g : Nat → Int32} : ∀ {n : Nat}, (∀ k, k < n → f k = g k) → sm f n = sm g n
  | 0, _ => rfl
  | n + 1, h => by rw [sm, sm, sm_congr (fun k hk => h k (Nat.lt_succ_of_lt hk)), h n (Nat.lt_succ_self n)]
theorem sfr_congr {f g : Nat → Int32} {a b : Nat} (h : ∀ k, k < b → f k = g k) : sfr f a b = sfr g a b := sm_congr (fun k hk => h (a + k) (by omega))
theorem due_240 (P : St) (x y : Nat) : dueX P x y ≤ 240 := by
  have hx := rl_8 P x (nt P)
  have hy := rl_8 P y (nt P)
  have hl := rdl_len P x y
  have h := fb_sm_bound (f := fun k => rk (rdl P x y) ((rl P x (nt P)).length + k)) (c := 30) (n := (rl P y (nt P)).length) (fun k hk => rk_30 (by omega) (by omega))
  unfold dueX
  omega
