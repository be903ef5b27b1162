abbrev prN (P : St) (a v w x : Nat) : Prop := val P x a = v ∧ fi P x < nt P ∧ fi P (mv P x a w) < nt P
def pdN (P : St) (a w x : Nat) : Int32 := P 13 (fi P (mv P x a w)) - P 13 (fi P x)
def pcN (P : St) (a v w : Nat) (n : Nat) : Nat := fa_cnt (fun x => decide (prN P a v w x)) n
def psN (P : St) (a v w : Nat) (n : Nat) : Int32 := sm (fun x => if prN P a v w x then pdN P a w x else 0) n
def FpairsN (P : St) (a v w what : Int32) : Int32 := if cPa P a v w what then (if what = 0 then nI (pcN P (cl a) (cl v) (cl w) (nS P)) else psN P (cl a) (cl v) (cl w) (nS P)) else -10000000
def dstN (P : St) (n : Nat) : Nat := fa_cnt (fun x => decide (fi P x < nt P)) n
def FcountN (P : St) (what : Int32) : Int32 := if what = nI 0 then P 20 0 else if what = nI 1 then P 21 0 else if what = nI 2 then P 22 0 else if what = nI 3 then P 24 0 else if what = nI 4 then nI (dstN P (nS P)) else if what = nI 5 then P 25 0 else -1
theorem rl_0 {P : St} {x : Nat} : ∀ {n : Nat}, (rl P x n).length = 0 ↔ ∀ j, j < n → tx P j ≠ x
  | 0 => ⟨fun _ j hj => absurd hj (Nat.not_lt_zero j), fun _ => rfl⟩
  | n + 1 => by
    have ih := rl_0 (P := P) (x := x) (n := n)
    constructor
    · intro h
      by_cases q : tx P n = x ∧ (rl P x n).length < 8
      · rw [rl, if_pos q, List.length_append, List.length_singleton] at h; omega
      · rw [rl, if_neg q] at h
        exact lt_s (ih.mp h) (fun e => q ⟨e, by omega⟩)
    · intro h
      rw [rl, if_neg (fun q => h n (Nat.lt_succ_self n) q.1)]
      exact ih.mpr (fun j hj => h j (by omega))
theorem rl_fi {P : St} {x : Nat} : (rl P x (nt P)).length = 0 ↔ ¬ fi P x < nt P := by
  rw [rl_0]
  constructor
  · intro h; rw [fi_no h]; exact Nat.lt_irrefl _
  · intro h j hj e; exact h (Nat.lt_of_le_of_lt (fi_lt hj e) hj)
def rdn (P : St) (x y : Nat) : List Int32 := rl P y (nt P) ++ rl P x (nt P)
def leN (P : St) (x y : Nat) : Nat := fb_sm (rk (rdn P x y)) (rl P y (nt P)).length
def DN (P : St) (x y : Nat) : Nat → Int32 := dpf (rk (rdn P x y)) (rdn P x y).length (rl P y (nt P)).length
def cwN (P : St) (x y : Nat) : Int32 := sm (fun s => if leN P x y ≤ s then DN P x y s else 0) 256
def awN (P : St) (x y : Nat) : Int32 := sm (DN P x y) 256
theorem rdn_len (P : St) (x y : Nat) : (rdn P x y).length = (rl P y (nt P)).length + (rl P x (nt P)).length := List.length_append
theorem dpf_zero {r : Nat → Nat} : ∀ {i n s : Nat}, i < n → dpf r i n s = 0
  | 0, n, s, h => by rw [dpf, if_neg (by omega)]
  | i + 1, n, s, h => by
    rw [dpf, dpf_zero (by omega)]
    by_cases q : 1 ≤ n ∧ r i ≤ s
    · rw [if_pos q, dpf_zero (by omega)]; rfl
    · rw [if_neg q]; rfl
def wyd (g : Nat → Int32) (r : Nat → Nat) (i own nn t : Nat) : Prop := ∀ n k, n ≤ own → k < 256 → g (256 * n + k) = if nn < n ∨ (n = nn ∧ t + r i ≤ k) then dpf r (i + 1) n k else dpf r i n k
theorem wyd_step {g : Nat → Int32} {r : Nat → Nat} {i own nn t : Nat} (h : wyd g r i own nn t) (hnn : 0 < nn) (hm : nn ≤ own) (ht : 0 < t) (hs : t + r i ≤ 256) :
    wyd (upd g (256 * nn + (t - 1) + r i) (g (256 * nn + (t - 1) + r i) + g (256 * (nn - 1) + (t - 1)))) r i own nn (t - 1) := by
  intro n k hn hk
  have e1 : g (256 * nn + (t - 1) + r i) = dpf r i nn (t - 1 + r i) := by
    rw [Nat.add_assoc, h nn (t - 1 + r i) hm (by omega), if_neg (by omega)]
  have e2 : g (256 * (nn - 1) + (t - 1)) = dpf r i (nn - 1) (t - 1) := by
    rw [h (nn - 1) (t - 1) (by omega) (by omega), if_neg (by omega)]
  by_cases q : n = nn ∧ k = t - 1 + r i
  · obtain ⟨rfl, rfl⟩ := q
    rw [Nat.add_assoc, upd, if_pos rfl, if_pos (by omega), ← Nat.add_assoc, e1, e2, dpf, if_pos (by omega), Nat.add_sub_cancel]
  · rw [upd, if_neg (fun e => q (by omega)), h n k hn hk]
    by_cases q2 : nn < n ∨ (n = nn ∧ t + r i ≤ k)
    · rw [if_pos q2, if_pos (by omega)]
    · rw [if_neg q2, if_neg (by omega)]
theorem wyd_row {g : Nat → Int32} {r : Nat → Nat} {i own nn : Nat} (h : wyd g r i own nn 0) (hnn : 0 < nn) (hr : r i ≤ 255) : wyd g r i own (nn - 1) (256 - r i) := by
  intro n k hn hk
  rw [h n k hn hk]
  by_cases q2 : nn < n ∨ (n = nn ∧ 0 + r i ≤ k)
  · rw [if_pos q2, if_pos (by omega)]
  · rw [if_neg q2]
    by_cases q3 : nn - 1 < n ∨ (n = nn - 1 ∧ 256 - r i + r i ≤ k)
    · rw [if_pos q3, dpf, if_neg (by omega), Int32.add_zero]
    · rw [if_neg q3]
theorem wyd_next {g : Nat → Int32} {r : Nat → Nat} {i own : Nat} (hr : r i ≤ 255) (h : wyd g r i own 0 (256 - r i)) : ∀ n k, n ≤ own → k < 256 → g (256 * n + k) = dpf r (i + 1) n k := by
  intro n k hn hk
  rw [h n k hn hk]
  by_cases q2 : 0 < n ∨ (n = 0 ∧ 256 - r i + r i ≤ k)
  · rw [if_pos q2]
  · rw [if_neg q2, dpf, if_neg (by omega), Int32.add_zero]
theorem wyd_begin {g : Nat → Int32} {r : Nat → Nat} {i own nn : Nat} (hr : r i ≤ 255) (hnn : nn = own ∨ i + 1 ≤ nn) (h : ∀ n k, n ≤ own → k < 256 → g (256 * n + k) = dpf r i n k) : wyd g r i own nn (256 - r i) := by
  intro n k hn hk
  rw [h n k hn hk]
  by_cases q2 : nn < n ∨ (n = nn ∧ 256 - r i + r i ≤ k)
  · rw [if_pos q2, dpf_zero (by omega), dpf_zero (by omega)]
  · rw [if_neg q2]
theorem wayd0 {T : St} {r : Nat → Nat} (hF : ∀ j, j < 2304 → T 19 j = nI 0) {n k : Nat} (h1 : n ≤ 8) (h2 : k < 256) : st1 T 19 0 (nI 1) 19 (256 * n + k) = dpf r 0 n k := by
  rw [dpf]
  by_cases q : n = 0 ∧ k = 0
  · obtain ⟨rfl, rfl⟩ := q
    rw [if_pos ⟨rfl, rfl⟩]; exact st1_at
  · rw [st1_no (by omega), hF _ (by omega), if_neg q]; rfl
theorem nI_255 {r : Nat} (h : r ≤ 255) : nI 255 - nI r = nI (256 - r) - nI 1 := by rw [pk_sub h, nI_m1 (by omega)]; congr 1; omega
theorem le_240 (P : St) (x y : Nat) : leN P x y ≤ 240 := by
  have hx := rl_8 P x (nt P)
  have hy := rl_8 P y (nt P)
  have hl := rdn_len P x y
  have h := fb_sm_bound (f := rk (rdn P x y)) (c := 30) (n := (rl P y (nt P)).length) (fun k hk => rk_30 (by omega) (by omega))
  unfold leN
  omega
theorem odds_neg {P : St} {x y u r w1 w2 : Int32} {C A : Int32} (h7 : inR u (nI 0) (nI 1)) (h1 : cTw P x y → (cTr P (cl x) (cl y) → r = nI 0 ∧ w1 = C ∧ w2 = A) ∧ (¬ cTr P (cl x) (cl y) → r = -2)) (h2 : ¬ cTw P x y → r = -1) (h : ¬ r = nI 0) : r = (if cTw P x y ∧ inR u (nI 0) (nI 1) then (if cTr P (cl x) (cl y) then (if u = 0 then C else A) else -2) else -1) := by
  by_cases q : cTw P x y
  · rw [if_pos ⟨q, h7⟩]
    by_cases q2 : cTr P (cl x) (cl y)
    · exact absurd ((h1 q).1 q2).1 h
    · rw [if_neg q2]; exact (h1 q).2 q2
  · rw [if_neg (fun z => q z.1)]; exact h2 q
theorem odds_in {P : St} {x y r w1 w2 : Int32} {C A : Int32} (h1 : cTw P x y → (cTr P (cl x) (cl y) → r = nI 0 ∧ w1 = C ∧ w2 = A) ∧ (¬ cTr P (cl x) (cl y) → r = -2)) (h2 : ¬ cTw P x y → r = -1) (h : 0 ≤ r) : cTw P x y ∧ cTr P (cl x) (cl y) := by
  by_cases q : cTw P x y
  · refine ⟨q, ?_⟩
    by_cases q2 : cTr P (cl x) (cl y)
    · exact q2
    · rw [(h1 q).2 q2] at h; exact absurd h (by decide)
  · rw [h2 q] at h; exact absurd h (by decide)
theorem odds_0 {P : St} {x y u r w1 w2 : Int32} {C A : Int32} (h7 : inR u (nI 0) (nI 1)) (hu : u = 0) (h1 : cTw P x y → (cTr P (cl x) (cl y) → r = nI 0 ∧ w1 = C ∧ w2 = A) ∧ (¬ cTr P (cl x) (cl y) → r = -2)) (h2 : ¬ cTw P x y → r = -1) (h : 0 ≤ r) : w1 = (if cTw P x y ∧ inR u (nI 0) (nI 1) then (if cTr P (cl x) (cl y) then (if u = 0 then C else A) else -2) else -1) := by
  obtain ⟨q, q2⟩ := odds_in h1 h2 h
  rw [if_pos ⟨q, h7⟩, if_pos q2, if_pos hu]; exact ((h1 q).1 q2).2.1
theorem odds_1 {P : St} {x y u r w1 w2 : Int32} {C A : Int32} (h7 : inR u (nI 0) (nI 1)) (hu : ¬ u = 0) (h1 : cTw P x y → (cTr P (cl x) (cl y) → r = nI 0 ∧ w1 = C ∧ w2 = A) ∧ (¬ cTr P (cl x) (cl y) → r = -2)) (h2 : ¬ cTw P x y → r = -1) (h : 0 ≤ r) : w2 = (if cTw P x y ∧ inR u (nI 0) (nI 1) then (if cTr P (cl x) (cl y) then (if u = 0 then C else A) else -2) else -1) := by
  obtain ⟨q, q2⟩ := odds_in h1 h2 h
  rw [if_pos ⟨q, h7⟩, if_pos q2, if_neg hu]; exact ((h1 q).1 q2).2.2
theorem safe_neg {P : St} {x y r w1 w2 v : Int32} {C A : Int32} {c : Prop} [Decidable c] (h7 : c) (h1 : cTw P x y → (cTr P (cl x) (cl y) → r = nI 0 ∧ w1 = C ∧ w2 = A) ∧ (¬ cTr P (cl x) (cl y) → r = -2)) (h2 : ¬ cTw P x y → r = -1) (h : ¬ r = nI 0) : r = (if cTw P x y ∧ c then (if cTr P (cl x) (cl y) then v else -2) else -1) := by
  by_cases q : cTw P x y
  · rw [if_pos ⟨q, h7⟩]
    by_cases q2 : cTr P (cl x) (cl y)
    · exact absurd ((h1 q).1 q2).1 h
    · rw [if_neg q2]; exact (h1 q).2 q2
  · rw [if_neg (fun z => q z.1)]; exact h2 q
theorem safe_0 {P : St} {x y r w1 w2 z a b : Int32} {C A : Int32} {c : Prop} [Decidable c] (h7 : c) (h1 : cTw P x y → (cTr P (cl x) (cl y) → r = nI 0 ∧ w1 = C ∧ w2 = A) ∧ (¬ cTr P (cl x) (cl y) → r = -2)) (h2 : ¬ cTw P x y → r = -1) (h : 0 ≤ r) (hz : z = bI (w1 * b ≤ a * w2)) : z = (if cTw P x y ∧ c then (if cTr P (cl x) (cl y) then bI (C * b ≤ a * A) else -2) else -1) := by
  obtain ⟨q, q2⟩ := odds_in h1 h2 h
  rw [if_pos ⟨q, h7⟩, if_pos q2, hz, ((h1 q).1 q2).2.1, ((h1 q).1 q2).2.2]
theorem rkt_a {L : List Int32} {i j : Nat} (h : L.getD j 0 < L.getD i 0) : rkt L i j = 2 := if_pos h
theorem rkt_b {L : List Int32} {i j : Nat} (h : L.getD i 0 ≤ L.getD j 0) (h1 : ¬ j = i) (h2 : L.getD j 0 = L.getD i 0) : rkt L i j = 1 := by rw [rkt, if_neg (Int32.not_lt.mpr h), if_pos ⟨h2, h1⟩]
theorem rkt_c {L : List Int32} {i j : Nat} (h : L.getD i 0 ≤ L.getD j 0) (h1 : j = i) : rkt L i j = 0 := by rw [rkt, if_neg (Int32.not_lt.mpr h), if_neg (fun q => q.2 h1)]
theorem rkt_d {L : List Int32} {i j : Nat} (h : L.getD i 0 ≤ L.getD j 0) (h2 : ¬ L.getD j 0 = L.getD i 0) : rkt L i j = 0 := by rw [rkt, if_neg (Int32.not_lt.mpr h), if_neg (fun q => h2 q.1)]
