def alL (P : St) (n : Nat) : List Nat := (List.range n).filter (fun x => decide (alX P x))
theorem alL_y {P : St} {n : Nat} (h : alX P n) : alL P (n + 1) = alL P n ++ [n] := by
  unfold alL
  rw [List.range_succ, List.filter_append]
  congr 1
  simp only [List.filter_cons, List.filter_nil, decide_eq_true h, if_true]
theorem alL_n {P : St} {n : Nat} (h : ¬ alX P n) : alL P (n + 1) = alL P n := by
  unfold alL
  rw [List.range_succ, List.filter_append]
  simp only [List.filter_cons, List.filter_nil, decide_eq_false h]
  simp
theorem alL_len (P : St) (n : Nat) : (alL P n).length ≤ n := by
  refine Nat.le_trans (List.length_filter_le _ _) ?_
  rw [List.length_range]; exact Nat.le_refl _
theorem alL_mem {P : St} {n x : Nat} : x ∈ alL P n ↔ x < n ∧ alX P x := by
  unfold alL
  rw [List.mem_filter, List.mem_range, decide_eq_true_iff]
theorem getD_mem {L : List Nat} {i : Nat} (h : i < L.length) : L.getD i 0 ∈ L := by
  rw [List.getD_eq_getElem?_getD, List.getElem?_eq_getElem h]
  exact List.getElem_mem h
/-- the open settings are the list's -/
def opn (T : St) (L : List Nat) : Prop := T 27 0 = nI L.length ∧ ∀ i, i < L.length → T 14 i = nI (L.getD i 0)
theorem opn_push {T : St} {L : List Nat} {x : Nat} (h : opn T L) : opn (st1 (st1 T 14 L.length (nI x)) 27 0 (nI (L.length + 1))) (L ++ [x]) := by
  refine ⟨?_, fun i hi => ?_⟩
  · rw [st1_at, List.length_append]; rfl
  · rw [st1_ne (by decide)]
    rw [List.length_append, List.length_singleton] at hi
    by_cases q : i = L.length
    · rw [q, st1_at]; simp
    · rw [st1_no q, h.2 i (by omega)]
      congr 1
      rw [List.getD_eq_getElem?_getD, List.getD_eq_getElem?_getD, List.getElem?_append_left (by omega)]
theorem opn_keep {T T' : St} {L : List Nat} (h : opn T L) (h1 : T' 27 = T 27) (h2 : T' 14 = T 14) : opn T' L := ⟨by rw [h1]; exact h.1, fun i hi => by rw [h2]; exact h.2 i hi⟩
def mx (a b : Int32) : Int32 := if a < b then b else a
def mn (a b : Int32) : Int32 := if a > b then b else a
def slk (P : St) (x i : Nat) : Int32 := P 25 0 + off P x (tx P i)
def flX (P : St) (x : Nat) : Nat → Int32
  | 0 => -1000000
  | n + 1 => mx (flX P x n) (P 13 n - slk P x n)
def rfX (P : St) (x : Nat) : Nat → Int32
  | 0 => 1000000
  | n + 1 => mn (rfX P x n) (P 13 n + slk P x n)
def gf (f : Nat → Int32) : Nat → Int32
  | 0 => -1000000
  | n + 1 => mx (gf f n) (f n)
/-- which is next among the first n, by their roofs -/
def nxo (f : Nat → Int32) (bar : Int32) : Nat → Option Nat
  | 0 => none
  | n + 1 => match nxo f bar n with
    | none => if bar ≤ f n then some n else none
    | some j => if bar ≤ f n ∧ f j < f n then some n else some j
theorem nxo_lt {f : Nat → Int32} {bar : Int32} : ∀ {n j : Nat}, nxo f bar n = some j → j < n
  | 0, j, h => by cases h
  | n + 1, j, h => by
    unfold nxo at h
    cases hq : nxo f bar n with
    | none =>
      rw [hq] at h
      dsimp only at h
      split at h
      · cases h; exact Nat.lt_succ_self _
      · cases h
    | some i =>
      rw [hq] at h
      dsimp only at h
      have := nxo_lt hq
      split at h
      · cases h; exact Nat.lt_succ_self _
      · cases h; omega
def lk (T : St) (L : List Nat) (j i : Nat) : Int32 := T j (L.getD i 0)
def barX (T : St) (L : List Nat) : Int32 := gf (lk T L 16) L.length
def lmX (T : St) (L : List Nat) : Nat := fa_cnt (fun i => decide (barX T L ≤ lk T L 17 i)) L.length
def noX (T : St) (L : List Nat) (n : Nat) : Int32 := match nxo (lk T L 17) (barX T L) n with
  | none => -4
  | some j => nI (L.getD j 0)
theorem cnt_y {p : Nat → Bool} {i n : Nat} (hn : n = fa_cnt p i) (h : p i = true) : n + 1 = fa_cnt p (i + 1) := by rw [fa_cnt, ← hn, if_pos h]
theorem cnt_n {p : Nat → Bool} {i n : Nat} (hn : n = fa_cnt p i) (h : p i = false) : n = fa_cnt p (i + 1) := by rw [fa_cnt, ← hn, h]; rfl
def nov (L : List Nat) : Option Nat → Int32
  | none => -4
  | some j => nI (L.getD j 0)
theorem noX_eq (T : St) (L : List Nat) (n : Nat) : noX T L n = nov L (nxo (lk T L 17) (barX T L) n) := by
  unfold noX nov; rfl
theorem nI_ne4 {n : Nat} (h : n < 2 ^ 31) : nI n ≠ -4 := fun e => by
  have h1 := nI_toInt h
  rw [e] at h1
  have h2 : Int32.toInt (-4) = -4 := by decide
  omega
theorem nov_none {L : List Nat} {o : Option Nat} {n : Nat} (hb : ∀ x ∈ L, x < 144) (hn : n ≤ L.length) (ho : ∀ j, o = some j → j < n) (h : nov L o = -4) : o = none := by
  cases o with
  | none => rfl
  | some j =>
    have := hb _ (getD_mem (L := L) (i := j) (Nat.lt_of_lt_of_le (ho j rfl) hn))
    exact absurd h (nI_ne4 (by omega))
theorem nov_some {L : List Nat} {o : Option Nat} (h : ¬ nov L o = -4) : ∃ j, o = some j := by
  cases o with
  | none => exact absurd rfl h
  | some j => exact ⟨j, rfl⟩
theorem nxo_low {f : Nat → Int32} {bar : Int32} {n : Nat} (h : f n < bar) : nxo f bar (n + 1) = nxo f bar n := by
  have h1 : ¬ bar ≤ f n := Int32.not_le.mpr h
  rw [nxo]
  cases nxo f bar n <;> simp [h1]
theorem nxo_in0 {f : Nat → Int32} {bar : Int32} {n : Nat} (h : bar ≤ f n) (h0 : nxo f bar n = none) : nxo f bar (n + 1) = some n := by
  rw [nxo, h0]; simp [h]
theorem nxo_in1 {f : Nat → Int32} {bar : Int32} {n j : Nat} (h : bar ≤ f n) (h0 : nxo f bar n = some j) (h1 : f j < f n) : nxo f bar (n + 1) = some n := by
  rw [nxo, h0]; simp [h, h1]
theorem nxo_no {f : Nat → Int32} {bar : Int32} {n j : Nat} (h0 : nxo f bar n = some j) (h1 : f n ≤ f j) : nxo f bar (n + 1) = some j := by
  have h2 : ¬ f j < f n := Int32.not_lt.mpr h1
  rw [nxo, h0]; simp [h2]
