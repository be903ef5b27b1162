def addN (P : St) (v : Nat) (P' : St) : Prop := P' 20 = upd (P 20) 0 (nI (kn P + 1)) ∧ P' 21 = upd (P 21) 0 (nI (nS P * v)) ∧ P' 0 = upd (P 0) (kn P) (nI v) ∧ P' 24 = upd (P 24) 0 (nI 0) ∧ (∀ i, P' 2 i = if kn P * 4 ≤ i ∧ i < kn P * 4 + 4 then nI (i - kn P * 4) else P 2 i) ∧ ∀ j, j ≠ 0 → j ≠ 2 → j ≠ 20 → j ≠ 21 → j ≠ 24 → P' j = P j
def ruN (P : St) (nb a v b w : Int32) : St := st1 (st1 (st1 (st1 (st1 (st1 P 4 (5 * nr P) nb) 4 (5 * nr P + 1) a) 4 (5 * nr P + 2) v) 4 (5 * nr P + 3) b) 4 (5 * nr P + 4) w) 22 0 (nI (nr P + 1))
def GruleN (P : St) (nb a v b w : Int32) : St := if cRu P a v b w then (if nI 12 ≤ P 22 0 then P else ruN P nb a v b w) else P
theorem le12 {P : St} (okc : okC P) : nI 12 ≤ P 22 0 ↔ nr P = 12 := by
  have h := okc_nr12 okc
  rw [okc_nr okc, nI_leI (by decide) (by omega)]
  omega
theorem le60 {P : St} (okc : okC P) : nI 60 ≤ P 24 0 ↔ nt P = 60 := by
  have h := okc_nt60 okc
  rw [okc_nt okc, nI_leI (by decide) (by omega)]
  omega
theorem nI_nem1 {n : Nat} (h : n < 2 ^ 31) : nI n ≠ -1 := fun e => by
  have h1 := nI_toInt h
  rw [e] at h1
  have h2 : Int32.toInt (-1) = -1 := by decide
  omega
theorem getD_app {L : List Nat} {x i : Nat} (h : i < L.length) : (L ++ [x]).getD i 0 = L.getD i 0 := by
  rw [List.getD_eq_getElem?_getD, List.getD_eq_getElem?_getD, List.getElem?_append_left h]
theorem getD_last (L : List Nat) (x : Nat) : (L ++ [x]).getD L.length 0 = x := by simp
theorem len_app (L : List Nat) (x : Nat) : (L ++ [x]).length = L.length + 1 := by simp
def nov1 (L : List Nat) : Option Nat → Int32
  | none => -1
  | some j => nI (L.getD j 0)
theorem nov1_lt {L : List Nat} {o : Option Nat} (hb : ∀ x ∈ L, x < 144) (ho : ∀ j, o = some j → j < L.length) : nov1 L o < 0 ↔ o = none := by
  cases o with
  | none => exact ⟨fun _ => rfl, fun _ => by show (-1 : Int32) < 0; decide⟩
  | some j =>
    have := hb _ (getD_mem (L := L) (i := j) (ho j rfl))
    exact ⟨fun h => absurd h (nI_pos (by omega)), fun h => by cases h⟩
theorem nov_lt {L : List Nat} {o : Option Nat} (hb : ∀ x ∈ L, x < 144) (ho : ∀ j, o = some j → j < L.length) : nov L o < 0 ↔ o = none := by
  cases o with
  | none => exact ⟨fun _ => rfl, fun _ => by show (-4 : Int32) < 0; decide⟩
  | some j =>
    have := hb _ (getD_mem (L := L) (i := j) (ho j rfl))
    exact ⟨fun h => absurd h (nI_pos (by omega)), fun h => by cases h⟩
theorem opt_some {o : Option Nat} (h : ¬ o = none) : ∃ j, o = some j := by
  cases o with
  | none => exact absurd rfl h
  | some j => exact ⟨j, rfl⟩
/-- the next of a list by a number of each, when one comes to the list -/
theorem nxo_push {g : Nat → Int32} {b : Int32} {L : List Nat} {x : Nat} : nxo (fun i => g ((L ++ [x]).getD i 0)) b (L ++ [x]).length = (match nxo (fun i => g (L.getD i 0)) b L.length with
    | none => if b ≤ g x then some L.length else none
    | some j => if b ≤ g x ∧ g (L.getD j 0) < g x then some L.length else some j) := by
  have e : nxo (fun i => g ((L ++ [x]).getD i 0)) b L.length = nxo (fun i => g (L.getD i 0)) b L.length := nxo_congr (fun k hk => by rw [getD_app hk])
  rw [len_app, nxo, e, getD_last]
  cases hq : nxo (fun i => g (L.getD i 0)) b L.length with
  | none => rfl
  | some j => dsimp only; rw [getD_app (nxo_lt hq)]
theorem nov1_app {L : List Nat} {x j : Nat} (h : j < L.length) : nov1 (L ++ [x]) (some j) = nov1 L (some j) := by rw [nov1, nov1, getD_app h]
theorem nov_app {L : List Nat} {x j : Nat} (h : j < L.length) : nov (L ++ [x]) (some j) = nov L (some j) := by rw [nov, nov, getD_app h]
abbrev AL (P : St) (n : Nat) : List Nat := alL (cX P) n
theorem AL_b {P : St} {n : Nat} (h : n ≤ 144) : ∀ x ∈ AL P n, x < 144 := fun _ hx => Nat.lt_of_lt_of_le (alL_mem.mp hx).1 h
abbrev no1 (P : St) (n : Nat) : Option Nat := nxo (fun i => wo P ((AL P n).getD i 0)) (-2147483648) (AL P n).length
theorem st1_comm {P : St} {j j' i i' : Nat} {v v' : Int32} (h : j ≠ j') : st1 (st1 P j i v) j' i' v' = st1 (st1 P j' i' v') j i v := by
  funext k
  by_cases h1 : k = j'
  · subst h1
    rw [st1_eq, st1_ne (Ne.symm h), st1_ne (Ne.symm h), st1_eq]
  · by_cases h2 : k = j
    · subst h2
      rw [st1_ne h1, st1_eq, st1_eq, st1_ne h1]
    · rw [st1_ne h1, st1_ne h2, st1_ne h2, st1_ne h1]
theorem cX_try (P : St) (x : Nat) (w : Int32) : cX (tryP P x w) = tryP (cX P) x w := by
  funext j
  match j with
  | 0 | 1 | 2 | 3 | 4 | 5 | 6 | 7 | 8 | 9 | 10 | 11 | 12 | 13 | 14 | 15 | 16 | 17 | 18 | 19 | 20 | 21 | 22 | 23 | 24 | 25 | 26 => rfl
  | j + 27 => 
    show tryP P x w (j + 27) = tryP (cX P) x w (j + 27)
    unfold tryP
    rw [st1_ne (by omega), st1_ne (by omega), st1_ne (by omega), st1_ne (by omega), st1_ne (by omega), st1_ne (by omega), st1_ne (by omega), st1_ne (by omega)]
    rfl
theorem okN_try {P : St} (ok : okN P) {x : Nat} (hx : x < nS P) (hn : nt P < 60) : okN (tryP P x (wo P x)) := by
  unfold okN
  rw [cX_try]
  exact okX_try ok hx hn
theorem ab_ti {d : Int32} (h : -1000000 ≤ d.toInt) : (ab d).toInt = if 0 ≤ d.toInt then d.toInt else - d.toInt := by
  have e : Int32.toInt 0 = 0 := by decide
  unfold ab
  by_cases q : 0 ≤ d
  · rw [if_pos q]; rw [fa_le, e] at q; rw [if_pos q]
  · rw [if_neg q]; rw [fa_le, e] at q; rw [if_neg q, ti_sub (by omega) (by omega), e]; omega
theorem off_bd {P : St} (okc : okC P) (x y : Nat) : 0 ≤ (off P x y).toInt ∧ (off P x y).toInt ≤ 120000 := by
  have h6 := okc_kn6 okc
  have key : ∀ k, k < kn P → 0 ≤ (oft P x y k).toInt ∧ (oft P x y k).toInt ≤ 20000 := by
    intro k hk
    obtain ⟨a1, a2⟩ := okc.2.2.2.2.2.2.2.2.2.1.1 k hk _ (val_lt okc x hk)
    obtain ⟨b1, b2⟩ := okc.2.2.2.2.2.2.2.2.2.1.1 k hk _ (val_lt okc y hk)
    obtain ⟨s1, s2⟩ := okc.2.2.2.2.2.2.2.2.2.1.2 k (by omega)
    have e : (P 2 (slv P x k) - P 2 (slv P y k)).toInt = (P 2 (slv P x k)).toInt - (P 2 (slv P y k)).toInt := ti_sub (by unfold slv; omega) (by unfold slv; omega)
    have e2 := ab_ti (d := P 2 (slv P x k) - P 2 (slv P y k)) (by rw [e]; unfold slv; omega)
    have hd1 : 0 ≤ (ab (P 2 (slv P x k) - P 2 (slv P y k))).toInt := by rw [e2]; split <;> omega
    have hd2 : (ab (P 2 (slv P x k) - P 2 (slv P y k))).toInt ≤ 200 := by rw [e2, e]; unfold slv; split <;> omega
    have m1 : 0 ≤ (ab (P 2 (slv P x k) - P 2 (slv P y k))).toInt * (P 3 k).toInt := Int.mul_nonneg hd1 s1
    have m2 : (ab (P 2 (slv P x k) - P 2 (slv P y k))).toInt * (P 3 k).toInt ≤ 200 * 100 := Int.mul_le_mul hd2 s2 s1 (by decide)
    have e3 : (oft P x y k).toInt = (ab (P 2 (slv P x k) - P 2 (slv P y k))).toInt * (P 3 k).toInt := ti_mul (by omega) (by omega)
    rw [e3]; omega
  have h := sm_bd (f := oft P x y) (lo := 0) (hi := 20000) h6 (by decide) (by decide) (by decide) (by decide) key
  unfold off
  omega
theorem slk_bd {P : St} (okc : okC P) (x i : Nat) : 0 ≤ (slk P x i).toInt ∧ (slk P x i).toInt ≤ 120050 := by
  have h := off_bd okc x (tx P i)
  have hz := okc_nz50 okc
  have e : (P 25 0).toInt = nz P := by rw [okc_nz okc]; exact nI_toInt (by omega)
  unfold slk
  rw [ti_add (by omega) (by omega)]
  omega
theorem fl_v {P : St} (okc : okC P) (x : Nat) {i : Nat} (hi : i < nt P) : -1000000 ≤ (P 13 i - slk P x i).toInt ∧ (P 13 i + slk P x i).toInt ≤ 1000000 := by
  have h := slk_bd okc x i
  have hr := okc.2.2.2.2.2.2.2.2.2.2 i hi
  rw [ti_sub (by omega) (by omega), ti_add (by omega) (by omega)]
  omega
theorem mx_ge (a b : Int32) : a.toInt ≤ (mx a b).toInt ∧ b.toInt ≤ (mx a b).toInt := by
  unfold mx
  split <;> rename_i q <;> rw [fa_lt] at q <;> omega
theorem fl_ge {P : St} (x : Nat) : ∀ n, -1000000 ≤ (flX P x n).toInt
  | 0 => by show -1000000 ≤ (Int32.toInt (-1000000)); decide
  | n + 1 => Int.le_trans (fl_ge x n) (mx_ge _ _).1
theorem fl_0 {P : St} (okc : okC P) (x : Nat) (h : 0 < nt P) : flX P x 1 = P 13 0 - slk P x 0 := by
  have e := (fl_v okc x h).1
  have e2 : Int32.toInt (-1000000) = -1000000 := by decide
  show mx (-1000000) _ = _
  unfold mx
  by_cases q : (-1000000 : Int32) < P 13 0 - slk P x 0
  · rw [if_pos q]
  · rw [if_neg q, fa_eq]; rw [fa_lt, e2] at q; omega
theorem rf_0 {P : St} (okc : okC P) (x : Nat) (h : 0 < nt P) : rfX P x 1 = P 13 0 + slk P x 0 := by
  have e := (fl_v okc x h).2
  have e2 : Int32.toInt 1000000 = 1000000 := by decide
  show mn 1000000 _ = _
  unfold mn
  by_cases q : (1000000 : Int32) > P 13 0 + slk P x 0
  · rw [if_pos q]
  · rw [if_neg q, fa_eq]; rw [gt_iff_lt, fa_lt, e2] at q; omega
theorem sub3 (a b c : Int32) : a - b - c = a - (b + c) := by rw [Int32.sub_eq_add_neg, Int32.sub_eq_add_neg, Int32.sub_eq_add_neg, Int32.neg_add, Int32.sub_eq_add_neg, Int32.add_assoc]
theorem flv_eq {P : St} (okc : okC P) (x i : Nat) : P 13 i - nI (nz P) - off P x (tx P i) = P 13 i - slk P x i := by rw [sub3, slk, okc_nz okc]
theorem rfv_eq {P : St} (okc : okC P) (x i : Nat) : P 13 i + nI (nz P) + off P x (tx P i) = P 13 i + slk P x i := by rw [Int32.add_assoc, slk, okc_nz okc]
theorem one_of {y : Int32} (h : inR y (nI 0) (nI 1)) (h0 : ¬ y = 0) : y = nI 1 := by
  obtain ⟨a, h1, rfl⟩ := inR_nat (n := 1) (by decide) h
  rcases (show a = 0 ∨ a = 1 by omega) with rfl | rfl
  · exact absurd nI_0 h0
  · rfl
theorem add_sub3 (a b c : Int32) : a + b - c = a + (b - c) := by rw [Int32.sub_eq_add_neg, Int32.sub_eq_add_neg, Int32.add_assoc]
theorem AL_y {P : St} {n : Nat} (h : alX (cX P) n) : AL P (n + 1) = AL P n ++ [n] := alL_y h
theorem AL_n {P : St} {n : Nat} (h : ¬ alX (cX P) n) : AL P (n + 1) = AL P n := alL_n h
