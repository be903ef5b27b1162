abbrev FL (P : St) (n i : Nat) : Int32 := flX P ((AL P n).getD i 0) (nt P)
abbrev RL8 (P : St) (n i : Nat) : Int32 := rfX P ((AL P n).getD i 0) (nt P)
def tfz (P : St) (n : Nat) : Int32 := if (AL P n).length = 0 then -100000000 else gf (FL P n) (AL P n).length
theorem tfz_n {P : St} {n : Nat} (h : ¬ alX (cX P) n) : tfz P (n + 1) = tfz P n := by
  unfold tfz FL; rw [AL_n h]
theorem mx_eq {a b : Int32} (h : a.toInt ≤ b.toInt) : mx a b = b := by
  unfold mx
  by_cases q : a < b
  · rw [if_pos q]
  · rw [if_neg q, fa_eq]; rw [fa_lt] at q; omega
theorem tfz_y {P : St} {n : Nat} (h : alX (cX P) n) : tfz P (n + 1) = mx (tfz P n) (flX P n (nt P)) := by
  have e : gf (FL P (n + 1)) (AL P (n + 1)).length = mx (gf (FL P n) (AL P n).length) (flX P n (nt P)) := by
    unfold FL
    rw [AL_y h, len_app, gf, getD_last]
    rw [gf_congr (f := fun i => flX P ((AL P n ++ [n]).getD i 0) (nt P)) (g := fun i => flX P ((AL P n).getD i 0) (nt P)) (fun k hk => by rw [getD_app hk])]
  have hg := fl_ge (P := P) n (nt P)
  have e1 : Int32.toInt (-1000000) = -1000000 := by decide
  have e2 : Int32.toInt (-100000000) = -100000000 := by decide
  unfold tfz
  rw [if_neg (by rw [AL_y h, len_app]; omega), e]
  by_cases q : (AL P n).length = 0
  · rw [if_pos q, q]
    rw [show gf (FL P n) 0 = -1000000 from rfl, mx_eq (by omega), mx_eq (by omega)]
  · rw [if_neg q]
def cnz (P : St) (top : Int32) (n : Nat) : Nat := fa_cnt (fun i => decide (top ≤ RL8 P n i)) (AL P n).length
theorem cnz_n {P : St} {top : Int32} {n : Nat} (h : ¬ alX (cX P) n) : cnz P top (n + 1) = cnz P top n := by
  unfold cnz RL8; rw [AL_n h]
theorem cnz_y {P : St} {top : Int32} {n : Nat} (h : alX (cX P) n) : cnz P top (n + 1) = cnz P top n + if top ≤ rfX P n (nt P) then 1 else 0 := by
  unfold cnz RL8
  rw [AL_y h, len_app, fa_cnt, getD_last]
  rw [fa_cnt_cong (p := fun i => decide (top ≤ rfX P ((AL P n ++ [n]).getD i 0) (nt P))) (q := fun i => decide (top ≤ rfX P ((AL P n).getD i 0) (nt P))) (fun k hk => by rw [getD_app hk])]
  congr 1
  by_cases q : top ≤ rfX P n (nt P) <;> simp [q]
theorem slk_c (P : St) (x i : Nat) : slk (cX P) x i = slk P x i := rfl
theorem flX_c (P : St) (x : Nat) : ∀ n, flX (cX P) x n = flX P x n
  | 0 => rfl
  | n + 1 => by rw [flX, flX, flX_c P x n]; rfl
theorem rfX_c (P : St) (x : Nat) : ∀ n, rfX (cX P) x n = rfX P x n
  | 0 => rfl
  | n + 1 => by rw [rfX, rfX, rfX_c P x n]; rfl
theorem lf_c (P : St) (i : Nat) : lf (cX P) i = FL P (nS P) i := flX_c P _ _
theorem lr_c (P : St) (i : Nat) : lr (cX P) i = RL8 P (nS P) i := rfX_c P _ _
theorem tfz_e {P : St} (h : ¬ (AL P (nS P)).length = 0) : tfz P (nS P) = barP (cX P) := by
  unfold tfz
  rw [if_neg h]
  show gf (FL P (nS P)) (AL P (nS P)).length = gf (lf (cX P)) (AL P (nS P)).length
  exact gf_congr (fun k _ => (lf_c P k).symm)
theorem cnz_e {P : St} : cnz P (tfz P (nS P)) (nS P) = lmP (cX P) := by
  show fa_cnt _ (AL P (nS P)).length = fa_cnt _ (AL P (nS P)).length
  by_cases q : (AL P (nS P)).length = 0
  · rw [q]; simp only [fa_cnt]
  · rw [tfz_e q]
    exact fa_cnt_cong (fun k _ => by rw [lr_c])
def no2 (P : St) (top : Int32) (n : Nat) : Option Nat := nxo (RL8 P n) top (AL P n).length
theorem no2_e {P : St} : no2 P (tfz P (nS P)) (nS P) = noP (cX P) := by
  show nxo _ _ (AL P (nS P)).length = nxo _ _ (AL P (nS P)).length
  by_cases q : (AL P (nS P)).length = 0
  · rw [q]; simp only [nxo]
  · rw [tfz_e q]
    exact nxo_congr (fun k _ => (lr_c P k).symm)
theorem no2_n {P : St} {top : Int32} {n : Nat} (h : ¬ alX (cX P) n) : no2 P top (n + 1) = no2 P top n := by
  unfold no2 RL8; rw [AL_n h]
theorem no2_y {P : St} {top : Int32} {n : Nat} (h : alX (cX P) n) : no2 P top (n + 1) = (match no2 P top n with
    | none => if top ≤ rfX P n (nt P) then some (AL P n).length else none
    | some j => if top ≤ rfX P n (nt P) ∧ RL8 P n j < rfX P n (nt P) then some (AL P n).length else some j) := by
  unfold no2 RL8
  rw [AL_y h]
  exact nxo_push (g := fun y => rfX P y (nt P))
theorem no2_lt {P : St} {top : Int32} {n j : Nat} (h : no2 P top n = some j) : j < (AL P n).length := nxo_lt h
theorem nov_AL {P : St} {n j : Nat} (h : alX (cX P) n) (hj : j < (AL P n).length) : nov (AL P (n + 1)) (some j) = nov (AL P n) (some j) := by rw [AL_y h, nov_app hj]
theorem nov_ALl {P : St} {n : Nat} (h : alX (cX P) n) : nov (AL P (n + 1)) (some (AL P n).length) = nI n := by rw [AL_y h, nov, getD_last]
/-- smooth, by settings -/
def smqb (P : St) (a b : Nat) : Bool := decide (¬ (alX (cX P) a ∧ alX (cX P) b ∧ ¬ ab (wo P a - wo P b) ≤ off P a b))
abbrev smq (P : St) (a b : Nat) : Prop := smqb P a b = true
theorem smq_i {P : St} {a b : Nat} (h : ¬ (alX (cX P) a ∧ alX (cX P) b ∧ ¬ ab (wo P a - wo P b) ≤ off P a b)) : smq P a b := decide_eq_true h
theorem smq_e {P : St} {a b : Nat} (h : smq P a b) : ¬ (alX (cX P) a ∧ alX (cX P) b ∧ ¬ ab (wo P a - wo P b) ≤ off P a b) := of_decide_eq_true h
abbrev smQ (P : St) (x : Nat) : Prop := ∀ a, a < x → ∀ b, b < a → smq P a b
theorem AL_pw (P : St) (n : Nat) : (AL P n).Pairwise (· < ·) := List.Pairwise.filter _ List.pairwise_lt_range
theorem getD_el {L : List Nat} {i : Nat} (h : i < L.length) : L.getD i 0 = L[i] := by rw [List.getD_eq_getElem?_getD, List.getElem?_eq_getElem h]; rfl
theorem sm_q {P : St} : smP (cX P) ↔ smQ P (nS P) := by
  have hp := List.pairwise_iff_getElem.mp (AL_pw P (nS P))
  constructor
  · intro h a ha b hb
    refine smq_i (fun q0 => ?_)
    obtain ⟨h1, h2, h9⟩ := q0
    refine h9 ?_
    obtain ⟨i, hi, ei⟩ := List.getElem_of_mem (show a ∈ AL P (nS P) from alL_mem.mpr ⟨ha, h1⟩)
    obtain ⟨j, hj, ej⟩ := List.getElem_of_mem (show b ∈ AL P (nS P) from alL_mem.mpr ⟨by show b < nS P; omega, h2⟩)
    have hji : j < i := by
      rcases Nat.lt_trichotomy j i with q | q | q
      · exact q
      · subst q; omega
      · have := hp i j hi hj q; omega
    have := h i hi j hji
    rw [smo, wl, wl, show (lsA (cX P)).getD i 0 = a from (getD_el hi).trans ei, show (lsA (cX P)).getD j 0 = b from (getD_el hj).trans ej] at this
    exact this
  · intro h i hi j hj
    have hjl : j < (AL P (nS P)).length := Nat.lt_trans hj hi
    have h1 := alL_mem.mp (getD_mem (L := AL P (nS P)) hi)
    have h2 := alL_mem.mp (getD_mem (L := AL P (nS P)) hjl)
    have h3 := hp j i hjl hi hj
    rw [← getD_el hjl, ← getD_el (L := AL P (nS P)) hi] at h3
    exact Decidable.byContradiction (fun q => smq_e (h _ h1.1 _ h3) ⟨h1.2, h2.2, q⟩)
theorem lm_pos {P : St} (h : 0 < lmP P) : ∃ j, noP P = some j := by
  cases hq : noP P with
  | some j => exact ⟨j, rfl⟩
  | none =>
    exfalso
    have key : ∀ n, nxo (lr P) (barP P) n = none → fa_cnt (fun i => decide (barP P ≤ lr P i)) n = 0 := by
      intro n
      induction n with
      | zero => intro _; rfl
      | succ n ih =>
        intro h
        rw [nxo] at h
        cases hn : nxo (lr P) (barP P) n with
        | none =>
          rw [hn] at h
          dsimp only at h
          by_cases q : barP P ≤ lr P n
          · rw [if_pos q] at h; cases h
          · rw [fa_cnt, ih hn, if_neg (by simpa using q)]
        | some j =>
          rw [hn] at h
          dsimp only at h
          split at h <;> cases h
    have := key _ hq
    unfold lmP at h
    omega
theorem lm_none {P : St} (h : lmP P = 0) : noP P = none := by
  cases hq : noP P with
  | none => rfl
  | some j =>
    exfalso
    have key : ∀ n j, nxo (lr P) (barP P) n = some j → 0 < fa_cnt (fun i => decide (barP P ≤ lr P i)) n := by
      intro n
      induction n with
      | zero => intro j h; cases h
      | succ n ih =>
        intro j h
        rw [nxo] at h
        rw [fa_cnt]
        cases hn : nxo (lr P) (barP P) n with
        | none =>
          rw [hn] at h
          dsimp only at h
          by_cases q : barP P ≤ lr P n
          · rw [if_pos (by simpa using q)]; omega
          · rw [if_neg q] at h; cases h
        | some i => have := ih i hn; omega
    have := key _ j hq
    unfold lmP at h
    omega
theorem nts_end {P : St} (h : lmP P ≤ 1) : nts P = none := by
  unfold nts
  by_cases q : nI 60 ≤ P 24 0 ∨ lmP P = 1
  · rw [if_pos q]
  · rw [if_neg q, lm_none (by have : ¬ lmP P = 1 := fun e => q (Or.inr e); omega)]
theorem nts_full {P : St} (h : nI 60 ≤ P 24 0) : nts P = none := by unfold nts; rw [if_pos (Or.inl h)]
theorem nts_go {P : St} {j : Nat} (h0 : ¬ nI 60 ≤ P 24 0) (h : ¬ lmP P ≤ 1) (hj : noP P = some j) : nts P = if nz P = 0 ∧ fi P ((lsA P).getD j 0) < nt P then none else some ((lsA P).getD j 0) := by
  unfold nts
  rw [if_neg (fun q => q.elim h0 (fun e => by omega)), hj]
theorem inR3 {w : Int32} (h0 : ¬ w = 0) (h1 : ¬ w = nI 1) (h2 : ¬ w = nI 2) : ¬ inR w (nI 0) (nI 2) := fun h => by
  obtain ⟨a, ha, rfl⟩ := inR_nat (n := 2) (by decide) h
  rcases (show a = 0 ∨ a = 1 ∨ a = 2 by omega) with rfl | rfl | rfl
  · exact h0 nI_0
  · exact h1 rfl
  · exact h2 rfl
theorem exV_bd {P : St} (okc : okC P) {x a v v2 b w w2 : Nat} (h : exT P x a v v2 b w w2) : -10000000 ≤ (exV P x a v v2 b w w2).toInt := by
  obtain ⟨h1, h2, h3, h4⟩ := h
  have r1 := okc.2.2.2.2.2.2.2.2.2.2 _ h1
  have r2 := okc.2.2.2.2.2.2.2.2.2.2 _ h2
  have r3 := okc.2.2.2.2.2.2.2.2.2.2 _ h3
  have r4 := okc.2.2.2.2.2.2.2.2.2.2 _ h4
  unfold exV
  have e1 := ti_sub (a := P 13 (exf P x a v2 b w2)) (b := P 13 (exf P x a v2 b w)) (by omega) (by omega)
  have e2 := ti_sub (a := P 13 (exf P x a v2 b w2) - P 13 (exf P x a v2 b w)) (b := P 13 (exf P x a v b w2)) (by omega) (by omega)
  rw [ti_add (by omega) (by omega), e2, e1]
  omega
theorem Fexc_lt {P : St} (okc : okC P) {x a v v2 b w w2 : Int32} : Fexc P x a v v2 b w w2 < -10000000 ↔ Fexc P x a v v2 b w w2 = -10000001 ∨ Fexc P x a v v2 b w w2 = -10000002 := by
  have e0 : Int32.toInt (-10000000) = -10000000 := by decide
  have e1 : Int32.toInt (-10000001) = -10000001 := by decide
  have e2 : Int32.toInt (-10000002) = -10000002 := by decide
  have key : Fexc P x a v v2 b w w2 = -10000001 ∨ Fexc P x a v v2 b w w2 = -10000002 ∨ -10000000 ≤ (Fexc P x a v v2 b w w2).toInt := by
    unfold Fexc
    split
    · split
      · rename_i q; exact Or.inr (Or.inr (exV_bd okc q))
      · exact Or.inr (Or.inl rfl)
    · exact Or.inl rfl
  constructor
  · intro h
    rw [fa_lt, e0] at h
    rcases key with k | k | k
    · exact Or.inl k
    · exact Or.inr k
    · omega
  · intro h
    rw [fa_lt, e0]
    rcases h with h | h <;> rw [h] <;> omega
theorem neg4 (z : Nat) : (-4 : Int32) * nI z = - nI (4 * z) := by
  rw [← pk_mul, show (-4 : Int32) = - nI 4 from by decide, Int32.neg_mul]
theorem next_low {P : St} {top : Int32} {n : Nat} (h : alX (cX P) n) (h1 : ¬ top ≤ rfX P n (nt P)) : nov (AL P n) (no2 P top n) = nov (AL P (n + 1)) (no2 P top (n + 1)) := by
  rw [no2_y h]
  cases hq : no2 P top n with
  | none => dsimp only; rw [if_neg h1]; rfl
  | some j => dsimp only; rw [if_neg (fun q => h1 q.1), nov_AL h (no2_lt hq)]
theorem se_fin {P Pq : St} {t1 i : Nat} (hw : inR (nI t1) (nI 1) (nI 30)) (hne : ¬ (AL P (nS P)).length = 0) (ht : t1 < 2 ^ 31) (hs1 : srP t1 (cX P) = srP (t1 - i) (cX Pq)) (hs2 : srN t1 (cX P) = i + srN (t1 - i) (cX Pq)) (okq : okN Pq) (h : t1 - i = 0 ∨ nts (cX Pq) = none) : nI i = FsearchX (cX P) (nI t1) ∧ cX Pq = GsearchX (cX P) (nI t1) ∧ okN Pq := by
  have hne2 : ¬ (lsA (cX P)).length = 0 := hne
  have e : srP (t1 - i) (cX Pq) = cX Pq ∧ srN (t1 - i) (cX Pq) = 0 := by
    rcases h with h | h
    · rw [h]; exact ⟨rfl, rfl⟩
    · exact sr_none h _
  refine ⟨?_, ?_, okq⟩
  · rw [FsearchX, if_pos hw, if_neg hne2, cl_nI ht, hs2, e.2, Nat.add_zero]
  · rw [GsearchX, if_pos hw, if_neg hne2, cl_nI ht, hs1, e.1]
def smRb (P : St) (x y : Nat) : Bool := decide (smQ P x ∧ ∀ b, b < y → smq P x b)
theorem smR {P : St} {x y : Nat} : smRb P x y = true ↔ (smQ P x ∧ ∀ b, b < y → smq P x b) := decide_eq_true_iff
