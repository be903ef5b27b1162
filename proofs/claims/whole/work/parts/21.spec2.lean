def lsA (P : St) : List Nat := alL P (nS P)
theorem lsA_len {P : St} (h : okC P) : (lsA P).length ≤ 144 := Nat.le_trans (alL_len P _) (okc_S144 h)
theorem lsA_S {P : St} {x : Nat} (h : x ∈ lsA P) : x < nS P := (alL_mem.mp h).1
theorem lsA_b {P : St} (h : okC P) : ∀ x ∈ lsA P, x < 144 := fun _ hx => Nat.lt_of_lt_of_le (lsA_S hx) (okc_S144 h)
theorem lsA_get {P : St} {i : Nat} (h : i < (lsA P).length) : (lsA P).getD i 0 < nS P := lsA_S (getD_mem h)
def wl (P : St) (L : List Nat) (i : Nat) : Int32 := wo P (L.getD i 0)
def bso (P : St) (n : Nat) : Option Nat := nxo (wl P (lsA P)) (-2147483648) n
def wov (P : St) : Option Nat → Int32
  | none => nI 0
  | some j => wl P (lsA P) j
theorem mi_le (x : Int32) : -2147483648 ≤ x := by
  rw [fa_le]
  have := Int32.le_toInt x
  have h2 : Int32.toInt (-2147483648) = -2147483648 := by decide
  omega
def FbestX (P : St) (b : Int32) : Int32 := if inR b (nI 0) (nI 1) then (if b = nI 1 then nov (lsA P) (bso P (lsA P).length) else match bso P (lsA P).length with
  | none => -100000
  | some j => wl P (lsA P) j) else -100001
def lf (P : St) (i : Nat) : Int32 := flX P ((lsA P).getD i 0) (nt P)
def lr (P : St) (i : Nat) : Int32 := rfX P ((lsA P).getD i 0) (nt P)
def barP (P : St) : Int32 := gf (lf P) (lsA P).length
def lmP (P : St) : Nat := fa_cnt (fun i => decide (barP P ≤ lr P i)) (lsA P).length
def noP (P : St) : Option Nat := nxo (lr P) (barP P) (lsA P).length
theorem gf_congr {f g : Nat → Int32} : ∀ {n : Nat}, (∀ k, k < n → f k = g k) → gf f n = gf g n
  | 0, _ => rfl
  | n + 1, h => by rw [gf, gf, gf_congr (fun k hk => h k (Nat.lt_succ_of_lt hk)), h n (Nat.lt_succ_self n)]
theorem nxo_congr {f g : Nat → Int32} {b : Int32} : ∀ {n : Nat}, (∀ k, k < n → f k = g k) → nxo f b n = nxo g b n
  | 0, _ => rfl
  | n + 1, h => by
    have ih := nxo_congr (b := b) (fun k hk => h k (Nat.lt_succ_of_lt hk))
    rw [nxo, nxo, ih, h n (Nat.lt_succ_self n)]
    cases hq : nxo g b n with
    | none => rfl
    | some j => dsimp only; rw [h j (Nat.lt_succ_of_lt (nxo_lt hq))]
/-- the bounds are measured -/
def msd (P T : St) : Prop := opn T (lsA P) ∧ (∀ j, j < nS P → T 16 j = flX P j (nt P)) ∧ ∀ j, j < nS P → T 17 j = rfX P j (nt P)
theorem bar_eq {P T : St} (h : msd P T) : barX T (lsA P) = barP P := gf_congr (fun k hk => h.2.1 _ (lsA_get hk))
theorem lm_eq {P T : St} (h : msd P T) : lmX T (lsA P) = lmP P := by
  unfold lmX lmP
  rw [bar_eq h]
  exact fa_cnt_cong (fun k hk => by rw [show lk T (lsA P) 17 k = lr P k from h.2.2 _ (lsA_get hk)])
theorem no_eq {P T : St} (h : msd P T) : noX T (lsA P) (lsA P).length = nov (lsA P) (noP P) := by
  rw [noX_eq, bar_eq h, noP, nxo_congr (fun k hk => show lk T (lsA P) 17 k = lr P k from h.2.2 _ (lsA_get hk))]
abbrev smo (P : St) (i j : Nat) : Prop := ab (wl P (lsA P) i - wl P (lsA P) j) ≤ off P ((lsA P).getD i 0) ((lsA P).getD j 0)
abbrev smP (P : St) : Prop := ∀ i, i < (lsA P).length → ∀ j, j < i → smo P i j
def FleftX (P : St) (w : Int32) : Int32 := if inR w (nI 0) (nI 2) then (if w = nI 2 then bI (smP P) else if w = 0 then nI (lmP P) else nov (lsA P) (noP P)) else -1
/-- what a search tries now -/
def nts (P : St) : Option Nat := if nI 60 ≤ P 24 0 ∨ lmP P = 1 then none else match noP P with
  | none => none
  | some j => if nz P = 0 ∧ fi P ((lsA P).getD j 0) < nt P then none else some ((lsA P).getD j 0)
def onv : Option Nat → Int32
  | none => -4
  | some x => nI x
def srP : Nat → St → St
  | 0, P => P
  | k + 1, P => match nts P with
    | none => P
    | some x => srP k (tryP P x (wo P x))
def srN : Nat → St → Nat
  | 0, _ => 0
  | k + 1, P => match nts P with
    | none => 0
    | some x => srN k (tryP P x (wo P x)) + 1
theorem sr_none {P : St} (h : nts P = none) (k : Nat) : srP k P = P ∧ srN k P = 0 := by
  cases k with
  | zero => exact ⟨rfl, rfl⟩
  | succ k => rw [srP, srN, h]; exact ⟨rfl, rfl⟩
theorem sr_some {P : St} {x : Nat} (h : nts P = some x) (k : Nat) : srP (k + 1) P = srP k (tryP P x (wo P x)) ∧ srN (k + 1) P = srN k (tryP P x (wo P x)) + 1 := by
  rw [srP, srN, h]; exact ⟨rfl, rfl⟩
def FsearchX (P : St) (t : Int32) : Int32 := if inR t (nI 1) (nI 30) then (if (lsA P).length = 0 then -2 else nI (srN (cl t) P)) else -1
def GsearchX (P : St) (t : Int32) : St := if inR t (nI 1) (nI 30) then (if (lsA P).length = 0 then P else srP (cl t) P) else P
abbrev prX (P : St) (a v w i : Nat) : Prop := val P (tx P i) a = v ∧ fi P (tx P i) = i ∧ fi P (mv P (tx P i) a w) < nt P
def pdX (P : St) (a w i : Nat) : Int32 := P 13 (fi P (mv P (tx P i) a w)) - P 13 i
def pcX (P : St) (a v w : Nat) (n : Nat) : Nat := fa_cnt (fun i => decide (prX P a v w i)) n
def psX (P : St) (a v w : Nat) (n : Nat) : Int32 := sm (fun i => if prX P a v w i then pdX P a w i else 0) n
abbrev cPa (P : St) (a v w what : Int32) : Prop := isV P a v ∧ isV P a w ∧ ¬ v = w ∧ inR what (nI 0) (nI 1)
def FpairsX (P : St) (a v w what : Int32) : Int32 := if cPa P a v w what then (if what = 0 then nI (pcX P (cl a) (cl v) (cl w) (nt P)) else psX P (cl a) (cl v) (cl w) (nt P)) else -10000000
abbrev cEx (P : St) (x a v v2 b w w2 : Int32) : Prop := (isS P x ∧ a < b ∧ ¬ v = v2 ∧ ¬ w = w2) ∧ (isV P a v ∧ isV P a v2) ∧ isV P b w ∧ isV P b w2
def exf (P : St) (x a v b w : Nat) : Nat := fi P (mv P (mv P x a v) b w)
abbrev exT (P : St) (x a v v2 b w w2 : Nat) : Prop := exf P x a v2 b w2 < nt P ∧ exf P x a v2 b w < nt P ∧ exf P x a v b w2 < nt P ∧ exf P x a v b w < nt P
def exV (P : St) (x a v v2 b w w2 : Nat) : Int32 := P 13 (exf P x a v2 b w2) - P 13 (exf P x a v2 b w) - P 13 (exf P x a v b w2) + P 13 (exf P x a v b w)
def Fexc (P : St) (x a v v2 b w w2 : Int32) : Int32 := if cEx P x a v v2 b w w2 then (if exT P (cl x) (cl a) (cl v) (cl v2) (cl b) (cl w) (cl w2) then exV P (cl x) (cl a) (cl v) (cl v2) (cl b) (cl w) (cl w2) else -10000002) else -10000001
def Fjt (f : Int32) (z : Nat) : Int32 := if f = -10000001 then -1 else if f = -10000002 then -2 else bI (nI (4 * z) < f ∨ f < - nI (4 * z))
abbrev cTw (P : St) (x y : Int32) : Prop := isS P x ∧ isS P y ∧ ¬ x = y
abbrev cTr (P : St) (x y : Nat) : Prop := fi P x < nt P ∧ fi P y < nt P
def FoddsX (P : St) (x y w : Int32) : Int32 := if cTw P x y ∧ inR w (nI 0) (nI 1) then (if cTr P (cl x) (cl y) then (if w = 0 then cwX P (cl x) (cl y) else awX P (cl x) (cl y)) else -2) else -1
def FsafeX (P : St) (x y a b : Int32) : Int32 := if cTw P x y ∧ inR a (nI 0) (nI 1000) ∧ inR b (nI 1) (nI 1000) then (if cTr P (cl x) (cl y) then bI (cwX P (cl x) (cl y) * b ≤ awX P (cl x) (cl y) * a) else -2) else -1
def bkX (P : St) (x y : Nat) : Nat → Nat
  | 0 => x
  | k + 1 => if alX P (mv P (bkX P x y k) k (val P y k)) ∧ wo P (mv P (bkX P x y k) k (val P y k)) = wo P x then mv P (bkX P x y k) k (val P y k) else bkX P x y k
def FbackX (P : St) (x y : Int32) : Int32 := if isS P x ∧ isS P y then nI (bkX P (cl x) (cl y) (kn P)) else -1
theorem bkX_lt {P : St} (h : okC P) {x y : Nat} (hx : x < nS P) : ∀ {k : Nat}, k ≤ kn P → bkX P x y k < nS P
  | 0, _ => hx
  | k + 1, hk => by
    have ih := bkX_lt h hx (y := y) (k := k) (by omega)
    unfold bkX
    split
    · exact mv_lt h ih (by omega) (val_lt h y (by omega))
    · exact ih
theorem sw_out6 {x : Int32} (t0 : ¬ x = nI 0) (t1 : ¬ x = nI 1) (t2 : ¬ x = nI 2) (t3 : ¬ x = nI 3) (t4 : ¬ x = nI 4) (t5 : ¬ x = nI 5) : x.toInt < 0 ∨ 5 < x.toInt := by
  have e0 : (nI 0).toInt = 0 := by decide
  have e1 : (nI 1).toInt = 1 := by decide
  have e2 : (nI 2).toInt = 2 := by decide
  have e3 : (nI 3).toInt = 3 := by decide
  have e4 : (nI 4).toInt = 4 := by decide
  have e5 : (nI 5).toInt = 5 := by decide
  rw [fa_eq] at t0 t1 t2 t3 t4 t5
  omega
theorem foX_4 {P : St} {x : Nat} (h : nt P ≤ 60) : foX P x = -4 ↔ ¬ fi P x < nt P := by
  unfold foX
  by_cases q : fi P x < nt P
  · rw [if_pos q]
    exact ⟨fun e => absurd e (nI_ne4 (by omega)), fun e => absurd q e⟩
  · rw [if_neg q]; exact ⟨fun _ => q, fun _ => rfl⟩
theorem foX_in {P : St} {x : Nat} (h : fi P x < nt P) : foX P x = nI (fi P x) := if_pos h
theorem nt_try {P : St} (hn : nt P < 60) (x : Nat) (w : Int32) : nt (tryP P x w) = nt P + 1 := nI_clamp (by omega)
theorem tx_try {P : St} {x i : Nat} {w : Int32} (h : i ≠ nt P) : tryP P x w 12 i = P 12 i := by
  unfold tryP
  rw [st1_ne (by decide), st1_ne (by decide), st1_ne (by decide), st1_no h]
theorem rd_try {P : St} {x i : Nat} {w : Int32} (h : i ≠ nt P) : tryP P x w 13 i = P 13 i := by
  unfold tryP
  rw [st1_ne (by decide), st1_no h, st1_ne (by decide), st1_ne (by decide)]
theorem tx_tryN {P : St} {x : Nat} {w : Int32} : tryP P x w 12 (nt P) = nI x := by
  unfold tryP
  rw [st1_ne (by decide), st1_ne (by decide), st1_ne (by decide), st1_at]
theorem rd_tryN {P : St} {x : Nat} {w : Int32} : tryP P x w 13 (nt P) = w + dnz (sdv P) (nz P) := by
  unfold tryP
  rw [st1_ne (by decide), st1_at]
theorem okX_try {P : St} (ok : okX P) {x : Nat} (hx : x < nS P) (hn : nt P < 60) : okX (tryP P x (wo P x)) := by
  have okc := ok.1
  have e := nt_try hn x (wo P x)
  have hS := okc_S144 okc
  have hw := wo_bd okc x
  have hd := dnz_bd (sdv P) (okc_nz50 okc)
  have hsd := nsd_lt (sdv P)
  refine ⟨⟨okc.1, okc.2.1, okc.2.2.1, okc.2.2.2.1, ⟨?_, ?_⟩, ?_, okc.2.2.2.2.2.2.1, ⟨?_, ?_⟩, okc.2.2.2.2.2.2.2.2.1, okc.2.2.2.2.2.2.2.2.2.1, ?_⟩, ok.2⟩
  · rw [e]; rfl
  · rw [e]; omega
  · intro i hi
    rw [e] at hi
    show tryP P x (wo P x) 12 i = nI (tryP P x (wo P x) 12 i).toNatClampNeg ∧ (tryP P x (wo P x) 12 i).toNatClampNeg < nS P
    by_cases q : i = nt P
    · rw [q, tx_tryN, nI_clamp (by omega)]; exact ⟨rfl, hx⟩
    · rw [tx_try q]; exact okc.2.2.2.2.2.1 i (by omega)
  · show nI (nsd (sdv P)) = nI (nI (nsd (sdv P))).toNatClampNeg
    rw [nI_clamp (by omega)]
  · show (nI (nsd (sdv P))).toNatClampNeg < 1073741824
    rw [nI_clamp (by omega)]; exact hsd
  · intro i hi
    rw [e] at hi
    by_cases q : i = nt P
    · rw [q, rd_tryN, ti_add (by omega) (by omega)]; omega
    · rw [rd_try q]; exact okc.2.2.2.2.2.2.2.2.2.2 i (by omega)
theorem flX_try {P : St} {x : Nat} (w : Int32) (y : Nat) : ∀ {n : Nat}, n ≤ nt P → flX (tryP P x w) y n = flX P y n ∧ rfX (tryP P x w) y n = rfX P y n
  | 0, _ => ⟨rfl, rfl⟩
  | n + 1, h => by
    obtain ⟨h1, h2⟩ := flX_try (P := P) (x := x) w y (n := n) (by omega)
    have e1 : tryP P x w 13 n = P 13 n := rd_try (by omega)
    have e2 : tx (tryP P x w) n = tx P n := by unfold tx; rw [tx_try (by omega)]
    have e3 : slk (tryP P x w) y n = slk P y n := by
      unfold slk
      rw [e2]; rfl
    rw [flX, rfX, flX, rfX, h1, h2, e1, e3]
    exact ⟨rfl, rfl⟩
theorem onv_some {o : Option Nat} (h : ¬ onv o = -4) : ∃ x, o = some x := by
  cases o with
  | none => exact absurd rfl h
  | some x => exact ⟨x, rfl⟩
theorem nts_S {P : St} {x : Nat} (h : nts P = some x) : x < nS P := by
  unfold nts at h
  split at h
  · cases h
  · cases hq : noP P with
    | none => rw [hq] at h; cases h
    | some j =>
      rw [hq] at h
      dsimp only at h
      split at h
      · cases h
      · cases h; exact lsA_get (nxo_lt hq)
theorem nts_60 {P : St} (okc : okC P) {x : Nat} (h : nts P = some x) : nt P < 60 := by
  unfold nts at h
  split at h
  · cases h
  · rename_i q
    have h6 := okc_nt60 okc
    exact Nat.not_le.mp (fun h => q (Or.inl (by rw [okc_nt okc]; exact nI_le h (by omega))))
theorem onv_none {P : St} (okc : okC P) (h : onv (nts P) = -4) : nts P = none := by
  cases hq : nts P with
  | none => rfl
  | some x =>
    rw [hq] at h
    have := nts_S hq
    have := okc_S144 okc
    exact absurd h (nI_ne4 (by omega))
theorem msd_keep {P T T' : St} (h : msd P T) (hT : ∀ j, j ≠ 11 → T' j = T j) : msd P T' := ⟨opn_keep h.1 (hT 27 (by decide)) (hT 14 (by decide)), fun j hj => by rw [hT 16 (by decide)]; exact h.2.1 j hj, fun j hj => by rw [hT 17 (by decide)]; exact h.2.2 j hj⟩
theorem msd_try {P T T' : St} {x : Nat} (ok : okX P) (hx : x < nS P) (hn : nt P < 60) (h : msd P T) (hT : ∀ j, j ≠ 16 → j ≠ 17 → T' j = T j)
    (hF : ∀ j, j < nS (tryP P x (wo P x)) → T' 16 j = mx (T 16 j) (tryP P x (wo P x) 13 (nt (tryP P x (wo P x)) - 1) - slk (tryP P x (wo P x)) j (nt (tryP P x (wo P x)) - 1)))
    (hR : ∀ j, j < nS (tryP P x (wo P x)) → T' 17 j = mn (T 17 j) (tryP P x (wo P x) 13 (nt (tryP P x (wo P x)) - 1) + slk (tryP P x (wo P x)) j (nt (tryP P x (wo P x)) - 1))) : msd (tryP P x (wo P x)) T' := by
  have e : nt (tryP P x (wo P x)) = nt P + 1 := nI_clamp (by omega)
  refine ⟨opn_keep h.1 (hT 27 (by decide) (by decide)) (hT 14 (by decide) (by decide)), fun j hj => ?_, fun j hj => ?_⟩
  · rw [hF j hj, h.2.1 j hj, e, Nat.add_sub_cancel, flX, (flX_try (wo P x) j (Nat.le_refl _)).1]
  · rw [hR j hj, h.2.2 j hj, e, Nat.add_sub_cancel, rfX, (flX_try (wo P x) j (Nat.le_refl _)).2]
