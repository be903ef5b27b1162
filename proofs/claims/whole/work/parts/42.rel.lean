/-! two states that a user can't tell apart -/
def rel (P Q : St) : Prop := (∀ j, j ≠ 0 → j ≠ 1 → j ≠ 2 → j < 27 → P j = Q j) ∧ (∀ k, k < kn P → P 0 k = Q 0 k) ∧ ∀ k, k < kn P → ∀ v, v < sz P k → P 2 (k * 4 + v) = Q 2 (k * 4 + v)
theorem r_j {P Q : St} (h : rel P Q) {j : Nat} (h0 : j ≠ 0) (h1 : j ≠ 1) (h2 : j ≠ 2) (h3 : j < 27) : P j = Q j := h.1 j h0 h1 h2 h3
theorem r_kn {P Q : St} (h : rel P Q) : kn P = kn Q := by unfold kn; rw [r_j h (j := 20) (by decide) (by decide) (by decide) (by decide)]
theorem r_S {P Q : St} (h : rel P Q) : nS P = nS Q := by unfold nS; rw [r_j h (j := 21) (by decide) (by decide) (by decide) (by decide)]
theorem r_nr {P Q : St} (h : rel P Q) : nr P = nr Q := by unfold nr; rw [r_j h (j := 22) (by decide) (by decide) (by decide) (by decide)]
theorem r_nt {P Q : St} (h : rel P Q) : nt P = nt Q := by unfold nt; rw [r_j h (j := 24) (by decide) (by decide) (by decide) (by decide)]
theorem r_nz {P Q : St} (h : rel P Q) : nz P = nz Q := by unfold nz; rw [r_j h (j := 25) (by decide) (by decide) (by decide) (by decide)]
theorem r_sd {P Q : St} (h : rel P Q) : sdv P = sdv Q := by unfold sdv; rw [r_j h (j := 26) (by decide) (by decide) (by decide) (by decide)]
theorem r_tx {P Q : St} (h : rel P Q) (i : Nat) : tx P i = tx Q i := by unfold tx; rw [r_j h (j := 12) (by decide) (by decide) (by decide) (by decide)]
theorem r_sz {P Q : St} (h : rel P Q) {k : Nat} (hk : k < kn P) : sz P k = sz Q k := by unfold sz; rw [h.2.1 k hk]
theorem r_pst {P Q : St} (h : rel P Q) {k : Nat} (hk : k ≤ kn P) : pst (sz P) k = pst (sz Q) k := by
  induction k with
  | zero => rw [pst, pst]
  | succ k ih => rw [pst, pst, ih (by omega), r_sz h hk]
theorem r_val {P Q : St} (h : rel P Q) (x : Nat) {k : Nat} (hk : k < kn P) : val P x k = val Q x k := by unfold val; rw [r_pst h (Nat.le_of_lt hk), r_sz h hk]
theorem r_mv {P Q : St} (h : rel P Q) (x v : Nat) {k : Nat} (hk : k < kn P) : mv P x k v = mv Q x k v := by unfold mv; rw [r_val h x hk, r_pst h (Nat.le_of_lt hk)]
theorem r_slv {P Q : St} (h : rel P Q) (x : Nat) {k : Nat} (hk : k < kn P) : slv P x k = slv Q x k := by unfold slv; rw [r_val h x hk]
theorem r_wo {P Q : St} (h : rel P Q) (x : Nat) : wo P x = wo Q x := by
  unfold wo
  rw [r_j h (j := 23) (by decide) (by decide) (by decide) (by decide), ← r_kn h]
  congr 1
  refine sm_congr (fun b hb => ?_)
  unfold wot
  rw [r_j h (j := 9) (by decide) (by decide) (by decide) (by decide), r_slv h x hb]
  congr 1
  refine sm_congr (fun a ha => ?_)
  unfold wjt
  rw [r_j h (j := 10) (by decide) (by decide) (by decide) (by decide), r_slv h x hb, r_slv h x (Nat.lt_trans ha hb)]
theorem r_off {P Q : St} (okc : okC P) (h : rel P Q) (x y : Nat) : off P x y = off Q x y := by
  unfold off
  rw [← r_kn h]
  refine sm_congr (fun k hk => ?_)
  unfold oft
  rw [r_j h (j := 3) (by decide) (by decide) (by decide) (by decide), ← r_slv h x hk, ← r_slv h y hk]
  unfold slv
  rw [h.2.2 k hk _ (val_lt okc x hk), h.2.2 k hk _ (val_lt okc y hk)]
theorem r_ag {P Q : St} (ok : okX P) (h : rel P Q) (x : Nat) {i : Nat} (hi : i < nr P) : agX P x i ↔ agX Q x i := by
  have h1 := (ok.2.2.1 i hi).1.2
  have h2 := (ok.2.2.1 i hi).2.2
  have e1 : rk1 P i = rk1 Q i := by unfold rk1; rw [r_j h (j := 5) (by decide) (by decide) (by decide) (by decide)]
  have e2 : rk2 P i = rk2 Q i := by unfold rk2; rw [r_j h (j := 7) (by decide) (by decide) (by decide) (by decide)]
  unfold agX
  rw [r_j h (j := 4) (by decide) (by decide) (by decide) (by decide), r_j h (j := 6) (by decide) (by decide) (by decide) (by decide), r_j h (j := 8) (by decide) (by decide) (by decide) (by decide), r_val h x h1, r_val h x h2, e1, e2]
theorem r_al {P Q : St} (ok : okX P) (h : rel P Q) (x : Nat) : alX P x ↔ alX Q x := by
  unfold alX
  rw [← r_nr h]
  exact forall_congr' (fun i => ⟨fun a hi b => a hi ((r_ag ok h x hi).mpr b), fun a hi b => a hi ((r_ag ok h x hi).mp b)⟩)
theorem r_L {P Q : St} (ok : okX P) (h : rel P Q) : lsA P = lsA Q := by
  unfold lsA alL
  rw [← r_S h]
  exact List.filter_congr (fun x _ => by rw [decide_eq_decide]; exact r_al ok h x)
theorem r_fl {P Q : St} (okc : okC P) (h : rel P Q) (x : Nat) : ∀ n, flX P x n = flX Q x n ∧ rfX P x n = rfX Q x n
  | 0 => ⟨rfl, rfl⟩
  | n + 1 => by
    obtain ⟨h1, h2⟩ := r_fl okc h x n
    have e : slk P x n = slk Q x n := by
      unfold slk; rw [r_j h (j := 25) (by decide) (by decide) (by decide) (by decide), r_tx h, r_off okc h]
    rw [flX, rfX, flX, rfX, h1, h2, e, r_j h (j := 13) (by decide) (by decide) (by decide) (by decide)]
    exact ⟨rfl, rfl⟩
theorem r_fi {P Q : St} (h : rel P Q) (x : Nat) : fi P x = fi Q x := by
  unfold fi tx
  rw [r_nt h, r_j h (j := 12) (by decide) (by decide) (by decide) (by decide)]
theorem r_rl {P Q : St} (h : rel P Q) (x : Nat) : ∀ n, rl P x n = rl Q x n
  | 0 => rfl
  | n + 1 => by rw [rl, rl, r_rl h x n, r_tx h, r_j h (j := 13) (by decide) (by decide) (by decide) (by decide)]
theorem r_isK {P Q : St} (h : rel P Q) (k : Int32) : isK P k ↔ isK Q k := by unfold isK; rw [r_j h (j := 20) (by decide) (by decide) (by decide) (by decide)]
theorem r_isS {P Q : St} (h : rel P Q) (k : Int32) : isS P k ↔ isS Q k := by unfold isS; rw [r_j h (j := 21) (by decide) (by decide) (by decide) (by decide)]
theorem r_isT {P Q : St} (h : rel P Q) (k : Int32) : isT P k ↔ isT Q k := by unfold isT; rw [r_j h (j := 24) (by decide) (by decide) (by decide) (by decide)]
theorem r_isV {P Q : St} (okc : okC P) (h : rel P Q) (k v : Int32) : isV P k v ↔ isV Q k v := by
  have h6 := okc_kn6 okc
  constructor
  · intro a
    obtain ⟨c, hc, rfl⟩ := isK_nat okc a.1
    refine ⟨(r_isK h _).mp a.1, a.2.1, ?_⟩
    have := a.2.2
    rw [nI_clamp (by omega)] at this ⊢
    rw [← h.2.1 c hc]; exact this
  · intro a
    have hk := (r_isK h _).mpr a.1
    obtain ⟨c, hc, rfl⟩ := isK_nat okc hk
    refine ⟨hk, a.2.1, ?_⟩
    have := a.2.2
    rw [nI_clamp (by omega)] at this ⊢
    rw [h.2.1 c hc]; exact this
/-- the second of two such states keeps what the first keeps -/
theorem okC_rel {P Q : St} (h : rel P Q) (ok : okC P) : okC Q := by
  have e20 := r_j h (j := 20) (by decide) (by decide) (by decide) (by decide)
  have e21 := r_j h (j := 21) (by decide) (by decide) (by decide) (by decide)
  have e22 := r_j h (j := 22) (by decide) (by decide) (by decide) (by decide)
  have e24 := r_j h (j := 24) (by decide) (by decide) (by decide) (by decide)
  have e12 := r_j h (j := 12) (by decide) (by decide) (by decide) (by decide)
  have e25 := r_j h (j := 25) (by decide) (by decide) (by decide) (by decide)
  have e26 := r_j h (j := 26) (by decide) (by decide) (by decide) (by decide)
  have e9 := r_j h (j := 9) (by decide) (by decide) (by decide) (by decide)
  have e10 := r_j h (j := 10) (by decide) (by decide) (by decide) (by decide)
  have e23 := r_j h (j := 23) (by decide) (by decide) (by decide) (by decide)
  have e3 := r_j h (j := 3) (by decide) (by decide) (by decide) (by decide)
  have e13 := r_j h (j := 13) (by decide) (by decide) (by decide) (by decide)
  refine ⟨?_, ?_, ?_, ?_, ?_, ?_, ?_, ?_, ?_, ?_, ?_⟩
  · rw [← r_kn h, ← e20]; exact ok.1
  · rw [← r_S h, ← r_kn h, ← e21, ← r_pst h (Nat.le_refl _)]; exact ok.2.1
  · intro k hk
    rw [← r_kn h] at hk
    rw [← r_sz h hk, ← h.2.1 k hk]; exact ok.2.2.1 k hk
  · rw [← r_nr h, ← e22]; exact ok.2.2.2.1
  · rw [← r_nt h, ← e24]; exact ok.2.2.2.2.1
  · intro i hi
    rw [← r_nt h] at hi
    rw [← r_tx h, ← r_S h, ← e12]; exact ok.2.2.2.2.2.1 i hi
  · rw [← r_nz h, ← e25]; exact ok.2.2.2.2.2.2.1
  · rw [← r_sd h, ← e26]; exact ok.2.2.2.2.2.2.2.1
  · rw [← e9, ← e10, ← e23]; exact ok.2.2.2.2.2.2.2.2.1
  · refine ⟨fun k hk v hv => ?_, by rw [← e3]; exact ok.2.2.2.2.2.2.2.2.2.1.2⟩
    rw [← r_kn h] at hk
    rw [← r_sz h hk] at hv
    rw [← h.2.2 k hk v hv]; exact ok.2.2.2.2.2.2.2.2.2.1.1 k hk v hv
  · intro i hi
    rw [← r_nt h] at hi
    rw [← e13]; exact ok.2.2.2.2.2.2.2.2.2.2 i hi
theorem okN_rel {P N : St} (h : rel P (cX N)) (ok : okX P) : okN N := by
  have e4 := r_j h (j := 4) (by decide) (by decide) (by decide) (by decide)
  have e5 := r_j h (j := 5) (by decide) (by decide) (by decide) (by decide)
  have e7 := r_j h (j := 7) (by decide) (by decide) (by decide) (by decide)
  refine ⟨okC_rel h ok.1, fun k _ => rfl, fun i hi => ?_, fun i => by rw [← e4]; exact ok.2.2.2 i⟩
  rw [← r_nr h] at hi
  have := ok.2.2.1 i hi
  unfold rk1 rk2 at *
  rw [← e5, ← e7, ← r_kn h]; exact this
theorem r_st1 {P Q : St} (h : rel P Q) {j i : Nat} {v : Int32} (h0 : j ≠ 0) (h1 : j ≠ 1) (h2 : j ≠ 2) (h3 : j ≠ 20) (h4 : j < 27) : rel (st1 P j i v) (st1 Q j i v) := by
  have ek : kn (st1 P j i v) = kn P := by unfold kn; rw [st1_ne (Ne.symm h3)]
  have es : ∀ k, sz (st1 P j i v) k = sz P k := fun k => by unfold sz; rw [st1_ne (Ne.symm h0)]
  refine ⟨fun a a0 a1 a2 a3 => ?_, fun k hk => ?_, fun k hk w hw => ?_⟩
  · by_cases q : a = j
    · subst q; rw [st1_eq, st1_eq, r_j h h0 h1 h2 h4]
    · rw [st1_ne q, st1_ne q, r_j h a0 a1 a2 a3]
  · rw [st1_ne (Ne.symm h0), st1_ne (Ne.symm h0)]; exact h.2.1 k (ek ▸ hk)
  · rw [st1_ne (Ne.symm h2), st1_ne (Ne.symm h2)]; exact h.2.2 k (ek ▸ hk) w (by rw [es] at hw; exact hw)
theorem r_st2 {P Q : St} (h : rel P Q) {i : Nat} {v : Int32} : rel (st1 P 2 i v) (st1 Q 2 i v) := by
  refine ⟨fun a a0 a1 a2 a3 => ?_, fun k hk => ?_, fun k hk w hw => ?_⟩
  · rw [st1_ne a2, st1_ne a2, r_j h a0 a1 a2 a3]
  · rw [st1_ne (by decide), st1_ne (by decide)]; exact h.2.1 k hk
  · by_cases q : k * 4 + w = i
    · rw [q, st1_at, st1_at]
    · rw [st1_no q, st1_no q]; exact h.2.2 k hk w hw
theorem cX_st1 {N : St} {j i : Nat} {v : Int32} (h0 : j ≠ 0) (h1 : j ≠ 1) (h4 : j ≠ 4) (h5 : j ≠ 5) (h6 : j ≠ 6) (h7 : j ≠ 7) (h8 : j ≠ 8) : cX (st1 N j i v) = st1 (cX N) j i v := by
  have es : sz (st1 N j i v) = sz N := by funext k; unfold sz; rw [st1_ne (Ne.symm h0)]
  have ej : cX N j = N j := by unfold cX; split <;> first | rfl | omega
  funext a
  by_cases q : a = j
  · subst q
    rw [st1_eq, ej]
    show cX (st1 N a i v) a = _
    unfold cX
    split <;> first | omega | exact st1_eq
  · rw [st1_ne q]
    unfold cX
    split <;> first | rfl | (rw [es]) | (rw [st1_ne (Ne.symm h4)]) | (rw [st1_ne q])
