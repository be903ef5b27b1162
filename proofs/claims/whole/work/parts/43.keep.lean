theorem ite2 {α : Sort _} {c d : Prop} [Decidable c] [Decidable d] {a b a' b' : α} (h : c ↔ d) (h1 : c → a = a') (h2 : ¬ c → b = b') : (if c then a else b) = (if d then a' else b') := by
  by_cases q : c
  · rw [if_pos q, if_pos (h.mp q)]; exact h1 q
  · rw [if_neg q, if_neg (fun z => q (h.mpr z))]; exact h2 q
theorem rite {c d : Prop} [Decidable c] [Decidable d] {a b a' b' : St} (h : c ↔ d) (h1 : c → rel a (cX a')) (h2 : ¬ c → rel b (cX b')) : rel (if c then a else b) (cX (if d then a' else b')) := by
  by_cases q : c
  · rw [if_pos q, if_pos (h.mp q)]; exact h1 q
  · rw [if_neg q, if_neg (fun z => q (h.mpr z))]; exact h2 q
theorem oite {c : Prop} [Decidable c] {a b : St} (h1 : c → okX a) (h2 : ¬ c → okX b) : okX (if c then a else b) := by
  by_cases q : c
  · rw [if_pos q]; exact h1 q
  · rw [if_neg q]; exact h2 q
theorem inR_ti {x : Int32} {a b : Int32} (h : inR x a b) : a.toInt ≤ x.toInt ∧ x.toInt ≤ b.toInt := ⟨(fa_le _ _).mp h.1, (fa_le _ _).mp h.2⟩
theorem cX_st {N : St} {j i : Nat} {v : Int32} (hj : j = 2 ∨ j = 3 ∨ j = 9 ∨ j = 10 ∨ (12 ≤ j ∧ j < 27)) : cX (st1 N j i v) = st1 (cX N) j i v := cX_st1 (by omega) (by omega) (by omega) (by omega) (by omega) (by omega) (by omega)
/-! what keeps okX -/
theorem ok_2 {P : St} (ok : okX P) {i : Nat} {v : Int32} (h : inR v (-100) (nI 100)) : okX (st1 P 2 i v) := by
  have okc := ok.1
  have hv := inR_ti h
  have e1 : Int32.toInt (-100) = -100 := by decide
  have e2 : (nI 100).toInt = 100 := by decide
  refine ⟨⟨okc.1, okc.2.1, okc.2.2.1, okc.2.2.2.1, okc.2.2.2.2.1, okc.2.2.2.2.2.1, okc.2.2.2.2.2.2.1, okc.2.2.2.2.2.2.2.1, okc.2.2.2.2.2.2.2.2.1, ⟨fun k hk w hw => ?_, okc.2.2.2.2.2.2.2.2.2.1.2⟩, okc.2.2.2.2.2.2.2.2.2.2⟩, ok.2⟩
  by_cases q : k * 4 + w = i
  · rw [q, st1_at]; omega
  · rw [st1_no q]; exact okc.2.2.2.2.2.2.2.2.2.1.1 k hk w hw
theorem ok_3 {P : St} (ok : okX P) {i : Nat} {v : Int32} (h : inR v (nI 0) (nI 100)) : okX (st1 P 3 i v) := by
  have okc := ok.1
  have hv := inR_ti h
  have e1 : (nI 0).toInt = 0 := by decide
  have e2 : (nI 100).toInt = 100 := by decide
  refine ⟨⟨okc.1, okc.2.1, okc.2.2.1, okc.2.2.2.1, okc.2.2.2.2.1, okc.2.2.2.2.2.1, okc.2.2.2.2.2.2.1, okc.2.2.2.2.2.2.2.1, okc.2.2.2.2.2.2.2.2.1, ⟨okc.2.2.2.2.2.2.2.2.2.1.1, fun k hk => ?_⟩, okc.2.2.2.2.2.2.2.2.2.2⟩, ok.2⟩
  by_cases q : k = i
  · rw [q, st1_at]; omega
  · rw [st1_no q]; exact okc.2.2.2.2.2.2.2.2.2.1.2 k hk
theorem ok_9 {P : St} (ok : okX P) {i : Nat} {v : Int32} (h : inR v (-1000) (nI 1000)) : okX (st1 P 9 i v) ∧ okX (st1 P 10 i v) ∧ okX (st1 P 23 0 v) := by
  have okc := ok.1
  have hv := inR_ti h
  have e1 : Int32.toInt (-1000) = -1000 := by decide
  have e2 : (nI 1000).toInt = 1000 := by decide
  have hE := okc.2.2.2.2.2.2.2.2.1
  refine ⟨⟨⟨okc.1, okc.2.1, okc.2.2.1, okc.2.2.2.1, okc.2.2.2.2.1, okc.2.2.2.2.2.1, okc.2.2.2.2.2.2.1, okc.2.2.2.2.2.2.2.1, ⟨fun k hk => ?_, hE.2.1, hE.2.2⟩, okc.2.2.2.2.2.2.2.2.2.1, okc.2.2.2.2.2.2.2.2.2.2⟩, ok.2⟩, ⟨⟨okc.1, okc.2.1, okc.2.2.1, okc.2.2.2.1, okc.2.2.2.2.1, okc.2.2.2.2.2.1, okc.2.2.2.2.2.2.1, okc.2.2.2.2.2.2.2.1, ⟨hE.1, fun k hk => ?_, hE.2.2⟩, okc.2.2.2.2.2.2.2.2.2.1, okc.2.2.2.2.2.2.2.2.2.2⟩, ok.2⟩, ⟨⟨okc.1, okc.2.1, okc.2.2.1, okc.2.2.2.1, okc.2.2.2.2.1, okc.2.2.2.2.2.1, okc.2.2.2.2.2.2.1, okc.2.2.2.2.2.2.2.1, ⟨hE.1, hE.2.1, ?_⟩, okc.2.2.2.2.2.2.2.2.2.1, okc.2.2.2.2.2.2.2.2.2.2⟩, ok.2⟩⟩
  · by_cases q : k = i
    · rw [q, st1_at]; omega
    · rw [st1_no q]; exact hE.1 k hk
  · by_cases q : k = i
    · rw [q, st1_at]; omega
    · rw [st1_no q]; exact hE.2.1 k hk
  · rw [st1_at]; omega
theorem ok_25 {P : St} (ok : okX P) {v : Int32} (h : inR v (nI 0) (nI 50)) : okX (st1 P 25 0 v) := by
  have okc := ok.1
  obtain ⟨a, ha, rfl⟩ := inR_nat (n := 50) (by decide) h
  refine ⟨⟨okc.1, okc.2.1, okc.2.2.1, okc.2.2.2.1, okc.2.2.2.2.1, okc.2.2.2.2.2.1, ⟨?_, ?_⟩, okc.2.2.2.2.2.2.2.1, okc.2.2.2.2.2.2.2.2.1, okc.2.2.2.2.2.2.2.2.2.1, okc.2.2.2.2.2.2.2.2.2.2⟩, ok.2⟩
  · show nI a = nI (nI a).toNatClampNeg
    rw [nI_clamp (by omega)]
  · show (nI a).toNatClampNeg ≤ 50
    rw [nI_clamp (by omega)]; exact ha
theorem ok_26 {P : St} (ok : okX P) {v : Int32} (h : inR v (nI 0) (nI 1073741823)) : okX (st1 P 26 0 v) := by
  have okc := ok.1
  obtain ⟨a, ha, rfl⟩ := inR_nat (n := 1073741823) (by decide) h
  refine ⟨⟨okc.1, okc.2.1, okc.2.2.1, okc.2.2.2.1, okc.2.2.2.2.1, okc.2.2.2.2.2.1, okc.2.2.2.2.2.2.1, ⟨?_, ?_⟩, okc.2.2.2.2.2.2.2.2.1, okc.2.2.2.2.2.2.2.2.2.1, okc.2.2.2.2.2.2.2.2.2.2⟩, ok.2⟩
  · show nI a = nI (nI a).toNatClampNeg
    rw [nI_clamp (by omega)]
  · show (nI a).toNatClampNeg < 1073741824
    rw [nI_clamp (by omega)]; omega
theorem ok_22 {P : St} (ok : okX P) {n : Nat} (h : n ≤ nr P) : okX (st1 P 22 0 (nI n)) := by
  have okc := ok.1
  have h12 := okc_nr12 okc
  have e : nr (st1 P 22 0 (nI n)) = n := nI_clamp (by omega)
  refine ⟨⟨okc.1, okc.2.1, okc.2.2.1, ⟨?_, ?_⟩, okc.2.2.2.2.1, okc.2.2.2.2.2.1, okc.2.2.2.2.2.2.1, okc.2.2.2.2.2.2.2.1, okc.2.2.2.2.2.2.2.2.1, okc.2.2.2.2.2.2.2.2.2.1, okc.2.2.2.2.2.2.2.2.2.2⟩, ok.2.1, fun i hi => ?_, ok.2.2.2⟩
  · rw [e]; rfl
  · rw [e]; omega
  · rw [e] at hi; exact ok.2.2.1 i (by omega)
theorem ok_ru {P : St} (ok : okX P) {nb a v b w : Int32} (hnb : nb = 0 ∨ nb = 1) (h : cRu P a v b w) (hn : nr P < 12) : okX (ruX P nb a v b w) := by
  have okc := ok.1
  have e : nr (ruX P nb a v b w) = nr P + 1 := nI_clamp (by omega)
  have h6 := okc_kn6 okc
  obtain ⟨a1, _, ha, _, rfl, rfl⟩ := isV_nat okc h.1
  obtain ⟨b1, _, hb, _, rfl, rfl⟩ := isV_nat okc h.2.1
  refine ⟨⟨okc.1, okc.2.1, okc.2.2.1, ⟨?_, ?_⟩, okc.2.2.2.2.1, okc.2.2.2.2.2.1, okc.2.2.2.2.2.2.1, okc.2.2.2.2.2.2.2.1, okc.2.2.2.2.2.2.2.2.1, okc.2.2.2.2.2.2.2.2.2.1, okc.2.2.2.2.2.2.2.2.2.2⟩, ok.2.1, fun i hi => ?_, fun i => ?_⟩
  · rw [e]; rfl
  · rw [e]; omega
  · rw [e] at hi
    show (upd (P 5) (nr P) (nI a1) i = nI (upd (P 5) (nr P) (nI a1) i).toNatClampNeg ∧ (upd (P 5) (nr P) (nI a1) i).toNatClampNeg < kn P) ∧ (upd (P 7) (nr P) (nI b1) i = nI (upd (P 7) (nr P) (nI b1) i).toNatClampNeg ∧ (upd (P 7) (nr P) (nI b1) i).toNatClampNeg < kn P)
    by_cases q : i = nr P
    · rw [q, upd_0, upd_0, nI_clamp (by omega), nI_clamp (by omega)]; exact ⟨⟨rfl, ha⟩, rfl, hb⟩
    · rw [pk_un q, pk_un q]; exact ok.2.2.1 i (by omega)
  · show upd (P 4) (nr P) nb i = 0 ∨ upd (P 4) (nr P) nb i = 1
    by_cases q : i = nr P
    · rw [q, upd_0]; exact hnb
    · rw [pk_un q]; exact ok.2.2.2 i
theorem ok_add {P P' : St} {v : Nat} (ok : okX P) (hv : 2 ≤ v ∧ v ≤ 4) (hk : kn P < 6) (hS : nS P * v ≤ 144) (hn : nt P = 0) (h : addR P v P') : okX P' := by
  obtain ⟨a20, a21, a0, a1, a2, ar⟩ := h
  have okc := ok.1
  have h1 := okc_S1 okc
  have ek : kn P' = kn P + 1 := by
    show (P' 20 0).toNatClampNeg = _
    rw [a20, upd_0]; exact nI_clamp (by omega)
  have eS : nS P' = nS P * v := by
    show (P' 21 0).toNatClampNeg = _
    rw [a21, upd_0]; exact nI_clamp (by omega)
  have ez : ∀ k, k < kn P → sz P' k = sz P k := fun k hk2 => by unfold sz; rw [a0, pk_un (by omega)]
  have ezn : sz P' (kn P) = v := by
    show (P' 0 (kn P)).toNatClampNeg = v
    rw [a0, upd_0]; exact nI_clamp (by omega)
  have ep : ∀ k, k ≤ kn P → pst (sz P') k = pst (sz P) k := by
    intro k
    induction k with
    | zero => intro _; rw [pst, pst]
    | succ k ih => intro hk2; rw [pst, pst, ih (by omega), ez k (by omega)]
  have e22 := ar 22 (by decide) (by decide) (by decide) (by decide) (by decide)
  have e24 := ar 24 (by decide) (by decide) (by decide) (by decide) (by decide)
  have e25 := ar 25 (by decide) (by decide) (by decide) (by decide) (by decide)
  have e26 := ar 26 (by decide) (by decide) (by decide) (by decide) (by decide)
  have e9 := ar 9 (by decide) (by decide) (by decide) (by decide) (by decide)
  have e10 := ar 10 (by decide) (by decide) (by decide) (by decide) (by decide)
  have e23 := ar 23 (by decide) (by decide) (by decide) (by decide) (by decide)
  have e3 := ar 3 (by decide) (by decide) (by decide) (by decide) (by decide)
  have e4 := ar 4 (by decide) (by decide) (by decide) (by decide) (by decide)
  have e5 := ar 5 (by decide) (by decide) (by decide) (by decide) (by decide)
  have e7 := ar 7 (by decide) (by decide) (by decide) (by decide) (by decide)
  have ent : nt P' = 0 := by rw [← hn]; unfold nt; rw [e24]
  refine ⟨⟨?_, ?_, ?_, ?_, ?_, ?_, ?_, ?_, ?_, ?_, ?_⟩, ?_, ?_, ?_⟩
  · rw [ek, a20, upd_0]; exact ⟨rfl, by omega⟩
  · rw [eS, ek, a21, upd_0]; refine ⟨rfl, ?_, hS⟩; rw [pst, ep _ (Nat.le_refl _), ezn, ← okc_Sp okc]
  · intro k hk2
    rw [ek] at hk2
    by_cases q : k = kn P
    · rw [q, ezn, a0, upd_0]; exact ⟨rfl, hv⟩
    · rw [ez k (by omega), a0, pk_un q]; exact okc.2.2.1 k (by omega)
  · unfold nr; rw [e22]; exact okc.2.2.2.1
  · rw [ent, e24]; exact ⟨by rw [okc_nt okc, hn], by omega⟩
  · intro i hi; rw [ent] at hi; exact absurd hi (Nat.not_lt_zero i)
  · unfold nz; rw [e25]; exact okc.2.2.2.2.2.2.1
  · unfold sdv; rw [e26]; exact okc.2.2.2.2.2.2.2.1
  · rw [e9, e10, e23]; exact okc.2.2.2.2.2.2.2.2.1
  · refine ⟨fun k hk2 w hw => ?_, by rw [e3]; exact okc.2.2.2.2.2.2.2.2.2.1.2⟩
    rw [ek] at hk2
    rw [a2]
    by_cases q : k = kn P
    · subst q
      rw [ezn] at hw
      rw [if_pos (by omega), nI_toInt (by omega)]; omega
    · rw [ez k (by omega)] at hw
      have := (okc_sz2 okc (show k < kn P by omega)).2
      rw [if_neg (by omega)]
      exact okc.2.2.2.2.2.2.2.2.2.1.1 k (by omega) w hw
  · intro i hi; rw [ent] at hi; exact absurd hi (Nat.not_lt_zero i)
  · intro k hk2
    rw [ek] at hk2
    by_cases q : k = kn P
    · rw [q, ep _ (Nat.le_refl _), a1, upd_0, ← okc_Sp okc]
    · rw [ep k (by omega), a1, pk_un q]; exact ok.2.1 k (by omega)
  · intro i hi
    have hi2 : i < nr P := by unfold nr at hi ⊢; rw [e22] at hi; exact hi
    have := ok.2.2.1 i hi2
    unfold rk1 rk2 at *
    rw [e5, e7, ek]
    exact ⟨⟨this.1.1, by omega⟩, this.2.1, by omega⟩
  · intro i; rw [e4]; exact ok.2.2.2 i
