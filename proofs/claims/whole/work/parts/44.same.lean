section SAME
variable {P Q N : St}
theorem s_isVm (okc : okC P) (h : rel P Q) {k v : Int32} (c : isV P k v) : P 2 (cl k * 4 + cl v) = Q 2 (cl k * 4 + cl v) := by
  have h6 := okc_kn6 okc
  obtain ⟨a, b, ha, hb, rfl, rfl⟩ := isV_nat okc c
  have := okc_sz2 okc ha
  rw [cl_nI (by omega), cl_nI (by omega)]
  exact h.2.2 a ha b hb
theorem s_cPl (okc : okC P) (h : rel P Q) {k v p0 : Int32} : cPl P k v p0 ↔ cPl Q k v p0 := and_congr (r_isV okc h k v) Iff.rfl
theorem s_place (ok : okX P) (h : rel P (cX N)) (k v p0 : Int32) : Fplace P k v p0 = Fplace N k v p0 ∧ okX (Gplace P k v p0) ∧ rel (Gplace P k v p0) (cX (Gplace N k v p0)) :=
  ⟨ite2 (s_cPl ok.1 h) (fun c => s_isVm ok.1 h c.1) (fun _ => rfl), oite (fun c => ok_2 ok c.2) (fun _ => ok), rite (s_cPl ok.1 h) (fun _ => by rw [cX_st (by omega)]; exact r_st2 h) (fun _ => h)⟩
theorem s_steep (ok : okX P) (h : rel P (cX N)) (k x : Int32) : Fsteep P k x = Fsteep N k x ∧ okX (Gsteep P k x) ∧ rel (Gsteep P k x) (cX (Gsteep N k x)) := by
  have hc : cSt P k x ↔ cSt (cX N) k x := and_congr (r_isK h k) Iff.rfl
  exact ⟨ite2 hc (fun _ => by rw [r_j h (j := 3) (by decide) (by decide) (by decide) (by decide)]; rfl) (fun _ => rfl), oite (fun c => ok_3 ok c.2) (fun _ => ok), rite hc (fun _ => by rw [cX_st (by omega)]; exact r_st1 h (by decide) (by decide) (by decide) (by decide) (by decide)) (fun _ => h)⟩
theorem s_base (ok : okX P) (h : rel P (cX N)) (x : Int32) : Fbase P x = Fbase N x ∧ okX (Gbase P x) ∧ rel (Gbase P x) (cX (Gbase N x)) :=
  ⟨ite2 Iff.rfl (fun _ => by rw [r_j h (j := 23) (by decide) (by decide) (by decide) (by decide)]; rfl) (fun _ => rfl), oite (fun c => (ok_9 (i := 0) ok c).2.2) (fun _ => ok), rite Iff.rfl (fun _ => by rw [cX_st (by omega)]; exact r_st1 h (by decide) (by decide) (by decide) (by decide) (by decide)) (fun _ => h)⟩
theorem s_noise (ok : okX P) (h : rel P (cX N)) (x : Int32) : Fnoise P x = Fnoise N x ∧ okX (Gnoise P x) ∧ rel (Gnoise P x) (cX (Gnoise N x)) :=
  ⟨ite2 Iff.rfl (fun _ => by rw [r_j h (j := 25) (by decide) (by decide) (by decide) (by decide)]; rfl) (fun _ => rfl), oite (fun c => ok_25 ok c) (fun _ => ok), rite Iff.rfl (fun _ => by rw [cX_st (by omega)]; exact r_st1 h (by decide) (by decide) (by decide) (by decide) (by decide)) (fun _ => h)⟩
theorem s_seed (ok : okX P) (h : rel P (cX N)) (x : Int32) : okX (Gseed P x) ∧ rel (Gseed P x) (cX (Gseed N x)) :=
  ⟨oite (fun c => ok_26 ok c) (fun _ => ok), rite Iff.rfl (fun _ => by rw [cX_st (by omega)]; exact r_st1 h (by decide) (by decide) (by decide) (by decide) (by decide)) (fun _ => h)⟩
theorem s_noRule (ok : okX P) (h : rel P (cX N)) : FnoRule P = FnoRule N ∧ okX (GnoRule P) ∧ rel (GnoRule P) (cX (GnoRule N)) := by
  have e : nr P = nr N := r_nr (Q := cX N) h
  have hc : nr P = 0 ↔ nr N = 0 := by rw [e]
  exact ⟨ite2 hc (fun _ => rfl) (fun _ => by rw [e]), oite (fun _ => ok) (fun _ => ok_22 ok (Nat.sub_le _ _)), rite hc (fun _ => h) (fun _ => by rw [cX_st (by omega), ← e]; exact r_st1 h (by decide) (by decide) (by decide) (by decide) (by decide))⟩
theorem s_forget (ok : okX P) (h : rel P (cX N)) : P 24 0 = N 24 0 ∧ okX (st1 P 24 0 (nI 0)) ∧ rel (st1 P 24 0 (nI 0)) (cX (st1 N 24 0 (nI 0))) :=
  ⟨by rw [r_j h (j := 24) (by decide) (by decide) (by decide) (by decide)]; rfl, okX_clr ok, by rw [cX_st (by omega)]; exact r_st1 h (by decide) (by decide) (by decide) (by decide) (by decide)⟩
theorem s_cRu (okc : okC P) (h : rel P Q) {a v b w : Int32} : cRu P a v b w ↔ cRu Q a v b w := and_congr (r_isV okc h a v) (and_congr (r_isV okc h b w) Iff.rfl)
theorem cX_ru (N : St) (nb a v b w : Int32) : cX (ruN N nb a v b w) = ruX (cX N) nb a v b w := by
  funext j
  have eu : ∀ (k : Nat), k < 5 → ∀ i, (ruN N nb a v b w) 4 (5 * i + k) = upd (fun i => N 4 (5 * i + k)) (nr N) ([nb, a, v, b, w].getD k 0) i := by
    intro k hk i
    unfold ruN
    rw [st1_ne (by decide), st1_eq, st1_eq, st1_eq, st1_eq, st1_eq]
    simp only [upd]
    rcases (show k = 0 ∨ k = 1 ∨ k = 2 ∨ k = 3 ∨ k = 4 by omega) with rfl | rfl | rfl | rfl | rfl <;> (repeat' split) <;> first | rfl | omega
  by_cases h4 : j = 4
  · subst h4; funext i; exact eu 0 (by decide) i
  · by_cases h5 : j = 5
    · subst h5; funext i; exact eu 1 (by decide) i
    · by_cases h6 : j = 6
      · subst h6; funext i; exact eu 2 (by decide) i
      · by_cases h7 : j = 7
        · subst h7; funext i; exact eu 3 (by decide) i
        · by_cases h8 : j = 8
          · subst h8; funext i; exact eu 4 (by decide) i
          · unfold ruX ruN
            rw [cX_st (by omega)]
            by_cases h22 : j = 22
            · subst h22; rfl
            · rw [st1_ne h22, st1_ne h22, st1_ne h8, st1_ne h7, st1_ne h6, st1_ne h5, st1_ne h4]
              have es : ∀ i v (M : St), sz (st1 M 4 i v) = sz M := fun i v M => by funext k; unfold sz; rw [st1_ne (by decide)]
              unfold cX
              split <;> first | omega | rfl | (rw [es, es, es, es, es]) | (rw [st1_ne h4, st1_ne h4, st1_ne h4, st1_ne h4, st1_ne h4])
theorem r_ru {nb a v b w : Int32} (h : rel P Q) : rel (ruX P nb a v b w) (ruX Q nb a v b w) := by
  unfold ruX
  rw [r_nr h]
  exact r_st1 (r_st1 (r_st1 (r_st1 (r_st1 (r_st1 h (by decide) (by decide) (by decide) (by decide) (by decide)) (by decide) (by decide) (by decide) (by decide) (by decide)) (by decide) (by decide) (by decide) (by decide) (by decide)) (by decide) (by decide) (by decide) (by decide) (by decide)) (by decide) (by decide) (by decide) (by decide) (by decide)) (by decide) (by decide) (by decide) (by decide) (by decide)
theorem s_rule (ok : okX P) (h : rel P (cX N)) {nb : Int32} (hnb : nb = 0 ∨ nb = 1) (a v b w : Int32) : Frule P a v b w = Frule N a v b w ∧ okX (GruleX P nb a v b w) ∧ rel (GruleX P nb a v b w) (cX (GruleN N nb a v b w)) := by
  have e : nr P = nr N := r_nr (Q := cX N) h
  have hf : nI 12 ≤ P 22 0 ↔ nI 12 ≤ N 22 0 := by rw [r_j h (j := 22) (by decide) (by decide) (by decide) (by decide)]; exact Iff.rfl
  have hc : cRu P a v b w ↔ cRu N a v b w := s_cRu ok.1 h
  refine ⟨ite2 hc (fun _ => ite2 hf (fun _ => rfl) (fun _ => by rw [e])) (fun _ => rfl), oite (fun c => oite (fun _ => ok) (fun f => ok_ru ok hnb c (by have := okc_nr12 ok.1; have := mt (le12 ok.1).mpr f; omega))) (fun _ => ok), rite hc (fun _ => rite hf (fun _ => h) (fun _ => by rw [cX_ru]; exact r_ru h)) (fun _ => h)⟩
theorem s_eff (ok : okX P) (h : rel P (cX N)) (a v b w x : Int32) : Feff P a v b w x = Feff N a v b w x ∧ okX (Geff P a v b w x) ∧ rel (Geff P a v b w x) (cX (Geff N a v b w x)) := by
  have hc : cEf P a v x ↔ cEf N a v x := and_congr (r_isV ok.1 h a v) Iff.rfl
  have hg : cEg P a b w ↔ cEg N a b w := and_congr (r_isV ok.1 h b w) Iff.rfl
  refine ⟨ite2 hc (fun _ => ite2 Iff.rfl (fun _ => by rw [r_j h (j := 9) (by decide) (by decide) (by decide) (by decide)]; rfl) (fun _ => ite2 hg (fun _ => by rw [r_j h (j := 10) (by decide) (by decide) (by decide) (by decide)]; rfl) (fun _ => rfl))) (fun _ => rfl), oite (fun c => oite (fun _ => (ok_9 ok c.2).1) (fun _ => oite (fun _ => (ok_9 ok c.2).2.1) (fun _ => ok))) (fun _ => ok), rite hc (fun _ => rite Iff.rfl (fun _ => by rw [cX_st (by omega)]; exact r_st1 h (by decide) (by decide) (by decide) (by decide) (by decide)) (fun _ => rite hg (fun _ => by rw [cX_st (by omega)]; exact r_st1 h (by decide) (by decide) (by decide) (by decide) (by decide)) (fun _ => h))) (fun _ => h)⟩
theorem s_with (okc : okC P) (h : rel P Q) (x k v : Int32) : Fwith P x k v = Fwith Q x k v := by
  have h6 := okc_kn6 okc
  refine ite2 (and_congr (r_isS h x) (r_isV okc h k v)) (fun c => ?_) (fun _ => rfl)
  obtain ⟨a, ha, rfl⟩ := isK_nat okc c.2.1
  rw [cl_nI (by omega), r_mv h _ _ ha]
theorem s_value (okc : okC P) (h : rel P Q) (x k : Int32) : Fvalue P x k = Fvalue Q x k := by
  have h6 := okc_kn6 okc
  refine ite2 (and_congr (r_isS h x) (r_isK h k)) (fun c => ?_) (fun _ => rfl)
  obtain ⟨a, ha, rfl⟩ := isK_nat okc c.2
  rw [cl_nI (by omega), r_val h _ ha]
theorem s_all (ok : okX P) (h : rel P Q) (x : Int32) : FallX P x = FallX Q x := ite2 (r_isS h x) (fun _ => bI_congr (r_al ok h _)) (fun _ => rfl)
theorem s_worth (h : rel P Q) (x : Int32) : Fworth P x = Fworth Q x := ite2 (r_isS h x) (fun _ => r_wo h _) (fun _ => rfl)
theorem s_read (h : rel P Q) (i x : Int32) : Fread P i x = Fread Q i x := ite2 (and_congr (r_isT h i) Iff.rfl) (fun _ => ite2 Iff.rfl (fun _ => by rw [r_j h (j := 13) (by decide) (by decide) (by decide) (by decide)]) (fun _ => by rw [r_j h (j := 12) (by decide) (by decide) (by decide) (by decide)])) (fun _ => rfl)
theorem s_bound (okc : okC P) (h : rel P Q) (x y : Int32) : FboundX P x y = FboundX Q x y := ite2 (and_congr (r_isS h x) Iff.rfl) (fun _ => ite2 Iff.rfl (fun _ => by rw [(r_fl okc h _ _).1, r_nt h]) (fun _ => by rw [(r_fl okc h _ _).2, r_nt h])) (fun _ => rfl)
theorem s_wl (ok : okX P) (h : rel P Q) : wl P (lsA P) = wl Q (lsA Q) := by funext i; unfold wl; rw [r_wo h, r_L ok h]
theorem s_best (ok : okX P) (h : rel P Q) (b : Int32) : FbestX P b = FbestX Q b := by unfold FbestX bso; rw [s_wl ok h, r_L ok h]
theorem s_bar (ok : okX P) (h : rel P Q) : barP P = barP Q ∧ lr P = lr Q := by
  have e1 : lf P = lf Q := by funext i; unfold lf; rw [(r_fl ok.1 h _ _).1, r_nt h, r_L ok h]
  have e2 : lr P = lr Q := by funext i; unfold lr; rw [(r_fl ok.1 h _ _).2, r_nt h, r_L ok h]
  exact ⟨by unfold barP; rw [e1, r_L ok h], e2⟩
theorem s_lm (ok : okX P) (h : rel P Q) : lmP P = lmP Q ∧ noP P = noP Q := by
  obtain ⟨e1, e2⟩ := s_bar ok h
  exact ⟨by unfold lmP; rw [e1, e2, r_L ok h], by unfold noP; rw [e1, e2, r_L ok h]⟩
theorem s_sm (ok : okX P) (h : rel P Q) : smP P ↔ smP Q := by
  unfold smP smo
  rw [s_wl ok h, r_L ok h]
  exact forall_congr' (fun i => forall_congr' (fun _ => forall_congr' (fun j => forall_congr' (fun _ => by rw [r_off ok.1 h]))))
theorem s_left (ok : okX P) (h : rel P Q) (w : Int32) : FleftX P w = FleftX Q w := by
  obtain ⟨e1, e2⟩ := s_lm ok h
  exact ite2 Iff.rfl (fun _ => ite2 Iff.rfl (fun _ => bI_congr (s_sm ok h)) (fun _ => ite2 Iff.rfl (fun _ => by rw [e1]) (fun _ => by rw [e2, r_L ok h]))) (fun _ => rfl)
theorem s_nts (ok : okX P) (h : rel P Q) : nts P = nts Q := by
  obtain ⟨e1, e2⟩ := s_lm ok h
  unfold nts
  rw [e1, e2, r_L ok h, r_j h (j := 24) (by decide) (by decide) (by decide) (by decide), r_nz h, r_nt h]
  congr 1
  cases noP Q with
  | none => rfl
  | some j => dsimp only; rw [r_fi h]
theorem r_try (h : rel P Q) (x : Nat) : rel (tryP P x (wo P x)) (tryP Q x (wo Q x)) := by
  unfold tryP
  rw [r_nt h, r_sd h, r_nz h, r_wo h]
  exact r_st1 (r_st1 (r_st1 (r_st1 h (by decide) (by decide) (by decide) (by decide) (by decide)) (by decide) (by decide) (by decide) (by decide) (by decide)) (by decide) (by decide) (by decide) (by decide) (by decide)) (by decide) (by decide) (by decide) (by decide) (by decide)
theorem s_sr : ∀ (k : Nat) {P Q : St}, okX P → rel P Q → srN k P = srN k Q ∧ okX (srP k P) ∧ rel (srP k P) (srP k Q)
  | 0, _, _, ok, h => ⟨rfl, ok, h⟩
  | k + 1, P, Q, ok, h => by
    rw [srN, srN, srP, srP, ← s_nts ok h]
    cases hq : nts P with
    | none => exact ⟨rfl, ok, h⟩
    | some x =>
      dsimp only
      have := s_sr k (okX_try ok (nts_S hq) (nts_60 ok.1 hq)) (r_try h x)
      exact ⟨by rw [this.1], this.2⟩
theorem s_search (ok : okX P) (h : rel P Q) (t : Int32) : FsearchX P t = FsearchX Q t ∧ okX (GsearchX P t) ∧ rel (GsearchX P t) (GsearchX Q t) := by
  have e : (lsA P).length = 0 ↔ (lsA Q).length = 0 := by rw [r_L ok h]
  refine ⟨ite2 Iff.rfl (fun _ => ite2 e (fun _ => rfl) (fun _ => by rw [(s_sr _ ok h).1])) (fun _ => rfl), oite (fun _ => oite (fun _ => ok) (fun _ => (s_sr _ ok h).2.1)) (fun _ => ok), ?_⟩
  unfold GsearchX
  by_cases q : inR t (nI 1) (nI 30)
  · rw [if_pos q, if_pos q]
    by_cases q2 : (lsA P).length = 0
    · rw [if_pos q2, if_pos (e.mp q2)]; exact h
    · rw [if_neg q2, if_neg (fun z => q2 (e.mpr z))]; exact (s_sr _ ok h).2.2
  · rw [if_neg q, if_neg q]; exact h
theorem s_trial (ok : okX P) (h : rel P (cX N)) (x : Int32) : FtrialX P x = FtrialX (cX N) x ∧ okX (GtrialX P x) ∧ rel (GtrialX P x) (cX (if isS N x then (if alX (cX N) (cl x) then (if nI 60 ≤ N 24 0 then N else tryP N (cl x) (wo N (cl x))) else N) else N)) := by
  have h60 : nI 60 ≤ P 24 0 ↔ nI 60 ≤ cX N 24 0 := by rw [r_j h (j := 24) (by decide) (by decide) (by decide) (by decide)]
  have hs : isS P x ↔ isS N x := r_isS h x
  have hb := okc_S144 ok.1
  refine ⟨ite2 (r_isS h x) (fun _ => ite2 (r_al ok h _) (fun _ => ite2 h60 (fun _ => rfl) (fun _ => by rw [r_nt h])) (fun _ => rfl)) (fun _ => rfl), oite (fun c => oite (fun _ => oite (fun _ => ok) (fun f => ?_)) (fun _ => ok)) (fun _ => ok), rite hs (fun _ => rite (r_al ok h _) (fun _ => rite h60 (fun _ => h) (fun _ => by rw [cX_try]; exact r_try h _)) (fun _ => h)) (fun _ => h)⟩
  obtain ⟨a, ha, rfl⟩ := isS_nat ok.1 c
  rw [cl_nI (by omega)]
  exact okX_try ok ha (by have := okc_nt60 ok.1; have := mt (le60 ok.1).mpr f; omega)
theorem s_exc (okc : okC P) (h : rel P Q) (x a v u b w g : Int32) : Fexc P x a v u b w g = Fexc Q x a v u b w g := by
  have h6 := okc_kn6 okc
  have hc : cEx P x a v u b w g ↔ cEx Q x a v u b w g := and_congr (and_congr (r_isS h x) Iff.rfl) (and_congr (and_congr (r_isV okc h a v) (r_isV okc h a u)) (and_congr (r_isV okc h b w) (r_isV okc h b g)))
  refine ite2 hc (fun c => ?_) (fun _ => rfl)
  obtain ⟨a1, ha, rfl⟩ := isK_nat okc c.2.1.1.1
  obtain ⟨b1, hb, rfl⟩ := isK_nat okc c.2.2.1.1
  rw [cl_nI (by omega), cl_nI (by omega)]
  have e : ∀ x v w, exf P x a1 v b1 w = exf Q x a1 v b1 w := fun x v w => by unfold exf; rw [r_mv h _ _ ha, r_mv h _ _ hb, r_fi h]
  unfold exT exV
  rw [e, e, e, e, r_nt h, r_j h (j := 13) (by decide) (by decide) (by decide) (by decide)]
theorem s_back (ok : okX P) (h : rel P Q) (x y : Int32) : FbackX P x y = FbackX Q x y := by
  have e : ∀ x y k, k ≤ kn P → bkX P x y k = bkX Q x y k := by
    intro x y k
    induction k with
    | zero => intro _; rw [bkX, bkX]
    | succ k ih =>
      intro hk
      rw [bkX, bkX, ih (by omega), r_val h _ (show k < kn P by omega), r_mv h _ _ (show k < kn P by omega), r_wo h, r_wo h]
      exact ite2 (and_congr (r_al ok h _) Iff.rfl) (fun _ => rfl) (fun _ => rfl)
  exact ite2 (and_congr (r_isS h x) (r_isS h y)) (fun _ => by rw [e _ _ _ (Nat.le_refl _), r_kn h]) (fun _ => rfl)
end SAME
