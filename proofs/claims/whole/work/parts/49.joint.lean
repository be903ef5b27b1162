/-! both answers, and both states after a call -/
section JOINT
variable {P N P' N' : St} {r r' : Int32}
theorem jmk {a b : Int32} {A B : St} (hp : r = a ∧ P' = A) (hn : r' = b ∧ N' = B) (s : a = b ∧ okX A ∧ rel A (cX B)) : r = r' ∧ okX P' ∧ rel P' (cX N') := by
  obtain ⟨rfl, rfl⟩ := hp
  obtain ⟨rfl, rfl⟩ := hn
  exact s
theorem jrd {a b : Int32} (ok : okX P) (h : rel P (cX N)) (hp : r = a ∧ P' = P) (hn : r' = b ∧ N' = N) (s : a = b) : r = r' ∧ okX P' ∧ rel P' (cX N') := jmk hp hn ⟨s, ok, h⟩
theorem e_with (N : St) (x k v : Int32) : Fwith (cX N) x k v = Fwith N x k v := rfl
theorem e_value (N : St) (x k : Int32) : Fvalue (cX N) x k = Fvalue N x k := rfl
theorem e_worth (N : St) (x : Int32) : Fworth (cX N) x = Fworth N x := rfl
theorem e_read (N : St) (x y : Int32) : Fread (cX N) x y = Fread N x y := rfl
theorem e_bound (N : St) (x y : Int32) : FboundX (cX N) x y = FboundX N x y := by
  unfold FboundX
  rw [flX_c, rfX_c]
  rfl
theorem e_exc (N : St) (x a v u b w g : Int32) : Fexc (cX N) x a v u b w g = Fexc N x a v u b w g := rfl
theorem e_pairs (N : St) (a v w x : Int32) : FpairsN (cX N) a v w x = FpairsN N a v w x := rfl
theorem e_count (N : St) (x : Int32) : FcountN (cX N) x = FcountN N x := rfl
theorem rl_c (N : St) (x : Nat) : ∀ n, rl (cX N) x n = rl N x n
  | 0 => rfl
  | n + 1 => by
    rw [rl, rl, rl_c N x n]
    rfl
theorem odds_c (N : St) (x y : Nat) : cwN (cX N) x y = cwN N x y ∧ awN (cX N) x y = awN N x y := by
  have e : nt (cX N) = nt N := rfl
  have e1 : rdn (cX N) x y = rdn N x y := by unfold rdn; rw [rl_c, rl_c, e]
  have e2 : leN (cX N) x y = leN N x y := by unfold leN; rw [e1, rl_c, e]
  have e3 : DN (cX N) x y = DN N x y := by unfold DN; rw [e1, rl_c, e]
  exact ⟨by unfold cwN; rw [e2, e3], by unfold awN; rw [e3]⟩
theorem j_knob (ok : okX P) (h : rel P (cX N)) {v : Int32} (hp : r = Fknob P v ∧ (inR v (nI 2) (nI 4) ∧ knOK P v → addR (st1 P 24 0 (nI 0)) (cl v) P') ∧ (¬ (inR v (nI 2) (nI 4) ∧ knOK P v) → P' = P)) (hn : r' = Fknob N v ∧ (inR v (nI 2) (nI 4) ∧ knOK N v → addN N (cl v) N') ∧ (¬ (inR v (nI 2) (nI 4) ∧ knOK N v) → N' = N)) : r = r' ∧ okX P' ∧ rel P' (cX N') := by
  have okc := ok.1
  have hS144 := okc_S144 okc
  have hk6 := okc_kn6 okc
  have e20 : P 20 = N 20 := r_j h (j := 20) (by decide) (by decide) (by decide) (by decide)
  have e21 : P 21 = N 21 := r_j h (j := 21) (by decide) (by decide) (by decide) (by decide)
  have e24 : P 24 = N 24 := r_j h (j := 24) (by decide) (by decide) (by decide) (by decide)
  have ek : kn P = kn N := r_kn (Q := cX N) h
  have eS : nS P = nS N := r_S (Q := cX N) h
  have hc : (inR v (nI 2) (nI 4) ∧ knOK P v) ↔ (inR v (nI 2) (nI 4) ∧ knOK N v) := by unfold knOK; rw [e20, e21]
  refine ⟨?_, ?_⟩
  · rw [hp.1, hn.1]; unfold Fknob knOK; rw [e20, e21]
  · by_cases q : inR v (nI 2) (nI 4) ∧ knOK P v
    · have a := hp.2.1 q
      have b := hn.2.1 (hc.mp q)
      clear hp hn
      obtain ⟨q1, q2⟩ := q
      obtain ⟨v2, h2, h4, rfl⟩ := inR_nat2 (b := 2) (n := 4) (by decide) (by decide) q1
      have hm : nS P * v2 < 2 ^ 31 := Nat.lt_of_le_of_lt (Nat.mul_le_mul hS144 h4) (by decide)
      rw [knOK, okc_kn okc, okc_S okc, pk_mul, nI_ltI (by omega) (by decide), nI_leI hm (by decide)] at q2
      rw [cl_nI (by omega)] at a b
      have ok' := ok_add (okX_clr ok) ⟨h2, h4⟩ (show kn P < 6 from q2.1) (show nS P * v2 ≤ 144 from q2.2) rfl a
      obtain ⟨a20, a21, a0, a1, a2, ar⟩ := a
      obtain ⟨b20, b21, b0, b24, b2, br⟩ := b
      have c20 : P' 20 = upd (P 20) 0 (nI (kn P + 1)) := a20
      have c21 : P' 21 = upd (P 21) 0 (nI (nS P * v2)) := a21
      have c0 : P' 0 = upd (P 0) (kn P) (nI v2) := a0
      have c2 : ∀ i, P' 2 i = if kn P * 4 ≤ i ∧ i < kn P * 4 + v2 then nI (i - kn P * 4) else P 2 i := a2
      have ekn : kn P' = kn P + 1 := by
        show (P' 20 0).toNatClampNeg = _
        rw [c20, upd_0]; exact nI_clamp (by omega)
      refine ⟨ok', fun j h0 h1 h2 h3 => ?_, fun k hk => ?_, fun k hk w hw => ?_⟩
      · by_cases q20 : j = 20
        · subst q20
          show P' 20 = N' 20
          rw [c20, b20, e20, ek]
        · by_cases q21 : j = 21
          · subst q21
            show P' 21 = N' 21
            rw [c21, b21, e21, eS]
          · by_cases q24 : j = 24
            · subst q24
              show P' 24 = N' 24
              rw [ar 24 (by decide) (by decide) (by decide) (by decide) (by decide), b24, st1_eq, e24]
            · rw [ar j h0 h1 h2 q20 q21, st1_ne q24, r_j h h0 h1 h2 h3]
              have b4 := br 4 (by decide) (by decide) (by decide) (by decide) (by decide)
              have bj := br j h0 h2 q20 q21 q24
              unfold cX
              split <;> first | omega | (rw [b4]) | (rw [bj])
      · rw [ekn] at hk
        show P' 0 k = N' 0 k
        rw [c0, b0, ← ek]
        by_cases qk : k = kn P
        · rw [qk, upd_0, upd_0]
        · rw [pk_un qk, pk_un qk]; exact h.2.1 k (by omega)
      · rw [ekn] at hk
        show P' 2 (k * 4 + w) = N' 2 (k * 4 + w)
        rw [c2, b2, ← ek]
        have hz : sz P' k = if k = kn P then v2 else sz P k := by
          show (P' 0 k).toNatClampNeg = _
          rw [c0]
          by_cases qk : k = kn P
          · rw [if_pos qk, qk, upd_0]; exact nI_clamp (by omega)
          · rw [if_neg qk, pk_un qk]; rfl
        by_cases qk : k = kn P
        · rw [hz, if_pos qk] at hw
          rw [if_pos (by omega), if_pos (by omega)]
        · rw [hz, if_neg qk] at hw
          have := (okc_sz2 okc (show k < kn P by omega)).2
          rw [if_neg (by omega), if_neg (by omega)]
          exact h.2.2 k (by omega) w hw
    · rw [hp.2.2 q, hn.2.2 (fun z => q (hc.mpr z))]
      exact ⟨ok, h⟩
theorem j_search (ok : okX P) (h : rel P (cX N)) {t : Int32} (hp : r = FsearchX P t ∧ P' = GsearchX P t) (hn : r' = FsearchX (cX N) t ∧ cX N' = GsearchX (cX N) t ∧ okN N') : r = r' ∧ okX P' ∧ rel P' (cX N') := by
  have s := s_search ok h t
  rw [hp.1, hp.2, hn.1, hn.2.1]
  exact s
theorem j_book (ok : okX P) (h : rel P (cX N)) (hp : r = nI (alL P (nS P)).length ∧ P' = P) (hn : r' = nI (AL N (nS N)).length ∧ N' = N) : r = r' ∧ okX P' ∧ rel P' (cX N') :=
  jrd ok h hp hn (congrArg (fun L : List Nat => nI L.length) (show lsA P = lsA (cX N) from r_L ok h))
theorem j_joint (ok : okX P) (h : rel P (cX N)) {x a v u b w g : Int32} (hp : r = Fjt (Fexc P x a v u b w g) (nz P) ∧ P' = P) (hn : r' = Fjt (Fexc N x a v u b w g) (nz N) ∧ N' = N) : r = r' ∧ okX P' ∧ rel P' (cX N') :=
  jrd ok h hp hn (by rw [s_exc ok.1 h, e_exc, show nz P = nz N from r_nz (Q := cX N) h])
theorem j_odds (ok : okX P) (h : rel P (cX N)) {x y w : Int32} (hp : r = FoddsX P x y w ∧ P' = P) (hn : r' = (if cTw N x y ∧ inR w (nI 0) (nI 1) then (if cTr N (cl x) (cl y) then (if w = 0 then cwN N (cl x) (cl y) else awN N (cl x) (cl y)) else -2) else -1) ∧ N' = N) : r = r' ∧ okX P' ∧ rel P' (cX N') := by
  refine jrd ok h hp hn ((s_odds h x y w).trans ?_)
  rw [(odds_c N _ _).1, (odds_c N _ _).2]
  rfl
theorem j_safe (ok : okX P) (h : rel P (cX N)) {x y a b : Int32} (hp : r = FsafeX P x y a b ∧ P' = P) (hn : r' = (if cTw N x y ∧ inR a (nI 0) (nI 1000) ∧ inR b (nI 1) (nI 1000) then (if cTr N (cl x) (cl y) then bI (cwN N (cl x) (cl y) * b ≤ a * awN N (cl x) (cl y)) else -2) else -1) ∧ N' = N) : r = r' ∧ okX P' ∧ rel P' (cX N') := by
  refine jrd ok h hp hn ((s_safe h x y a b).trans ?_)
  rw [(odds_c N _ _).1, (odds_c N _ _).2]
  rfl
end JOINT
