/-! what each call answers, and what it makes of the state: for class and reference alike, where they are alike -/
abbrev cl (x : Int32) : Nat := x.toNatClampNeg
abbrev inR (x a b : Int32) : Prop := a ≤ x ∧ x ≤ b
theorem cl_nI {a : Nat} (h : a < 2 ^ 31) : cl (nI a) = a := nI_clamp h
theorem inR_nat {x : Int32} {n : Nat} (hn : n < 2 ^ 31) (h : inR x (nI 0) (nI n)) : ∃ a : Nat, a ≤ n ∧ x = nI a := by
  obtain ⟨h0, h1⟩ := h
  rw [nI_0] at h0
  obtain ⟨j, hj, rfl⟩ := nI_of (x := x) (fun q => by rw [fa_lt] at q; rw [fa_le] at h0; omega)
  exact ⟨j, (nI_leI hj hn).mp h1, rfl⟩
abbrev knOK (P : St) (v : Int32) : Prop := P 20 0 < nI 6 ∧ P 21 0 * v ≤ nI 144
def Fknob (P : St) (v : Int32) : Int32 := if inR v (nI 2) (nI 4) then (if knOK P v then P 20 0 else -3) else -1
abbrev cPl (P : St) (k v p : Int32) : Prop := isV P k v ∧ inR p (-100) (nI 100)
def Fplace (P : St) (k v p : Int32) : Int32 := if cPl P k v p then P 2 (cl k * 4 + cl v) else -1000
def Gplace (P : St) (k v p : Int32) : St := if cPl P k v p then st1 P 2 (cl k * 4 + cl v) p else P
abbrev cSt (P : St) (k s : Int32) : Prop := isK P k ∧ inR s (nI 0) (nI 100)
def Fsteep (P : St) (k s : Int32) : Int32 := if cSt P k s then P 3 (cl k) else -1
def Gsteep (P : St) (k s : Int32) : St := if cSt P k s then st1 P 3 (cl k) s else P
abbrev cRu (P : St) (a v b w : Int32) : Prop := isV P a v ∧ isV P b w ∧ ¬ a = b
def Frule (P : St) (a v b w : Int32) : Int32 := if cRu P a v b w then (if nI 12 ≤ P 22 0 then -3 else nI (nr P + 1)) else -1
def ruX (P : St) (nb a v b w : Int32) : St := st1 (st1 (st1 (st1 (st1 (st1 P 4 (nr P) nb) 5 (nr P) a) 6 (nr P) v) 7 (nr P) b) 8 (nr P) w) 22 0 (nI (nr P + 1))
def GruleX (P : St) (nb a v b w : Int32) : St := if cRu P a v b w then (if nI 12 ≤ P 22 0 then P else ruX P nb a v b w) else P
def FnoRule (P : St) : Int32 := if nr P = 0 then -2 else nI (nr P - 1)
def GnoRule (P : St) : St := if nr P = 0 then P else st1 P 22 0 (nI (nr P - 1))
abbrev cEf (P : St) (a v e : Int32) : Prop := isV P a v ∧ inR e (-1000) (nI 1000)
abbrev cEg (P : St) (a b w : Int32) : Prop := isV P b w ∧ a < b
def Feff (P : St) (a v b w e : Int32) : Int32 := if cEf P a v e then (if b = -1 then P 9 (cl a * 4 + cl v) else if cEg P a b w then P 10 ((cl a * 4 + cl v) * 24 + (cl b * 4 + cl w)) else -10000) else -10000
def Geff (P : St) (a v b w e : Int32) : St := if cEf P a v e then (if b = -1 then st1 P 9 (cl a * 4 + cl v) e else if cEg P a b w then st1 P 10 ((cl a * 4 + cl v) * 24 + (cl b * 4 + cl w)) e else P) else P
def Fbase (P : St) (e : Int32) : Int32 := if inR e (-1000) (nI 1000) then P 23 0 else -10000
def Gbase (P : St) (e : Int32) : St := if inR e (-1000) (nI 1000) then st1 P 23 0 e else P
def Fnoise (P : St) (z : Int32) : Int32 := if inR z (nI 0) (nI 50) then P 25 0 else -1
def Gnoise (P : St) (z : Int32) : St := if inR z (nI 0) (nI 50) then st1 P 25 0 z else P
def Fseed (v : Int32) : Int32 := if inR v (nI 0) (nI 1073741823) then 0 else -1
def Gseed (P : St) (v : Int32) : St := if inR v (nI 0) (nI 1073741823) then st1 P 26 0 v else P
def Fwith (P : St) (x k v : Int32) : Int32 := if isS P x ∧ isV P k v then nI (mv P (cl x) (cl k) (cl v)) else -1
def Fvalue (P : St) (x k : Int32) : Int32 := if isS P x ∧ isK P k then nI (val P (cl x) (cl k)) else -1
def FallX (P : St) (x : Int32) : Int32 := if isS P x then bI (alX P (cl x)) else -1
def Fworth (P : St) (x : Int32) : Int32 := if isS P x then wo P (cl x) else -100000
def FtrialX (P : St) (x : Int32) : Int32 := if isS P x then (if alX P (cl x) then (if nI 60 ≤ P 24 0 then -3 else nI (nt P + 1)) else -2) else -1
def GtrialX (P : St) (x : Int32) : St := if isS P x then (if alX P (cl x) then (if nI 60 ≤ P 24 0 then P else tryP P (cl x) (wo P (cl x))) else P) else P
abbrev cRd (P : St) (i what : Int32) : Prop := isT P i ∧ inR what (nI 0) (nI 1)
def Fread (P : St) (i what : Int32) : Int32 := if cRd P i what then (if what = 0 then P 13 (cl i) else P 12 (cl i)) else -100000
abbrev cBd (P : St) (x what : Int32) : Prop := isS P x ∧ inR what (nI 0) (nI 1)
def FboundX (P : St) (x what : Int32) : Int32 := if cBd P x what then (if what = 0 then flX P (cl x) (nt P) else rfX P (cl x) (nt P)) else -10000000
def FcountX (P : St) (what : Int32) : Int32 := if what = nI 0 then P 20 0 else if what = nI 1 then P 21 0 else if what = nI 2 then P 22 0 else if what = nI 3 then P 24 0 else if what = nI 4 then nI (dst P) else if what = nI 5 then P 25 0 else -1
theorem if_t {α : Sort _} {c : Prop} [Decidable c] {a b : α} (h : c) : a = if c then a else b := (if_pos h).symm
theorem if_f {α : Sort _} {c : Prop} [Decidable c] {a b : α} (h : ¬ c) : b = if c then a else b := (if_neg h).symm
theorem okC_clr {P : St} (h : okC P) : okC (st1 P 24 0 (nI 0)) := ⟨h.1, h.2.1, h.2.2.1, h.2.2.2.1, ⟨rfl, Nat.zero_le _⟩, fun i hi => absurd hi (Nat.not_lt_zero i), h.2.2.2.2.2.2.1, h.2.2.2.2.2.2.2.1, h.2.2.2.2.2.2.2.2.1, h.2.2.2.2.2.2.2.2.2.1, fun i hi => absurd hi (Nat.not_lt_zero i)⟩
theorem okX_clr {P : St} (h : okX P) : okX (st1 P 24 0 (nI 0)) := ⟨okC_clr h.1, h.2⟩
theorem inR_nat2 {x : Int32} {b n : Nat} (hb : b < 2 ^ 31) (hn : n < 2 ^ 31) (h : inR x (nI b) (nI n)) : ∃ a : Nat, b ≤ a ∧ a ≤ n ∧ x = nI a := by
  obtain ⟨h0, h1⟩ := h
  have e := nI_toInt hb
  obtain ⟨j, hj, rfl⟩ := nI_of (x := x) (fun q => by rw [fa_lt] at q; rw [fa_le, e] at h0; have : Int32.toInt 0 = 0 := rfl; omega)
  exact ⟨j, (nI_leI hb hj).mp h0, (nI_leI hj hn).mp h1, rfl⟩
