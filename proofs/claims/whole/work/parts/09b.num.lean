/-! small numbers -/
theorem xin_of {i : Int32} {n : Nat} (hn : n < 2 ^ 31) (h1 : ¬ i < 0) (h2 : ¬ Int32.ofNat n ≤ i) : vp_in i n := by
  intro h
  rcases h with h | h
  · exact h1 h
  · apply h2
    rw [Int32.le_iff_toInt_le, show (Int32.ofNat n).toInt = (n : Int) from nI_toInt hn]
    rw [Int32.lt_iff_toInt_lt, Int32.toInt_zero] at h1
    have e : i.toNatClampNeg = i.toInt.toNat := by rfl
    rw [e] at h
    omega
theorem nI_inc (k : Nat) : nI k + Int32.ofInt 1 = nI (k + 1) := (nI_succ k).symm
theorem nI_decr (k : Nat) : nI (k + 1) + Int32.ofInt (-1) = nI k := by
  rw [nI_succ]
  have : Int32.ofInt (-1) = -1 := by decide
  rw [this, Int32.add_assoc]
  have : (1 : Int32) + -1 = 0 := by decide
  rw [this, Int32.add_zero]
theorem nI_mul (a b : Nat) : nI a * nI b = nI (a * b) := (Int32.ofNat_mul a b).symm
theorem nI_subn {a b : Nat} (h : b ≤ a) : nI a - nI b = nI (a - b) := (Int32.ofNat_sub a b h).symm
theorem nI_lt_iff {a b : Nat} (ha : a < 2 ^ 31) (hb : b < 2 ^ 31) : nI a < nI b ↔ a < b := by
  rw [Int32.lt_iff_toInt_lt, nI_toInt ha, nI_toInt hb]; omega
theorem nI_le_iff {a b : Nat} (ha : a < 2 ^ 31) (hb : b < 2 ^ 31) : nI a ≤ nI b ↔ a ≤ b := by
  rw [Int32.le_iff_toInt_le, nI_toInt ha, nI_toInt hb]; omega
/-- an int that is not below 0 and below n is a small number -/
theorem nI_ofi {i : Int32} {n : Nat} (hn : n < 2 ^ 31) (h1 : 0 ≤ i) (h2 : i < nI n) : ∃ k, k < n ∧ i = nI k := by
  rw [Int32.le_iff_toInt_le, Int32.toInt_zero] at h1
  rw [Int32.lt_iff_toInt_lt, nI_toInt hn] at h2
  refine ⟨i.toInt.toNat, by omega, ?_⟩
  rw [← Int32.toInt_inj, nI_toInt (by omega)]
  omega
theorem i_nlt {a b : Int32} : ¬ a < b ↔ b ≤ a := by
  rw [Int32.lt_iff_toInt_lt, Int32.le_iff_toInt_le]; omega
theorem i_nle {a b : Int32} : ¬ a ≤ b ↔ b < a := by
  rw [Int32.lt_iff_toInt_lt, Int32.le_iff_toInt_le]; omega
theorem nI_land31 {k : Nat} (h : k < 32) : nI k &&& 31 = nI k := by
  have : ∀ k, k < 32 → nI k &&& 31 = nI k := by decide +kernel
  exact this k h
section XRT
variable {G : xG} {cells slots pc : Nat} {L : List (Option Value)} {st : List Value} {S : xTS} {R : xTR} {I : xTI} {J : xTJ}
theorem x_topi {x v : Int32} (h : x = v) (k : XX G cells slots pc L (.int v :: st) S R I J) : XX G cells slots pc L (.int x :: st) S R I J := h ▸ k
theorem x_topl {x v : Int64} (h : x = v) (k : XX G cells slots pc L (.long v :: st) S R I J) : XX G cells slots pc L (.long x :: st) S R I J := h ▸ k
theorem x_nexti {x v : Int32} {w : Value} (h : x = v) (k : XX G cells slots pc L (w :: .int v :: st) S R I J) : XX G cells slots pc L (w :: .int x :: st) S R I J := h ▸ k
theorem x_I {I' : xTI} (h : I = I') (k : XX G cells slots pc L st S R I' J) : XX G cells slots pc L st S R I J := h ▸ k
theorem x_J {J' : xTJ} (h : J = J') (k : XX G cells slots pc L st S R I J') : XX G cells slots pc L st S R I J := h ▸ k
end XRT
section XRN
variable {G : xG} {own : String} {cc : ByteArray} {ret : Option FieldType} {cells slots pc : Nat} {L : List (Option Value)} {st : List Value} {S : xTS} {R : xTR} {I : xTI} {J : xTJ} {a n k : Nat}
theorem x_ialoadN (C0 : XC G own cc ret) (hs : S[a]? = some (11, n)) (hk : k < n) (hn : n < 2 ^ 31) (hd : decode cc pc = .ok (.iaload, 1)) (kk : XX G cells slots (pc + 1) L (.int (I a k) :: st) S R I J) : XX G cells slots pc L (.int (nI k) :: .ref a :: st) S R I J := x_iaload C0 hs (vp_in_nI hk hn) hd (by rw [nI_clamp (by omega)]; exact kk)
theorem x_caloadN (C0 : XC G own cc ret) (hs : S[a]? = some (13, n)) (hk : k < n) (hn : n < 2 ^ 31) (hd : decode cc pc = .ok (.caload, 1)) (kk : XX G cells slots (pc + 1) L (.int (I a k) :: st) S R I J) : XX G cells slots pc L (.int (nI k) :: .ref a :: st) S R I J := x_caload C0 hs (vp_in_nI hk hn) hd (by rw [nI_clamp (by omega)]; exact kk)
theorem x_baloadN (C0 : XC G own cc ret) (hs : S[a]? = some (14, n)) (hk : k < n) (hn : n < 2 ^ 31) (hd : decode cc pc = .ok (.baload, 1)) (kk : XX G cells slots (pc + 1) L (.int (I a k) :: st) S R I J) : XX G cells slots pc L (.int (nI k) :: .ref a :: st) S R I J := x_baload C0 hs (vp_in_nI hk hn) hd (by rw [nI_clamp (by omega)]; exact kk)
theorem x_laloadN (C0 : XC G own cc ret) (hs : S[a]? = some (12, n)) (hk : k < n) (hn : n < 2 ^ 31) (hd : decode cc pc = .ok (.laload, 1)) (kk : XX G cells slots (pc + 1) L (.long (J a k) :: st) S R I J) : XX G cells slots pc L (.int (nI k) :: .ref a :: st) S R I J := x_laload C0 hs (vp_in_nI hk hn) hd (by rw [nI_clamp (by omega)]; exact kk)
theorem x_iastoreN {x : Int32} (C0 : XC G own cc ret) (hs : S[a]? = some (11, n)) (hk : k < n) (hn : n < 2 ^ 31) (hd : decode cc pc = .ok (.iastore, 1)) (kk : XX G cells slots (pc + 1) L st S R (u2 I a k x) J) : XX G cells slots pc L (.int x :: .int (nI k) :: .ref a :: st) S R I J := x_iastore C0 hs (vp_in_nI hk hn) hd (by rw [nI_clamp (by omega)]; exact kk)
theorem x_lastoreN {x : Int64} (C0 : XC G own cc ret) (hs : S[a]? = some (12, n)) (hk : k < n) (hn : n < 2 ^ 31) (hd : decode cc pc = .ok (.lastore, 1)) (kk : XX G cells slots (pc + 1) L st S R I (u2 J a k x)) : XX G cells slots pc L (.long x :: .int (nI k) :: .ref a :: st) S R I J := x_lastore C0 hs (vp_in_nI hk hn) hd (by rw [nI_clamp (by omega)]; exact kk)
end XRN
/-- a bit of a mask -/
abbrev xbit (x : Int32) (k : Nat) : Prop := x >>> (nI k &&& 31) &&& 1 = 1
/-! what a hall is, where it lies -/
def isHall (S : xTS) (R : xTR) (h : Nat) : Prop := S[h]? = some (3, 7) ∧ S[h + 1]? = some (11, 8) ∧ S[h + 2]? = some (11, 36) ∧ S[h + 3]? = some (11, 6) ∧ R h 4 = some (h + 1) ∧ R h 5 = some (h + 2) ∧ R h 6 = some (h + 3)
def isFilm (S : xTS) (R : xTR) (f : Nat) : Prop := S[f]? = some (2, 12) ∧ S[f + 1]? = some (12, 6) ∧ S[f + 2]? = some (12, 6) ∧ S[f + 3]? = some (11, 8) ∧ S[f + 4]? = some (11, 8) ∧ S[f + 5]? = some (11, 6) ∧ S[f + 6]? = some (11, 6) ∧ S[f + 7]? = some (11, 6) ∧ S[f + 8]? = some (11, 192) ∧
  R f 4 = some (f + 1) ∧ R f 5 = some (f + 2) ∧ R f 6 = some (f + 3) ∧ R f 7 = some (f + 4) ∧ R f 8 = some (f + 5) ∧ R f 9 = some (f + 6) ∧ R f 10 = some (f + 7) ∧ R f 11 = some (f + 8)
