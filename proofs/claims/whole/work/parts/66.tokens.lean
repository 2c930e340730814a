/-! TOKENS: what a tape holds -/
def bB (c : Nat) : Bool := c == 10 || c == 32
def bL (c : Nat) : Bool := 97 ≤ c && c ≤ 122
def bD (c : Nat) : Bool := 48 ≤ c && c ≤ 57
def rn (p : Nat → Bool) (tp : Nat → Nat) : Nat → Nat → Nat
  | 0, k => k
  | f + 1, k => if p (tp k) = true then rn p tp f (k + 1) else k
def rnTo (p : Nat → Bool) (tp : Nat → Nat) (n k : Nat) : Nat := rn p tp (n - k) k
theorem rnTo_end {p : Nat → Bool} {tp : Nat → Nat} {n k : Nat} (h : n ≤ k) : rnTo p tp n k = k := by
  unfold rnTo
  rw [show n - k = 0 by omega]; rfl
theorem rnTo_yes {p : Nat → Bool} {tp : Nat → Nat} {n k : Nat} (h : k < n) (g : p (tp k) = true) : rnTo p tp n k = rnTo p tp n (k + 1) := by
  unfold rnTo
  rw [show n - k = (n - (k + 1)) + 1 by omega]
  conv => lhs; unfold rn
  rw [if_pos g]
theorem rnTo_no {p : Nat → Bool} {tp : Nat → Nat} {n k : Nat} (h : k < n) (g : ¬ p (tp k) = true) : rnTo p tp n k = k := by
  unfold rnTo
  rw [show n - k = (n - (k + 1)) + 1 by omega]
  unfold rn
  rw [if_neg g]
theorem rn_ge (p : Nat → Bool) (tp : Nat → Nat) : ∀ f k, k ≤ rn p tp f k ∧ rn p tp f k ≤ k + f
  | 0, k => ⟨Nat.le_refl _, Nat.le_refl _⟩
  | f + 1, k => by
    have := rn_ge p tp f (k + 1)
    unfold rn
    split <;> omega
theorem rnTo_ge {p : Nat → Bool} {tp : Nat → Nat} {n k : Nat} : k ≤ rnTo p tp n k := (rn_ge p tp _ k).1
theorem rnTo_le {p : Nat → Bool} {tp : Nat → Nat} {n k : Nat} (h : k ≤ n) : rnTo p tp n k ≤ n := by
  have := (rn_ge p tp (n - k) k).2
  unfold rnTo
  omega
/-- at the end of a run there is the tape's end, or something else -/
theorem rn_stop (p : Nat → Bool) (tp : Nat → Nat) : ∀ f k, rn p tp f k < k + f → ¬ p (tp (rn p tp f k)) = true
  | 0, k, h => absurd h (by unfold rn; omega)
  | f + 1, k, h => by
    unfold rn at h ⊢
    by_cases g : p (tp k) = true
    · rw [if_pos g] at h ⊢
      exact rn_stop p tp f (k + 1) (by omega)
    · rw [if_neg g] at h ⊢
      exact g
theorem rnTo_stop {p : Nat → Bool} {tp : Nat → Nat} {n k : Nat} (hk : k ≤ n) (h : rnTo p tp n k < n) : ¬ p (tp (rnTo p tp n k)) = true := rn_stop p tp (n - k) k (by unfold rnTo at h; omega)
def wNm (tp : Nat → Nat) (k : Nat) : Nat → Nat
  | 0 => 0
  | j + 1 => wNm tp k j * 32 + (tp (k + j) - 96)
def dNm (tp : Nat → Nat) (k : Nat) : Nat → Nat
  | 0 => 0
  | j + 1 => dNm tp k j * 10 + (tp (k + j) - 48)
/-- kinds: 0 the end, 1 a word, 2 a number, 3 a sign, 4 none -/
def tKind (tp : Nat → Nat) (n k : Nat) : Nat := if n ≤ k then 0 else if bL (tp k) = true then (if rnTo bL tp n k - k ≤ 8 then 1 else 4) else if bD (tp k) = true then (if rnTo bD tp n k - k ≤ 4 then 2 else 4) else if sgB (tp k) = true then 3 else 4
def tEnd (tp : Nat → Nat) (n k : Nat) : Nat := if n ≤ k then k else if bL (tp k) = true then rnTo bL tp n k else if bD (tp k) = true then rnTo bD tp n k else k + 1
def tVal (tp : Nat → Nat) (n k : Nat) : Nat := if bL (tp k) = true then wNm tp k (rnTo bL tp n k - k) else if bD (tp k) = true then dNm tp k (rnTo bD tp n k - k) else tp k
/-- where token i - 1 ends -/
def tE (tp : Nat → Nat) (n : Nat) : Nat → Nat
  | 0 => 0
  | i + 1 => tEnd tp n (rnTo bB tp n (tE tp n i))
def tP (tp : Nat → Nat) (n i : Nat) : Nat := rnTo bB tp n (tE tp n i)
abbrev xTok : Type := Nat → Nat × Nat × Nat
def tTok (tp : Nat → Nat) (n : Nat) : xTok := fun i => (tKind tp n (tP tp n i), tVal tp n (tP tp n i), tP tp n i)
theorem tEnd_le {tp : Nat → Nat} {n k : Nat} (h : k ≤ n) : tEnd tp n k ≤ n ∧ (k < n → k < tEnd tp n k) := by
  unfold tEnd
  by_cases h0 : n ≤ k
  · rw [if_pos h0]; exact ⟨h, fun z => by omega⟩
  · rw [if_neg h0]
    split
    · rename_i g
      refine ⟨rnTo_le h, fun z => ?_⟩
      rw [rnTo_yes z g]
      exact rnTo_ge
    · split
      · rename_i g
        refine ⟨rnTo_le h, fun z => ?_⟩
        rw [rnTo_yes z g]
        exact rnTo_ge
      · omega
theorem tE_le {tp : Nat → Nat} {n : Nat} : ∀ i, tE tp n i ≤ n
  | 0 => Nat.zero_le _
  | i + 1 => (tEnd_le (rnTo_le (tE_le i))).1
theorem tP_le {tp : Nat → Nat} {n i : Nat} : tP tp n i ≤ n := rnTo_le (tE_le i)
theorem tE_grow {tp : Nat → Nat} {n : Nat} : ∀ i, i ≤ tE tp n i ∨ tE tp n i = n
  | 0 => Or.inl (Nat.zero_le _)
  | i + 1 => by
    have h1 := tE_grow (tp := tp) (n := n) i
    have h2 : tE tp n i ≤ rnTo bB tp n (tE tp n i) := rnTo_ge
    have h3 : rnTo bB tp n (tE tp n i) ≤ n := rnTo_le (tE_le i)
    have h4 := tEnd_le (tp := tp) h3
    show i + 1 ≤ tEnd tp n _ ∨ tEnd tp n _ = n
    by_cases h5 : rnTo bB tp n (tE tp n i) < n
    · have := h4.2 h5
      omega
    · have h6 : rnTo bB tp n (tE tp n i) = n := by omega
      rw [h6]
      right
      unfold tEnd
      rw [if_pos (Nat.le_refl n)]
theorem tKind_0 {tp : Nat → Nat} {n k : Nat} : tKind tp n k = 0 ↔ n ≤ k := by
  unfold tKind
  constructor
  · intro h
    by_cases g : n ≤ k
    · exact g
    · rw [if_neg g] at h
      repeat' split at h
      all_goals cases h
  · intro h; rw [if_pos h]
theorem tTok_end {tp : Nat → Nat} {n i : Nat} (h : n ≤ i) : (tTok tp n i).1 = 0 := by
  refine tKind_0.mpr ?_
  have h2 : tE tp n i ≤ tP tp n i := rnTo_ge
  rcases tE_grow (tp := tp) (n := n) i with g | g <;> omega
theorem bL_iff {c : Nat} : bL c = true ↔ 97 ≤ c ∧ c ≤ 122 := by simp [bL]
theorem bD_iff {c : Nat} : bD c = true ↔ 48 ≤ c ∧ c ≤ 57 := by simp [bD]
theorem bB_iff {c : Nat} : bB c = true ↔ c = 10 ∨ c = 32 := by simp [bB]
/-- what a run holds -/
theorem rn_all (p : Nat → Bool) (tp : Nat → Nat) : ∀ f k j, k ≤ j → j < rn p tp f k → p (tp j) = true
  | 0, k, j, h1, h2 => absurd h2 (by unfold rn; omega)
  | f + 1, k, j, h1, h2 => by
    unfold rn at h2
    by_cases g : p (tp k) = true
    · rw [if_pos g] at h2
      by_cases e : j = k
      · rw [e]; exact g
      · exact rn_all p tp f (k + 1) j (by omega) h2
    · rw [if_neg g] at h2; omega
theorem wNm_lt {tp : Nat → Nat} {k : Nat} : ∀ j, (∀ i, i < j → tp (k + i) ≤ 122) → wNm tp k j < 32 ^ j
  | 0, _ => Nat.zero_lt_one
  | j + 1, h => by
    have h1 := wNm_lt j (fun i hi => h i (by omega))
    have h2 := h j (by omega)
    unfold wNm
    rw [Nat.pow_succ]
    omega
theorem dNm_lt {tp : Nat → Nat} {k : Nat} : ∀ j, (∀ i, i < j → tp (k + i) ≤ 57) → dNm tp k j < 10 ^ j
  | 0, _ => Nat.zero_lt_one
  | j + 1, h => by
    have h1 := dNm_lt j (fun i hi => h i (by omega))
    have h2 := h j (by omega)
    unfold dNm
    rw [Nat.pow_succ]
    omega
/-- what a token's value keeps to -/
theorem tVal_lt {tp : Nat → Nat} {n k : Nat} (hc : ∀ i, i < n → tp i < 128) : (tKind tp n k = 1 → tVal tp n k < 2 ^ 40) ∧ (tKind tp n k = 2 → tVal tp n k < 10000) ∧ (tKind tp n k = 3 → tVal tp n k < 128) := by
  unfold tKind tVal
  by_cases h0 : n ≤ k
  · rw [if_pos h0]
    exact ⟨fun z => (by cases z), fun z => (by cases z), fun z => (by cases z)⟩
  · rw [if_neg h0]
    by_cases hl : bL (tp k) = true
    · rw [if_pos hl, if_pos hl]
      by_cases h8 : rnTo bL tp n k - k ≤ 8
      · rw [if_pos h8]
        refine ⟨fun _ => ?_, fun z => (by cases z), fun z => (by cases z)⟩
        have h1 := wNm_lt (tp := tp) (k := k) (rnTo bL tp n k - k) (fun i hi => (bL_iff.mp (rn_all bL tp (n - k) k (k + i) (by omega) (by have : rnTo bL tp n k = rn bL tp (n - k) k := rfl; omega))).2)
        have h2 : 32 ^ (rnTo bL tp n k - k) ≤ 32 ^ 8 := Nat.pow_le_pow_right (by decide) h8
        have h3 : (32 : Nat) ^ 8 = 2 ^ 40 := by decide
        omega
      · rw [if_neg h8]
        exact ⟨fun z => (by cases z), fun z => (by cases z), fun z => (by cases z)⟩
    · rw [if_neg hl, if_neg hl]
      by_cases hd : bD (tp k) = true
      · rw [if_pos hd, if_pos hd]
        by_cases h8 : rnTo bD tp n k - k ≤ 4
        · rw [if_pos h8]
          refine ⟨fun z => (by cases z), fun _ => ?_, fun z => (by cases z)⟩
          have h1 := dNm_lt (tp := tp) (k := k) (rnTo bD tp n k - k) (fun i hi => (bD_iff.mp (rn_all bD tp (n - k) k (k + i) (by omega) (by have : rnTo bD tp n k = rn bD tp (n - k) k := rfl; omega))).2)
          have h2 : 10 ^ (rnTo bD tp n k - k) ≤ 10 ^ 4 := Nat.pow_le_pow_right (by decide) h8
          omega
        · rw [if_neg h8]
          exact ⟨fun z => (by cases z), fun z => (by cases z), fun z => (by cases z)⟩
      · rw [if_neg hd, if_neg hd]
        exact ⟨fun z => (by split at z <;> cases z), fun z => (by split at z <;> cases z), fun _ => hc k (by omega)⟩
/-- the WORDS' codes -/
def wCd (i : Nat) : Nat := ([21243335, 20026821, 25779, 463, 22483122, 24750694578, 21583476, 24162675, 643122, 150637203, 631287, 24716933, 3764, 656779, 1279278, 5170, 5925, 81544, 3417476, 14836, 1476, 498, 3540584, 72754342, 15492, 627886] : List Nat).getD i 0
theorem wCd_code : ∀ i, i < 26 → xWcode i = Int64.ofNat (wCd i) := by decide +kernel
theorem wCd_lt : ∀ i, i < 26 → wCd i < 2 ^ 40 := by decide +kernel
theorem wCd_inj : ∀ i, i < 26 → ∀ j, j < 26 → wCd i = wCd j → i = j := by decide +kernel
theorem l_inj {a b : Nat} (ha : a < 2 ^ 63) (hb : b < 2 ^ 63) : Int64.ofNat a = Int64.ofNat b ↔ a = b := by
  constructor
  · intro h
    have := congrArg Int64.toInt h
    rw [l_toInt ha, l_toInt hb] at this
    omega
  · intro h; rw [h]
def wFind (v : Int64) : Nat → Option Nat
  | 0 => none
  | n + 1 => match wFind v n with
    | some i => some i
    | none => if xWcode n = v then some n else none
theorem wFind_no {v : Int64} {n : Nat} (h : wFind v n = none) (g : ¬ xWcode n = v) : wFind v (n + 1) = none := by
  unfold wFind
  rw [h]
  exact if_neg g
theorem wFind_hit {v : Int64} {n : Nat} (h : wFind v n = none) (g : xWcode n = v) : ∀ p, wFind v (n + 1 + p) = some n
  | 0 => by
    unfold wFind
    rw [h]
    exact if_pos g
  | p + 1 => by
    rw [← Nat.add_assoc]
    unfold wFind
    rw [wFind_hit h g p]
theorem wFind_some {v : Int64} {i : Nat} : ∀ n, wFind v n = some i → i < n ∧ xWcode i = v
  | 0, h => by cases h
  | n + 1, h => by
    unfold wFind at h
    cases e : wFind v n with
    | some j =>
      rw [e] at h
      cases h
      have := wFind_some n e
      exact ⟨by omega, this.2⟩
    | none =>
      rw [e] at h
      by_cases g : xWcode n = v
      · rw [show (match (none : Option Nat) with | some i => some i | none => if xWcode n = v then some n else none) = some n from if_pos g] at h
        cases h
        exact ⟨by omega, g⟩
      · rw [show (match (none : Option Nat) with | some i => some i | none => if xWcode n = v then some n else none) = none from if_neg g] at h
        cases h
theorem wFind_none {v : Int64} : ∀ n, wFind v n = none → ∀ i, i < n → ¬ xWcode i = v
  | 0, _, i, hi => absurd hi (by omega)
  | n + 1, h, i, hi => by
    unfold wFind at h
    cases e : wFind v n with
    | some j => rw [e] at h; cases h
    | none =>
      rw [e] at h
      by_cases g : xWcode n = v
      · rw [show (match (none : Option Nat) with | some i => some i | none => if xWcode n = v then some n else none) = some n from if_pos g] at h
        cases h
      · by_cases z : i = n
        · rw [z]; exact g
        · exact wFind_none n e i (by omega)
theorem wFind_word {v i : Nat} (hv : v < 2 ^ 40) (hi : i < 26) : wFind (Int64.ofNat v) 26 = some i ↔ v = wCd i := by
  constructor
  · intro h
    have := (wFind_some 26 h).2
    rw [wCd_code i hi, l_inj (by have := wCd_lt i hi; omega) (by omega)] at this
    exact this.symm
  · intro h
    cases e : wFind (Int64.ofNat v) 26 with
    | none => exact absurd (by rw [wCd_code i hi, h]) (wFind_none 26 e i hi)
    | some j =>
      obtain ⟨h1, h2⟩ := wFind_some 26 e
      rw [wCd_code j h1, l_inj (by have := wCd_lt j h1; omega) (by omega), h] at h2
      rw [wCd_inj j h1 i hi h2]
theorem c_X10_named {S : xTS} {R : xTR} {I : xTI} {J : xTJ} {post : xPost} {v : Int64} (hp : post (some (va_rf ((wFind v 26).map (10000 + ·)))) S R I J) : xSpec 1 yX10_named cX10_named 3 (some (.object "FilmFoot$Word")) 0 0 [.long v] S R I J post := by
  refine xSpec_of mt_X10_named (Nat.le_of_ble_eq_true rfl) (fun G C0 hN hR E hI hZ => ?_)
  change XX G 0 0 0 [some (.long v), none, none] [] S R I J
  have h2 : ∀ q k, k + q = 26 → wFind v k = none → XX G 0 0 2 [some (.long v), none, some (.int (nI k))] [] S R I J := by
    intro q
    induction q with
    | zero =>
      intro k hk hd
      have hk8 : k = 26 := by omega
      subst hk8
      refine x_iload_n C0 rfl dX10_named_2 ?_
      refine x_wall C0 ww_all dX10_named_3 ?_
      refine x_wlen C0 dX10_named_6 ?_
      refine x_icmp_ge (tgt := 43) C0 (by decide) dX10_named_7 (fun _ => ?_) (fun hkk => absurd ((Int32.le_refl _)) hkk)
      refine x_null C0 dX10_named_43 ?_
      refine x_aret (r := none) C0 E (by decide) (by decide) dX10_named_44 ?_
      rw [hd] at hp
      exact hp
    | succ q ih =>
      intro k hk hd
      refine x_iload_n C0 rfl dX10_named_2 ?_
      refine x_wall C0 ww_all dX10_named_3 ?_
      refine x_wlen C0 dX10_named_6 ?_
      refine x_icmp_ge (tgt := 43) C0 (by decide) dX10_named_7 (fun hkk => absurd hkk ((nI_ge (by omega) (by omega)))) (fun _ => ?_)
      refine x_wall C0 ww_all dX10_named_10 ?_
      refine x_iload_n C0 rfl dX10_named_13 ?_
      refine x_wat C0 (by omega) dX10_named_14 ?_
      refine x_ifnull C0 dX10_named_15 ?_
      refine x_wall C0 ww_all dX10_named_18 ?_
      refine x_iload_n C0 rfl dX10_named_21 ?_
      refine x_wat C0 (by omega) dX10_named_22 ?_
      refine x_wcode C0 (by omega) ww_code dX10_named_23 ?_
      refine x_lload_n C0 rfl dX10_named_26 ?_
      refine x_lcmp C0 dX10_named_27 ?_
      refine x_if_ne (tgt := 37) C0 (by decide) dX10_named_28 (fun g28 => ?_) (fun g28 => ?_)
      · refine x_iinc (v := nI (k + 1)) (L' := [_, _, _]) C0 hN rfl (by decide) (nI_inc k) rfl dX10_named_37 ?_
        refine x_goto (tgt := 2) C0 (by decide) dX10_named_40 ?_
        exact ih (k + 1) (by omega) (wFind_no hd (fun z => g28 ((lg_cmp_eq _ _).mpr z)))
      · refine x_wall C0 ww_all dX10_named_31 ?_
        refine x_iload_n C0 rfl dX10_named_34 ?_
        refine x_wat C0 (by omega) dX10_named_35 ?_
        refine x_aret (r := some (10000 + k)) C0 E (by decide) (by decide) dX10_named_36 ?_
        have e := wFind_hit hd ((lg_cmp_eq _ _).mp g28) (25 - k)
        rw [show k + 1 + (25 - k) = 26 by omega] at e
        rw [e] at hp
        exact hp
  refine x_iconst (v := nI 0) C0 rfl dX10_named_0 ?_
  refine x_istore_n (L' := [_, _, _]) C0 hN (by decide) rfl dX10_named_1 ?_
  exact h2 26 0 (by decide) rfl
