/-! THE TAPE of the class: its signs and tokens -/
def CTp (I : xTI) (tp : Nat → Nat) (n : Nat) : Prop := I 1 1 = nI n ∧ n ≤ 1000 ∧ ∀ i, i < n → I 2 i = nI (tp i) ∧ tp i < 128
/-- what reading leaves -/
def TFr (R : xTR) (I : xTI) (J : xTJ) (R' : xTR) (I' : xTI) (J' : xTJ) : Prop := (∀ a, a ≠ 1 → I' a = I a) ∧ I' 1 1 = I 1 1 ∧ (∀ a, a ≠ 1 → J' a = J a) ∧ (∀ a k, a ≠ 1 ∨ k ≠ 7 → R' a k = R a k)
theorem TFr.rf {R : xTR} {I : xTI} {J : xTJ} : TFr R I J R I J := ⟨fun _ _ => rfl, rfl, fun _ _ => rfl, fun _ _ _ => rfl⟩
theorem TFr.trans {R R1 R2 : xTR} {I I1 I2 : xTI} {J J1 J2 : xTJ} (a : TFr R I J R1 I1 J1) (b : TFr R1 I1 J1 R2 I2 J2) : TFr R I J R2 I2 J2 := ⟨fun q h => (b.1 q h).trans (a.1 q h), b.2.1.trans a.2.1, fun q h => (b.2.2.1 q h).trans (a.2.2.1 q h), fun q k h => (b.2.2.2 q k h).trans (a.2.2.2 q k h)⟩
theorem TFr.st {R : xTR} {I : xTI} {J : xTJ} {k : Nat} {v : Int32} (h : k ≠ 1) : TFr R I J R (u2 I 1 k v) J := ⟨fun a g => u2_row _ _ _ g, u2_off _ _ (fun z => h z.symm), fun _ _ => rfl, fun _ _ _ => rfl⟩
theorem TFr.stJ {R : xTR} {I : xTI} {J : xTJ} {k : Nat} {v : Int64} : TFr R I J R I (u2 J 1 k v) := ⟨fun _ _ => rfl, rfl, fun a g => u2_row _ _ _ g, fun _ _ _ => rfl⟩
theorem TFr.stR {R : xTR} {I : xTI} {J : xTJ} {r : Option Nat} : TFr R I J (u2 R 1 7 r) I J := ⟨fun _ _ => rfl, rfl, fun _ _ => rfl, fun a k g => by
  unfold u2
  rw [if_neg (by omega)]⟩
theorem rtab_17 : ∀ q ∈ RTAB, q.1 ≠ 1 ∨ q.2.1 ≠ 7 := by decide +kernel
theorem fixd.tfr {S : xTS} {R R' : xTR} {I I' : xTI} {J J' : xTJ} (h : fixd S R) (f : TFr R I J R' I' J') : fixd S R' := ⟨h.1, fun q hq => (f.2.2.2 _ _ (rtab_17 q hq)).trans (h.2 q hq)⟩
theorem CTp.tfr {R R' : xTR} {I I' : xTI} {J J' : xTJ} {tp : Nat → Nat} {n : Nat} (h : CTp I tp n) (f : TFr R I J R' I' J') : CTp I' tp n := ⟨f.2.1.trans h.1, h.2.1, fun i hi => by rw [f.1 2 (by decide)]; exact h.2.2 i hi⟩
def wOr (r : Option Nat) : Prop := r = none ∨ ∃ i, i < 26 ∧ r = some (10000 + i)
theorem wOr_find (v : Int64) : wOr ((wFind v 26).map (10000 + ·)) := by
  cases e : wFind v 26 with
  | none => exact Or.inl rfl
  | some i => exact Or.inr ⟨i, (wFind_some 26 e).1, rfl⟩
def kC (k : Nat) : Nat := if k = 0 then 0 else if k = 1 then 2 else if k = 2 then 3 else if k = 3 then 4 else 1
abbrev wRef (v : Nat) : Option Nat := (wFind (Int64.ofNat v) 26).map (10000 + ·)
/-- the tape stands at token s.1, with fault s.2 (0: none) -/
def TAt (R : xTR) (I : xTI) (J : xTJ) (tp : Nat → Nat) (n : Nat) (s : Nat × Nat) : Prop := I 1 8 = nI s.2 ∧ s.2 < 20000 ∧ wOr (R 1 7) ∧
  (s.2 = 0 → I 1 2 = nI (tE tp n (s.1 + 1)) ∧ I 1 3 = nI (tP tp n s.1) ∧ I 1 4 = nI (kC (tTok tp n s.1).1) ∧ ((tTok tp n s.1).1 = 1 → J 1 6 = Int64.ofNat (tTok tp n s.1).2.1 ∧ R 1 7 = wRef (tTok tp n s.1).2.1) ∧ ((tTok tp n s.1).1 = 2 ∨ (tTok tp n s.1).1 = 3 → I 1 5 = nI (tTok tp n s.1).2.1))
theorem TAt.congr {R R' : xTR} {I I' : xTI} {J J' : xTJ} {tp : Nat → Nat} {n : Nat} {s : Nat × Nat} (h : TAt R I J tp n s) (e1 : I' 1 = I 1) (e2 : J' 1 = J 1) (e3 : R' 1 7 = R 1 7) : TAt R' I' J' tp n s := by
  unfold TAt at h ⊢
  rw [e1, e2, e3]
  exact h
theorem nar_c {c : Nat} (h : c < 128) : narrow .char (.int (nI c)) = .int (nI c) := (pk_charN (by omega)).1
theorem x_nextl {G : xG} {cells slots pc : Nat} {L : List (Option Value)} {st : List Value} {S : xTS} {R : xTR} {I : xTI} {J : xTJ} {x v : Int64} {w : Value} (h : x = v) (k : XX G cells slots pc L (w :: .long v :: st) S R I J) : XX G cells slots pc L (w :: .long x :: st) S R I J := h ▸ k
theorem c_X9_signAt {S : xTS} {R : xTR} {I : xTI} {J : xTJ} {post : xPost} (hS : fixd S R) {tp : Nat → Nat} {n : Nat} (T : CTp I tp n) {k : Nat} (hk : k < 100000) (h1 : k < n → post (some (.int (nI (tp k)))) S R I J) (h0 : ¬ k < n → post (some (.int (nI 0))) S R I J) : xSpec 1 yX9_signAt cX9_signAt 2 (some .char) 0 0 [.ref 1, .int (nI k)] S R I J post := by
  refine xSpec_of mt_X9_signAt (Nat.le_of_ble_eq_true rfl) (fun G C0 hN hR E hI hZ => ?_)
  change XX G 0 0 0 [some (.ref 1), some (.int (nI k))] [] S R I J
  have s1 := hS.sTape
  have s2 := hS.sSigns
  have r0 := hS.rSigns
  obtain ⟨t1, t2, t3⟩ := id T
  refine x_iload_n C0 rfl dX9_signAt_0 ?_
  refine x_if_lt (tgt := 30) C0 (by decide) dX9_signAt_1 (fun hkk => absurd hkk (nI_pos (by omega))) (fun _ => ?_)
  refine x_iload_n C0 rfl dX9_signAt_4 ?_
  refine x_aload_n C0 rfl dX9_signAt_5 ?_
  refine x_getI C0 wf_X9_17 (by assumption) rfl dX9_signAt_6 ?_
  refine x_topi t1 ?_
  refine x_icmp_ge (tgt := 30) C0 (by decide) dX9_signAt_9 (fun g9 => ?_) (fun g9 => ?_)
  · refine x_iconst (v := nI 0) C0 rfl dX9_signAt_30 ?_
    refine x_zret C0 E (by decide) (by decide) (nar_c (by decide)) dX9_signAt_31 ?_
    exact h0 (fun z => absurd g9 (nI_ge z (by omega)))
  · have hkn : k < n := Nat.lt_of_not_le (fun z => g9 ((nI_le_iff (by omega) (by omega)).mpr z))
    refine x_iload_n C0 rfl dX9_signAt_12 ?_
    refine x_aload_n C0 rfl dX9_signAt_13 ?_
    refine x_getR C0 wf_X9_9 (by assumption) rfl rfl (by assumption) dX9_signAt_14 ?_
    refine x_alen C0 (by assumption) (by decide) (by decide) rfl dX9_signAt_17 ?_
    refine x_icmp_ge (tgt := 30) C0 (by decide) dX9_signAt_18 (fun hkk => absurd hkk (nI_ge (b := 1000) (by omega) (by omega))) (fun _ => ?_)
    refine x_aload_n C0 rfl dX9_signAt_21 ?_
    refine x_getR C0 wf_X9_9 (by assumption) rfl rfl (by assumption) dX9_signAt_22 ?_
    refine x_iload_n C0 rfl dX9_signAt_25 ?_
    refine x_caloadN C0 (by assumption) (by omega) (by omega) dX9_signAt_26 ?_
    refine x_topi (t3 k hkn).1 ?_
    refine x_goto (tgt := 31) C0 (by decide) dX9_signAt_27 ?_
    refine x_zret C0 E (by decide) (by decide) (nar_c (t3 k hkn).2) dX9_signAt_31 ?_
    exact h1 hkn
theorem c_X9_isLetter {S : xTS} {R : xTR} {I : xTI} {J : xTJ} {post : xPost} {c : Nat} (hc : c < 100000) (h1 : bL c = true → post (some (.int 1)) S R I J) (h0 : ¬ bL c = true → post (some (.int 0)) S R I J) : xSpec 1 yX9_isLetter cX9_isLetter 1 (some .boolean) 0 0 [.int (nI c)] S R I J post := by
  refine xSpec_of mt_X9_isLetter (Nat.le_of_ble_eq_true rfl) (fun G C0 hN hR E hI hZ => ?_)
  change XX G 0 0 0 [some (.int (nI c))] [] S R I J
  refine x_iload_n C0 rfl dX9_isLetter_0 ?_
  refine x_bipush (v := nI 97) C0 rfl dX9_isLetter_1 ?_
  refine x_icmp_lt (tgt := 16) C0 (by decide) dX9_isLetter_3 (fun g3 => ?_) (fun g3 => ?_)
  · refine x_iconst (v := 0) C0 rfl dX9_isLetter_16 ?_
    refine x_zret C0 E (by decide) (by decide) rfl dX9_isLetter_17 ?_
    exact h0 (fun z => by have := bL_iff.mp z; have := (nI_lt_iff (by omega) (by omega)).mp g3; omega)
  · refine x_iload_n C0 rfl dX9_isLetter_6 ?_
    refine x_bipush (v := nI 122) C0 rfl dX9_isLetter_7 ?_
    refine x_icmp_gt (tgt := 16) C0 (by decide) dX9_isLetter_9 (fun g9 => ?_) (fun g9 => ?_)
    · refine x_iconst (v := 0) C0 rfl dX9_isLetter_16 ?_
      refine x_zret C0 E (by decide) (by decide) rfl dX9_isLetter_17 ?_
      exact h0 (fun z => by have := bL_iff.mp z; have := (nI_lt_iff (by omega) (by omega)).mp g9; omega)
    · refine x_iconst (v := 1) C0 rfl dX9_isLetter_12 ?_
      refine x_goto (tgt := 17) C0 (by decide) dX9_isLetter_13 ?_
      refine x_zret C0 E (by decide) (by decide) rfl dX9_isLetter_17 ?_
      exact h1 (bL_iff.mpr ⟨Nat.le_of_not_lt (fun z => g3 ((nI_lt_iff (by omega) (by omega)).mpr z)), Nat.le_of_not_lt (fun z => g9 ((nI_lt_iff (by omega) (by omega)).mpr z))⟩)
theorem c_X9_isDigit {S : xTS} {R : xTR} {I : xTI} {J : xTJ} {post : xPost} {c : Nat} (hc : c < 100000) (h1 : bD c = true → post (some (.int 1)) S R I J) (h0 : ¬ bD c = true → post (some (.int 0)) S R I J) : xSpec 1 yX9_isDigit cX9_isDigit 1 (some .boolean) 0 0 [.int (nI c)] S R I J post := by
  refine xSpec_of mt_X9_isDigit (Nat.le_of_ble_eq_true rfl) (fun G C0 hN hR E hI hZ => ?_)
  change XX G 0 0 0 [some (.int (nI c))] [] S R I J
  refine x_iload_n C0 rfl dX9_isDigit_0 ?_
  refine x_bipush (v := nI 48) C0 rfl dX9_isDigit_1 ?_
  refine x_icmp_lt (tgt := 16) C0 (by decide) dX9_isDigit_3 (fun g3 => ?_) (fun g3 => ?_)
  · refine x_iconst (v := 0) C0 rfl dX9_isDigit_16 ?_
    refine x_zret C0 E (by decide) (by decide) rfl dX9_isDigit_17 ?_
    exact h0 (fun z => by have := bD_iff.mp z; have := (nI_lt_iff (by omega) (by omega)).mp g3; omega)
  · refine x_iload_n C0 rfl dX9_isDigit_6 ?_
    refine x_bipush (v := nI 57) C0 rfl dX9_isDigit_7 ?_
    refine x_icmp_gt (tgt := 16) C0 (by decide) dX9_isDigit_9 (fun g9 => ?_) (fun g9 => ?_)
    · refine x_iconst (v := 0) C0 rfl dX9_isDigit_16 ?_
      refine x_zret C0 E (by decide) (by decide) rfl dX9_isDigit_17 ?_
      exact h0 (fun z => by have := bD_iff.mp z; have := (nI_lt_iff (by omega) (by omega)).mp g9; omega)
    · refine x_iconst (v := 1) C0 rfl dX9_isDigit_12 ?_
      refine x_goto (tgt := 17) C0 (by decide) dX9_isDigit_13 ?_
      refine x_zret C0 E (by decide) (by decide) rfl dX9_isDigit_17 ?_
      exact h1 (bD_iff.mpr ⟨Nat.le_of_not_lt (fun z => g3 ((nI_lt_iff (by omega) (by omega)).mpr z)), Nat.le_of_not_lt (fun z => g9 ((nI_lt_iff (by omega) (by omega)).mpr z))⟩)
theorem l_sub {a b : Nat} (h : b ≤ a) : Int64.ofNat a - Int64.ofNat b = Int64.ofNat (a - b) := (Int64.ofNat_sub a b h).symm
theorem l_longer {a c : Nat} (hc : 97 ≤ c) (h2 : c < 128) : Int64.ofNat a * 32 + (nI c).toInt64 - 97 + 1 = Int64.ofNat (a * 32 + (c - 96)) := by
  rw [i_long (by omega), show (32 : Int64) = Int64.ofNat 32 from rfl, show (97 : Int64) = Int64.ofNat 97 from rfl, show (1 : Int64) = Int64.ofNat 1 from rfl, l_mul, l_add, l_sub (by omega), l_add]
  congr 1
  omega
theorem c_X9_longer {S : xTS} {R : xTR} {I : xTI} {J : xTJ} {post : xPost} {a c : Nat} (hc : 97 ≤ c) (h2 : c < 128) (hp : post (some (.long (Int64.ofNat (a * 32 + (c - 96))))) S R I J) : xSpec 1 yX9_longer cX9_longer 3 (some .long) 0 0 [.long (Int64.ofNat a), .int (nI c)] S R I J post := by
  refine xSpec_of mt_X9_longer (Nat.le_of_ble_eq_true rfl) (fun G C0 hN hR E hI hZ => ?_)
  change XX G 0 0 0 [some (.long (Int64.ofNat a)), none, some (.int (nI c))] [] S R I J
  refine x_lload_n C0 rfl dX9_longer_0 ?_
  refine x_ldc2 C0 wl_X9_82 dX9_longer_1 ?_
  refine x_lmul C0 dX9_longer_4 ?_
  refine x_iload_n C0 rfl dX9_longer_5 ?_
  refine x_i2l C0 dX9_longer_6 ?_
  refine x_ladd C0 dX9_longer_7 ?_
  refine x_ldc2 C0 wl_X9_84 dX9_longer_8 ?_
  refine x_lsub C0 dX9_longer_11 ?_
  refine x_lconst (v := 1) C0 rfl dX9_longer_12 ?_
  refine x_ladd C0 dX9_longer_13 ?_
  refine x_topl (l_longer hc h2) ?_
  refine x_lret C0 E (by decide) (by decide) dX9_longer_14 ?_
  exact hp
theorem c_X9_readWord {S : xTS} {R : xTR} {I : xTI} {J : xTJ} {post : xPost} (hS : fixd S R) {tp : Nat → Nat} {n : Nat} (T : CTp I tp n) {k0 : Nat} (hk0 : k0 < n) (a2 : I 1 2 = nI k0) (a3 : I 1 3 = nI k0) (hp : ∀ R' I' J', TFr R I J R' I' J' → I' 1 8 = I 1 8 → I' 1 3 = nI k0 → I' 1 2 = nI (rnTo bL tp n k0) → I' 1 4 = nI (if rnTo bL tp n k0 - k0 ≤ 8 then 2 else 1) → J' 1 6 = Int64.ofNat (wNm tp k0 (rnTo bL tp n k0 - k0)) → R' 1 7 = wRef (wNm tp k0 (rnTo bL tp n k0 - k0)) → post none S R' I' J') : xSpec 2 yX9_readWord cX9_readWord 1 none 0 0 [.ref 1] S R I J post := by
  refine xSpec_of mt_X9_readWord (Nat.le_of_ble_eq_true rfl) (fun G C0 hN hR E hI hZ => ?_)
  change XX G 0 0 0 [some (.ref 1)] [] S R I J
  have s1 := hS.sTape
  have s2 := hS.sSigns
  have r0 := hS.rSigns
  obtain ⟨t1, t2, t3⟩ := id T
  have h62 : ∀ I1 J1, TFr R I J R I1 J1 → I1 1 8 = I 1 8 → I1 1 3 = nI k0 → I1 1 2 = nI (rnTo bL tp n k0) → J1 1 6 = Int64.ofNat (wNm tp k0 (rnTo bL tp n k0 - k0)) → XX G 0 0 62 [some (.ref 1)] [] S R I1 J1 := by
    intro I1 J1 f1 e8 e3 e2 e6
    have hge : k0 ≤ rnTo bL tp n k0 := rnTo_ge
    have hle : rnTo bL tp n k0 ≤ n := rnTo_le (by omega)
    have hfin : ∀ v, v = nI (if rnTo bL tp n k0 - k0 ≤ 8 then 2 else 1) → post none S (u2 R 1 7 (wRef (wNm tp k0 (rnTo bL tp n k0 - k0)))) (u2 I1 1 4 v) J1 := fun v ev => by
      refine hp _ _ _ (f1.trans ((TFr.st (by decide)).trans TFr.stR)) ?_ ?_ ?_ ?_ e6 (u2_same _ _ _ _)
      · rw [u2_off _ _ (by decide)]; exact e8
      · rw [u2_off _ _ (by decide)]; exact e3
      · rw [u2_off _ _ (by decide)]; exact e2
      · rw [u2_same]; exact ev
    refine x_aload_n C0 rfl dX9_readWord_62 ?_
    refine x_aload_n C0 rfl dX9_readWord_63 ?_
    refine x_getI C0 wf_X9_21 (by assumption) rfl dX9_readWord_64 ?_
    refine x_topi e2 ?_
    refine x_aload_n C0 rfl dX9_readWord_67 ?_
    refine x_getI C0 wf_X9_30 (by assumption) rfl dX9_readWord_68 ?_
    refine x_topi e3 ?_
    refine x_isub C0 dX9_readWord_71 ?_
    refine x_topi (nI_subn hge) ?_
    refine x_bipush (v := nI 8) C0 rfl dX9_readWord_72 ?_
    refine x_icmp_gt (tgt := 81) C0 (by decide) dX9_readWord_74 (fun g74 => ?_) (fun g74 => ?_)
    · refine x_iconst (v := nI 1) C0 rfl dX9_readWord_81 ?_
      refine x_putI C0 wf_X9_41 (by assumption) rfl dX9_readWord_82 ?_
      refine x_aload_n C0 rfl dX9_readWord_85 ?_
      refine x_aload_n C0 rfl dX9_readWord_86 ?_
      refine x_getJ C0 wf_X9_68 (by assumption) rfl dX9_readWord_87 ?_
      refine x_topl e6 ?_
      refine x_callS [_] C0 (xRf_of hR (by decide) (Nat.zero_le _) (Nat.zero_le _)) ms_X10_named wm_X9_76 dX9_readWord_90 rfl rfl (Nat.le_of_ble_eq_true rfl) (c_X10_named ?_)
      refine x_putQ (r := wRef (wNm tp k0 (rnTo bL tp n k0 - k0))) C0 wf_X9_37 (by assumption) rfl dX9_readWord_93 ?_
      refine x_vret C0 E (by decide) (by decide) dX9_readWord_96 ?_
      exact hfin _ (by rw [if_neg (fun z => by have := (nI_lt_iff (by omega) (by omega)).mp g74; omega)])
    · refine x_iconst (v := nI 2) C0 rfl dX9_readWord_77 ?_
      refine x_goto (tgt := 82) C0 (by decide) dX9_readWord_78 ?_
      refine x_putI C0 wf_X9_41 (by assumption) rfl dX9_readWord_82 ?_
      refine x_aload_n C0 rfl dX9_readWord_85 ?_
      refine x_aload_n C0 rfl dX9_readWord_86 ?_
      refine x_getJ C0 wf_X9_68 (by assumption) rfl dX9_readWord_87 ?_
      refine x_topl e6 ?_
      refine x_callS [_] C0 (xRf_of hR (by decide) (Nat.zero_le _) (Nat.zero_le _)) ms_X10_named wm_X9_76 dX9_readWord_90 rfl rfl (Nat.le_of_ble_eq_true rfl) (c_X10_named ?_)
      refine x_putQ (r := wRef (wNm tp k0 (rnTo bL tp n k0 - k0))) C0 wf_X9_37 (by assumption) rfl dX9_readWord_93 ?_
      refine x_vret C0 E (by decide) (by decide) dX9_readWord_96 ?_
      exact hfin _ (by rw [if_pos (Nat.le_of_not_lt (fun z => g74 ((nI_lt_iff (by omega) (by omega)).mpr z)))])
  have h5 : ∀ q k I1 J1, k + q = n → k0 ≤ k → rnTo bL tp n k = rnTo bL tp n k0 → TFr R I J R I1 J1 → I1 1 8 = I 1 8 → I1 1 3 = nI k0 → I1 1 2 = nI k → J1 1 6 = Int64.ofNat (wNm tp k0 (k - k0)) → XX G 0 0 5 [some (.ref 1)] [] S R I1 J1 := by
    intro q
    induction q with
    | zero =>
      intro k I1 J1 hk h0 er f1 e8 e3 e2 e6
      have hk8 : k = n := by omega
      subst hk8
      rw [rnTo_end (Nat.le_refl _)] at er
      have u1 := (T.tfr f1).1
      refine x_aload_n C0 rfl dX9_readWord_5 ?_
      refine x_getI C0 wf_X9_21 (by assumption) rfl dX9_readWord_6 ?_
      refine x_topi e2 ?_
      refine x_aload_n C0 rfl dX9_readWord_9 ?_
      refine x_getI C0 wf_X9_17 (by assumption) rfl dX9_readWord_10 ?_
      refine x_topi u1 ?_
      refine x_icmp_ge (tgt := 62) C0 (by decide) dX9_readWord_13 (fun _ => ?_) (fun hkk => absurd ((Int32.le_refl _)) hkk)
      exact h62 I1 J1 f1 e8 e3 (by rw [← er]; exact e2) (by rw [← er]; exact e6)
    | succ q ih =>
      intro k I1 J1 hk h0 er f1 e8 e3 e2 e6
      have hkn : k < n := by omega
      have T1 := T.tfr f1
      have u1 := T1.1
      refine x_aload_n C0 rfl dX9_readWord_5 ?_
      refine x_getI C0 wf_X9_21 (by assumption) rfl dX9_readWord_6 ?_
      refine x_topi e2 ?_
      refine x_aload_n C0 rfl dX9_readWord_9 ?_
      refine x_getI C0 wf_X9_17 (by assumption) rfl dX9_readWord_10 ?_
      refine x_topi u1 ?_
      refine x_icmp_ge (tgt := 62) C0 (by decide) dX9_readWord_13 (fun hkk => absurd hkk (nI_ge (by omega) (by omega))) (fun _ => ?_)
      refine x_aload_n C0 rfl dX9_readWord_16 ?_
      refine x_aload_n C0 rfl dX9_readWord_17 ?_
      refine x_getI C0 wf_X9_21 (by assumption) rfl dX9_readWord_18 ?_
      refine x_topi e2 ?_
      refine x_callV [_] C0 hN rfl (xRf_of hR (by decide) (Nat.zero_le _) (Nat.zero_le _)) mv_X9_signAt wm_X9_33 dX9_readWord_21 (by assumption) rfl rfl (Nat.le_of_ble_eq_true rfl) (c_X9_signAt hS T1 (by omega) (fun _ => ?_) (fun z => absurd hkn z))
      refine x_callS [_] C0 (xRf_of hR (by decide) (Nat.zero_le _) (Nat.zero_le _)) ms_X9_isLetter wm_X9_44 dX9_readWord_24 rfl rfl (Nat.le_of_ble_eq_true rfl) (c_X9_isLetter (by have := (T.2.2 k hkn).2; omega) (fun g24 => ?_) (fun g24 => ?_))
      · refine x_if_eq (tgt := 62) C0 (by decide) dX9_readWord_27 (fun hkk => absurd hkk (by decide)) (fun _ => ?_)
        refine x_aload_n C0 rfl dX9_readWord_30 ?_
        refine x_aload_n C0 rfl dX9_readWord_31 ?_
        refine x_getJ C0 wf_X9_68 (by assumption) rfl dX9_readWord_32 ?_
        refine x_aload_n C0 rfl dX9_readWord_35 ?_
        refine x_aload_n C0 rfl dX9_readWord_36 ?_
        refine x_getI C0 wf_X9_21 (by assumption) rfl dX9_readWord_37 ?_
        refine x_topi e2 ?_
        refine x_callV [_] C0 hN rfl (xRf_of hR (by decide) (Nat.zero_le _) (Nat.zero_le _)) mv_X9_signAt wm_X9_33 dX9_readWord_40 (by assumption) rfl rfl (Nat.le_of_ble_eq_true rfl) (c_X9_signAt hS T1 (by omega) (fun _ => ?_) (fun z => absurd hkn z))
        have hb := bL_iff.mp g24
        have hc := (T.2.2 k hkn).2
        refine x_nextl e6 ?_
        refine x_callS [_, _] C0 (xRf_of hR (by decide) (Nat.zero_le _) (Nat.zero_le _)) ms_X9_longer wm_X9_72 dX9_readWord_43 rfl rfl (Nat.le_of_ble_eq_true rfl) (c_X9_longer hb.1 hc ?_)
        refine x_putJ C0 wf_X9_68 (by assumption) rfl dX9_readWord_46 ?_
        refine x_aload_n C0 rfl dX9_readWord_49 ?_
        refine x_dup C0 rfl dX9_readWord_50 ?_
        refine x_getI C0 wf_X9_21 (by assumption) rfl dX9_readWord_51 ?_
        refine x_iconst (v := nI 1) C0 rfl dX9_readWord_54 ?_
        refine x_iadd C0 dX9_readWord_55 ?_
        refine x_putI C0 wf_X9_21 (by assumption) rfl dX9_readWord_56 ?_
        refine x_goto (tgt := 5) C0 (by decide) dX9_readWord_59 ?_
        have e9 : wNm tp k0 (k - k0) * 32 + (tp k - 96) = wNm tp k0 (k + 1 - k0) := by
          rw [show k + 1 - k0 = (k - k0) + 1 by omega]
          show _ = wNm tp k0 (k - k0) * 32 + (tp (k0 + (k - k0)) - 96)
          rw [show k0 + (k - k0) = k by omega]
        rw [e9, e2, show nI k + nI 1 = nI (k + 1) from nI_add k 1]
        exact ih (k + 1) _ _ (by omega) (by omega) ((rnTo_yes hkn g24).symm.trans er) (f1.trans (TFr.stJ.trans (TFr.st (by decide)))) (by rw [u2_off _ _ (by decide)]; exact e8) (by rw [u2_off _ _ (by decide)]; exact e3) (u2_same _ _ _ _) (u2_same _ _ _ _)
      · refine x_if_eq (tgt := 62) C0 (by decide) dX9_readWord_27 (fun _ => ?_) (fun hkk => absurd (by decide) hkk)
        rw [rnTo_no hkn g24] at er
        exact h62 I1 J1 f1 e8 e3 (by rw [← er]; exact e2) (by rw [← er]; exact e6)
  refine x_aload_n C0 rfl dX9_readWord_0 ?_
  refine x_lconst (v := 0) C0 rfl dX9_readWord_1 ?_
  refine x_putJ C0 wf_X9_68 (by assumption) rfl dX9_readWord_2 ?_
  exact h5 (n - k0) k0 _ _ (by omega) (Nat.le_refl _) rfl TFr.stJ rfl a3 a2 (by rw [u2_same, Nat.sub_self]; rfl)
