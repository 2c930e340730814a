/-! RESTS: what the censors get; the reference -/
def rGn (own oth le cu lo : Int32) : Int32 := if oth = 1 then (if own = 1 then -lo else 0) else (if own = 1 then cu else le)
abbrev rOk (le cu lo : Int32) (k : Nat) : Prop := rGn (1 - nI (k / 2)) (nI (k % 2)) le cu lo ≤ rGn (nI (k / 2)) (nI (k % 2)) le cu lo ∧ rGn (1 - nI (k % 2)) (nI (k / 2)) le cu lo ≤ rGn (nI (k % 2)) (nI (k / 2)) le cu lo
def rN (le cu lo : Int32) : Nat → Nat
  | 0 => 0
  | k + 1 => if rOk le cu lo k then rN le cu lo k + 1 else rN le cu lo k
def rF (le cu lo wh : Int32) : Nat → Int32
  | 0 => -1
  | k + 1 => if rOk le cu lo k ∧ nI (rN le cu lo k) = wh then nI k else rF le cu lo wh k
abbrev rDig (v : Int32) : Prop := 0 ≤ v ∧ v ≤ 9
abbrev rMay (le cu lo wh : Int32) : Prop := rDig le ∧ rDig cu ∧ rDig lo ∧ -1 ≤ wh
abbrev rGood (le cu lo wh : Int32) : Prop := rMay le cu lo wh ∧ (wh < 0 ∨ 0 ≤ rF le cu lo wh 4)
def rAns (le cu lo wh : Int32) : Int32 := if wh < 0 then nI (rN le cu lo 4) else rF le cu lo wh 4
theorem rN_yes {le cu lo : Int32} {k : Nat} (h : rOk le cu lo k) : rN le cu lo (k + 1) = rN le cu lo k + 1 := by conv => lhs; unfold rN; rw [if_pos h]
theorem rN_no {le cu lo : Int32} {k : Nat} (h : ¬ rOk le cu lo k) : rN le cu lo (k + 1) = rN le cu lo k := by conv => lhs; unfold rN; rw [if_neg h]
theorem rF_yes {le cu lo wh : Int32} {k : Nat} (h : rOk le cu lo k ∧ nI (rN le cu lo k) = wh) : rF le cu lo wh (k + 1) = nI k := by conv => lhs; unfold rF; rw [if_pos h]
theorem rF_no {le cu lo wh : Int32} {k : Nat} (h : ¬ (rOk le cu lo k ∧ nI (rN le cu lo k) = wh)) : rF le cu lo wh (k + 1) = rF le cu lo wh k := by conv => lhs; unfold rF; rw [if_neg h]
theorem rN_le {le cu lo : Int32} : ∀ k, rN le cu lo k ≤ k
  | 0 => Nat.le_refl 0
  | k + 1 => by
    have := rN_le (le := le) (cu := cu) (lo := lo) k
    by_cases h : rOk le cu lo k
    · rw [rN_yes h]; omega
    · rw [rN_no h]; omega
theorem rN_mono {le cu lo : Int32} {k : Nat} (h : rOk le cu lo k) : ∀ p, rN le cu lo k < rN le cu lo (k + 1 + p)
  | 0 => by rw [Nat.add_zero, rN_yes h]; omega
  | p + 1 => by
    have := rN_mono h p
    rw [← Nat.add_assoc]
    by_cases g : rOk le cu lo (k + 1 + p)
    · rw [rN_yes g]; omega
    · rw [rN_no g]; omega
/-- the first hit is the last one -/
theorem rF_hit {le cu lo wh : Int32} {k : Nat} (h : rOk le cu lo k) (e : nI (rN le cu lo k) = wh) : ∀ p, k + 1 + p < 1000 → rF le cu lo wh (k + 1 + p) = nI k
  | 0, _ => by rw [Nat.add_zero]; exact rF_yes ⟨h, e⟩
  | p + 1, hp => by
    rw [← Nat.add_assoc, rF_no, rF_hit h e p (by omega)]
    intro q
    have h1 := rN_mono h p
    have h2 := rN_le (le := le) (cu := cu) (lo := lo) (k + 1 + p)
    have h3 := (nI_eq (a := rN le cu lo (k + 1 + p)) (b := rN le cu lo k) (by omega) (by omega)).mp (q.2.trans e.symm)
    omega
theorem r_half : ∀ k, k < 4 → nI k / nI 2 = nI (k / 2) ∧ nI k - nI k / nI 2 * nI 2 = nI (k % 2) ∧ nI k >>> (1 &&& 31) = nI (k / 2) ∧ nI k &&& 1 = nI (k % 2) := by decide +kernel
theorem r_m1 {wh : Int32} (h : -1 ≤ wh) : wh < 0 ↔ wh = -1 := by
  constructor
  · intro g
    rw [Int32.le_iff_toInt_le, show (-1 : Int32).toInt = -1 from rfl] at h
    rw [Int32.lt_iff_toInt_lt, Int32.toInt_zero] at g
    rw [← Int32.toInt_inj, show (-1 : Int32).toInt = -1 from rfl]
    omega
  · rintro rfl; decide
theorem c_X11_gain {S : xTS} {R : xTR} {I : xTI} {J : xTJ} {post : xPost} {a b le cu lo : Int32} (hp : post (some (.int (rGn a b le cu lo))) S R I J) : xSpec 1 yX11_gain cX11_gain 5 (some .int) 0 0 [.int a, .int b, .int le, .int cu, .int lo] S R I J post := by
  refine xSpec_of mt_X11_gain (Nat.le_of_ble_eq_true rfl) (fun G C0 hN hR E hI hZ => ?_)
  change XX G 0 0 0 [some (.int a), some (.int b), some (.int le), some (.int cu), some (.int lo)] [] S R I J
  refine x_iload_n C0 rfl dX11_gain_0 ?_
  refine x_iconst (v := 1) C0 rfl dX11_gain_1 ?_
  refine x_icmp_ne (tgt := 18) C0 (by decide) dX11_gain_2 (fun g2 => ?_) (fun g2 => ?_)
  · refine x_iload_n C0 rfl dX11_gain_18 ?_
    refine x_iconst (v := 1) C0 rfl dX11_gain_19 ?_
    refine x_icmp_ne (tgt := 27) C0 (by decide) dX11_gain_20 (fun g20 => ?_) (fun g20 => ?_)
    · refine x_iload_n C0 rfl dX11_gain_27 ?_
      refine x_iret C0 E (by decide) (by decide) dX11_gain_28 ?_
      unfold rGn at hp
      rw [if_neg g2, if_neg g20] at hp
      exact hp
    · refine x_iload_n C0 rfl dX11_gain_23 ?_
      refine x_goto (tgt := 28) C0 (by decide) dX11_gain_24 ?_
      refine x_iret C0 E (by decide) (by decide) dX11_gain_28 ?_
      unfold rGn at hp
      rw [if_neg g2, if_pos g20] at hp
      exact hp
  · refine x_iload_n C0 rfl dX11_gain_5 ?_
    refine x_iconst (v := 1) C0 rfl dX11_gain_6 ?_
    refine x_icmp_ne (tgt := 16) C0 (by decide) dX11_gain_7 (fun g7 => ?_) (fun g7 => ?_)
    · refine x_iconst (v := 0) C0 rfl dX11_gain_16 ?_
      refine x_iret C0 E (by decide) (by decide) dX11_gain_17 ?_
      unfold rGn at hp
      rw [if_pos g2, if_neg g7] at hp
      exact hp
    · refine x_iload C0 rfl dX11_gain_10 ?_
      refine x_ineg C0 dX11_gain_12 ?_
      refine x_goto (tgt := 17) C0 (by decide) dX11_gain_13 ?_
      refine x_iret C0 E (by decide) (by decide) dX11_gain_17 ?_
      unfold rGn at hp
      rw [if_pos g2, if_pos g7] at hp
      exact hp
theorem c_X12_getsBy {S : xTS} {R : xTR} {I : xTI} {J : xTJ} {post : xPost} {a b le cu lo : Int32} (hp : post (some (.int (rGn a b le cu lo))) S R I J) : xSpec 1 yX12_getsBy cX12_getsBy 5 (some .int) 0 0 [.int a, .int b, .int le, .int cu, .int lo] S R I J post := by
  refine xSpec_of mt_X12_getsBy (Nat.le_of_ble_eq_true rfl) (fun G C0 hN hR E hI hZ => ?_)
  change XX G 0 0 0 [some (.int a), some (.int b), some (.int le), some (.int cu), some (.int lo)] [] S R I J
  refine x_iload_n C0 rfl dX12_getsBy_0 ?_
  refine x_iconst (v := 1) C0 rfl dX12_getsBy_1 ?_
  refine x_icmp_ne (tgt := 20) C0 (by decide) dX12_getsBy_2 (fun g2 => ?_) (fun g2 => ?_)
  · refine x_iload_n C0 rfl dX12_getsBy_20 ?_
    refine x_iconst (v := 1) C0 rfl dX12_getsBy_21 ?_
    refine x_icmp_ne (tgt := 29) C0 (by decide) dX12_getsBy_22 (fun g22 => ?_) (fun g22 => ?_)
    · refine x_iload_n C0 rfl dX12_getsBy_29 ?_
      refine x_iret C0 E (by decide) (by decide) dX12_getsBy_30 ?_
      unfold rGn at hp
      rw [if_neg g22, if_neg g2] at hp
      exact hp
    · refine x_iconst (v := 0) C0 rfl dX12_getsBy_25 ?_
      refine x_goto (tgt := 30) C0 (by decide) dX12_getsBy_26 ?_
      refine x_iret C0 E (by decide) (by decide) dX12_getsBy_30 ?_
      unfold rGn at hp
      rw [if_pos g22, if_neg g2] at hp
      exact hp
  · refine x_iload_n C0 rfl dX12_getsBy_5 ?_
    refine x_iconst (v := 1) C0 rfl dX12_getsBy_6 ?_
    refine x_icmp_ne (tgt := 16) C0 (by decide) dX12_getsBy_7 (fun g7 => ?_) (fun g7 => ?_)
    · refine x_iload_n C0 rfl dX12_getsBy_16 ?_
      refine x_goto (tgt := 30) C0 (by decide) dX12_getsBy_17 ?_
      refine x_iret C0 E (by decide) (by decide) dX12_getsBy_30 ?_
      unfold rGn at hp
      rw [if_neg g7, if_pos g2] at hp
      exact hp
    · refine x_iload C0 rfl dX12_getsBy_10 ?_
      refine x_ineg C0 dX12_getsBy_12 ?_
      refine x_goto (tgt := 30) C0 (by decide) dX12_getsBy_13 ?_
      refine x_iret C0 E (by decide) (by decide) dX12_getsBy_30 ?_
      unfold rGn at hp
      rw [if_pos g7, if_pos g2] at hp
      exact hp
theorem c_X11_rest {S : xTS} {R : xTR} {I : xTI} {J : xTJ} {post : xPost} {a b le cu lo : Int32} (h1 : rGn (1 - a) b le cu lo ≤ rGn a b le cu lo → post (some (.int 1)) S R I J) (h0 : ¬ rGn (1 - a) b le cu lo ≤ rGn a b le cu lo → post (some (.int 0)) S R I J) : xSpec 2 yX11_rest cX11_rest 5 (some .boolean) 0 0 [.int a, .int b, .int le, .int cu, .int lo] S R I J post := by
  refine xSpec_of mt_X11_rest (Nat.le_of_ble_eq_true rfl) (fun G C0 hN hR E hI hZ => ?_)
  change XX G 0 0 0 [some (.int a), some (.int b), some (.int le), some (.int cu), some (.int lo)] [] S R I J
  refine x_iconst (v := 1) C0 rfl dX11_rest_0 ?_
  refine x_iload_n C0 rfl dX11_rest_1 ?_
  refine x_isub C0 dX11_rest_2 ?_
  refine x_iload_n C0 rfl dX11_rest_3 ?_
  refine x_iload_n C0 rfl dX11_rest_4 ?_
  refine x_iload_n C0 rfl dX11_rest_5 ?_
  refine x_iload C0 rfl dX11_rest_6 ?_
  refine x_callS [_, _, _, _, _] C0 (xRf_of hR (by decide) (Nat.zero_le _) (Nat.zero_le _)) ms_X11_gain wm_X11_353 dX11_rest_8 rfl rfl (Nat.le_of_ble_eq_true rfl) (c_X11_gain  ?_)
  refine x_iload_n C0 rfl dX11_rest_11 ?_
  refine x_iload_n C0 rfl dX11_rest_12 ?_
  refine x_iload_n C0 rfl dX11_rest_13 ?_
  refine x_iload_n C0 rfl dX11_rest_14 ?_
  refine x_iload C0 rfl dX11_rest_15 ?_
  refine x_callS [_, _, _, _, _] C0 (xRf_of hR (by decide) (Nat.zero_le _) (Nat.zero_le _)) ms_X11_gain wm_X11_353 dX11_rest_17 rfl rfl (Nat.le_of_ble_eq_true rfl) (c_X11_gain  ?_)
  refine x_icmp_gt (tgt := 27) C0 (by decide) dX11_rest_20 (fun g20 => ?_) (fun g20 => ?_)
  · refine x_iconst (v := 0) C0 rfl dX11_rest_27 ?_
    refine x_zret C0 E (by decide) (by decide) rfl dX11_rest_28 ?_
    exact h0 (i_nle.mpr g20)
  · refine x_iconst (v := 1) C0 rfl dX11_rest_23 ?_
    refine x_goto (tgt := 28) C0 (by decide) dX11_rest_24 ?_
    refine x_zret C0 E (by decide) (by decide) rfl dX11_rest_28 ?_
    exact h1 (i_nlt.mp g20)
theorem c_X11_isDigit {S : xTS} {R : xTR} {I : xTI} {J : xTJ} {post : xPost} {v : Int32} (h1 : rDig v → post (some (.int 1)) S R I J) (h0 : ¬ rDig v → post (some (.int 0)) S R I J) : xSpec 1 yX11_isDigit cX11_isDigit 1 (some .boolean) 0 0 [.int v] S R I J post := by
  refine xSpec_of mt_X11_isDigit (Nat.le_of_ble_eq_true rfl) (fun G C0 hN hR E hI hZ => ?_)
  change XX G 0 0 0 [some (.int v)] [] S R I J
  refine x_iload_n C0 rfl dX11_isDigit_0 ?_
  refine x_if_lt (tgt := 14) C0 (by decide) dX11_isDigit_1 (fun g1 => ?_) (fun g1 => ?_)
  · refine x_iconst (v := 0) C0 rfl dX11_isDigit_14 ?_
    refine x_zret C0 E (by decide) (by decide) rfl dX11_isDigit_15 ?_
    exact h0 (fun q => absurd g1 (i_nlt.mpr q.1))
  · refine x_iload_n C0 rfl dX11_isDigit_4 ?_
    refine x_bipush (v := 9) C0 rfl dX11_isDigit_5 ?_
    refine x_icmp_gt (tgt := 14) C0 (by decide) dX11_isDigit_7 (fun g7 => ?_) (fun g7 => ?_)
    · refine x_iconst (v := 0) C0 rfl dX11_isDigit_14 ?_
      refine x_zret C0 E (by decide) (by decide) rfl dX11_isDigit_15 ?_
      exact h0 (fun q => absurd g7 (i_nlt.mpr q.2))
    · refine x_iconst (v := 1) C0 rfl dX11_isDigit_10 ?_
      refine x_goto (tgt := 15) C0 (by decide) dX11_isDigit_11 ?_
      refine x_zret C0 E (by decide) (by decide) rfl dX11_isDigit_15 ?_
      exact h1 ⟨i_nlt.mp g1, i_nlt.mp g7⟩
theorem c_X12_rests {S : xTS} {R : xTR} {I : xTI} {J : xTJ} {post : xPost} (hM : isModel S R) {le cu lo wh : Int32} (hp : ∀ I', MQs I I' → I' 135 0 = (if rGood le cu lo wh then 0 else 1) → post (some (.int (if rGood le cu lo wh then rAns le cu lo wh else 0))) S R I' J) : xSpec 2 yX12_rests cX12_rests 12 (some .int) 0 0 [.ref 135, .int le, .int cu, .int lo, .int wh] S R I J post := by
  refine xSpec_of mt_X12_rests (Nat.le_of_ble_eq_true rfl) (fun G C0 hN hR E hI hZ => ?_)
  change XX G 0 0 0 [some (.ref 135), some (.int le), some (.int cu), some (.int lo), some (.int wh), none, none, none, none, none, none, none] [] S R I J
  have h198b : ¬ rGood le cu lo wh → ∀ m a6 a7 a8 v9 v10 v11, XX G 0 0 198 [some (.ref 135), some (.int le), some (.int cu), some (.int lo), some (.int wh), some (.int m), some (.int a6), some (.int a7), some (.int a8), v9, v10, v11] [] S R (u2 I 135 0 1) J := by
    intro hg m a6 a7 a8 v9 v10 v11
    simp only [if_neg hg] at hp
    refine x_aload_n C0 rfl dX12_rests_198 ?_
    refine x_getI C0 wf_X12_1 (isModel.k0 hM) rfl dX12_rests_199 ?_
    refine x_topi (u2_same _ _ _ _) ?_
    refine x_if_le (tgt := 209) C0 (by decide) dX12_rests_202 (fun hkk => absurd hkk ((by decide))) (fun _ => ?_)
    refine x_iconst (v := 0) C0 rfl dX12_rests_205 ?_
    refine x_goto (tgt := 221) C0 (by decide) dX12_rests_206 ?_
    refine x_iret C0 E (by decide) (by decide) dX12_rests_221 ?_
    exact hp _ MQs.thrown (u2_same _ _ _ _)
  have h198a : rGood le cu lo wh → ∀ v9 v10 v11, XX G 0 0 198 [some (.ref 135), some (.int le), some (.int cu), some (.int lo), some (.int wh), some (.int 1), some (.int (nI (rN le cu lo 4))), some (.int (rF le cu lo wh 4)), some (.int (nI 4)), v9, v10, v11] [] S R (u2 I 135 0 0) J := by
    intro hg v9 v10 v11
    simp only [if_pos hg] at hp
    unfold rAns at hp
    refine x_aload_n C0 rfl dX12_rests_198 ?_
    refine x_getI C0 wf_X12_1 (isModel.k0 hM) rfl dX12_rests_199 ?_
    refine x_topi (u2_same _ _ _ _) ?_
    refine x_if_le (tgt := 209) C0 (by decide) dX12_rests_202 (fun _ => ?_) (fun hkk => absurd ((by decide)) hkk)
    refine x_iload C0 rfl dX12_rests_209 ?_
    refine x_if_ge (tgt := 219) C0 (by decide) dX12_rests_211 (fun g211 => ?_) (fun g211 => ?_)
    · refine x_iload C0 rfl dX12_rests_219 ?_
      refine x_iret C0 E (by decide) (by decide) dX12_rests_221 ?_
      rw [if_neg (i_nlt.mpr g211)] at hp
      exact hp _ MQs.thrown (u2_same _ _ _ _)
    · refine x_iload C0 rfl dX12_rests_214 ?_
      refine x_goto (tgt := 221) C0 (by decide) dX12_rests_216 ?_
      refine x_iret C0 E (by decide) (by decide) dX12_rests_221 ?_
      rw [if_pos (i_nle.mp g211)] at hp
      exact hp _ MQs.thrown (u2_same _ _ _ _)
  have h52 : rMay le cu lo wh → ∀ n k v9 v10 v11, k + n = 4 → XX G 0 0 52 [some (.ref 135), some (.int le), some (.int cu), some (.int lo), some (.int wh), some (.int 1), some (.int (nI (rN le cu lo k))), some (.int (rF le cu lo wh k)), some (.int (nI k)), v9, v10, v11] [] S R I J := by
    intro hm n
    induction n with
    | zero =>
      intro k v9 v10 v11 hk
      have hk8 : k = 4 := by omega
      subst hk8
      refine x_iload C0 rfl dX12_rests_52 ?_
      refine x_iconst (v := nI 4) C0 rfl dX12_rests_54 ?_
      refine x_icmp_ge (tgt := 174) C0 (by decide) dX12_rests_55 (fun _ => ?_) (fun hkk => absurd ((Int32.le_refl _)) hkk)
      refine x_aload_n C0 rfl dX12_rests_174 ?_
      refine x_iload C0 rfl dX12_rests_175 ?_
      refine x_if_eq (tgt := 194) C0 (by decide) dX12_rests_177 (fun hkk => absurd hkk (by decide)) (fun _ => ?_)
      refine x_iload C0 rfl dX12_rests_180 ?_
      refine x_if_lt (tgt := 190) C0 (by decide) dX12_rests_182 (fun g182 => ?_) (fun g182 => ?_)
      · refine x_iconst (v := nI 0) C0 rfl dX12_rests_190 ?_
        refine x_goto (tgt := 195) C0 (by decide) dX12_rests_191 ?_
        refine x_putI C0 wf_X12_1 (isModel.k0 hM) rfl dX12_rests_195 ?_
        exact h198a ⟨hm, Or.inl g182⟩ v9 v10 v11
      · refine x_iload C0 rfl dX12_rests_185 ?_
        refine x_if_lt (tgt := 194) C0 (by decide) dX12_rests_187 (fun g187 => ?_) (fun g187 => ?_)
        · refine x_iconst (v := nI 1) C0 rfl dX12_rests_194 ?_
          refine x_putI C0 wf_X12_1 (isModel.k0 hM) rfl dX12_rests_195 ?_
          exact h198b (fun q => q.2.elim g182 (fun z => absurd g187 (i_nlt.mpr z))) _ _ _ _ v9 v10 v11
        · refine x_iconst (v := nI 0) C0 rfl dX12_rests_190 ?_
          refine x_goto (tgt := 195) C0 (by decide) dX12_rests_191 ?_
          refine x_putI C0 wf_X12_1 (isModel.k0 hM) rfl dX12_rests_195 ?_
          exact h198a ⟨hm, Or.inr (i_nlt.mp g187)⟩ v9 v10 v11
    | succ n ih =>
      intro k v9 v10 v11 hk
      obtain ⟨q1, q2, -, -⟩ := r_half k (by omega)
      have ih := fun a b c => ih (k + 1) a b c (by omega)
      refine x_iload C0 rfl dX12_rests_52 ?_
      refine x_iconst (v := nI 4) C0 rfl dX12_rests_54 ?_
      refine x_icmp_ge (tgt := 174) C0 (by decide) dX12_rests_55 (fun hkk => absurd hkk ((nI_ge (b := 4) (by omega) (by omega)))) (fun _ => ?_)
      refine x_iload C0 rfl dX12_rests_58 ?_
      refine x_if_eq (tgt := 174) C0 (by decide) dX12_rests_60 (fun hkk => absurd hkk (by decide)) (fun _ => ?_)
      refine x_iload C0 rfl dX12_rests_63 ?_
      refine x_iconst (v := nI 2) C0 rfl dX12_rests_65 ?_
      refine x_idiv C0 (by decide) dX12_rests_66 ?_
      refine x_topi q1 ?_
      refine x_istore (L' := [_, _, _, _, _, _, _, _, _, _, _, _]) C0 hN (by decide) rfl dX12_rests_67 ?_
      refine x_iload C0 rfl dX12_rests_69 ?_
      refine x_iconst (v := nI 2) C0 rfl dX12_rests_71 ?_
      refine x_irem C0 (by decide) dX12_rests_72 ?_
      refine x_topi q2 ?_
      refine x_istore (L' := [_, _, _, _, _, _, _, _, _, _, _, _]) C0 hN (by decide) rfl dX12_rests_73 ?_
      refine x_iconst (v := 1) C0 rfl dX12_rests_75 ?_
      refine x_iload C0 rfl dX12_rests_76 ?_
      refine x_isub C0 dX12_rests_78 ?_
      refine x_iload C0 rfl dX12_rests_79 ?_
      refine x_iload_n C0 rfl dX12_rests_81 ?_
      refine x_iload_n C0 rfl dX12_rests_82 ?_
      refine x_iload_n C0 rfl dX12_rests_83 ?_
      refine x_callS [_, _, _, _, _] C0 (xRf_of hR (by decide) (Nat.zero_le _) (Nat.zero_le _)) ms_X12_getsBy wm_X12_398 dX12_rests_84 rfl rfl (Nat.le_of_ble_eq_true rfl) (c_X12_getsBy  ?_)
      refine x_iload C0 rfl dX12_rests_87 ?_
      refine x_iload C0 rfl dX12_rests_89 ?_
      refine x_iload_n C0 rfl dX12_rests_91 ?_
      refine x_iload_n C0 rfl dX12_rests_92 ?_
      refine x_iload_n C0 rfl dX12_rests_93 ?_
      refine x_callS [_, _, _, _, _] C0 (xRf_of hR (by decide) (Nat.zero_le _) (Nat.zero_le _)) ms_X12_getsBy wm_X12_398 dX12_rests_94 rfl rfl (Nat.le_of_ble_eq_true rfl) (c_X12_getsBy  ?_)
      refine x_icmp_gt (tgt := 129) C0 (by decide) dX12_rests_97 (fun g97 => ?_) (fun g97 => ?_)
      · refine x_iconst (v := nI 0) C0 rfl dX12_rests_129 ?_
        refine x_istore (L' := [_, _, _, _, _, _, _, _, _, _, _, _]) C0 hN (by decide) rfl dX12_rests_130 ?_
        refine x_iload C0 rfl dX12_rests_132 ?_
        refine x_if_eq (tgt := 149) C0 (by decide) dX12_rests_134 (fun _ => ?_) (fun hkk => absurd (by decide) hkk)
        refine x_iload C0 rfl dX12_rests_149 ?_
        refine x_istore (L' := [_, _, _, _, _, _, _, _, _, _, _, _]) C0 hN (by decide) rfl dX12_rests_151 ?_
        refine x_iload C0 rfl dX12_rests_153 ?_
        refine x_iload C0 rfl dX12_rests_155 ?_
        refine x_if_eq (tgt := 164) C0 (by decide) dX12_rests_157 (fun _ => ?_) (fun hkk => absurd (by decide) hkk)
        refine x_iconst (v := nI 0) C0 rfl dX12_rests_164 ?_
        refine x_iadd C0 dX12_rests_165 ?_
        refine x_istore (L' := [_, _, _, _, _, _, _, _, _, _, _, _]) C0 hN (by decide) rfl dX12_rests_166 ?_
        refine x_iinc (v := nI (k + 1)) (L' := [_, _, _, _, _, _, _, _, _, _, _, _]) C0 hN rfl (by decide) (nI_inc k) rfl dX12_rests_168 ?_
        refine x_goto (tgt := 52) C0 (by decide) dX12_rests_171 ?_
        have hok : ¬ rOk le cu lo k := fun z => absurd g97 (i_nlt.mpr z.1)
        rw [rN_no hok, rF_no (fun z => hok z.1)] at ih
        rw [nI_add]
        exact ih _ _ _
      · refine x_iconst (v := 1) C0 rfl dX12_rests_100 ?_
        refine x_iload C0 rfl dX12_rests_101 ?_
        refine x_isub C0 dX12_rests_103 ?_
        refine x_iload C0 rfl dX12_rests_104 ?_
        refine x_iload_n C0 rfl dX12_rests_106 ?_
        refine x_iload_n C0 rfl dX12_rests_107 ?_
        refine x_iload_n C0 rfl dX12_rests_108 ?_
        refine x_callS [_, _, _, _, _] C0 (xRf_of hR (by decide) (Nat.zero_le _) (Nat.zero_le _)) ms_X12_getsBy wm_X12_398 dX12_rests_109 rfl rfl (Nat.le_of_ble_eq_true rfl) (c_X12_getsBy  ?_)
        refine x_iload C0 rfl dX12_rests_112 ?_
        refine x_iload C0 rfl dX12_rests_114 ?_
        refine x_iload_n C0 rfl dX12_rests_116 ?_
        refine x_iload_n C0 rfl dX12_rests_117 ?_
        refine x_iload_n C0 rfl dX12_rests_118 ?_
        refine x_callS [_, _, _, _, _] C0 (xRf_of hR (by decide) (Nat.zero_le _) (Nat.zero_le _)) ms_X12_getsBy wm_X12_398 dX12_rests_119 rfl rfl (Nat.le_of_ble_eq_true rfl) (c_X12_getsBy  ?_)
        refine x_icmp_gt (tgt := 129) C0 (by decide) dX12_rests_122 (fun g122 => ?_) (fun g122 => ?_)
        · refine x_iconst (v := nI 0) C0 rfl dX12_rests_129 ?_
          refine x_istore (L' := [_, _, _, _, _, _, _, _, _, _, _, _]) C0 hN (by decide) rfl dX12_rests_130 ?_
          refine x_iload C0 rfl dX12_rests_132 ?_
          refine x_if_eq (tgt := 149) C0 (by decide) dX12_rests_134 (fun _ => ?_) (fun hkk => absurd (by decide) hkk)
          refine x_iload C0 rfl dX12_rests_149 ?_
          refine x_istore (L' := [_, _, _, _, _, _, _, _, _, _, _, _]) C0 hN (by decide) rfl dX12_rests_151 ?_
          refine x_iload C0 rfl dX12_rests_153 ?_
          refine x_iload C0 rfl dX12_rests_155 ?_
          refine x_if_eq (tgt := 164) C0 (by decide) dX12_rests_157 (fun _ => ?_) (fun hkk => absurd (by decide) hkk)
          refine x_iconst (v := nI 0) C0 rfl dX12_rests_164 ?_
          refine x_iadd C0 dX12_rests_165 ?_
          refine x_istore (L' := [_, _, _, _, _, _, _, _, _, _, _, _]) C0 hN (by decide) rfl dX12_rests_166 ?_
          refine x_iinc (v := nI (k + 1)) (L' := [_, _, _, _, _, _, _, _, _, _, _, _]) C0 hN rfl (by decide) (nI_inc k) rfl dX12_rests_168 ?_
          refine x_goto (tgt := 52) C0 (by decide) dX12_rests_171 ?_
          have hok : ¬ rOk le cu lo k := fun z => absurd g122 (i_nlt.mpr z.2)
          rw [rN_no hok, rF_no (fun z => hok z.1)] at ih
          rw [nI_add]
          exact ih _ _ _
        · refine x_iconst (v := nI 1) C0 rfl dX12_rests_125 ?_
          refine x_goto (tgt := 130) C0 (by decide) dX12_rests_126 ?_
          refine x_istore (L' := [_, _, _, _, _, _, _, _, _, _, _, _]) C0 hN (by decide) rfl dX12_rests_130 ?_
          refine x_iload C0 rfl dX12_rests_132 ?_
          refine x_if_eq (tgt := 149) C0 (by decide) dX12_rests_134 (fun hkk => absurd hkk (by decide)) (fun _ => ?_)
          refine x_iload C0 rfl dX12_rests_137 ?_
          refine x_iload C0 rfl dX12_rests_139 ?_
          refine x_icmp_ne (tgt := 149) C0 (by decide) dX12_rests_141 (fun g141 => ?_) (fun g141 => ?_)
          · refine x_iload C0 rfl dX12_rests_149 ?_
            refine x_istore (L' := [_, _, _, _, _, _, _, _, _, _, _, _]) C0 hN (by decide) rfl dX12_rests_151 ?_
            refine x_iload C0 rfl dX12_rests_153 ?_
            refine x_iload C0 rfl dX12_rests_155 ?_
            refine x_if_eq (tgt := 164) C0 (by decide) dX12_rests_157 (fun hkk => absurd hkk (by decide)) (fun _ => ?_)
            refine x_iconst (v := nI 1) C0 rfl dX12_rests_160 ?_
            refine x_goto (tgt := 165) C0 (by decide) dX12_rests_161 ?_
            refine x_iadd C0 dX12_rests_165 ?_
            refine x_istore (L' := [_, _, _, _, _, _, _, _, _, _, _, _]) C0 hN (by decide) rfl dX12_rests_166 ?_
            refine x_iinc (v := nI (k + 1)) (L' := [_, _, _, _, _, _, _, _, _, _, _, _]) C0 hN rfl (by decide) (nI_inc k) rfl dX12_rests_168 ?_
            refine x_goto (tgt := 52) C0 (by decide) dX12_rests_171 ?_
            have hok : rOk le cu lo k := ⟨i_nlt.mp g97, i_nlt.mp g122⟩
            rw [rN_yes hok, rF_no (fun z => g141 z.2)] at ih
            rw [nI_add]
            exact ih _ _ _
          · refine x_iload C0 rfl dX12_rests_144 ?_
            refine x_goto (tgt := 151) C0 (by decide) dX12_rests_146 ?_
            refine x_istore (L' := [_, _, _, _, _, _, _, _, _, _, _, _]) C0 hN (by decide) rfl dX12_rests_151 ?_
            refine x_iload C0 rfl dX12_rests_153 ?_
            refine x_iload C0 rfl dX12_rests_155 ?_
            refine x_if_eq (tgt := 164) C0 (by decide) dX12_rests_157 (fun hkk => absurd hkk (by decide)) (fun _ => ?_)
            refine x_iconst (v := nI 1) C0 rfl dX12_rests_160 ?_
            refine x_goto (tgt := 165) C0 (by decide) dX12_rests_161 ?_
            refine x_iadd C0 dX12_rests_165 ?_
            refine x_istore (L' := [_, _, _, _, _, _, _, _, _, _, _, _]) C0 hN (by decide) rfl dX12_rests_166 ?_
            refine x_iinc (v := nI (k + 1)) (L' := [_, _, _, _, _, _, _, _, _, _, _, _]) C0 hN rfl (by decide) (nI_inc k) rfl dX12_rests_168 ?_
            refine x_goto (tgt := 52) C0 (by decide) dX12_rests_171 ?_
            have hok : rOk le cu lo k := ⟨i_nlt.mp g97, i_nlt.mp g122⟩
            rw [rN_yes hok, rF_yes ⟨hok, g141⟩] at ih
            rw [nI_add]
            exact ih _ _ _
  have hn52 : ¬ rMay le cu lo wh → XX G 0 0 41 [some (.ref 135), some (.int le), some (.int cu), some (.int lo), some (.int wh), none, none, none, none, none, none, none] [.int 0] S R I J := by
    intro hm
    refine x_istore (L' := [_, _, _, _, _, _, _, _, _, _, _, _]) C0 hN (by decide) rfl dX12_rests_41 ?_
    refine x_iconst (v := 0) C0 rfl dX12_rests_43 ?_
    refine x_istore (L' := [_, _, _, _, _, _, _, _, _, _, _, _]) C0 hN (by decide) rfl dX12_rests_44 ?_
    refine x_iconst (v := -1) C0 rfl dX12_rests_46 ?_
    refine x_istore (L' := [_, _, _, _, _, _, _, _, _, _, _, _]) C0 hN (by decide) rfl dX12_rests_47 ?_
    refine x_iconst (v := 0) C0 rfl dX12_rests_49 ?_
    refine x_istore (L' := [_, _, _, _, _, _, _, _, _, _, _, _]) C0 hN (by decide) rfl dX12_rests_50 ?_
    refine x_iload C0 rfl dX12_rests_52 ?_
    refine x_iconst (v := 4) C0 rfl dX12_rests_54 ?_
    refine x_icmp_ge (tgt := 174) C0 (by decide) dX12_rests_55 (fun hkk => absurd hkk (by decide)) (fun _ => ?_)
    refine x_iload C0 rfl dX12_rests_58 ?_
    refine x_if_eq (tgt := 174) C0 (by decide) dX12_rests_60 (fun _ => ?_) (fun hkk => absurd (by decide) hkk)
    refine x_aload_n C0 rfl dX12_rests_174 ?_
    refine x_iload C0 rfl dX12_rests_175 ?_
    refine x_if_eq (tgt := 194) C0 (by decide) dX12_rests_177 (fun _ => ?_) (fun hkk => absurd (by decide) hkk)
    refine x_iconst (v := 1) C0 rfl dX12_rests_194 ?_
    refine x_putI C0 wf_X12_1 (isModel.k0 hM) rfl dX12_rests_195 ?_
    exact h198b (fun q => hm q.1) _ _ _ _ none none none
  refine x_iload_n C0 rfl dX12_rests_0 ?_
  refine x_iconst (v := 0) C0 rfl dX12_rests_1 ?_
  refine x_bipush (v := 9) C0 rfl dX12_rests_2 ?_
  refine x_callS [_, _, _] C0 (xRf_of hR (by decide) (Nat.zero_le _) (Nat.zero_le _)) ms_X12_within wm_X12_207 dX12_rests_4 rfl rfl (Nat.le_of_ble_eq_true rfl) (c_X12_within  (fun g4 => ?_) (fun g4 => ?_))
  · refine x_if_eq (tgt := 40) C0 (by decide) dX12_rests_7 (fun hkk => absurd hkk (by decide)) (fun _ => ?_)
    refine x_iload_n C0 rfl dX12_rests_10 ?_
    refine x_iconst (v := 0) C0 rfl dX12_rests_11 ?_
    refine x_bipush (v := 9) C0 rfl dX12_rests_12 ?_
    refine x_callS [_, _, _] C0 (xRf_of hR (by decide) (Nat.zero_le _) (Nat.zero_le _)) ms_X12_within wm_X12_207 dX12_rests_14 rfl rfl (Nat.le_of_ble_eq_true rfl) (c_X12_within  (fun g14 => ?_) (fun g14 => ?_))
    · refine x_if_eq (tgt := 40) C0 (by decide) dX12_rests_17 (fun hkk => absurd hkk (by decide)) (fun _ => ?_)
      refine x_iload_n C0 rfl dX12_rests_20 ?_
      refine x_iconst (v := 0) C0 rfl dX12_rests_21 ?_
      refine x_bipush (v := 9) C0 rfl dX12_rests_22 ?_
      refine x_callS [_, _, _] C0 (xRf_of hR (by decide) (Nat.zero_le _) (Nat.zero_le _)) ms_X12_within wm_X12_207 dX12_rests_24 rfl rfl (Nat.le_of_ble_eq_true rfl) (c_X12_within  (fun g24 => ?_) (fun g24 => ?_))
      · refine x_if_eq (tgt := 40) C0 (by decide) dX12_rests_27 (fun hkk => absurd hkk (by decide)) (fun _ => ?_)
        refine x_iload C0 rfl dX12_rests_30 ?_
        refine x_iconst (v := -1) C0 rfl dX12_rests_32 ?_
        refine x_icmp_lt (tgt := 40) C0 (by decide) dX12_rests_33 (fun g33 => ?_) (fun g33 => ?_)
        · refine x_iconst (v := 0) C0 rfl dX12_rests_40 ?_
          exact hn52 (fun q => absurd g33 (i_nlt.mpr q.2.2.2))
        · refine x_iconst (v := 1) C0 rfl dX12_rests_36 ?_
          refine x_goto (tgt := 41) C0 (by decide) dX12_rests_37 ?_
          refine x_istore (L' := [_, _, _, _, _, _, _, _, _, _, _, _]) C0 hN (by decide) rfl dX12_rests_41 ?_
          refine x_iconst (v := nI 0) C0 rfl dX12_rests_43 ?_
          refine x_istore (L' := [_, _, _, _, _, _, _, _, _, _, _, _]) C0 hN (by decide) rfl dX12_rests_44 ?_
          refine x_iconst (v := -1) C0 rfl dX12_rests_46 ?_
          refine x_istore (L' := [_, _, _, _, _, _, _, _, _, _, _, _]) C0 hN (by decide) rfl dX12_rests_47 ?_
          refine x_iconst (v := nI 0) C0 rfl dX12_rests_49 ?_
          refine x_istore (L' := [_, _, _, _, _, _, _, _, _, _, _, _]) C0 hN (by decide) rfl dX12_rests_50 ?_
          exact h52 ⟨g4, g14, g24, i_nlt.mp g33⟩ 4 0 none none none (by omega)
      · refine x_if_eq (tgt := 40) C0 (by decide) dX12_rests_27 (fun _ => ?_) (fun hkk => absurd (by decide) hkk)
        refine x_iconst (v := 0) C0 rfl dX12_rests_40 ?_
        exact hn52 (fun q => g24 q.2.2.1)
    · refine x_if_eq (tgt := 40) C0 (by decide) dX12_rests_17 (fun _ => ?_) (fun hkk => absurd (by decide) hkk)
      refine x_iconst (v := 0) C0 rfl dX12_rests_40 ?_
      exact hn52 (fun q => g14 q.2.1)
  · refine x_if_eq (tgt := 40) C0 (by decide) dX12_rests_7 (fun _ => ?_) (fun hkk => absurd (by decide) hkk)
    refine x_iconst (v := 0) C0 rfl dX12_rests_40 ?_
    exact hn52 (fun q => g4 q.1)
theorem c_X12_thrown {S : xTS} {R : xTR} {I : xTI} {J : xTJ} {post : xPost} (hM : isModel S R) (hp : post (some (.int (I 135 0))) S R I J) : xSpec 1 yX12_thrown cX12_thrown 1 (some .int) 0 0 [.ref 135] S R I J post := by
  refine xSpec_of mt_X12_thrown (Nat.le_of_ble_eq_true rfl) (fun G C0 hN hR E hI hZ => ?_)
  change XX G 0 0 0 [some (.ref 135)] [] S R I J
  refine x_aload_n C0 rfl dX12_thrown_0 ?_
  refine x_getI C0 wf_X12_1 (isModel.k0 hM) rfl dX12_thrown_1 ?_
  refine x_iret C0 E (by decide) (by decide) dX12_thrown_4 ?_
  exact hp
