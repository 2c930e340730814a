/-! THE REFERENCE CUTS ITS TAPE -/
/-- a word's code as the reference holds it -/
def cvF : Nat → Nat → Nat
  | 0, _ => 0
  | f + 1, m => 37 * cvF f (m / 32) + m % 32
def cv (m : Nat) : Nat := cvF 8 m
theorem cvF_up : ∀ f m, m < 32 ^ f → cvF (f + 1) m = cvF f m
  | 0, m, h => by
    have : m = 0 := by simpa using h
    subst this
    rfl
  | f + 1, m, h => by
    rw [Nat.pow_succ] at h
    show 37 * cvF (f + 1) (m / 32) + m % 32 = 37 * cvF f (m / 32) + m % 32
    rw [cvF_up f (m / 32) (by omega)]
theorem cv_step {m r : Nat} (h : m < 32 ^ 7) (hr : r < 32) : cv (m * 32 + r) = 37 * cv m + r := by
  show 37 * cvF 7 ((m * 32 + r) / 32) + (m * 32 + r) % 32 = 37 * cvF 8 m + r
  rw [show (m * 32 + r) / 32 = m by omega, show (m * 32 + r) % 32 = r by omega, cvF_up 7 m h]
theorem cvF_lt : ∀ f m, cvF f m < 37 ^ f
  | 0, _ => Nat.zero_lt_one
  | f + 1, m => by
    have := cvF_lt f (m / 32)
    rw [Nat.pow_succ]
    show 37 * cvF f (m / 32) + m % 32 < 37 ^ f * 37
    omega
theorem cv_lt (m : Nat) : cv m < 2 ^ 42 := Nat.lt_trans (cvF_lt 8 m) (by decide)
theorem cvF_inj : ∀ f a b, a < 32 ^ f → b < 32 ^ f → cvF f a = cvF f b → a = b
  | 0, a, b, ha, hb, _ => by
    have h1 : a = 0 := by simpa using ha
    have h2 : b = 0 := by simpa using hb
    omega
  | f + 1, a, b, ha, hb, h => by
    rw [Nat.pow_succ] at ha hb
    have h' : 37 * cvF f (a / 32) + a % 32 = 37 * cvF f (b / 32) + b % 32 := h
    have := cvF_inj f (a / 32) (b / 32) (by omega) (by omega) (by omega)
    omega
theorem cv_inj {a b : Nat} (ha : a < 2 ^ 40) (hb : b < 2 ^ 40) : cv a = cv b ↔ a = b := ⟨fun h => cvF_inj 8 a b ha hb h, fun h => by rw [h]⟩
theorem wNm_u {tp : Nat → Nat} {k : Nat} (j : Nat) : wNm tp k (j + 1) = wNm tp k j * 32 + (tp (k + j) - 96) := rfl
theorem dNm_u {tp : Nat → Nat} {k : Nat} (j : Nat) : dNm tp k (j + 1) = dNm tp k j * 10 + (tp (k + j) - 48) := rfl
theorem w_step {tp : Nat → Nat} {k j : Nat} (hj : j < 8) (hl : ∀ i, i < j → tp (k + i) ≤ 122) (h : 97 ≤ tp (k + j)) (h2 : tp (k + j) ≤ 122) : 37 * Int64.ofNat (cv (wNm tp k j)) + (nI (tp (k + j) - 96)).toInt64 = Int64.ofNat (cv (wNm tp k (j + 1))) := by
  have h1 := wNm_lt j hl
  have h3 : 32 ^ j ≤ 32 ^ 7 := Nat.pow_le_pow_right (by decide) (by omega)
  rw [wNm_u, cv_step (by omega) (by omega), i_long (by omega), show (37 : Int64) = Int64.ofNat 37 from rfl, l_mul, l_add]
theorem d_step {tp : Nat → Nat} {k j : Nat} (h : 48 ≤ tp (k + j)) (h2 : tp (k + j) ≤ 57) : 10 * Int64.ofNat (dNm tp k j) + (nI (tp (k + j))).toInt64 - 48 = Int64.ofNat (dNm tp k (j + 1)) := by
  rw [dNm_u, i_long (by omega), show (10 : Int64) = Int64.ofNat 10 from rfl, show (48 : Int64) = Int64.ofNat 48 from rfl, l_mul, l_add, l_sub (by omega)]
  congr 1
  omega
def mV (t : Nat × Nat × Nat) : Nat := if t.1 = 1 then cv t.2.1 else t.2.1
def MTi (I : xTI) (J : xTJ) (i : Nat) (t : Nat × Nat × Nat) : Prop := I 137 i = nI t.1 ∧ I 138 i = nI t.2.2 ∧ (t.1 = 1 ∨ t.1 = 2 ∨ t.1 = 3 → J 139 i = Int64.ofNat (mV t))
theorem c_X12_isLetter {S : xTS} {R : xTR} {I : xTI} {J : xTJ} {post : xPost} {c : Nat} (hc : c < 100000) (h1 : bL c = true → post (some (.int 1)) S R I J) (h0 : ¬ bL c = true → post (some (.int 0)) S R I J) : xSpec 1 yX12_isLetter cX12_isLetter 1 (some .boolean) 0 0 [.int (nI c)] S R I J post := by
  refine xSpec_of mt_X12_isLetter (Nat.le_of_ble_eq_true rfl) (fun G C0 hN hR E hI hZ => ?_)
  change XX G 0 0 0 [some (.int (nI c))] [] S R I J
  refine x_iload_n C0 rfl dX12_isLetter_0 ?_
  refine x_bipush (v := nI 97) C0 rfl dX12_isLetter_1 ?_
  refine x_icmp_lt (tgt := 16) C0 (by decide) dX12_isLetter_3 (fun g3 => ?_) (fun g3 => ?_)
  · refine x_iconst (v := 0) C0 rfl dX12_isLetter_16 ?_
    refine x_zret C0 E (by decide) (by decide) rfl dX12_isLetter_17 ?_
    exact h0 (fun z => by have := bL_iff.mp z; have := (nI_lt_iff (by omega) (by omega)).mp g3; omega)
  · refine x_iload_n C0 rfl dX12_isLetter_6 ?_
    refine x_bipush (v := nI 122) C0 rfl dX12_isLetter_7 ?_
    refine x_icmp_gt (tgt := 16) C0 (by decide) dX12_isLetter_9 (fun g9 => ?_) (fun g9 => ?_)
    · refine x_iconst (v := 0) C0 rfl dX12_isLetter_16 ?_
      refine x_zret C0 E (by decide) (by decide) rfl dX12_isLetter_17 ?_
      exact h0 (fun z => by have := bL_iff.mp z; have := (nI_lt_iff (by omega) (by omega)).mp g9; omega)
    · refine x_iconst (v := 1) C0 rfl dX12_isLetter_12 ?_
      refine x_goto (tgt := 17) C0 (by decide) dX12_isLetter_13 ?_
      refine x_zret C0 E (by decide) (by decide) rfl dX12_isLetter_17 ?_
      exact h1 (bL_iff.mpr ⟨Nat.le_of_not_lt (fun z => g3 ((nI_lt_iff (by omega) (by omega)).mpr z)), Nat.le_of_not_lt (fun z => g9 ((nI_lt_iff (by omega) (by omega)).mpr z))⟩)
theorem c_X12_isDigit {S : xTS} {R : xTR} {I : xTI} {J : xTJ} {post : xPost} {c : Nat} (hc : c < 100000) (h1 : bD c = true → post (some (.int 1)) S R I J) (h0 : ¬ bD c = true → post (some (.int 0)) S R I J) : xSpec 1 yX12_isDigit cX12_isDigit 1 (some .boolean) 0 0 [.int (nI c)] S R I J post := by
  refine xSpec_of mt_X12_isDigit (Nat.le_of_ble_eq_true rfl) (fun G C0 hN hR E hI hZ => ?_)
  change XX G 0 0 0 [some (.int (nI c))] [] S R I J
  refine x_iload_n C0 rfl dX12_isDigit_0 ?_
  refine x_bipush (v := nI 48) C0 rfl dX12_isDigit_1 ?_
  refine x_icmp_lt (tgt := 16) C0 (by decide) dX12_isDigit_3 (fun g3 => ?_) (fun g3 => ?_)
  · refine x_iconst (v := 0) C0 rfl dX12_isDigit_16 ?_
    refine x_zret C0 E (by decide) (by decide) rfl dX12_isDigit_17 ?_
    exact h0 (fun z => by have := bD_iff.mp z; have := (nI_lt_iff (by omega) (by omega)).mp g3; omega)
  · refine x_iload_n C0 rfl dX12_isDigit_6 ?_
    refine x_bipush (v := nI 57) C0 rfl dX12_isDigit_7 ?_
    refine x_icmp_gt (tgt := 16) C0 (by decide) dX12_isDigit_9 (fun g9 => ?_) (fun g9 => ?_)
    · refine x_iconst (v := 0) C0 rfl dX12_isDigit_16 ?_
      refine x_zret C0 E (by decide) (by decide) rfl dX12_isDigit_17 ?_
      exact h0 (fun z => by have := bD_iff.mp z; have := (nI_lt_iff (by omega) (by omega)).mp g9; omega)
    · refine x_iconst (v := 1) C0 rfl dX12_isDigit_12 ?_
      refine x_goto (tgt := 17) C0 (by decide) dX12_isDigit_13 ?_
      refine x_zret C0 E (by decide) (by decide) rfl dX12_isDigit_17 ?_
      exact h1 (bD_iff.mpr ⟨Nat.le_of_not_lt (fun z => g3 ((nI_lt_iff (by omega) (by omega)).mpr z)), Nat.le_of_not_lt (fun z => g9 ((nI_lt_iff (by omega) (by omega)).mpr z))⟩)
theorem c_X12_rank {S : xTS} {R : xTR} {I : xTI} {J : xTJ} {post : xPost} {c : Nat} (hl : bL c = true) (hp : post (some (.int (nI (c - 96)))) S R I J) : xSpec 2 yX12_rank cX12_rank 1 (some .int) 0 0 [.int (nI c)] S R I J post := by
  refine xSpec_of mt_X12_rank (Nat.le_of_ble_eq_true rfl) (fun G C0 hN hR E hI hZ => ?_)
  change XX G 0 0 0 [some (.int (nI c))] [] S R I J
  have hc := bL_iff.mp hl
  refine x_iload_n C0 rfl dX12_rank_0 ?_
  refine x_callS [_] C0 (xRf_of hR (by decide) (Nat.zero_le _) (Nat.zero_le _)) ms_X12_isLetter wm_X12_139 dX12_rank_1 rfl rfl (Nat.le_of_ble_eq_true rfl) (c_X12_isLetter (by omega) (fun _ => ?_) (fun z => absurd hl z))
  refine x_if_eq (tgt := 14) C0 (by decide) dX12_rank_4 (fun hkk => absurd hkk (by decide)) (fun _ => ?_)
  refine x_iload_n C0 rfl dX12_rank_7 ?_
  refine x_bipush (v := nI 96) C0 rfl dX12_rank_8 ?_
  refine x_isub C0 dX12_rank_10 ?_
  refine x_topi (nI_subn (by omega)) ?_
  refine x_goto (tgt := 18) C0 (by decide) dX12_rank_11 ?_
  refine x_iret C0 E (by decide) (by decide) dX12_rank_18 ?_
  exact hp
theorem c_X12_isSignOf {S : xTS} {R : xTR} {I : xTI} {J : xTJ} {post : xPost} {c : Nat} (hc : c < 100000) (h1 : sgB c = true → post (some (.int 1)) S R I J) (h0 : ¬ sgB c = true → post (some (.int 0)) S R I J) : xSpec 1 yX12_isSignOf cX12_isSignOf 1 (some .boolean) 0 0 [.int (nI c)] S R I J post := by
  refine xSpec_of mt_X12_isSignOf (Nat.le_of_ble_eq_true rfl) (fun G C0 hN hR E hI hZ => ?_)
  change XX G 0 0 0 [some (.int (nI c))] [] S R I J
  refine x_iload_n C0 rfl dX12_isSignOf_0 ?_
  refine x_bipush (v := nI 40) C0 rfl dX12_isSignOf_1 ?_
  refine x_icmp_eq (tgt := 48) C0 (by decide) dX12_isSignOf_3 (fun g3 => ?_) (fun g3 => ?_)
  · refine x_iconst (v := 1) C0 rfl dX12_isSignOf_48 ?_
    refine x_goto (tgt := 53) C0 (by decide) dX12_isSignOf_49 ?_
    refine x_zret C0 E (by decide) (by decide) rfl dX12_isSignOf_53 ?_
    exact h1 (by rw [(nI_eq (b := 40) (by omega) (by omega)).mp g3]; rfl)
  · refine x_iload_n C0 rfl dX12_isSignOf_6 ?_
    refine x_bipush (v := nI 41) C0 rfl dX12_isSignOf_7 ?_
    refine x_icmp_eq (tgt := 48) C0 (by decide) dX12_isSignOf_9 (fun g9 => ?_) (fun g9 => ?_)
    · refine x_iconst (v := 1) C0 rfl dX12_isSignOf_48 ?_
      refine x_goto (tgt := 53) C0 (by decide) dX12_isSignOf_49 ?_
      refine x_zret C0 E (by decide) (by decide) rfl dX12_isSignOf_53 ?_
      exact h1 (by rw [(nI_eq (b := 41) (by omega) (by omega)).mp g9]; rfl)
    · refine x_iload_n C0 rfl dX12_isSignOf_12 ?_
      refine x_bipush (v := nI 59) C0 rfl dX12_isSignOf_13 ?_
      refine x_icmp_eq (tgt := 48) C0 (by decide) dX12_isSignOf_15 (fun g15 => ?_) (fun g15 => ?_)
      · refine x_iconst (v := 1) C0 rfl dX12_isSignOf_48 ?_
        refine x_goto (tgt := 53) C0 (by decide) dX12_isSignOf_49 ?_
        refine x_zret C0 E (by decide) (by decide) rfl dX12_isSignOf_53 ?_
        exact h1 (by rw [(nI_eq (b := 59) (by omega) (by omega)).mp g15]; rfl)
      · refine x_iload_n C0 rfl dX12_isSignOf_18 ?_
        refine x_bipush (v := nI 61) C0 rfl dX12_isSignOf_19 ?_
        refine x_icmp_eq (tgt := 48) C0 (by decide) dX12_isSignOf_21 (fun g21 => ?_) (fun g21 => ?_)
        · refine x_iconst (v := 1) C0 rfl dX12_isSignOf_48 ?_
          refine x_goto (tgt := 53) C0 (by decide) dX12_isSignOf_49 ?_
          refine x_zret C0 E (by decide) (by decide) rfl dX12_isSignOf_53 ?_
          exact h1 (by rw [(nI_eq (b := 61) (by omega) (by omega)).mp g21]; rfl)
        · refine x_iload_n C0 rfl dX12_isSignOf_24 ?_
          refine x_bipush (v := nI 60) C0 rfl dX12_isSignOf_25 ?_
          refine x_icmp_eq (tgt := 48) C0 (by decide) dX12_isSignOf_27 (fun g27 => ?_) (fun g27 => ?_)
          · refine x_iconst (v := 1) C0 rfl dX12_isSignOf_48 ?_
            refine x_goto (tgt := 53) C0 (by decide) dX12_isSignOf_49 ?_
            refine x_zret C0 E (by decide) (by decide) rfl dX12_isSignOf_53 ?_
            exact h1 (by rw [(nI_eq (b := 60) (by omega) (by omega)).mp g27]; rfl)
          · refine x_iload_n C0 rfl dX12_isSignOf_30 ?_
            refine x_bipush (v := nI 43) C0 rfl dX12_isSignOf_31 ?_
            refine x_icmp_eq (tgt := 48) C0 (by decide) dX12_isSignOf_33 (fun g33 => ?_) (fun g33 => ?_)
            · refine x_iconst (v := 1) C0 rfl dX12_isSignOf_48 ?_
              refine x_goto (tgt := 53) C0 (by decide) dX12_isSignOf_49 ?_
              refine x_zret C0 E (by decide) (by decide) rfl dX12_isSignOf_53 ?_
              exact h1 (by rw [(nI_eq (b := 43) (by omega) (by omega)).mp g33]; rfl)
            · refine x_iload_n C0 rfl dX12_isSignOf_36 ?_
              refine x_bipush (v := nI 45) C0 rfl dX12_isSignOf_37 ?_
              refine x_icmp_eq (tgt := 48) C0 (by decide) dX12_isSignOf_39 (fun g39 => ?_) (fun g39 => ?_)
              · refine x_iconst (v := 1) C0 rfl dX12_isSignOf_48 ?_
                refine x_goto (tgt := 53) C0 (by decide) dX12_isSignOf_49 ?_
                refine x_zret C0 E (by decide) (by decide) rfl dX12_isSignOf_53 ?_
                exact h1 (by rw [(nI_eq (b := 45) (by omega) (by omega)).mp g39]; rfl)
              · refine x_iload_n C0 rfl dX12_isSignOf_42 ?_
                refine x_bipush (v := nI 42) C0 rfl dX12_isSignOf_43 ?_
                refine x_icmp_ne (tgt := 52) C0 (by decide) dX12_isSignOf_45 (fun g45 => ?_) (fun g45 => ?_)
                · refine x_iconst (v := 0) C0 rfl dX12_isSignOf_52 ?_
                  refine x_zret C0 E (by decide) (by decide) rfl dX12_isSignOf_53 ?_
                  exact h0 (fun z => by
                    have q := (sgB_iff c).mp z
                    unfold isSg at q
                    rcases q with q | q | q | q | q | q | q | q <;> subst q <;> (first | exact g3 rfl | exact g9 rfl | exact g15 rfl | exact g21 rfl | exact g27 rfl | exact g33 rfl | exact g39 rfl | exact g45 rfl))
                · refine x_iconst (v := 1) C0 rfl dX12_isSignOf_48 ?_
                  refine x_goto (tgt := 53) C0 (by decide) dX12_isSignOf_49 ?_
                  refine x_zret C0 E (by decide) (by decide) rfl dX12_isSignOf_53 ?_
                  exact h1 (by rw [(nI_eq (b := 42) (by omega) (by omega)).mp g45]; rfl)
