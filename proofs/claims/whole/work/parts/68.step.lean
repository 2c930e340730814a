/-! THE TAPE of the class: numbers, steps -/
theorem c_X9_readNumber {S : xTS} {R : xTR} {I : xTI} {J : xTJ} {post : xPost} (hS : fixd S R) {tp : Nat → Nat} {n : Nat} (T : CTp I tp n) {k0 : Nat} (hk0 : k0 < n) (a2 : I 1 2 = nI k0) (a3 : I 1 3 = nI k0) (hp : ∀ R' I' J', TFr R I J R' I' J' → I' 1 8 = I 1 8 → I' 1 3 = nI k0 → I' 1 2 = nI (rnTo bD tp n k0) → I' 1 4 = nI (if rnTo bD tp n k0 - k0 ≤ 4 then 3 else 1) → I' 1 5 = nI (dNm tp k0 (rnTo bD tp n k0 - k0)) → R' 1 7 = R 1 7 → post none S R' I' J') : xSpec 2 yX9_readNumber cX9_readNumber 1 none 0 0 [.ref 1] S R I J post := by
  refine xSpec_of mt_X9_readNumber (Nat.le_of_ble_eq_true rfl) (fun G C0 hN hR E hI hZ => ?_)
  change XX G 0 0 0 [some (.ref 1)] [] S R I J
  have s1 := hS.sTape
  have s2 := hS.sSigns
  have r0 := hS.rSigns
  obtain ⟨t1, t2, t3⟩ := id T
  have h66 : ∀ I1, TFr R I J R I1 J → I1 1 8 = I 1 8 → I1 1 3 = nI k0 → I1 1 2 = nI (rnTo bD tp n k0) → I1 1 5 = nI (dNm tp k0 (rnTo bD tp n k0 - k0)) → XX G 0 0 66 [some (.ref 1)] [] S R I1 J := by
    intro I1 f1 e8 e3 e2 e5
    have hge : k0 ≤ rnTo bD tp n k0 := rnTo_ge
    have hle : rnTo bD tp n k0 ≤ n := rnTo_le (by omega)
    have hfin : ∀ v, v = nI (if rnTo bD tp n k0 - k0 ≤ 4 then 3 else 1) → post none S R (u2 I1 1 4 v) J := fun v ev => by
      refine hp _ _ _ (f1.trans (TFr.st (by decide))) ?_ ?_ ?_ ?_ ?_ rfl
      · rw [u2_off _ _ (by decide)]; exact e8
      · rw [u2_off _ _ (by decide)]; exact e3
      · rw [u2_off _ _ (by decide)]; exact e2
      · rw [u2_same]; exact ev
      · rw [u2_off _ _ (by decide)]; exact e5
    refine x_aload_n C0 rfl dX9_readNumber_66 ?_
    refine x_aload_n C0 rfl dX9_readNumber_67 ?_
    refine x_getI C0 wf_X9_21 (by assumption) rfl dX9_readNumber_68 ?_
    refine x_topi e2 ?_
    refine x_aload_n C0 rfl dX9_readNumber_71 ?_
    refine x_getI C0 wf_X9_30 (by assumption) rfl dX9_readNumber_72 ?_
    refine x_topi e3 ?_
    refine x_isub C0 dX9_readNumber_75 ?_
    refine x_topi (nI_subn hge) ?_
    refine x_iconst (v := nI 4) C0 rfl dX9_readNumber_76 ?_
    refine x_icmp_gt (tgt := 84) C0 (by decide) dX9_readNumber_77 (fun g77 => ?_) (fun g77 => ?_)
    · refine x_iconst (v := nI 1) C0 rfl dX9_readNumber_84 ?_
      refine x_putI C0 wf_X9_41 (by assumption) rfl dX9_readNumber_85 ?_
      refine x_vret C0 E (by decide) (by decide) dX9_readNumber_88 ?_
      exact hfin _ (by rw [if_neg (fun z => by have := (nI_lt_iff (by omega) (by omega)).mp g77; omega)])
    · refine x_iconst (v := nI 3) C0 rfl dX9_readNumber_80 ?_
      refine x_goto (tgt := 85) C0 (by decide) dX9_readNumber_81 ?_
      refine x_putI C0 wf_X9_41 (by assumption) rfl dX9_readNumber_85 ?_
      refine x_vret C0 E (by decide) (by decide) dX9_readNumber_88 ?_
      exact hfin _ (by rw [if_pos (Nat.le_of_not_lt (fun z => g77 ((nI_lt_iff (by omega) (by omega)).mpr z)))])
  have h5 : ∀ q k I1, k + q = n → k0 ≤ k → rnTo bD tp n k = rnTo bD tp n k0 → TFr R I J R I1 J → I1 1 8 = I 1 8 → I1 1 3 = nI k0 → I1 1 2 = nI k → I1 1 5 = nI (dNm tp k0 (k - k0)) → XX G 0 0 5 [some (.ref 1)] [] S R I1 J := by
    intro q
    induction q with
    | zero =>
      intro k I1 hk h0 er f1 e8 e3 e2 e5
      have hk8 : k = n := by omega
      subst hk8
      rw [rnTo_end (Nat.le_refl _)] at er
      have u1 := (T.tfr f1).1
      refine x_aload_n C0 rfl dX9_readNumber_5 ?_
      refine x_getI C0 wf_X9_21 (by assumption) rfl dX9_readNumber_6 ?_
      refine x_topi e2 ?_
      refine x_aload_n C0 rfl dX9_readNumber_9 ?_
      refine x_getI C0 wf_X9_17 (by assumption) rfl dX9_readNumber_10 ?_
      refine x_topi u1 ?_
      refine x_icmp_ge (tgt := 66) C0 (by decide) dX9_readNumber_13 (fun _ => ?_) (fun hkk => absurd ((Int32.le_refl _)) hkk)
      exact h66 I1 f1 e8 e3 (by rw [← er]; exact e2) (by rw [← er]; exact e5)
    | succ q ih =>
      intro k I1 hk h0 er f1 e8 e3 e2 e5
      have hkn : k < n := by omega
      have T1 := T.tfr f1
      have u1 := T1.1
      refine x_aload_n C0 rfl dX9_readNumber_5 ?_
      refine x_getI C0 wf_X9_21 (by assumption) rfl dX9_readNumber_6 ?_
      refine x_topi e2 ?_
      refine x_aload_n C0 rfl dX9_readNumber_9 ?_
      refine x_getI C0 wf_X9_17 (by assumption) rfl dX9_readNumber_10 ?_
      refine x_topi u1 ?_
      refine x_icmp_ge (tgt := 66) C0 (by decide) dX9_readNumber_13 (fun hkk => absurd hkk (nI_ge (by omega) (by omega))) (fun _ => ?_)
      refine x_aload_n C0 rfl dX9_readNumber_16 ?_
      refine x_aload_n C0 rfl dX9_readNumber_17 ?_
      refine x_getI C0 wf_X9_21 (by assumption) rfl dX9_readNumber_18 ?_
      refine x_topi e2 ?_
      refine x_callV [_] C0 hN rfl (xRf_of hR (by decide) (Nat.zero_le _) (Nat.zero_le _)) mv_X9_signAt wm_X9_33 dX9_readNumber_21 (by assumption) rfl rfl (Nat.le_of_ble_eq_true rfl) (c_X9_signAt hS T1 (by omega) (fun _ => ?_) (fun z => absurd hkn z))
      refine x_callS [_] C0 (xRf_of hR (by decide) (Nat.zero_le _) (Nat.zero_le _)) ms_X9_isDigit wm_X9_51 dX9_readNumber_24 rfl rfl (Nat.le_of_ble_eq_true rfl) (c_X9_isDigit (by have := (T.2.2 k hkn).2; omega) (fun g24 => ?_) (fun g24 => ?_))
      · refine x_if_eq (tgt := 66) C0 (by decide) dX9_readNumber_27 (fun hkk => absurd hkk (by decide)) (fun _ => ?_)
        refine x_aload_n C0 rfl dX9_readNumber_30 ?_
        refine x_aload_n C0 rfl dX9_readNumber_31 ?_
        refine x_getI C0 wf_X9_65 (by assumption) rfl dX9_readNumber_32 ?_
        have hb := bD_iff.mp g24
        refine x_topi e5 ?_
        refine x_bipush (v := nI 10) C0 rfl dX9_readNumber_35 ?_
        refine x_imul C0 dX9_readNumber_37 ?_
        refine x_topi (nI_mul _ 10) ?_
        refine x_aload_n C0 rfl dX9_readNumber_38 ?_
        refine x_aload_n C0 rfl dX9_readNumber_39 ?_
        refine x_getI C0 wf_X9_21 (by assumption) rfl dX9_readNumber_40 ?_
        refine x_topi e2 ?_
        refine x_callV [_] C0 hN rfl (xRf_of hR (by decide) (Nat.zero_le _) (Nat.zero_le _)) mv_X9_signAt wm_X9_33 dX9_readNumber_43 (by assumption) rfl rfl (Nat.le_of_ble_eq_true rfl) (c_X9_signAt hS T1 (by omega) (fun _ => ?_) (fun z => absurd hkn z))
        refine x_iadd C0 dX9_readNumber_46 ?_
        refine x_topi (nI_add _ _) ?_
        refine x_bipush (v := nI 48) C0 rfl dX9_readNumber_47 ?_
        refine x_isub C0 dX9_readNumber_49 ?_
        refine x_topi (nI_subn (by omega)) ?_
        refine x_putI C0 wf_X9_65 (by assumption) rfl dX9_readNumber_50 ?_
        refine x_aload_n C0 rfl dX9_readNumber_53 ?_
        refine x_dup C0 rfl dX9_readNumber_54 ?_
        refine x_getI C0 wf_X9_21 (by assumption) rfl dX9_readNumber_55 ?_
        refine x_iconst (v := nI 1) C0 rfl dX9_readNumber_58 ?_
        refine x_iadd C0 dX9_readNumber_59 ?_
        refine x_putI C0 wf_X9_21 (by assumption) rfl dX9_readNumber_60 ?_
        refine x_goto (tgt := 5) C0 (by decide) dX9_readNumber_63 ?_
        have e9 : dNm tp k0 (k - k0) * 10 + tp k - 48 = dNm tp k0 (k + 1 - k0) := by
          rw [show k + 1 - k0 = (k - k0) + 1 by omega]
          show _ = dNm tp k0 (k - k0) * 10 + (tp (k0 + (k - k0)) - 48)
          rw [show k0 + (k - k0) = k by omega]
          omega
        have e22 : ∀ v, u2 I1 1 5 v 1 2 = nI k := fun v => by rw [u2_off _ _ (by decide)]; exact e2
        rw [e9, e22, show nI k + nI 1 = nI (k + 1) from nI_add k 1]
        exact ih (k + 1) _ (by omega) (by omega) ((rnTo_yes hkn g24).symm.trans er) (f1.trans ((TFr.st (by decide)).trans (TFr.st (by decide)))) (by rw [u2_off _ _ (by decide), u2_off _ _ (by decide)]; exact e8) (by rw [u2_off _ _ (by decide), u2_off _ _ (by decide)]; exact e3) (u2_same _ _ _ _) (by rw [u2_off _ _ (by decide), u2_same])
      · refine x_if_eq (tgt := 66) C0 (by decide) dX9_readNumber_27 (fun _ => ?_) (fun hkk => absurd (by decide) hkk)
        rw [rnTo_no hkn g24] at er
        exact h66 I1 f1 e8 e3 (by rw [← er]; exact e2) (by rw [← er]; exact e5)
  refine x_aload_n C0 rfl dX9_readNumber_0 ?_
  refine x_iconst (v := nI 0) C0 rfl dX9_readNumber_1 ?_
  refine x_putI C0 wf_X9_65 (by assumption) rfl dX9_readNumber_2 ?_
  exact h5 (n - k0) k0 _ (by omega) (Nat.le_refl _) rfl (TFr.st (by decide)) (u2_off _ _ (by decide)) (by rw [u2_off _ _ (by decide)]; exact a3) (by rw [u2_off _ _ (by decide)]; exact a2) (by rw [u2_same, Nat.sub_self]; rfl)
theorem kC_word {tp : Nat → Nat} {n k : Nat} (hk : k < n) (h : bL (tp k) = true) : kC (tKind tp n k) = (if rnTo bL tp n k - k ≤ 8 then 2 else 1) ∧ tEnd tp n k = rnTo bL tp n k ∧ tVal tp n k = wNm tp k (rnTo bL tp n k - k) := by
  unfold tKind tEnd tVal
  have hnk : ¬ n ≤ k := by omega
  simp only [if_neg hnk, if_pos h]
  exact ⟨by split <;> rfl, trivial, trivial⟩
theorem kC_num {tp : Nat → Nat} {n k : Nat} (hk : k < n) (h0 : ¬ bL (tp k) = true) (h : bD (tp k) = true) : kC (tKind tp n k) = (if rnTo bD tp n k - k ≤ 4 then 3 else 1) ∧ tEnd tp n k = rnTo bD tp n k ∧ tVal tp n k = dNm tp k (rnTo bD tp n k - k) ∧ tKind tp n k ≠ 1 := by
  unfold tKind tEnd tVal
  have hnk : ¬ n ≤ k := by omega
  simp only [if_neg hnk, if_neg h0, if_pos h]
  exact ⟨by split <;> rfl, trivial, trivial, by split <;> decide⟩
theorem kC_sign {tp : Nat → Nat} {n k : Nat} (hk : k < n) (h0 : ¬ bL (tp k) = true) (h1 : ¬ bD (tp k) = true) : kC (tKind tp n k) = (if sgB (tp k) = true then 4 else 1) ∧ tEnd tp n k = k + 1 ∧ tVal tp n k = tp k ∧ tKind tp n k ≠ 1 ∧ tKind tp n k ≠ 2 := by
  unfold tKind tEnd tVal
  have hnk : ¬ n ≤ k := by omega
  simp only [if_neg hnk, if_neg h0, if_neg h1]
  exact ⟨by split <;> rfl, trivial, trivial, by split <;> decide, by split <;> decide⟩
theorem tKind_word {tp : Nat → Nat} {n k : Nat} (h : tKind tp n k = 1) : k < n ∧ bL (tp k) = true := by
  unfold tKind at h
  by_cases h0 : n ≤ k
  · rw [if_pos h0] at h; cases h
  · rw [if_neg h0] at h
    by_cases h1 : bL (tp k) = true
    · exact ⟨by omega, h1⟩
    · rw [if_neg h1] at h
      split at h
      · split at h <;> cases h
      · split at h <;> cases h
theorem c_X9_step {S : xTS} {R : xTR} {I : xTI} {J : xTJ} {post : xPost} (hS : fixd S R) {tp : Nat → Nat} {n : Nat} (T : CTp I tp n) {i : Nat} (a8 : I 1 8 = nI 0) (a2 : I 1 2 = nI (tE tp n i)) (hp : ∀ R' I' J', TFr R I J R' I' J' → TAt R' I' J' tp n (i, 0) → post none S R' I' J') : xSpec 5 yX9_step cX9_step 2 none 0 0 [.ref 1] S R I J post := by
  refine xSpec_of mt_X9_step (Nat.le_of_ble_eq_true rfl) (fun G C0 hN hR E hI hZ => ?_)
  change XX G 0 0 0 [some (.ref 1), none] [] S R I J
  have s1 := hS.sTape
  have s2 := hS.sSigns
  have r0 := hS.rSigns
  obtain ⟨t1, t2, t3⟩ := id T
  have hPn : tP tp n i ≤ n := tP_le
  have h58 : ∀ I1, TFr R I J R I1 J → I1 1 8 = nI 0 → I1 1 2 = nI (tP tp n i) → XX G 0 0 58 [some (.ref 1), none] [] S R I1 J := by
    intro I1 f1 e8 e2
    refine x_aload_n C0 rfl dX9_step_58 ?_
    refine x_aload_n C0 rfl dX9_step_59 ?_
    refine x_getI C0 wf_X9_21 (by assumption) rfl dX9_step_60 ?_
    refine x_topi e2 ?_
    refine x_putI C0 wf_X9_30 (by assumption) rfl dX9_step_63 ?_
    refine x_aload_n C0 rfl dX9_step_66 ?_
    refine x_null C0 dX9_step_67 ?_
    refine x_putQ (r := none) C0 wf_X9_37 (by assumption) rfl dX9_step_68 ?_
    have T1 := T.tfr f1
    have f2 : TFr R I J (u2 R 1 7 none) (u2 I1 1 3 (nI (tP tp n i))) J := f1.trans ((TFr.st (by decide)).trans TFr.stR)
    have T2 := T.tfr f2
    have hS2 := hS.tfr f2
    have s1' := hS2.sTape
    have s2' := hS2.sSigns
    have r0' := hS2.rSigns
    have u1 := T2.1
    have v8 : u2 I1 1 3 (nI (tP tp n i)) 1 8 = nI 0 := by rw [u2_off _ _ (by decide)]; exact e8
    have v2 : u2 I1 1 3 (nI (tP tp n i)) 1 2 = nI (tP tp n i) := by rw [u2_off _ _ (by decide)]; exact e2
    have v3 : u2 I1 1 3 (nI (tP tp n i)) 1 3 = nI (tP tp n i) := u2_same _ _ _ _
    have w7 : u2 R 1 7 none 1 7 = none := u2_same _ _ _ _
    generalize u2 I1 1 3 (nI (tP tp n i)) = I2 at f2 T2 u1 v8 v2 v3
    generalize u2 R 1 7 none = R2 at f2 hS2 s1' s2' r0' w7
    have h80 : ∀ c, (∀ h : tP tp n i < n, c = nI (tp (tP tp n i))) → XX G 0 0 80 [some (.ref 1), some (.int c)] [] S R2 I2 J := by
      intro c hc
      refine x_aload_n C0 rfl dX9_step_80 ?_
      refine x_getI C0 wf_X9_21 (by assumption) rfl dX9_step_81 ?_
      refine x_topi v2 ?_
      refine x_aload_n C0 rfl dX9_step_84 ?_
      refine x_getI C0 wf_X9_17 (by assumption) rfl dX9_step_85 ?_
      refine x_topi u1 ?_
      refine x_icmp_lt (tgt := 99) C0 (by decide) dX9_step_88 (fun g88 => ?_) (fun g88 => ?_)
      · have hin : tP tp n i < n := (nI_lt_iff (by omega) (by omega)).mp g88
        have hce := hc hin
        subst hce
        have hc128 := (T.2.2 _ hin).2
        refine x_iload_n C0 rfl dX9_step_99 ?_
        refine x_callS [_] C0 (xRf_of hR (by decide) (Nat.zero_le _) (Nat.zero_le _)) ms_X9_isLetter wm_X9_44 dX9_step_100 rfl rfl (Nat.le_of_ble_eq_true rfl) (c_X9_isLetter (by omega) (fun g100 => ?_) (fun g100 => ?_))
        · refine x_if_eq (tgt := 113) C0 (by decide) dX9_step_103 (fun hkk => absurd hkk (by decide)) (fun _ => ?_)
          refine x_aload_n C0 rfl dX9_step_106 ?_
          refine x_callV [] C0 hN rfl (xRf_of hR (by decide) (Nat.zero_le _) (Nat.zero_le _)) mv_X9_readWord wm_X9_48 dX9_step_107 (by assumption) rfl rfl (Nat.le_of_ble_eq_true rfl) (c_X9_readWord hS2 T2 hin v2 v3 (fun R3 I3 J3 f3 b8 b3 b2 b4 b6 b7 => ?_))
          refine x_goto (tgt := 160) C0 (by decide) dX9_step_110 ?_
          refine x_vret C0 E (by decide) (by decide) dX9_step_160 ?_
          obtain ⟨q1, q2, q3⟩ := kC_word hin g100
          refine hp _ _ _ (f2.trans f3) ⟨b8.trans v8, Nat.le_of_ble_eq_true rfl, by rw [b7]; exact wOr_find _, fun _ => ⟨?_, b3, ?_, fun _ => ⟨?_, ?_⟩, fun z => ?_⟩⟩
          · show _ = nI (tEnd tp n (tP tp n i)); rw [q2]; exact b2
          · show _ = nI (kC (tKind tp n (tP tp n i))); rw [q1]; exact b4
          · show _ = Int64.ofNat (tVal tp n (tP tp n i)); rw [q3]; exact b6
          · show _ = wRef (tVal tp n (tP tp n i)); rw [q3]; exact b7
          · exfalso
            have z9 : tKind tp n (tP tp n i) = 2 ∨ tKind tp n (tP tp n i) = 3 := z
            unfold tKind at z9
            rw [if_neg (by omega), if_pos g100] at z9
            split at z9 <;> rcases z9 with z9 | z9 <;> cases z9
        · refine x_if_eq (tgt := 113) C0 (by decide) dX9_step_103 (fun _ => ?_) (fun hkk => absurd (by decide) hkk)
          refine x_iload_n C0 rfl dX9_step_113 ?_
          refine x_callS [_] C0 (xRf_of hR (by decide) (Nat.zero_le _) (Nat.zero_le _)) ms_X9_isDigit wm_X9_51 dX9_step_114 rfl rfl (Nat.le_of_ble_eq_true rfl) (c_X9_isDigit (by omega) (fun g114 => ?_) (fun g114 => ?_))
          · refine x_if_eq (tgt := 127) C0 (by decide) dX9_step_117 (fun hkk => absurd hkk (by decide)) (fun _ => ?_)
            refine x_aload_n C0 rfl dX9_step_120 ?_
            refine x_callV [] C0 hN rfl (xRf_of hR (by decide) (Nat.zero_le _) (Nat.zero_le _)) mv_X9_readNumber wm_X9_54 dX9_step_121 (by assumption) rfl rfl (Nat.le_of_ble_eq_true rfl) (c_X9_readNumber hS2 T2 hin v2 v3 (fun R3 I3 J3 f3 b8 b3 b2 b4 b5 b7 => ?_))
            refine x_goto (tgt := 160) C0 (by decide) dX9_step_124 ?_
            refine x_vret C0 E (by decide) (by decide) dX9_step_160 ?_
            obtain ⟨q1, q2, q3, q4⟩ := kC_num hin g100 g114
            refine hp _ _ _ (f2.trans f3) ⟨b8.trans v8, Nat.le_of_ble_eq_true rfl, by rw [b7, w7]; exact Or.inl rfl, fun _ => ⟨?_, b3, ?_, fun z => absurd z q4, fun _ => ?_⟩⟩
            · show _ = nI (tEnd tp n (tP tp n i)); rw [q2]; exact b2
            · show _ = nI (kC (tKind tp n (tP tp n i))); rw [q1]; exact b4
            · show _ = nI (tVal tp n (tP tp n i)); rw [q3]; exact b5
          · refine x_if_eq (tgt := 127) C0 (by decide) dX9_step_117 (fun _ => ?_) (fun hkk => absurd (by decide) hkk)
            refine x_aload_n C0 rfl dX9_step_127 ?_
            refine x_ldcS C0 ⟨rfl, rfl⟩ dX9_step_128 ?_
            refine x_iload_n C0 rfl dX9_step_130 ?_
            refine x_callT [_] C0 (xRf_of hR (by decide) (Nat.zero_le _) (Nat.zero_le _)) mx_J0_indexOf_0f7a4 wm_X9_59 dX9_step_131 rfl rfl (Nat.le_of_ble_eq_true rfl) (c_J0_indexOf_0f7a4 hc128 (fun vx hvx => ?_))
            refine x_if_lt (tgt := 141) C0 (by decide) dX9_step_134 (fun g134 => ?_) (fun g134 => ?_)
            · refine x_iconst (v := nI 1) C0 rfl dX9_step_141 ?_
              refine x_putI C0 wf_X9_41 (by assumption) rfl dX9_step_142 ?_
              refine x_aload_n C0 rfl dX9_step_145 ?_
              refine x_iload_n C0 rfl dX9_step_146 ?_
              refine x_putI C0 wf_X9_65 (by assumption) rfl dX9_step_147 ?_
              refine x_aload_n C0 rfl dX9_step_150 ?_
              refine x_dup C0 rfl dX9_step_151 ?_
              refine x_getI C0 wf_X9_21 (by assumption) rfl dX9_step_152 ?_
              refine x_iconst (v := nI 1) C0 rfl dX9_step_155 ?_
              refine x_iadd C0 dX9_step_156 ?_
              refine x_putI C0 wf_X9_21 (by assumption) rfl dX9_step_157 ?_
              refine x_vret C0 E (by decide) (by decide) dX9_step_160 ?_
              obtain ⟨q1, q2, q3, q4, q5⟩ := kC_sign hin g100 g114
              refine hp _ _ _ (f2.trans ((TFr.st (by decide)).trans ((TFr.st (by decide)).trans (TFr.st (by decide))))) ⟨?_, Nat.le_of_ble_eq_true rfl, by rw [w7]; exact Or.inl rfl, fun _ => ⟨?_, ?_, ?_, fun z => absurd z q4, fun _ => ?_⟩⟩
              · rw [u2_off _ _ (by decide), u2_off _ _ (by decide), u2_off _ _ (by decide)]; exact v8
              · show _ = nI (tEnd tp n (tP tp n i)); rw [q2, u2_same, u2_off _ _ (by decide), u2_off _ _ (by decide), v2]; exact nI_add _ 1
              · rw [u2_off _ _ (by decide), u2_off _ _ (by decide), u2_off _ _ (by decide)]; exact v3
              · show _ = nI (kC (tKind tp n (tP tp n i))); rw [q1, u2_off _ _ (by decide), u2_off _ _ (by decide), u2_same]; rw [if_neg (fun z => absurd (hvx.mp g134) (by rw [z]; decide))]
              · show _ = nI (tVal tp n (tP tp n i)); rw [q3, u2_off _ _ (by decide), u2_same]
            · refine x_iconst (v := nI 4) C0 rfl dX9_step_137 ?_
              refine x_goto (tgt := 142) C0 (by decide) dX9_step_138 ?_
              refine x_putI C0 wf_X9_41 (by assumption) rfl dX9_step_142 ?_
              refine x_aload_n C0 rfl dX9_step_145 ?_
              refine x_iload_n C0 rfl dX9_step_146 ?_
              refine x_putI C0 wf_X9_65 (by assumption) rfl dX9_step_147 ?_
              refine x_aload_n C0 rfl dX9_step_150 ?_
              refine x_dup C0 rfl dX9_step_151 ?_
              refine x_getI C0 wf_X9_21 (by assumption) rfl dX9_step_152 ?_
              refine x_iconst (v := nI 1) C0 rfl dX9_step_155 ?_
              refine x_iadd C0 dX9_step_156 ?_
              refine x_putI C0 wf_X9_21 (by assumption) rfl dX9_step_157 ?_
              refine x_vret C0 E (by decide) (by decide) dX9_step_160 ?_
              obtain ⟨q1, q2, q3, q4, q5⟩ := kC_sign hin g100 g114
              refine hp _ _ _ (f2.trans ((TFr.st (by decide)).trans ((TFr.st (by decide)).trans (TFr.st (by decide))))) ⟨?_, Nat.le_of_ble_eq_true rfl, by rw [w7]; exact Or.inl rfl, fun _ => ⟨?_, ?_, ?_, fun z => absurd z q4, fun _ => ?_⟩⟩
              · rw [u2_off _ _ (by decide), u2_off _ _ (by decide), u2_off _ _ (by decide)]; exact v8
              · show _ = nI (tEnd tp n (tP tp n i)); rw [q2, u2_same, u2_off _ _ (by decide), u2_off _ _ (by decide), v2]; exact nI_add _ 1
              · rw [u2_off _ _ (by decide), u2_off _ _ (by decide), u2_off _ _ (by decide)]; exact v3
              · show _ = nI (kC (tKind tp n (tP tp n i))); rw [q1, u2_off _ _ (by decide), u2_off _ _ (by decide), u2_same]; rw [if_pos (by cases z : sgB (tp (tP tp n i)); exact absurd (hvx.mpr z) g134; rfl)]
              · show _ = nI (tVal tp n (tP tp n i)); rw [q3, u2_off _ _ (by decide), u2_same]
      · have hout : tP tp n i = n := by
          have h2 : n ≤ tP tp n i := Nat.le_of_not_lt (fun z => g88 ((nI_lt_iff (by omega) (by omega)).mpr z))
          omega
        refine x_aload_n C0 rfl dX9_step_91 ?_
        refine x_iconst (v := nI 0) C0 rfl dX9_step_92 ?_
        refine x_putI C0 wf_X9_41 (by assumption) rfl dX9_step_93 ?_
        refine x_goto (tgt := 160) C0 (by decide) dX9_step_96 ?_
        refine x_vret C0 E (by decide) (by decide) dX9_step_160 ?_
        have q0 : tKind tp n (tP tp n i) = 0 := tKind_0.mpr (by omega)
        refine hp _ _ _ (f2.trans (TFr.st (by decide))) ⟨?_, Nat.le_of_ble_eq_true rfl, by rw [w7]; exact Or.inl rfl, fun _ => ⟨?_, ?_, ?_, fun z => ?_, fun z => ?_⟩⟩
        · rw [u2_off _ _ (by decide)]; exact v8
        · show _ = nI (tEnd tp n (tP tp n i))
          unfold tEnd
          rw [if_pos (by omega), u2_off _ _ (by decide)]
          exact v2
        · rw [u2_off _ _ (by decide)]; exact v3
        · show _ = nI (kC (tKind tp n (tP tp n i))); rw [q0, u2_same]; rfl
        · have z9 : tKind tp n (tP tp n i) = 1 := z
          rw [q0] at z9; cases z9
        · have z9 : tKind tp n (tP tp n i) = 2 ∨ tKind tp n (tP tp n i) = 3 := z
          rw [q0] at z9; rcases z9 with z9 | z9 <;> cases z9
    refine x_aload_n C0 rfl dX9_step_71 ?_
    refine x_aload_n C0 rfl dX9_step_72 ?_
    refine x_getI C0 wf_X9_21 (by assumption) rfl dX9_step_73 ?_
    refine x_topi v2 ?_
    refine x_callV [_] C0 hN rfl (xRf_of hR (by decide) (Nat.zero_le _) (Nat.zero_le _)) mv_X9_signAt wm_X9_33 dX9_step_76 (by assumption) rfl rfl (Nat.le_of_ble_eq_true rfl) (c_X9_signAt hS2 T2 (by omega) (fun hq => ?_) (fun hq => ?_))
    · refine x_istore_n (L' := [_, _]) C0 hN (by decide) rfl dX9_step_79 ?_
      exact h80 _ (fun _ => rfl)
    · refine x_istore_n (L' := [_, _]) C0 hN (by decide) rfl dX9_step_79 ?_
      exact h80 _ (fun z => absurd z hq)
  have h8 : ∀ q k I1, k + q = n → rnTo bB tp n k = tP tp n i → TFr R I J R I1 J → I1 1 8 = nI 0 → I1 1 2 = nI k → XX G 0 0 8 [some (.ref 1), none] [] S R I1 J := by
    intro q
    induction q with
    | zero =>
      intro k I1 hk er f1 e8 e2
      have hk8 : k = n := by omega
      subst hk8
      rw [rnTo_end (Nat.le_refl _)] at er
      have u1 := (T.tfr f1).1
      refine x_aload_n C0 rfl dX9_step_8 ?_
      refine x_getI C0 wf_X9_21 (by assumption) rfl dX9_step_9 ?_
      refine x_topi e2 ?_
      refine x_aload_n C0 rfl dX9_step_12 ?_
      refine x_getI C0 wf_X9_17 (by assumption) rfl dX9_step_13 ?_
      refine x_topi u1 ?_
      refine x_icmp_ge (tgt := 58) C0 (by decide) dX9_step_16 (fun _ => ?_) (fun hkk => absurd ((Int32.le_refl _)) hkk)
      exact h58 I1 f1 e8 (by rw [← er]; exact e2)
    | succ q ih =>
      intro k I1 hk er f1 e8 e2
      have hkn : k < n := by omega
      have T1 := T.tfr f1
      have u1 := T1.1
      have hc128 := (T.2.2 k hkn).2
      refine x_aload_n C0 rfl dX9_step_8 ?_
      refine x_getI C0 wf_X9_21 (by assumption) rfl dX9_step_9 ?_
      refine x_topi e2 ?_
      refine x_aload_n C0 rfl dX9_step_12 ?_
      refine x_getI C0 wf_X9_17 (by assumption) rfl dX9_step_13 ?_
      refine x_topi u1 ?_
      refine x_icmp_ge (tgt := 58) C0 (by decide) dX9_step_16 (fun hkk => absurd hkk (nI_ge (by omega) (by omega))) (fun _ => ?_)
      refine x_aload_n C0 rfl dX9_step_19 ?_
      refine x_aload_n C0 rfl dX9_step_20 ?_
      refine x_getI C0 wf_X9_21 (by assumption) rfl dX9_step_21 ?_
      refine x_topi e2 ?_
      refine x_callV [_] C0 hN rfl (xRf_of hR (by decide) (Nat.zero_le _) (Nat.zero_le _)) mv_X9_signAt wm_X9_33 dX9_step_24 (by assumption) rfl rfl (Nat.le_of_ble_eq_true rfl) (c_X9_signAt hS T1 (by omega) (fun _ => ?_) (fun z => absurd hkn z))
      refine x_bipush (v := nI 10) C0 rfl dX9_step_27 ?_
      refine x_icmp_eq (tgt := 45) C0 (by decide) dX9_step_29 (fun g29 => ?_) (fun g29 => ?_)
      · refine x_aload_n C0 rfl dX9_step_45 ?_
        refine x_dup C0 rfl dX9_step_46 ?_
        refine x_getI C0 wf_X9_21 (by assumption) rfl dX9_step_47 ?_
        refine x_iconst (v := nI 1) C0 rfl dX9_step_50 ?_
        refine x_iadd C0 dX9_step_51 ?_
        refine x_putI C0 wf_X9_21 (by assumption) rfl dX9_step_52 ?_
        refine x_goto (tgt := 8) C0 (by decide) dX9_step_55 ?_
        rw [e2, show nI k + nI 1 = nI (k + 1) from nI_add k 1]
        exact ih (k + 1) _ (by omega) ((rnTo_yes hkn (bB_iff.mpr (Or.inl ((nI_eq (by omega) (by omega)).mp g29)))).symm.trans er) (f1.trans (TFr.st (by decide))) (by rw [u2_off _ _ (by decide)]; exact e8) (u2_same _ _ _ _)
      · refine x_aload_n C0 rfl dX9_step_32 ?_
        refine x_aload_n C0 rfl dX9_step_33 ?_
        refine x_getI C0 wf_X9_21 (by assumption) rfl dX9_step_34 ?_
        refine x_topi e2 ?_
        refine x_callV [_] C0 hN rfl (xRf_of hR (by decide) (Nat.zero_le _) (Nat.zero_le _)) mv_X9_signAt wm_X9_33 dX9_step_37 (by assumption) rfl rfl (Nat.le_of_ble_eq_true rfl) (c_X9_signAt hS T1 (by omega) (fun _ => ?_) (fun z => absurd hkn z))
        refine x_bipush (v := nI 32) C0 rfl dX9_step_40 ?_
        refine x_icmp_ne (tgt := 58) C0 (by decide) dX9_step_42 (fun g42 => ?_) (fun g42 => ?_)
        · rw [rnTo_no hkn (fun z => (bB_iff.mp z).elim (fun e => g29 (by rw [e])) (fun e => g42 (by rw [e])))] at er
          exact h58 I1 f1 e8 (by rw [← er]; exact e2)
        · refine x_aload_n C0 rfl dX9_step_45 ?_
          refine x_dup C0 rfl dX9_step_46 ?_
          refine x_getI C0 wf_X9_21 (by assumption) rfl dX9_step_47 ?_
          refine x_iconst (v := nI 1) C0 rfl dX9_step_50 ?_
          refine x_iadd C0 dX9_step_51 ?_
          refine x_putI C0 wf_X9_21 (by assumption) rfl dX9_step_52 ?_
          refine x_goto (tgt := 8) C0 (by decide) dX9_step_55 ?_
          rw [e2, show nI k + nI 1 = nI (k + 1) from nI_add k 1]
          exact ih (k + 1) _ (by omega) ((rnTo_yes hkn (bB_iff.mpr (Or.inr ((nI_eq (by omega) (by omega)).mp g42)))).symm.trans er) (f1.trans (TFr.st (by decide))) (by rw [u2_off _ _ (by decide)]; exact e8) (u2_same _ _ _ _)
  refine x_aload_n C0 rfl dX9_step_0 ?_
  refine x_getI C0 wf_X9_24 (by assumption) rfl dX9_step_1 ?_
  refine x_topi a8 ?_
  refine x_if_eq (tgt := 8) C0 (by decide) dX9_step_4 (fun _ => ?_) (fun hkk => absurd (rfl) hkk)
  exact h8 (n - tE tp n i) _ I (by have := tE_le (tp := tp) (n := n) i; omega) rfl TFr.rf a8 a2
