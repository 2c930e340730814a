/-! READING: the reference, signs, words, numbers -/
theorem l_lt_n {a b : Nat} (ha : a < 2 ^ 63) (hb : b < 2 ^ 63) : Int64.ofNat a < Int64.ofNat b ↔ a < b := by
  rw [Int64.lt_iff_toInt_lt, l_toInt ha, l_toInt hb]
  omega
theorem l_le_n {a b : Nat} (ha : a < 2 ^ 63) (hb : b < 2 ^ 63) : Int64.ofNat a ≤ Int64.ofNat b ↔ a ≤ b := by
  rw [Int64.le_iff_toInt_le, l_toInt ha, l_toInt hb]
  omega
theorem c_X12_takeSign {S : xTS} {R : xTR} {I : xTI} {J : xTJ} {post : xPost} (hM : isModel S R) {tp : Nat → Nat} {n c : Nat} (T : MRd I J tp n c) {s : pS} (A : MAt I c s) {d : Nat} (hd : d < 128) (hp : ∀ I', RFr I I' → MAt I' c (pSign (tTok tp n) d s) → post none S R I' J) : xSpec 2 yX12_takeSign cX12_takeSign 2 none 0 0 [.ref 135, .int (nI d)] S R I J post := by
  refine xSpec_of mt_X12_takeSign (Nat.le_of_ble_eq_true rfl) (fun G C0 hN hR E hI hZ => ?_)
  change XX G 0 0 0 [some (.ref 135), some (.int (nI d))] [] S R I J
  obtain ⟨a7, a8, ac, a9⟩ := id A
  obtain ⟨k0, k5, kp, kc, k1, k2, kw, kn, ks⟩ := T.at ac
  have az := A.z
  refine x_aload_n C0 rfl dX12_takeSign_0 ?_
  refine x_iload_n C0 rfl dX12_takeSign_1 ?_
  refine x_callV [_] C0 hN rfl (xRf_of hR (by decide) (Nat.zero_le _) (Nat.zero_le _)) mv_X12_isSign wm_X12_168 dX12_takeSign_2 (isModel.k0 hM) rfl rfl (Nat.le_of_ble_eq_true rfl) (c_X12_isSign hM T A hd (fun g2 => ?_) (fun g2 => ?_))
  · refine x_if_eq (tgt := 21) C0 (by decide) dX12_takeSign_5 (fun hkk => absurd hkk (by decide)) (fun _ => ?_)
    refine x_aload_n C0 rfl dX12_takeSign_8 ?_
    refine x_dup C0 rfl dX12_takeSign_9 ?_
    refine x_getI C0 wf_X12_162 (isModel.k0 hM) rfl dX12_takeSign_10 ?_
    refine x_topi a7 ?_
    refine x_iconst (v := nI 1) C0 rfl dX12_takeSign_13 ?_
    refine x_iadd C0 dX12_takeSign_14 ?_
    refine x_topi (nI_add s.1 _) ?_
    refine x_putI C0 wf_X12_162 (isModel.k0 hM) rfl dX12_takeSign_15 ?_
    refine x_goto (tgt := 26) C0 (by decide) dX12_takeSign_18 ?_
    refine x_vret C0 E (by decide) (by decide) dX12_takeSign_26 ?_
    refine hp _ (RFr.st (Or.inl rfl)) ?_
    unfold pSign
    rw [if_pos g2]
    exact (A.next g2.1 (kc (by rw [g2.2.1]; decide)))
  · refine x_if_eq (tgt := 21) C0 (by decide) dX12_takeSign_5 (fun _ => ?_) (fun hkk => absurd (by decide) hkk)
    refine x_aload_n C0 rfl dX12_takeSign_21 ?_
    refine x_iconst (v := nI 1) C0 rfl dX12_takeSign_22 ?_
    refine x_callV [_] C0 hN rfl (xRf_of hR (by decide) (Nat.zero_le _) (Nat.zero_le _)) mv_X12_wrong wm_X12_171 dX12_takeSign_23 (isModel.k0 hM) rfl rfl (Nat.le_of_ble_eq_true rfl) (c_X12_wrong hM T A (by decide) (fun I1 f1 A1 => ?_))
    refine x_vret C0 E (by decide) (by decide) dX12_takeSign_26 ?_
    refine hp I1 f1 ?_
    unfold pSign
    rw [if_neg g2]
    exact A1
theorem c_X12_hasSign {S : xTS} {R : xTR} {I : xTI} {J : xTJ} {post : xPost} (hM : isModel S R) {tp : Nat → Nat} {n c : Nat} (T : MRd I J tp n c) {s : pS} (A : MAt I c s) {d : Nat} (hd : d < 128) (h1 : (pIsC (tTok tp n) d s) → ∀ I', RFr I I' → MAt I' c (pNext s) → post (some (.int 1)) S R I' J) (h0 : ¬ (pIsC (tTok tp n) d s) → ∀ I', RFr I I' → MAt I' c s → post (some (.int 0)) S R I' J) : xSpec 2 yX12_hasSign cX12_hasSign 3 (some .boolean) 0 0 [.ref 135, .int (nI d)] S R I J post := by
  refine xSpec_of mt_X12_hasSign (Nat.le_of_ble_eq_true rfl) (fun G C0 hN hR E hI hZ => ?_)
  change XX G 0 0 0 [some (.ref 135), some (.int (nI d)), none] [] S R I J
  obtain ⟨a7, a8, ac, a9⟩ := id A
  obtain ⟨k0, k5, kp, kc, k1, k2, kw, kn, ks⟩ := T.at ac
  have az := A.z
  refine x_aload_n C0 rfl dX12_hasSign_0 ?_
  refine x_iload_n C0 rfl dX12_hasSign_1 ?_
  refine x_callV [_] C0 hN rfl (xRf_of hR (by decide) (Nat.zero_le _) (Nat.zero_le _)) mv_X12_isSign wm_X12_168 dX12_hasSign_2 (isModel.k0 hM) rfl rfl (Nat.le_of_ble_eq_true rfl) (c_X12_isSign hM T A hd (fun g2 => ?_) (fun g2 => ?_))
  · refine x_istore_n (L' := [_, _, _]) C0 hN (by decide) rfl dX12_hasSign_5 ?_
    refine x_aload_n C0 rfl dX12_hasSign_6 ?_
    refine x_dup C0 rfl dX12_hasSign_7 ?_
    refine x_getI C0 wf_X12_162 (isModel.k0 hM) rfl dX12_hasSign_8 ?_
    refine x_topi a7 ?_
    refine x_iload_n C0 rfl dX12_hasSign_11 ?_
    refine x_if_eq (tgt := 19) C0 (by decide) dX12_hasSign_12 (fun hkk => absurd hkk (by decide)) (fun _ => ?_)
    refine x_iconst (v := nI 1) C0 rfl dX12_hasSign_15 ?_
    refine x_goto (tgt := 20) C0 (by decide) dX12_hasSign_16 ?_
    refine x_iadd C0 dX12_hasSign_20 ?_
    refine x_topi (nI_add s.1 _) ?_
    refine x_putI C0 wf_X12_162 (isModel.k0 hM) rfl dX12_hasSign_21 ?_
    refine x_iload_n C0 rfl dX12_hasSign_24 ?_
    refine x_zret C0 E (by decide) (by decide) rfl dX12_hasSign_25 ?_
    exact h1 g2 _ (RFr.st (Or.inl rfl)) (A.next g2.1 (kc (by rw [g2.2.1]; decide)))
  · refine x_istore_n (L' := [_, _, _]) C0 hN (by decide) rfl dX12_hasSign_5 ?_
    refine x_aload_n C0 rfl dX12_hasSign_6 ?_
    refine x_dup C0 rfl dX12_hasSign_7 ?_
    refine x_getI C0 wf_X12_162 (isModel.k0 hM) rfl dX12_hasSign_8 ?_
    refine x_topi a7 ?_
    refine x_iload_n C0 rfl dX12_hasSign_11 ?_
    refine x_if_eq (tgt := 19) C0 (by decide) dX12_hasSign_12 (fun _ => ?_) (fun hkk => absurd (by decide) hkk)
    refine x_iconst (v := nI 0) C0 rfl dX12_hasSign_19 ?_
    refine x_iadd C0 dX12_hasSign_20 ?_
    refine x_topi (nI_add s.1 _) ?_
    refine x_putI C0 wf_X12_162 (isModel.k0 hM) rfl dX12_hasSign_21 ?_
    refine x_iload_n C0 rfl dX12_hasSign_24 ?_
    refine x_zret C0 E (by decide) (by decide) rfl dX12_hasSign_25 ?_
    exact h0 g2 _ (RFr.st (Or.inl rfl)) ⟨u2_same _ _ _ _, by rw [u2_off _ _ (by decide)]; exact a8, ac, a9⟩
theorem c_X12_hasWord {S : xTS} {R : xTR} {I : xTI} {J : xTJ} {post : xPost} (hM : isModel S R) {tp : Nat → Nat} {n c : Nat} (T : MRd I J tp n c) {s : pS} (A : MAt I c s) {i : Nat} (hi : i < 26) (h1 : (pIsW (tTok tp n) i s) → ∀ I', RFr I I' → MAt I' c (pNext s) → post (some (.int 1)) S R I' J) (h0 : ¬ (pIsW (tTok tp n) i s) → ∀ I', RFr I I' → MAt I' c s → post (some (.int 0)) S R I' J) : xSpec 2 yX12_hasWord cX12_hasWord 3 (some .boolean) 0 0 [.ref 135, .int (nI i)] S R I J post := by
  refine xSpec_of mt_X12_hasWord (Nat.le_of_ble_eq_true rfl) (fun G C0 hN hR E hI hZ => ?_)
  change XX G 0 0 0 [some (.ref 135), some (.int (nI i)), none] [] S R I J
  obtain ⟨a7, a8, ac, a9⟩ := id A
  obtain ⟨k0, k5, kp, kc, k1, k2, kw, kn, ks⟩ := T.at ac
  have az := A.z
  refine x_aload_n C0 rfl dX12_hasWord_0 ?_
  refine x_iload_n C0 rfl dX12_hasWord_1 ?_
  refine x_callV [_] C0 hN rfl (xRf_of hR (by decide) (Nat.zero_le _) (Nat.zero_le _)) mv_X12_isWord wm_X12_174 dX12_hasWord_2 (isModel.k0 hM) rfl rfl (Nat.le_of_ble_eq_true rfl) (c_X12_isWord hM T A hi (fun g2 => ?_) (fun g2 => ?_))
  · refine x_istore_n (L' := [_, _, _]) C0 hN (by decide) rfl dX12_hasWord_5 ?_
    refine x_aload_n C0 rfl dX12_hasWord_6 ?_
    refine x_dup C0 rfl dX12_hasWord_7 ?_
    refine x_getI C0 wf_X12_162 (isModel.k0 hM) rfl dX12_hasWord_8 ?_
    refine x_topi a7 ?_
    refine x_iload_n C0 rfl dX12_hasWord_11 ?_
    refine x_if_eq (tgt := 19) C0 (by decide) dX12_hasWord_12 (fun hkk => absurd hkk (by decide)) (fun _ => ?_)
    refine x_iconst (v := nI 1) C0 rfl dX12_hasWord_15 ?_
    refine x_goto (tgt := 20) C0 (by decide) dX12_hasWord_16 ?_
    refine x_iadd C0 dX12_hasWord_20 ?_
    refine x_topi (nI_add s.1 _) ?_
    refine x_putI C0 wf_X12_162 (isModel.k0 hM) rfl dX12_hasWord_21 ?_
    refine x_iload_n C0 rfl dX12_hasWord_24 ?_
    refine x_zret C0 E (by decide) (by decide) rfl dX12_hasWord_25 ?_
    exact h1 g2 _ (RFr.st (Or.inl rfl)) (A.next g2.1 (kc (by rw [g2.2.1]; decide)))
  · refine x_istore_n (L' := [_, _, _]) C0 hN (by decide) rfl dX12_hasWord_5 ?_
    refine x_aload_n C0 rfl dX12_hasWord_6 ?_
    refine x_dup C0 rfl dX12_hasWord_7 ?_
    refine x_getI C0 wf_X12_162 (isModel.k0 hM) rfl dX12_hasWord_8 ?_
    refine x_topi a7 ?_
    refine x_iload_n C0 rfl dX12_hasWord_11 ?_
    refine x_if_eq (tgt := 19) C0 (by decide) dX12_hasWord_12 (fun _ => ?_) (fun hkk => absurd (by decide) hkk)
    refine x_iconst (v := nI 0) C0 rfl dX12_hasWord_19 ?_
    refine x_iadd C0 dX12_hasWord_20 ?_
    refine x_topi (nI_add s.1 _) ?_
    refine x_putI C0 wf_X12_162 (isModel.k0 hM) rfl dX12_hasWord_21 ?_
    refine x_iload_n C0 rfl dX12_hasWord_24 ?_
    refine x_zret C0 E (by decide) (by decide) rfl dX12_hasWord_25 ?_
    exact h0 g2 _ (RFr.st (Or.inl rfl)) ⟨u2_same _ _ _ _, by rw [u2_off _ _ (by decide)]; exact a8, ac, a9⟩
theorem c_X12_takeWord {S : xTS} {R : xTR} {I : xTI} {J : xTJ} {post : xPost} (hM : isModel S R) {tp : Nat → Nat} {n c : Nat} (T : MRd I J tp n c) {s : pS} (A : MAt I c s) {i : Nat} (hi : i < 26) (hp : ∀ I', RFr I I' → MAt I' c (pNeed (tTok tp n) i s) → post none S R I' J) : xSpec 3 yX12_takeWord cX12_takeWord 2 none 0 0 [.ref 135, .int (nI i)] S R I J post := by
  refine xSpec_of mt_X12_takeWord (Nat.le_of_ble_eq_true rfl) (fun G C0 hN hR E hI hZ => ?_)
  change XX G 0 0 0 [some (.ref 135), some (.int (nI i))] [] S R I J
  obtain ⟨a7, a8, ac, a9⟩ := id A
  obtain ⟨k0, k5, kp, kc, k1, k2, kw, kn, ks⟩ := T.at ac
  have az := A.z
  refine x_aload_n C0 rfl dX12_takeWord_0 ?_
  refine x_iload_n C0 rfl dX12_takeWord_1 ?_
  refine x_callV [_] C0 hN rfl (xRf_of hR (by decide) (Nat.zero_le _) (Nat.zero_le _)) mv_X12_hasWord wm_X12_177 dX12_takeWord_2 (isModel.k0 hM) rfl rfl (Nat.le_of_ble_eq_true rfl) (c_X12_hasWord hM T A hi (fun g2 I1 f1 A1 => ?_) (fun g2 I1 f1 A1 => ?_))
  · refine x_if_ne (tgt := 13) C0 (by decide) dX12_takeWord_5 (fun _ => ?_) (fun hkk => absurd hkk (by decide))
    refine x_vret C0 E (by decide) (by decide) dX12_takeWord_13 ?_
    refine hp I1 f1 ?_
    unfold pNeed
    rw [if_pos g2]
    exact A1
  · refine x_if_ne (tgt := 13) C0 (by decide) dX12_takeWord_5 (fun hkk => absurd (by decide) hkk) (fun _ => ?_)
    refine x_aload_n C0 rfl dX12_takeWord_8 ?_
    refine x_iconst (v := nI 1) C0 rfl dX12_takeWord_9 ?_
    refine x_callV [_] C0 hN rfl (xRf_of hR (by decide) (Nat.zero_le _) (Nat.zero_le _)) mv_X12_wrong wm_X12_171 dX12_takeWord_10 (isModel.k0 hM) rfl rfl (Nat.le_of_ble_eq_true rfl) (c_X12_wrong hM (T.fr f1) A1 (by decide) (fun I2 f2 A2 => ?_))
    refine x_vret C0 E (by decide) (by decide) dX12_takeWord_13 ?_
    refine hp I2 (f1.trans f2) ?_
    unfold pNeed
    rw [if_neg g2]
    exact A2
theorem c_X12_takeNumber {S : xTS} {R : xTR} {I : xTI} {J : xTJ} {post : xPost} (hM : isModel S R) {tp : Nat → Nat} {n c : Nat} (T : MRd I J tp n c) {s : pS} (A : MAt I c s) {lo hi : Nat} (hlo : lo < 10000) (hhi : hi < 10000) (hp : ∀ v I', RFr I I' → MAt I' c (pNum (tTok tp n) lo hi s) → ((pNum (tTok tp n) lo hi s).2 = 0 → s.2 = 0 ∧ v = nI ((tTok tp n) s.1).2.1 ∧ ((tTok tp n) s.1).1 = 2 ∧ lo ≤ ((tTok tp n) s.1).2.1 ∧ ((tTok tp n) s.1).2.1 ≤ hi) → post (some (.int v)) S R I' J) : xSpec 2 yX12_takeNumber cX12_takeNumber 3 (some .int) 0 0 [.ref 135, .int (nI lo), .int (nI hi)] S R I J post := by
  refine xSpec_of mt_X12_takeNumber (Nat.le_of_ble_eq_true rfl) (fun G C0 hN hR E hI hZ => ?_)
  change XX G 0 0 0 [some (.ref 135), some (.int (nI lo)), some (.int (nI hi))] [] S R I J
  obtain ⟨a7, a8, ac, a9⟩ := id A
  obtain ⟨k0, k5, kp, kc, k1, k2, kw, kn, ks⟩ := T.at ac
  have az := A.z
  have h70 : ∀ I1 s1, RFr I I1 → MAt I1 c s1 → (¬ s1.2 = 0 → pNum (tTok tp n) lo hi s = s1) → (s1.2 = 0 → s1 = s ∧ s.2 = 0 ∧ ((tTok tp n) s.1).1 = 2 ∧ lo ≤ ((tTok tp n) s.1).2.1 ∧ ((tTok tp n) s.1).2.1 ≤ hi) → XX G 0 0 70 [some (.ref 135), some (.int (nI lo)), some (.int (nI hi))] [] S R I1 J := by
    intro I1 s1 f1 A1 e0 e1
    have T1 := T.fr f1
    refine x_aload_n C0 rfl dX12_takeNumber_70 ?_
    refine x_getI C0 wf_X12_165 (isModel.k0 hM) rfl dX12_takeNumber_71 ?_
    refine x_topi A1.2.1 ?_
    refine x_if_le (tgt := 79) C0 (by decide) dX12_takeNumber_74 (fun g74 => ?_) (fun g74 => ?_)
    · have z : s1.2 = 0 := by
        have := (nI_le_iff (b := 0) (by have := A1.2.2.2; omega) (by decide)).mp g74
        omega
      obtain ⟨es, z0, k2', l1, l2⟩ := e1 z
      subst es
      obtain ⟨kn1, kn2⟩ := kn k2'
      refine x_aload_n C0 rfl dX12_takeNumber_79 ?_
      refine x_dup C0 rfl dX12_takeNumber_80 ?_
      refine x_getI C0 wf_X12_162 (isModel.k0 hM) rfl dX12_takeNumber_81 ?_
      refine x_topi A1.1 ?_
      refine x_iconst (v := nI 1) C0 rfl dX12_takeNumber_84 ?_
      refine x_iadd C0 dX12_takeNumber_85 ?_
      refine x_topi (nI_add s1.1 1) ?_
      refine x_putI C0 wf_X12_162 (isModel.k0 hM) rfl dX12_takeNumber_86 ?_
      refine x_aload_n C0 rfl dX12_takeNumber_89 ?_
      refine x_getR C0 wf_X12_30 (isModel.k0 hM) rfl rfl (isModel.r6 hM) dX12_takeNumber_90 ?_
      refine x_aload_n C0 rfl dX12_takeNumber_93 ?_
      refine x_getI C0 wf_X12_162 (isModel.k0 hM) rfl dX12_takeNumber_94 ?_
      refine x_topi (u2_same _ _ _ _) ?_
      refine x_iconst (v := nI 1) C0 rfl dX12_takeNumber_97 ?_
      refine x_isub C0 dX12_takeNumber_98 ?_
      refine x_topi (nI_pred s1.1) ?_
      refine x_laloadN C0 (isModel.s6 hM) (by omega) (by omega) dX12_takeNumber_99 ?_
      refine x_topl kn2 ?_
      refine x_l2i C0 dX12_takeNumber_100 ?_
      refine x_topi (l_int _) ?_
      refine x_iret C0 E (by decide) (by decide) dX12_takeNumber_101 ?_
      have eN : pNum (tTok tp n) lo hi s1 = pNext s1 := by
        unfold pNum
        rw [if_pos k2', if_neg (by omega)]
      exact hp _ _ (f1.trans (RFr.st (Or.inl rfl))) (by rw [eN]; exact A1.next z0 (kc (by rw [k2']; decide))) (fun _ => ⟨z0, rfl, k2', l1, l2⟩)
    · have z : ¬ s1.2 = 0 := fun z => g74 (by rw [z]; exact Int32.le_refl _)
      refine x_iconst (v := nI 0) C0 rfl dX12_takeNumber_77 ?_
      refine x_iret C0 E (by decide) (by decide) dX12_takeNumber_78 ?_
      exact hp _ I1 f1 (by rw [e0 z]; exact A1) (fun y => absurd (by rw [← e0 z]; exact y) z)
  have h28 : (s.2 = 0 → ((tTok tp n) s.1).1 = 2) → XX G 0 0 28 [some (.ref 135), some (.int (nI lo)), some (.int (nI hi))] [] S R I J := by
    intro hk
    refine x_aload_n C0 rfl dX12_takeNumber_28 ?_
    refine x_getI C0 wf_X12_165 (isModel.k0 hM) rfl dX12_takeNumber_29 ?_
    refine x_topi a8 ?_
    refine x_if_ne (tgt := 70) C0 (by decide) dX12_takeNumber_32 (fun g32 => ?_) (fun g32 => ?_)
    · exact h70 I s RFr.rf A (fun z => pNum_f z) (fun z => absurd (az.mpr z) g32)
    · have z0 := az.mp g32
      have k3 := hk z0
      obtain ⟨kn1, kn2⟩ := kn k3
      refine x_aload_n C0 rfl dX12_takeNumber_35 ?_
      refine x_getR C0 wf_X12_30 (isModel.k0 hM) rfl rfl (isModel.r6 hM) dX12_takeNumber_36 ?_
      refine x_aload_n C0 rfl dX12_takeNumber_39 ?_
      refine x_getI C0 wf_X12_162 (isModel.k0 hM) rfl dX12_takeNumber_40 ?_
      refine x_topi a7 ?_
      refine x_laloadN C0 (isModel.s6 hM) (by omega) (by omega) dX12_takeNumber_43 ?_
      refine x_topl kn2 ?_
      refine x_iload_n C0 rfl dX12_takeNumber_44 ?_
      refine x_i2l C0 dX12_takeNumber_45 ?_
      refine x_topl (i_long (by omega)) ?_
      refine x_lcmp C0 dX12_takeNumber_46 ?_
      refine x_if_lt (tgt := 65) C0 (by decide) dX12_takeNumber_47 (fun g47 => ?_) (fun g47 => ?_)
      · refine x_aload_n C0 rfl dX12_takeNumber_65 ?_
        refine x_iconst (v := nI 4) C0 rfl dX12_takeNumber_66 ?_
        refine x_callV [_] C0 hN rfl (xRf_of hR (by decide) (Nat.zero_le _) (Nat.zero_le _)) mv_X12_wrong wm_X12_171 dX12_takeNumber_67 (isModel.k0 hM) rfl rfl (Nat.le_of_ble_eq_true rfl) (c_X12_wrong hM T A (by decide) (fun I1 f1 A1 => ?_))
        refine h70 I1 _ f1 A1 (fun _ => ?_) (fun z => absurd z (pRef_ne (by decide)))
        unfold pNum
        rw [if_pos k3, if_pos (Or.inl ((l_lt_n (by omega) (by omega)).mp ((lg_cmp_lt _ _).mp g47)))]
      · refine x_aload_n C0 rfl dX12_takeNumber_50 ?_
        refine x_getR C0 wf_X12_30 (isModel.k0 hM) rfl rfl (isModel.r6 hM) dX12_takeNumber_51 ?_
        refine x_aload_n C0 rfl dX12_takeNumber_54 ?_
        refine x_getI C0 wf_X12_162 (isModel.k0 hM) rfl dX12_takeNumber_55 ?_
        refine x_topi a7 ?_
        refine x_laloadN C0 (isModel.s6 hM) (by omega) (by omega) dX12_takeNumber_58 ?_
        refine x_topl kn2 ?_
        refine x_iload_n C0 rfl dX12_takeNumber_59 ?_
        refine x_i2l C0 dX12_takeNumber_60 ?_
        refine x_topl (i_long (by omega)) ?_
        refine x_lcmp C0 dX12_takeNumber_61 ?_
        refine x_if_le (tgt := 70) C0 (by decide) dX12_takeNumber_62 (fun g62 => ?_) (fun g62 => ?_)
        · refine h70 I s RFr.rf A (fun z => absurd z0 z) (fun _ => ⟨rfl, z0, k3, Nat.le_of_not_lt (fun y => g47 ((lg_cmp_lt _ _).mpr ((l_lt_n (by omega) (by omega)).mpr y))), (l_le_n (by omega) (by omega)).mp ((lg_cmp_le _ _).mp g62)⟩)
        · refine x_aload_n C0 rfl dX12_takeNumber_65 ?_
          refine x_iconst (v := nI 4) C0 rfl dX12_takeNumber_66 ?_
          refine x_callV [_] C0 hN rfl (xRf_of hR (by decide) (Nat.zero_le _) (Nat.zero_le _)) mv_X12_wrong wm_X12_171 dX12_takeNumber_67 (isModel.k0 hM) rfl rfl (Nat.le_of_ble_eq_true rfl) (c_X12_wrong hM T A (by decide) (fun I1 f1 A1 => ?_))
          refine h70 I1 _ f1 A1 (fun _ => ?_) (fun z => absurd z (pRef_ne (by decide)))
          unfold pNum
          rw [if_pos k3, if_pos (Or.inr (Nat.lt_of_not_le (fun y => g62 ((lg_cmp_le _ _).mpr ((l_le_n (by omega) (by omega)).mpr y)))))]
  refine x_aload_n C0 rfl dX12_takeNumber_0 ?_
  refine x_getI C0 wf_X12_165 (isModel.k0 hM) rfl dX12_takeNumber_1 ?_
  refine x_topi a8 ?_
  refine x_if_ne (tgt := 28) C0 (by decide) dX12_takeNumber_4 (fun g4 => ?_) (fun g4 => ?_)
  · exact h28 (fun z => absurd (az.mpr z) g4)
  · refine x_aload_n C0 rfl dX12_takeNumber_7 ?_
    refine x_getR C0 wf_X12_24 (isModel.k0 hM) rfl rfl (isModel.r4 hM) dX12_takeNumber_8 ?_
    refine x_aload_n C0 rfl dX12_takeNumber_11 ?_
    refine x_getI C0 wf_X12_162 (isModel.k0 hM) rfl dX12_takeNumber_12 ?_
    refine x_topi a7 ?_
    refine x_ialoadN C0 (isModel.s4 hM) (by omega) (by omega) dX12_takeNumber_15 ?_
    refine x_topi k1 ?_
    refine x_iconst (v := nI 2) C0 rfl dX12_takeNumber_16 ?_
    refine x_icmp_eq (tgt := 28) C0 (by decide) dX12_takeNumber_17 (fun g17 => ?_) (fun g17 => ?_)
    · exact h28 (fun _ => (nI_eq (by omega) (by omega)).mp g17)
    · refine x_aload_n C0 rfl dX12_takeNumber_20 ?_
      refine x_iconst (v := nI 1) C0 rfl dX12_takeNumber_21 ?_
      refine x_callV [_] C0 hN rfl (xRf_of hR (by decide) (Nat.zero_le _) (Nat.zero_le _)) mv_X12_wrong wm_X12_171 dX12_takeNumber_22 (isModel.k0 hM) rfl rfl (Nat.le_of_ble_eq_true rfl) (c_X12_wrong hM T A (by decide) (fun I1 f1 A1 => ?_))
      refine x_goto (tgt := 70) C0 (by decide) dX12_takeNumber_25 ?_
      refine h70 I1 _ f1 A1 (fun _ => ?_) (fun z => absurd z (pRef_ne (by decide)))
      unfold pNum
      rw [if_neg (fun z => g17 (by rw [z]))]
theorem c_X12_takeAfter {S : xTS} {R : xTR} {I : xTI} {J : xTJ} {post : xPost} (hM : isModel S R) {tp : Nat → Nat} {n c : Nat} (T : MRd I J tp n c) {s : pS} (A : MAt I c s) {i lo hi : Nat} (hi6 : i < 26) (hlo : lo < 10000) (hhi : hi < 10000) (hp : ∀ v I', RFr I I' → MAt I' c (pNum (tTok tp n) lo hi (pNeed (tTok tp n) i s)) → ((pNum (tTok tp n) lo hi (pNeed (tTok tp n) i s)).2 = 0 → (pNeed (tTok tp n) i s).2 = 0 ∧ v = nI ((tTok tp n) (pNeed (tTok tp n) i s).1).2.1 ∧ ((tTok tp n) (pNeed (tTok tp n) i s).1).1 = 2 ∧ lo ≤ ((tTok tp n) (pNeed (tTok tp n) i s).1).2.1 ∧ ((tTok tp n) (pNeed (tTok tp n) i s).1).2.1 ≤ hi) → post (some (.int v)) S R I' J) : xSpec 4 yX12_takeAfter cX12_takeAfter 4 (some .int) 0 0 [.ref 135, .int (nI i), .int (nI lo), .int (nI hi)] S R I J post := by
  refine xSpec_of mt_X12_takeAfter (Nat.le_of_ble_eq_true rfl) (fun G C0 hN hR E hI hZ => ?_)
  change XX G 0 0 0 [some (.ref 135), some (.int (nI i)), some (.int (nI lo)), some (.int (nI hi))] [] S R I J
  obtain ⟨a7, a8, ac, a9⟩ := id A
  obtain ⟨k0, k5, kp, kc, k1, k2, kw, kn, ks⟩ := T.at ac
  have az := A.z
  refine x_aload_n C0 rfl dX12_takeAfter_0 ?_
  refine x_iload_n C0 rfl dX12_takeAfter_1 ?_
  refine x_callV [_] C0 hN rfl (xRf_of hR (by decide) (Nat.zero_le _) (Nat.zero_le _)) mv_X12_takeWord wm_X12_180 dX12_takeAfter_2 (isModel.k0 hM) rfl rfl (Nat.le_of_ble_eq_true rfl) (c_X12_takeWord hM T A hi6 (fun I1 f1 A1 => ?_))
  refine x_aload_n C0 rfl dX12_takeAfter_5 ?_
  refine x_iload_n C0 rfl dX12_takeAfter_6 ?_
  refine x_iload_n C0 rfl dX12_takeAfter_7 ?_
  refine x_callV [_, _] C0 hN rfl (xRf_of hR (by decide) (Nat.zero_le _) (Nat.zero_le _)) mv_X12_takeNumber wm_X12_183 dX12_takeAfter_8 (isModel.k0 hM) rfl rfl (Nat.le_of_ble_eq_true rfl) (c_X12_takeNumber hM (T.fr f1) A1 hlo hhi (fun v I2 f2 A2 e2 => ?_))
  refine x_iret C0 E (by decide) (by decide) dX12_takeAfter_11 ?_
  exact hp v I2 (f1.trans f2) A2 e2
