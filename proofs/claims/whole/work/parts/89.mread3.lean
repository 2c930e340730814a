/-! READING: the reference, one of the words -/
theorem wHr_up {q : xTok} {fr k : Nat} {s : pS} (h : ¬ pIsW q (fr + k) s) : wHr q fr (k + 1) s = wHr q fr k s := by
  unfold wHr
  by_cases g : s.2 = 0 ∧ (q s.1).1 = 1
  · rw [if_pos g, if_pos g, xIdx_up]
    cases e : xIdx (fun i => wCd (fr + i)) (q s.1).2.1 k with
    | some j => rfl
    | none => exact if_neg (fun z => h ⟨g.1, g.2, z.symm⟩)
  · rw [if_neg g, if_neg g]
theorem wHr_f {q : xTok} {fr m : Nat} {s : pS} (h : ¬ s.2 = 0) : wHr q fr m s = none := if_neg (fun z => h z.1)
theorem oI_ge {o : Option Nat} (h : ∀ i, o = some i → i < 1000) : 0 ≤ oI o ↔ o ≠ none := by
  cases o with
  | none => exact ⟨fun z => absurd z (show ¬ (0 : Int32) ≤ -1 by decide), fun z => absurd rfl z⟩
  | some i => exact ⟨fun _ z => (by cases z), fun _ => nI_pos' (by have := h i rfl; omega)⟩
theorem pOne_is {q : xTok} {s : pS} : pOne q 2 2 s = pIs q s := by
  unfold pOne pIs
  by_cases h : pIsW q 2 s ∨ pIsW q 3 s
  · rw [if_pos h]
    refine if_neg (fun z => ?_)
    rcases h with h | h
    · rw [wHr_some (i := 0) (by decide) (by decide) h] at z; cases z
    · rw [wHr_some (i := 1) (by decide) (by decide) h] at z; cases z
  · rw [if_neg h]
    refine if_pos (wHr_none (fun i hi z => h ?_))
    rcases (show i = 0 ∨ i = 1 by omega) with rfl | rfl
    · exact Or.inl z
    · exact Or.inr z
theorem c_X12_wordHere {S : xTS} {R : xTR} {I : xTI} {J : xTJ} {post : xPost} (hM : isModel S R) {tp : Nat → Nat} {n c : Nat} (T : MRd I J tp n c) {s : pS} (A : MAt I c s) {fr m : Nat} (hm : fr + m ≤ 26) (hp : post (some (.int (oI (wHr (tTok tp n) fr m s)))) S R I J) : xSpec 2 yX12_wordHere cX12_wordHere 5 (some .int) 0 0 [.ref 135, .int (nI fr), .int (nI m)] S R I J post := by
  refine xSpec_of mt_X12_wordHere (Nat.le_of_ble_eq_true rfl) (fun G C0 hN hR E hI hZ => ?_)
  change XX G 0 0 0 [some (.ref 135), some (.int (nI fr)), some (.int (nI m)), none, none] [] S R I J
  obtain ⟨a7, a8, ac, a9⟩ := id A
  obtain ⟨k0, k5, kp, kc, k1, k2, kw, kn, ks⟩ := T.at ac
  have az := A.z
  have h5 : ∀ j k, k + j = m → XX G 0 0 5 [some (.ref 135), some (.int (nI fr)), some (.int (nI m)), some (.int (oI (wHr (tTok tp n) fr k s))), some (.int (nI k))] [] S R I J := by
    intro j
    induction j with
    | zero =>
      intro k hk
      have hk8 : k = m := by omega
      subst hk8
      refine x_iload C0 rfl dX12_wordHere_5 ?_
      refine x_iload_n C0 rfl dX12_wordHere_7 ?_
      refine x_icmp_ge (tgt := 35) C0 (by decide) dX12_wordHere_8 (fun _ => ?_) (fun hkk => absurd ((Int32.le_refl _)) hkk)
      refine x_iload_n C0 rfl dX12_wordHere_35 ?_
      refine x_iret C0 E (by decide) (by decide) dX12_wordHere_36 ?_
      exact hp
    | succ j ih =>
      intro k hk
      have ih := ih (k + 1) (by omega)
      refine x_iload C0 rfl dX12_wordHere_5 ?_
      refine x_iload_n C0 rfl dX12_wordHere_7 ?_
      refine x_icmp_ge (tgt := 35) C0 (by decide) dX12_wordHere_8 (fun hkk => absurd hkk ((nI_ge (by omega) (by omega)))) (fun _ => ?_)
      refine x_aload_n C0 rfl dX12_wordHere_11 ?_
      refine x_iload_n C0 rfl dX12_wordHere_12 ?_
      refine x_iload C0 rfl dX12_wordHere_13 ?_
      refine x_iaddN C0 dX12_wordHere_15 ?_
      refine x_callV [_] C0 hN rfl (xRf_of hR (by decide) (Nat.zero_le _) (Nat.zero_le _)) mv_X12_isWord wm_X12_174 dX12_wordHere_16 (isModel.k0 hM) rfl rfl (Nat.le_of_ble_eq_true rfl) (c_X12_isWord hM T A (by omega) (fun g16 => ?_) (fun g16 => ?_))
      · refine x_if_eq (tgt := 27) C0 (by decide) dX12_wordHere_19 (fun hkk => absurd hkk (by decide)) (fun _ => ?_)
        refine x_iload C0 rfl dX12_wordHere_22 ?_
        refine x_goto (tgt := 28) C0 (by decide) dX12_wordHere_24 ?_
        refine x_istore_n (L' := [_, _, _, _, _]) C0 hN (by decide) rfl dX12_wordHere_28 ?_
        refine x_iinc (v := nI (k + 1)) (L' := [_, _, _, _, _]) C0 hN rfl (by decide) (nI_inc k) rfl dX12_wordHere_29 ?_
        refine x_goto (tgt := 5) C0 (by decide) dX12_wordHere_32 ?_
        rw [wHr_some (i := k) (by omega) (by omega) g16] at ih
        exact ih
      · refine x_if_eq (tgt := 27) C0 (by decide) dX12_wordHere_19 (fun _ => ?_) (fun hkk => absurd (by decide) hkk)
        refine x_iload_n C0 rfl dX12_wordHere_27 ?_
        refine x_istore_n (L' := [_, _, _, _, _]) C0 hN (by decide) rfl dX12_wordHere_28 ?_
        refine x_iinc (v := nI (k + 1)) (L' := [_, _, _, _, _]) C0 hN rfl (by decide) (nI_inc k) rfl dX12_wordHere_29 ?_
        refine x_goto (tgt := 5) C0 (by decide) dX12_wordHere_32 ?_
        rw [wHr_up g16] at ih
        exact ih
  refine x_iconst (v := -1) C0 rfl dX12_wordHere_0 ?_
  refine x_istore_n (L' := [_, _, _, _, _]) C0 hN (by decide) rfl dX12_wordHere_1 ?_
  refine x_iconst (v := nI 0) C0 rfl dX12_wordHere_2 ?_
  refine x_istore (L' := [_, _, _, _, _]) C0 hN (by decide) rfl dX12_wordHere_3 ?_
  have h9 := h5 m 0 (by omega)
  have e : wHr (tTok tp n) fr 0 s = none := wHr_none (fun i hi => absurd hi (Nat.not_lt_zero i))
  rw [e] at h9
  exact h9
theorem c_X12_takeOne {S : xTS} {R : xTR} {I : xTI} {J : xTJ} {post : xPost} (hM : isModel S R) {tp : Nat → Nat} {n c : Nat} (T : MRd I J tp n c) {s : pS} (A : MAt I c s) {fr m : Nat} (hm : fr + m ≤ 26) (hp : ∀ v I', RFr I I' → MAt I' c (pOne (tTok tp n) fr m s) → ((pOne (tTok tp n) fr m s).2 = 0 → s.2 = 0 ∧ ∃ i, i < m ∧ v = nI i ∧ wHr (tTok tp n) fr m s = some i) → post (some (.int v)) S R I' J) : xSpec 3 yX12_takeOne cX12_takeOne 4 (some .int) 0 0 [.ref 135, .int (nI fr), .int (nI m)] S R I J post := by
  refine xSpec_of mt_X12_takeOne (Nat.le_of_ble_eq_true rfl) (fun G C0 hN hR E hI hZ => ?_)
  change XX G 0 0 0 [some (.ref 135), some (.int (nI fr)), some (.int (nI m)), none] [] S R I J
  obtain ⟨a7, a8, ac, a9⟩ := id A
  obtain ⟨k0, k5, kp, kc, k1, k2, kw, kn, ks⟩ := T.at ac
  have az := A.z
  have h34 : ∀ I1 s1 x, RFr I I1 → MAt I1 c s1 → (¬ s1.2 = 0 → pOne (tTok tp n) fr m s = s1) → (s1.2 = 0 → s1 = s ∧ ∃ i, i < m ∧ x = nI i ∧ wHr (tTok tp n) fr m s = some i) → XX G 0 0 34 [some (.ref 135), some (.int (nI fr)), some (.int (nI m)), some (.int x)] [] S R I1 J := by
    intro I1 s1 x f1 A1 e0 e1
    by_cases z : s1.2 = 0
    · obtain ⟨es, i, hi, ei, ew⟩ := e1 z
      subst es
      refine x_aload_n C0 rfl dX12_takeOne_34 ?_
      refine x_dup C0 rfl dX12_takeOne_35 ?_
      refine x_getI C0 wf_X12_162 (isModel.k0 hM) rfl dX12_takeOne_36 ?_
      refine x_topi A1.1 ?_
      refine x_aload_n C0 rfl dX12_takeOne_39 ?_
      refine x_getI C0 wf_X12_165 (isModel.k0 hM) rfl dX12_takeOne_40 ?_
      refine x_topi A1.2.1 ?_
      refine x_if_le (tgt := 50) C0 (by decide) dX12_takeOne_43 (fun _ => ?_) (fun hkk => absurd ((by rw [z]; exact Int32.le_refl _)) hkk)
      refine x_iconst (v := nI 1) C0 rfl dX12_takeOne_50 ?_
      refine x_iadd C0 dX12_takeOne_51 ?_
      refine x_topi (nI_add s1.1 _) ?_
      refine x_putI C0 wf_X12_162 (isModel.k0 hM) rfl dX12_takeOne_52 ?_
      refine x_aload_n C0 rfl dX12_takeOne_55 ?_
      refine x_getI C0 wf_X12_165 (isModel.k0 hM) rfl dX12_takeOne_56 ?_
      refine x_topi (show u2 I1 135 7 _ 135 8 = nI s1.2 by rw [u2_off _ _ (by decide)]; exact A1.2.1) ?_
      refine x_if_le (tgt := 66) C0 (by decide) dX12_takeOne_59 (fun _ => ?_) (fun hkk => absurd ((by rw [z]; exact Int32.le_refl _)) hkk)
      refine x_iload_n C0 rfl dX12_takeOne_66 ?_
      refine x_iret C0 E (by decide) (by decide) dX12_takeOne_67 ?_
      have eN : pOne (tTok tp n) fr m s1 = pNext s1 := by
        unfold pOne
        rw [ew]
        exact if_neg (fun y => by cases y)
      have hk1 := (wHr_is ew).2.2.1
      exact hp _ _ (f1.trans (RFr.st (Or.inl rfl))) (by rw [eN]; exact A1.next z (kc (by rw [hk1]; decide))) (fun _ => ⟨z, i, hi, ei, ew⟩)
    · have gz : ¬ nI s1.2 ≤ 0 := nI_nle (by omega) (by have := A1.2.2.2; omega)
      refine x_aload_n C0 rfl dX12_takeOne_34 ?_
      refine x_dup C0 rfl dX12_takeOne_35 ?_
      refine x_getI C0 wf_X12_162 (isModel.k0 hM) rfl dX12_takeOne_36 ?_
      refine x_topi A1.1 ?_
      refine x_aload_n C0 rfl dX12_takeOne_39 ?_
      refine x_getI C0 wf_X12_165 (isModel.k0 hM) rfl dX12_takeOne_40 ?_
      refine x_topi A1.2.1 ?_
      refine x_if_le (tgt := 50) C0 (by decide) dX12_takeOne_43 (fun hkk => absurd hkk (gz)) (fun _ => ?_)
      refine x_iconst (v := nI 0) C0 rfl dX12_takeOne_46 ?_
      refine x_goto (tgt := 51) C0 (by decide) dX12_takeOne_47 ?_
      refine x_iadd C0 dX12_takeOne_51 ?_
      refine x_topi (nI_add s1.1 _) ?_
      refine x_putI C0 wf_X12_162 (isModel.k0 hM) rfl dX12_takeOne_52 ?_
      refine x_aload_n C0 rfl dX12_takeOne_55 ?_
      refine x_getI C0 wf_X12_165 (isModel.k0 hM) rfl dX12_takeOne_56 ?_
      refine x_topi (show u2 I1 135 7 _ 135 8 = nI s1.2 by rw [u2_off _ _ (by decide)]; exact A1.2.1) ?_
      refine x_if_le (tgt := 66) C0 (by decide) dX12_takeOne_59 (fun hkk => absurd hkk (gz)) (fun _ => ?_)
      refine x_iconst (v := nI 0) C0 rfl dX12_takeOne_62 ?_
      refine x_goto (tgt := 67) C0 (by decide) dX12_takeOne_63 ?_
      refine x_iret C0 E (by decide) (by decide) dX12_takeOne_67 ?_
      exact hp _ _ (f1.trans (RFr.st (Or.inl rfl))) (by rw [e0 z]; exact ⟨u2_same _ _ _ _, by rw [u2_off _ _ (by decide)]; exact A1.2.1, A1.2.2.1, A1.2.2.2⟩) (fun y => absurd (by rw [← e0 z]; exact y) z)
  refine x_aload_n C0 rfl dX12_takeOne_0 ?_
  refine x_getI C0 wf_X12_165 (isModel.k0 hM) rfl dX12_takeOne_1 ?_
  refine x_topi a8 ?_
  refine x_if_le (tgt := 11) C0 (by decide) dX12_takeOne_4 (fun g4 => ?_) (fun g4 => ?_)
  · refine x_aload_n C0 rfl dX12_takeOne_11 ?_
    refine x_iload_n C0 rfl dX12_takeOne_12 ?_
    refine x_iload_n C0 rfl dX12_takeOne_13 ?_
    refine x_callV [_, _] C0 hN rfl (xRf_of hR (by decide) (Nat.zero_le _) (Nat.zero_le _)) mv_X12_wordHere wm_X12_187 dX12_takeOne_14 (isModel.k0 hM) rfl rfl (Nat.le_of_ble_eq_true rfl) (c_X12_wordHere hM T A hm ?_)
    have z0 : s.2 = 0 := by
      have := (nI_le_iff (b := 0) (by omega) (by decide)).mp g4
      omega
    have hw9 : ∀ i, wHr (tTok tp n) fr m s = some i → i < 1000 := fun i h => by have := (wHr_is h).1; omega
    refine x_istore_n (L' := [_, _, _, _]) C0 hN (by decide) rfl dX12_takeOne_17 ?_
    refine x_aload_n C0 rfl dX12_takeOne_18 ?_
    refine x_getI C0 wf_X12_165 (isModel.k0 hM) rfl dX12_takeOne_19 ?_
    refine x_topi a8 ?_
    refine x_if_ne (tgt := 34) C0 (by decide) dX12_takeOne_22 (fun g22 => ?_) (fun g22 => ?_)
    · exact absurd (az.mpr z0) g22
    · refine x_iload_n C0 rfl dX12_takeOne_25 ?_
      refine x_if_ge (tgt := 34) C0 (by decide) dX12_takeOne_26 (fun g26 => ?_) (fun g26 => ?_)
      · cases e : wHr (tTok tp n) fr m s with
        | none => rw [e] at g26; exact absurd g26 (show ¬ (0 : Int32) ≤ -1 by decide)
        | some i => exact h34 I s _ RFr.rf A (fun z => absurd z0 z) (fun _ => ⟨rfl, i, (wHr_is e).1, rfl, e⟩)
      · refine x_aload_n C0 rfl dX12_takeOne_29 ?_
        refine x_iconst (v := nI 1) C0 rfl dX12_takeOne_30 ?_
        refine x_callV [_] C0 hN rfl (xRf_of hR (by decide) (Nat.zero_le _) (Nat.zero_le _)) mv_X12_wrong wm_X12_171 dX12_takeOne_31 (isModel.k0 hM) rfl rfl (Nat.le_of_ble_eq_true rfl) (c_X12_wrong hM T A (by decide) (fun I1 f1 A1 => ?_))
        refine h34 I1 _ _ f1 A1 (fun _ => ?_) (fun z => absurd z (pRef_ne (by decide)))
        unfold pOne
        exact if_pos (Decidable.of_not_not (fun y => g26 ((oI_ge hw9).mpr y)))
  · have z1 : ¬ s.2 = 0 := fun z => g4 (by rw [z]; exact Int32.le_refl _)
    refine x_iconst (v := -1) C0 rfl dX12_takeOne_7 ?_
    refine x_goto (tgt := 17) C0 (by decide) dX12_takeOne_8 ?_
    refine x_istore_n (L' := [_, _, _, _]) C0 hN (by decide) rfl dX12_takeOne_17 ?_
    refine x_aload_n C0 rfl dX12_takeOne_18 ?_
    refine x_getI C0 wf_X12_165 (isModel.k0 hM) rfl dX12_takeOne_19 ?_
    refine x_topi a8 ?_
    refine x_if_ne (tgt := 34) C0 (by decide) dX12_takeOne_22 (fun g22 => ?_) (fun g22 => ?_)
    · exact h34 I s _ RFr.rf A (fun z => pOne_f z) (fun z => absurd z z1)
    · refine x_iload_n C0 rfl dX12_takeOne_25 ?_
      refine x_if_ge (tgt := 34) C0 (by decide) dX12_takeOne_26 (fun hkk => absurd hkk (by decide)) (fun _ => ?_)
      refine x_aload_n C0 rfl dX12_takeOne_29 ?_
      refine x_iconst (v := nI 1) C0 rfl dX12_takeOne_30 ?_
      refine x_callV [_] C0 hN rfl (xRf_of hR (by decide) (Nat.zero_le _) (Nat.zero_le _)) mv_X12_wrong wm_X12_171 dX12_takeOne_31 (isModel.k0 hM) rfl rfl (Nat.le_of_ble_eq_true rfl) (c_X12_wrong hM T A (by decide) (fun I1 f1 A1 => ?_))
      exact absurd (az.mp g22) z1
theorem c_X12_takeIs {S : xTS} {R : xTR} {I : xTI} {J : xTJ} {post : xPost} (hM : isModel S R) {tp : Nat → Nat} {n c : Nat} (T : MRd I J tp n c) {s : pS} (A : MAt I c s) (hp : ∀ v I', RFr I I' → MAt I' c (pIs (tTok tp n) s) → ((pIs (tTok tp n) s).2 = 0 → s.2 = 0 ∧ v = nI (if pIsW (tTok tp n) 2 s then 1 else 0)) → post (some (.int v)) S R I' J) : xSpec 4 yX12_takeIs cX12_takeIs 1 (some .int) 0 0 [.ref 135] S R I J post := by
  refine xSpec_of mt_X12_takeIs (Nat.le_of_ble_eq_true rfl) (fun G C0 hN hR E hI hZ => ?_)
  change XX G 0 0 0 [some (.ref 135)] [] S R I J
  obtain ⟨a7, a8, ac, a9⟩ := id A
  obtain ⟨k0, k5, kp, kc, k1, k2, kw, kn, ks⟩ := T.at ac
  have az := A.z
  refine x_iconst (v := nI 1) C0 rfl dX12_takeIs_0 ?_
  refine x_aload_n C0 rfl dX12_takeIs_1 ?_
  refine x_iconst (v := nI 2) C0 rfl dX12_takeIs_2 ?_
  refine x_iconst (v := nI 2) C0 rfl dX12_takeIs_3 ?_
  refine x_callV [_, _] C0 hN rfl (xRf_of hR (by decide) (Nat.zero_le _) (Nat.zero_le _)) mv_X12_takeOne wm_X12_190 dX12_takeIs_4 (isModel.k0 hM) rfl rfl (Nat.le_of_ble_eq_true rfl) (c_X12_takeOne hM T A (by decide) (fun v I1 f1 A1 e1 => ?_))
  refine x_isub C0 dX12_takeIs_7 ?_
  refine x_iret C0 E (by decide) (by decide) dX12_takeIs_8 ?_
  rw [pOne_is] at A1 e1
  refine hp _ I1 f1 A1 (fun z => ?_)
  obtain ⟨z0, i, hi, ei, ew⟩ := e1 z
  have hw := (wHr_is ew).2
  refine ⟨z0, ?_⟩
  rcases (show i = 0 ∨ i = 1 by omega) with rfl | rfl
  · rw [if_pos hw, ei]; rfl
  · rw [if_neg (fun y => absurd (wCd_inj 2 (by decide) 3 (by decide) (y.2.2.symm.trans hw.2.2)) (by decide)), ei]; rfl
theorem c_X12_isName {S : xTS} {R : xTR} {I : xTI} {J : xTJ} {post : xPost} (hM : isModel S R) {tp : Nat → Nat} {n c : Nat} (T : MRd I J tp n c) {s : pS} (A : MAt I c s) (h1 : s.2 = 0 ∧ pNm (tTok tp n) s.1 → post (some (.int 1)) S R I J) (h0 : ¬ (s.2 = 0 ∧ pNm (tTok tp n) s.1) → post (some (.int 0)) S R I J) : xSpec 3 yX12_isName cX12_isName 1 (some .boolean) 0 0 [.ref 135] S R I J post := by
  refine xSpec_of mt_X12_isName (Nat.le_of_ble_eq_true rfl) (fun G C0 hN hR E hI hZ => ?_)
  change XX G 0 0 0 [some (.ref 135)] [] S R I J
  obtain ⟨a7, a8, ac, a9⟩ := id A
  obtain ⟨k0, k5, kp, kc, k1, k2, kw, kn, ks⟩ := T.at ac
  have az := A.z
  refine x_aload_n C0 rfl dX12_isName_0 ?_
  refine x_getI C0 wf_X12_165 (isModel.k0 hM) rfl dX12_isName_1 ?_
  refine x_topi a8 ?_
  refine x_if_ne (tgt := 34) C0 (by decide) dX12_isName_4 (fun g4 => ?_) (fun g4 => ?_)
  · refine x_iconst (v := 0) C0 rfl dX12_isName_34 ?_
    refine x_zret C0 E (by decide) (by decide) rfl dX12_isName_35 ?_
    exact h0 (fun z => g4 (az.mpr z.1))
  · refine x_aload_n C0 rfl dX12_isName_7 ?_
    refine x_getR C0 wf_X12_24 (isModel.k0 hM) rfl rfl (isModel.r4 hM) dX12_isName_8 ?_
    refine x_aload_n C0 rfl dX12_isName_11 ?_
    refine x_getI C0 wf_X12_162 (isModel.k0 hM) rfl dX12_isName_12 ?_
    refine x_topi a7 ?_
    refine x_ialoadN C0 (isModel.s4 hM) (by omega) (by omega) dX12_isName_15 ?_
    refine x_topi k1 ?_
    refine x_iconst (v := nI 1) C0 rfl dX12_isName_16 ?_
    refine x_icmp_ne (tgt := 34) C0 (by decide) dX12_isName_17 (fun g17 => ?_) (fun g17 => ?_)
    · refine x_iconst (v := 0) C0 rfl dX12_isName_34 ?_
      refine x_zret C0 E (by decide) (by decide) rfl dX12_isName_35 ?_
      exact h0 (fun z => g17 (by rw [z.2.1]))
    · refine x_aload_n C0 rfl dX12_isName_20 ?_
      refine x_iconst (v := nI 0) C0 rfl dX12_isName_21 ?_
      refine x_bipush (v := nI 22) C0 rfl dX12_isName_22 ?_
      refine x_callV [_, _] C0 hN rfl (xRf_of hR (by decide) (Nat.zero_le _) (Nat.zero_le _)) mv_X12_wordHere wm_X12_187 dX12_isName_24 (isModel.k0 hM) rfl rfl (Nat.le_of_ble_eq_true rfl) (c_X12_wordHere hM T A (fr := 0) (m := 22) (by decide) ?_)
      have z0 := az.mp g4
      have k3 := (nI_eq (b := 1) (by omega) (by decide)).mp g17
      have hw9 : ∀ i, wHr (tTok tp n) 0 22 s = some i → i < 1000 := fun i h => by have := (wHr_is h).1; omega
      refine x_if_ge (tgt := 34) C0 (by decide) dX12_isName_27 (fun g27 => ?_) (fun g27 => ?_)
      · refine x_iconst (v := 0) C0 rfl dX12_isName_34 ?_
        refine x_zret C0 E (by decide) (by decide) rfl dX12_isName_35 ?_
        have hne := (oI_ge hw9).mp g27
        refine h0 (fun z => hne (wHr_none (fun i hi y => z.2.2 i hi ?_)))
        rw [Nat.zero_add] at y
        exact y.2.2
      · refine x_iconst (v := 1) C0 rfl dX12_isName_30 ?_
        refine x_goto (tgt := 35) C0 (by decide) dX12_isName_31 ?_
        refine x_zret C0 E (by decide) (by decide) rfl dX12_isName_35 ?_
        have hno : wHr (tTok tp n) 0 22 s = none := Decidable.of_not_not (fun y => g27 ((oI_ge hw9).mpr y))
        refine h1 ⟨z0, k3, fun i hi y => ?_⟩
        rw [wHr_some (i := i) hi (by decide) (by rw [Nat.zero_add]; exact ⟨z0, k3, y⟩)] at hno
        cases hno
