/-! READING: the reference, a line of a film; what stands as always; a film begins -/
theorem pNew_mn (q : xTok) (F : pF) (s : pS) : s.1 ≤ (pNew q F s).1 := by
  unfold pNew
  split
  · split
    · exact pRef_mn q 3 s
    · exact pNext_mn s
  · exact pRef_mn q 1 s
theorem pThg_mn (q : xTok) (F : pF) (s : pS) : s.1 ≤ (pThg q F s).1 := by
  unfold pThg
  split
  · split
    · exact pRef_mn q 2 s
    · exact pNext_mn s
  · exact pRef_mn q 1 s
theorem pIs_mn (q : xTok) (s : pS) : s.1 ≤ (pIs q s).1 := by
  unfold pIs
  split
  · exact pNext_mn s
  · exact pRef_mn q 1 s
theorem pClm_mn (q : xTok) (F : pF) (s : pS) : s.1 ≤ (pClm q F s).1 := Nat.le_trans (pThg_mn q F s) (pIs_mn q _)
theorem pNeed_mn (q : xTok) (i : Nat) (s : pS) : s.1 ≤ (pNeed q i s).1 := by
  unfold pNeed
  split
  · exact pNext_mn s
  · exact pRef_mn q 1 s
theorem pNum_mn (q : xTok) (a b : Nat) (s : pS) : s.1 ≤ (pNum q a b s).1 := by
  unfold pNum
  split
  · split
    · exact pRef_mn q 4 s
    · exact pNext_mn s
  · exact pRef_mn q 1 s
theorem pOne_mn (q : xTok) (a b : Nat) (s : pS) : s.1 ≤ (pOne q a b s).1 := by
  unfold pOne
  split
  · exact pRef_mn q 1 s
  · exact pNext_mn s
theorem pFull_mn (q : xTok) (b : Prop) [Decidable b] (s : pS) : s.1 ≤ (pFull q b s).1 := by
  unfold pFull
  refine Nat.le_trans ?_ (pNext_mn _)
  split
  · exact Nat.le_refl _
  · exact pRef_mn q 5 s
theorem pOnce_mn (q : xTok) (b : Bool) (s : pS) : s.1 ≤ (pOnce q b s).1 := by
  unfold pOnce
  refine Nat.le_trans ?_ (pNext_mn _)
  split
  · exact pRef_mn q 3 s
  · exact Nat.le_refl _
/-- a film's line, but for its end: what is held of it when there is no fault -/
def MRS (I : xTI) (J : xTJ) (m : pM) : Prop := RSt I J m.2.1 m.2.2.2.isSome ∧ I 135 20 = nI (oN m.2.2.1 m.2.2.2.isSome) ∧ RLw I m.2.2.2
theorem c_X12_readLine {S : xTS} {R : xTR} {I : xTI} {J : xTJ} {post : xPost} (hM : isModel S R) {tp : Nat → Nat} {n c : Nat} (T : MRd I J tp n c) {s : pS} (A : MAt I c s) {F : pF} {st : Bool} {lw : Option (List (Nat × Nat))} (W : MRS I J (s, F, st, lw)) (h0_ : s.2 = 0) (hp : ∀ I' J' s', FrR I J I' J' → MAt I' c s' → pSign (tTok tp n) 59 s' = (fLine (tTok tp n) (s, F, st, lw)).1 → s.1 ≤ s'.1 → (s'.2 = 0 → MRS I' J' (fLine (tTok tp n) (s, F, st, lw))) → post none S R I' J') : xSpec 34 yX12_readLine cX12_readLine 1 none 0 0 [.ref 135] S R I J post := by
  refine xSpec_of mt_X12_readLine (Nat.le_of_ble_eq_true rfl) (fun G C0_ hN hR E hI hZ => ?_)
  change XX G 0 0 0 [some (.ref 135)] [] S R I J
  obtain ⟨a7_, a8_, ac, a9_⟩ := id A
  obtain ⟨k0_, k5_, kp, kc, k1_, k2_, kw, kn, ks⟩ := T.at ac
  have az := A.z
  obtain ⟨w1_, w2_, w3_⟩ := id W
  have h53_ : ∀ I' J' s', FrR I J I' J' → MAt I' c s' → pSign (tTok tp n) 59 s' = (fLine (tTok tp n) (s, F, st, lw)).1 → s.1 ≤ s'.1 → (s'.2 = 0 → MRS I' J' (fLine (tTok tp n) (s, F, st, lw))) → XX G 0 0 53 [some (.ref 135)] [] S R I' J' := by
    intro I' J' s' z1_ z2_ z3_ z4_ z5_
    refine x_vret C0_ E (by decide) (by decide) dX12_readLine_53 ?_
    exact hp I' J' s' z1_ z2_ z3_ z4_ z5_
  refine x_aload_n C0_ rfl dX12_readLine_0 ?_
  refine x_iconst (v := nI 0) C0_ rfl dX12_readLine_1 ?_
  refine x_callV [_] C0_ hN rfl (xRf_of hR (by decide) (Nat.zero_le _) (Nat.zero_le _)) mv_X12_isWord wm_X12_174 dX12_readLine_2 (isModel.k0 hM) rfl rfl (Nat.le_of_ble_eq_true rfl) (c_X12_isWord hM T A (by decide) (fun g0_ => ?_) (fun g0_ => ?_))
  · refine x_if_eq (tgt := 19) C0_ (by decide) dX12_readLine_5 (fun hkk => absurd hkk (by decide)) (fun _ => ?_)
    refine x_aload_n C0_ rfl dX12_readLine_8 ?_
    refine x_iconst (v := nI 0) C0_ rfl dX12_readLine_9 ?_
    refine x_bipush (v := nI 6) C0_ rfl dX12_readLine_10 ?_
    refine x_iconst (v := nI 0) C0_ rfl dX12_readLine_12 ?_
    refine x_callV [_, _, _] C0_ hN rfl (xRf_of hR (by decide) (Nat.zero_le _) (Nat.zero_le _)) mv_X12_readName wm_X12_230 dX12_readLine_13 (isModel.k0 hM) rfl rfl (Nat.le_of_ble_eq_true rfl) (c_rThing hM T A w1_ h0_ g0_.2.1 (fun I1_ J1_ f1_ k1_ A1_ e1_ => ?_))
    refine x_goto (tgt := 53) C0_ (by decide) dX12_readLine_16 ?_
    have el : fLine (tTok tp n) (s, F, st, lw) = (pLThing (tTok tp n) F s, fThing F ((tTok tp n) (s.1 + 1)).2.1, st, lw) := by
      unfold fLine
      dsimp only
      rw [if_pos g0_]
    obtain ⟨q1_, q2_, q3_, q4_⟩ := k1_
    refine h53_ I1_ J1_ _ f1_ A1_ (by rw [el]; rfl) (Nat.le_trans (pFull_mn _ _ _) (pNew_mn _ _ _)) (fun z => ?_)
    rw [el]
    exact ⟨e1_ z, q1_.trans w2_, w3_.congr q2_ q3_ q4_⟩
  · refine x_if_eq (tgt := 19) C0_ (by decide) dX12_readLine_5 (fun _ => ?_) (fun hkk => absurd (by decide) hkk)
    refine x_aload_n C0_ rfl dX12_readLine_19 ?_
    refine x_iconst (v := nI 1) C0_ rfl dX12_readLine_20 ?_
    refine x_callV [_] C0_ hN rfl (xRf_of hR (by decide) (Nat.zero_le _) (Nat.zero_le _)) mv_X12_isWord wm_X12_174 dX12_readLine_21 (isModel.k0 hM) rfl rfl (Nat.le_of_ble_eq_true rfl) (c_X12_isWord hM T A (by decide) (fun g1_ => ?_) (fun g1_ => ?_))
    · refine x_if_eq (tgt := 34) C0_ (by decide) dX12_readLine_24 (fun hkk => absurd hkk (by decide)) (fun _ => ?_)
      refine x_aload_n C0_ rfl dX12_readLine_27 ?_
      refine x_callV [] C0_ hN rfl (xRf_of hR (by decide) (Nat.zero_le _) (Nat.zero_le _)) mv_X12_readScene wm_X12_234 dX12_readLine_28 (isModel.k0 hM) rfl rfl (Nat.le_of_ble_eq_true rfl) (c_X12_readScene hM T A w1_ h0_ g1_.2.1 (fun I1_ f1_ k1_ A1_ e1_ => ?_))
      refine x_goto (tgt := 53) C0_ (by decide) dX12_readLine_31 ?_
      have el : fLine (tTok tp n) (s, F, st, lw) = (pLScene (tTok tp n) F s, fScene F (cvT (tTok tp n) F (s.1 + 1, 0), cvB (tTok tp n) F (s.1 + 1, 0), cvT (tTok tp n) F (pNeed (tTok tp n) 4 (pClm (tTok tp n) F (s.1 + 1, 0))), cvB (tTok tp n) F (pNeed (tTok tp n) 4 (pClm (tTok tp n) F (s.1 + 1, 0)))), st, lw) := by
        unfold fLine
        dsimp only
        rw [if_neg g0_, if_pos g1_]
      obtain ⟨q1_, q2_, q3_, q4_⟩ := k1_
      refine h53_ I1_ J _ f1_ A1_ (by rw [el]; rfl) (Nat.le_trans (pFull_mn _ _ _) (Nat.le_trans (pClm_mn _ _ _) (Nat.le_trans (pNeed_mn _ _ _) (pClm_mn _ _ _)))) (fun z => ?_)
      rw [el]
      exact ⟨e1_ z, q1_.trans w2_, w3_.congr q2_ q3_ q4_⟩
    · refine x_if_eq (tgt := 34) C0_ (by decide) dX12_readLine_24 (fun _ => ?_) (fun hkk => absurd (by decide) hkk)
      refine x_aload_n C0_ rfl dX12_readLine_34 ?_
      refine x_iconst (v := nI 5) C0_ rfl dX12_readLine_35 ?_
      refine x_callV [_] C0_ hN rfl (xRf_of hR (by decide) (Nat.zero_le _) (Nat.zero_le _)) mv_X12_isWord wm_X12_174 dX12_readLine_36 (isModel.k0 hM) rfl rfl (Nat.le_of_ble_eq_true rfl) (c_X12_isWord hM T A (by decide) (fun g5_ => ?_) (fun g5_ => ?_))
      · refine x_if_eq (tgt := 49) C0_ (by decide) dX12_readLine_39 (fun hkk => absurd hkk (by decide)) (fun _ => ?_)
        refine x_aload_n C0_ rfl dX12_readLine_42 ?_
        refine x_callV [] C0_ hN rfl (xRf_of hR (by decide) (Nat.zero_le _) (Nat.zero_le _)) mv_X12_readWatcher wm_X12_237 dX12_readLine_43 (isModel.k0 hM) rfl rfl (Nat.le_of_ble_eq_true rfl) (c_X12_readWatcher hM T A w1_ h0_ g5_.2.1 (fun I1_ J1_ f1_ k1_ A1_ e1_ => ?_))
        refine x_goto (tgt := 53) C0_ (by decide) dX12_readLine_46 ?_
        have el : fLine (tTok tp n) (s, F, st, lw) = (pLWatch (tTok tp n) F s, fWatch F ((tTok tp n) (s.1 + 1)).2.1 ((wHr (tTok tp n) 15 4 (pNew (tTok tp n) F (s.1 + 1, 0))).getD 0, ((tTok tp n) (pNeed (tTok tp n) 6 (pOne (tTok tp n) 15 4 (pNew (tTok tp n) F (s.1 + 1, 0)))).1).2.1, ((tTok tp n) (pNeed (tTok tp n) 7 (pNum (tTok tp n) 0 9 (pNeed (tTok tp n) 6 (pOne (tTok tp n) 15 4 (pNew (tTok tp n) F (s.1 + 1, 0)))))).1).2.1), st, lw) := by
          unfold fLine
          dsimp only
          rw [if_neg g0_, if_neg g1_, if_pos g5_]
        obtain ⟨q1_, q2_, q3_, q4_⟩ := k1_
        refine h53_ I1_ J1_ _ f1_ A1_ (by rw [el]; rfl) (Nat.le_trans (pFull_mn _ _ _) (Nat.le_trans (pNew_mn _ _ _) (Nat.le_trans (pOne_mn _ _ _ _) (Nat.le_trans (pNeed_mn _ _ _) (Nat.le_trans (pNum_mn _ _ _ _) (Nat.le_trans (pNeed_mn _ _ _) (pNum_mn _ _ _ _))))))) (fun z => ?_)
        rw [el]
        exact ⟨e1_ z, q1_.trans w2_, w3_.congr q2_ q3_ q4_⟩
      · refine x_if_eq (tgt := 49) C0_ (by decide) dX12_readLine_39 (fun _ => ?_) (fun hkk => absurd (by decide) hkk)
        refine x_aload_n C0_ rfl dX12_readLine_49 ?_
        refine x_callV [] C0_ hN rfl (xRf_of hR (by decide) (Nat.zero_le _) (Nat.zero_le _)) mv_X12_readOnce wm_X12_240 dX12_readLine_50 (isModel.k0 hM) rfl rfl (Nat.le_of_ble_eq_true rfl) (c_X12_readOnce hM T A w1_ w2_ w3_ h0_ (fun g8_ I1_ f1_ A1_ e1_ => ?_) (fun g9_ I1_ f1_ A1_ e1_ => ?_) (fun g8_ g9_ I1_ f1_ A1_ => ?_))
        · have el : fLine (tTok tp n) (s, F, st, lw) = (pLStar (tTok tp n) st s, fStar F ((tTok tp n) (s.1 + 1)).2.1, true, lw) := by
            unfold fLine
            dsimp only
            rw [if_neg g0_, if_neg g1_, if_neg g5_, if_pos g8_]
          refine h53_ I1_ J _ f1_ A1_ (by rw [el]; rfl) (Nat.le_trans (pOnce_mn _ _ _) (pNum_mn _ _ _ _)) (fun z => ?_)
          rw [el]
          exact e1_ z
        · have g8_ : ¬ pIsW (tTok tp n) 8 s := pIs_w g9_ (by decide) (by decide) (by decide)
          have el : fLine (tTok tp n) (s, F, st, lw) = ((pLDoubt (tTok tp n) lw.isSome s).1, F, st, some (pLDoubt (tTok tp n) lw.isSome s).2) := by
            unfold fLine
            dsimp only
            rw [if_neg g0_, if_neg g1_, if_neg g5_, if_neg g8_, if_pos g9_]
          refine h53_ I1_ J _ f1_ A1_ (by rw [el]; exact pLDoubt_1.symm) (Nat.le_trans (pOnce_mn _ _ _) (pAll_mn (pPart_mn 5) (pOnce (tTok tp n) lw.isSome s, []))) (fun z => ?_)
          rw [el]
          have e9_ := e1_ z
          rw [← pLDoubt_2] at e9_
          exact e9_
        have el : fLine (tTok tp n) (s, F, st, lw) = (pRef (tTok tp n) 1 s, F, st, lw) := by
          unfold fLine
          dsimp only
          rw [if_neg g0_, if_neg g1_, if_neg g5_, if_neg g8_, if_neg g9_]
        exact h53_ I1_ J _ (FrR.of f1_) A1_ (by rw [el]; exact pSign_f (pRef_ne (by decide))) (pRef_mn _ _ _) (fun z => absurd z (pRef_ne (by decide)))
theorem fRow_0 : ∀ i, i < 60 → fRow F0' false i = if i = 3 then nI 8 else if i = 4 then -1 else 0 := by decide +kernel
theorem c_X12_standsAsAlways {S : xTS} {R : xTR} {I : xTI} {J : xTJ} {post : xPost} (hM : isModel S R) {b : Nat} (hb : b ≤ 60) (hp : ∀ I', (∀ a, a ≠ 141 → I' a = I a) → (∀ j, (j < b ∨ b + 60 ≤ j) → I' 141 j = I 141 j) → (∀ i, i < 60 → I' 141 (b + i) = fRow F0' false i) → post none S R I' J) : xSpec 1 yX12_standsAsAlways cX12_standsAsAlways 3 none 0 0 [.ref 135, .int (nI b)] S R I J post := by
  refine xSpec_of mt_X12_standsAsAlways (Nat.le_of_ble_eq_true rfl) (fun G C0_ hN hR E hI hZ => ?_)
  change XX G 0 0 0 [some (.ref 135), some (.int (nI b)), none] [] S R I J
  have h2_ : ∀ j k I1_, k + j = 60 → (∀ a, a ≠ 141 → I1_ a = I a) → (∀ i, (i < b ∨ b + 60 ≤ i) → I1_ 141 i = I 141 i) → (∀ i, i < k → I1_ 141 (b + i) = nI 0) → XX G 0 0 2 [some (.ref 135), some (.int (nI b)), some (.int (nI k))] [] S R I1_ J := by
    intro j
    induction j with
    | zero =>
      intro k I1_ hk s1_ t1_ d1_
      have hk8_ : k = 60 := by omega
      subst hk8_
      refine x_iload_n C0_ rfl dX12_standsAsAlways_2 ?_
      refine x_bipush (v := nI 60) C0_ rfl dX12_standsAsAlways_3 ?_
      refine x_icmp_ge (tgt := 23) C0_ (by decide) dX12_standsAsAlways_5 (fun _ => ?_) (fun hkk => absurd ((Int32.le_refl _)) hkk)
      refine x_aload_n C0_ rfl dX12_standsAsAlways_23 ?_
      refine x_getR C0_ wf_X12_89 (isModel.k0 hM) rfl rfl (isModel.r10 hM) dX12_standsAsAlways_24 ?_
      refine x_iload_n C0_ rfl dX12_standsAsAlways_27 ?_
      refine x_iconst (v := nI 3) C0_ rfl dX12_standsAsAlways_28 ?_
      refine x_iaddN C0_ dX12_standsAsAlways_29 ?_
      refine x_bipush (v := nI 8) C0_ rfl dX12_standsAsAlways_30 ?_
      refine x_iastoreN C0_ (isModel.s10 hM) (by omega) (by omega) dX12_standsAsAlways_32 ?_
      refine x_aload_n C0_ rfl dX12_standsAsAlways_33 ?_
      refine x_getR C0_ wf_X12_89 (isModel.k0 hM) rfl rfl (isModel.r10 hM) dX12_standsAsAlways_34 ?_
      refine x_iload_n C0_ rfl dX12_standsAsAlways_37 ?_
      refine x_iconst (v := nI 4) C0_ rfl dX12_standsAsAlways_38 ?_
      refine x_iaddN C0_ dX12_standsAsAlways_39 ?_
      refine x_iconst (v := -1) C0_ rfl dX12_standsAsAlways_40 ?_
      refine x_iastoreN C0_ (isModel.s10 hM) (by omega) (by omega) dX12_standsAsAlways_41 ?_
      refine x_vret C0_ E (by decide) (by decide) dX12_standsAsAlways_42 ?_
      refine hp _ (fun a h => ?_) (fun i h => ?_) (fun i hi => ?_)
      · rw [u2_row _ _ _ h, u2_row _ _ _ h]; exact s1_ a h
      · rw [u2_off _ _ (by omega), u2_off _ _ (by omega)]; exact t1_ i h
      · rw [fRow_0 i hi]
        by_cases i3_ : i = 3
        · rw [if_pos i3_, u2_off _ _ (by omega), u2_eq _ _ (by omega)]
        rw [if_neg i3_]
        by_cases i4_ : i = 4
        · rw [if_pos i4_, u2_eq _ _ (by omega)]
        rw [if_neg i4_, u2_off _ _ (by omega), u2_off _ _ (by omega)]
        exact d1_ i hi
    | succ j ih =>
      intro k I1_ hk s1_ t1_ d1_
      refine x_iload_n C0_ rfl dX12_standsAsAlways_2 ?_
      refine x_bipush (v := nI 60) C0_ rfl dX12_standsAsAlways_3 ?_
      refine x_icmp_ge (tgt := 23) C0_ (by decide) dX12_standsAsAlways_5 (fun hkk => absurd hkk ((nI_ge (b := 60) (by omega) (by omega)))) (fun _ => ?_)
      refine x_aload_n C0_ rfl dX12_standsAsAlways_8 ?_
      refine x_getR C0_ wf_X12_89 (isModel.k0 hM) rfl rfl (isModel.r10 hM) dX12_standsAsAlways_9 ?_
      refine x_iload_n C0_ rfl dX12_standsAsAlways_12 ?_
      refine x_iload_n C0_ rfl dX12_standsAsAlways_13 ?_
      refine x_iaddN C0_ dX12_standsAsAlways_14 ?_
      refine x_iconst (v := nI 0) C0_ rfl dX12_standsAsAlways_15 ?_
      refine x_iastoreN C0_ (isModel.s10 hM) (by omega) (by omega) dX12_standsAsAlways_16 ?_
      refine x_iinc (v := nI (k + 1)) (L' := [_, _, _]) C0_ hN rfl (by decide) (nI_inc k) rfl dX12_standsAsAlways_17 ?_
      refine x_goto (tgt := 2) C0_ (by decide) dX12_standsAsAlways_20 ?_
      refine ih (k + 1) _ (by omega) (fun a h => ?_) (fun i h => ?_) (fun i hi => ?_)
      · rw [u2_row _ _ _ h]; exact s1_ a h
      · rw [u2_off _ _ (by omega)]; exact t1_ i h
      · by_cases e : i = k
        · rw [u2_eq _ _ (by omega)]
        · rw [u2_off _ _ (by omega)]; exact d1_ i (by omega)
  refine x_iconst (v := nI 0) C0_ rfl dX12_standsAsAlways_0 ?_
  refine x_istore_n (L' := [_, _, _]) C0_ hN (by decide) rfl dX12_standsAsAlways_1 ?_
  exact h2_ 60 0 I (by decide) (fun _ _ => rfl) (fun _ _ => rfl) (fun i hi => absurd hi (Nat.not_lt_zero i))
theorem c_X12_begins {S : xTS} {R : xTR} {I : xTI} {J : xTJ} {post : xPost} (hM : isModel S R) {T N V : Nat} {fl : xRow} (wl : WFl fl T N V) (mF : MFilm I fl) (hp : ∀ I', (∀ a, a ≠ 135 → a ≠ 148 → a ≠ 151 → a ≠ 152 → I' a = I a) → (∀ k, k ≠ 25 → I' 135 k = I 135 k) → I' 135 25 = nI 0 → I' 148 0 = nI 0 → MHall I' 0 (sStart fl N) → (∀ i, i < 36 → I' 151 (62 + i) = -2) → (∀ m, m < 4 → I' 152 m = nI 0) → post none S R I' J) : xSpec 3 yX12_begins cX12_begins 2 none 0 0 [.ref 135] S R I J post := by
  refine xSpec_of mt_X12_begins (Nat.le_of_ble_eq_true rfl) (fun G C0_ hN hR E hI hZ => ?_)
  change XX G 0 0 0 [some (.ref 135), none] [] S R I J
  have h44_ : ∀ j k I1_, k + j = 4 → (∀ a, a ≠ 135 → a ≠ 148 → a ≠ 151 → a ≠ 152 → I1_ a = I a) → (∀ k, k ≠ 25 → I1_ 135 k = I 135 k) → I1_ 135 25 = nI 0 → I1_ 148 0 = nI 0 → MHall I1_ 0 (sStart fl N) → (∀ i, i < 36 → I1_ 151 (62 + i) = -2) → (∀ m, m < k → I1_ 152 m = nI 0) → XX G 0 0 44 [some (.ref 135), some (.int (nI k))] [] S R I1_ J := by
    intro j
    induction j with
    | zero =>
      intro k I1_ hk a1_ a2_ a3_ a4_ a5_ a6_ a7_
      have hk8_ : k = 4 := by omega
      subst hk8_
      refine x_iload_n C0_ rfl dX12_begins_44 ?_
      refine x_iconst (v := nI 4) C0_ rfl dX12_begins_45 ?_
      refine x_icmp_ge (tgt := 62) C0_ (by decide) dX12_begins_46 (fun _ => ?_) (fun hkk => absurd ((Int32.le_refl _)) hkk)
      refine x_vret C0_ E (by decide) (by decide) dX12_begins_62 ?_
      exact hp I1_ a1_ a2_ a3_ a4_ a5_ a6_ a7_
    | succ j ih =>
      intro k I1_ hk a1_ a2_ a3_ a4_ a5_ a6_ a7_
      have hk4_ : k < 4 := by omega
      refine x_iload_n C0_ rfl dX12_begins_44 ?_
      refine x_iconst (v := nI 4) C0_ rfl dX12_begins_45 ?_
      refine x_icmp_ge (tgt := 62) C0_ (by decide) dX12_begins_46 (fun hkk => absurd hkk ((nI_ge (b := 4) (by omega) (by omega)))) (fun _ => ?_)
      refine x_aload_n C0_ rfl dX12_begins_49 ?_
      refine x_getR C0_ wf_X12_122 (isModel.k0 hM) rfl rfl (isModel.r26 hM) dX12_begins_50 ?_
      refine x_iload_n C0_ rfl dX12_begins_53 ?_
      refine x_iconst (v := nI 0) C0_ rfl dX12_begins_54 ?_
      refine x_bastore C0_ (isModel.s26 hM) (vp_in_nI hk4_ (by decide)) dX12_begins_55 ?_
      rw [nI_clamp (by omega), show vp_nar .boolean (nI 0) = nI 0 by decide]
      refine x_iinc (v := nI (k + 1)) (L' := [_, _]) C0_ hN rfl (by decide) (nI_inc k) rfl dX12_begins_56 ?_
      refine x_goto (tgt := 44) C0_ (by decide) dX12_begins_59 ?_
      refine ih (k + 1) _ (by omega) (fun a h1_ h2_ h3_ h4_ => ?_) (fun i h => ?_) ?_ ?_ (fun i hi => ?_) (fun i hi => ?_) (fun m hm => ?_)
      · rw [u2_row _ _ _ h4_]; exact a1_ a h1_ h2_ h3_ h4_
      · rw [u2_row _ _ _ (by decide)]; exact a2_ i h
      · rw [u2_row _ _ _ (by decide)]; exact a3_
      · rw [u2_row _ _ _ (by decide)]; exact a4_
      · rw [u2_row _ _ _ (by decide)]; exact a5_ i hi
      · rw [u2_row _ _ _ (by decide)]; exact a6_ i hi
      · by_cases e : m = k
        · rw [u2_eq _ _ e]
        · rw [u2_off _ _ e]; exact a7_ m (by omega)
  have h7_ : ∀ j k I1_, k + j = 36 → (∀ a, a ≠ 151 → I1_ a = I a) → MHall I1_ 0 (sStart fl N) → (∀ i, i < k → I1_ 151 (62 + i) = -2) → XX G 0 0 7 [some (.ref 135), some (.int (nI k))] [] S R I1_ J := by
    intro j
    induction j with
    | zero =>
      intro k I1_ hk a1_ a5_ a6_
      have hk8_ : k = 36 := by omega
      subst hk8_
      refine x_iload_n C0_ rfl dX12_begins_7 ?_
      refine x_bipush (v := nI 36) C0_ rfl dX12_begins_8 ?_
      refine x_icmp_ge (tgt := 30) C0_ (by decide) dX12_begins_10 (fun _ => ?_) (fun hkk => absurd ((Int32.le_refl _)) hkk)
      refine x_aload_n C0_ rfl dX12_begins_30 ?_
      refine x_getR C0_ wf_X12_110 (isModel.k0 hM) rfl rfl (isModel.r21 hM) dX12_begins_31 ?_
      refine x_iconst (v := nI 0) C0_ rfl dX12_begins_34 ?_
      refine x_iconst (v := nI 0) C0_ rfl dX12_begins_35 ?_
      refine x_iastoreN C0_ (isModel.s21 hM) (by omega) (by omega) dX12_begins_36 ?_
      refine x_aload_n C0_ rfl dX12_begins_37 ?_
      refine x_iconst (v := nI 0) C0_ rfl dX12_begins_38 ?_
      refine x_putI C0_ wf_X12_291 (isModel.k0 hM) rfl dX12_begins_39 ?_
      refine x_iconst (v := nI 0) C0_ rfl dX12_begins_42 ?_
      refine x_istore_n (L' := [_, _]) C0_ hN (by decide) rfl dX12_begins_43 ?_
      refine h44_ 4 0 _ (by decide) (fun a h1_ h2_ h3_ h4_ => ?_) (fun i h => ?_) (u2_same _ _ _ _) ?_ (fun i hi => ?_) (fun i hi => ?_) (fun m hm => absurd hm (Nat.not_lt_zero m))
      · rw [u2_row _ _ _ h1_, u2_row _ _ _ h2_]; exact a1_ a h3_
      · rw [u2_off _ _ h, u2_row _ _ _ (by decide), a1_ 135 (by decide)]
      · rw [u2_row _ _ _ (by decide), u2_same]
      · rw [u2_row _ _ _ (by decide), u2_row _ _ _ (by decide)]; exact a5_ i hi
      · rw [u2_row _ _ _ (by decide), u2_row _ _ _ (by decide)]; exact a6_ i hi
    | succ j ih =>
      intro k I1_ hk a1_ a5_ a6_
      refine x_iload_n C0_ rfl dX12_begins_7 ?_
      refine x_bipush (v := nI 36) C0_ rfl dX12_begins_8 ?_
      refine x_icmp_ge (tgt := 30) C0_ (by decide) dX12_begins_10 (fun hkk => absurd hkk ((nI_ge (b := 36) (by omega) (by omega)))) (fun _ => ?_)
      refine x_aload_n C0_ rfl dX12_begins_13 ?_
      refine x_getR C0_ wf_X12_119 (isModel.k0 hM) rfl rfl (isModel.r24 hM) dX12_begins_14 ?_
      refine x_bipush (v := nI 62) C0_ rfl dX12_begins_17 ?_
      refine x_iload_n C0_ rfl dX12_begins_19 ?_
      refine x_iaddN C0_ dX12_begins_20 ?_
      refine x_bipush (v := -2) C0_ rfl dX12_begins_21 ?_
      refine x_iastoreN C0_ (isModel.s24 hM) (by omega) (by omega) dX12_begins_23 ?_
      refine x_iinc (v := nI (k + 1)) (L' := [_, _]) C0_ hN rfl (by decide) (nI_inc k) rfl dX12_begins_24 ?_
      refine x_goto (tgt := 7) C0_ (by decide) dX12_begins_27 ?_
      refine ih (k + 1) _ (by omega) (fun a h => ?_) (fun i hi => ?_) (fun i hi => ?_)
      · rw [u2_row _ _ _ h]; exact a1_ a h
      · rw [u2_off _ _ (by omega)]; exact a5_ i hi
      · by_cases e : i = k
        · rw [u2_eq _ _ (by omega)]
        · rw [u2_off _ _ (by omega)]; exact a6_ i (by omega)
  refine x_aload_n C0_ rfl dX12_begins_0 ?_
  refine x_iconst (v := nI 0) C0_ rfl dX12_begins_1 ?_
  refine x_callV [_] C0_ hN rfl (xRf_of hR (by decide) (Nat.zero_le _) (Nat.zero_le _)) mv_X12_starts wm_X12_288 dX12_begins_2 (isModel.k0 hM) rfl rfl (Nat.le_of_ble_eq_true rfl) (c_X12_starts hM wl mF (b := 0) (by decide) (fun I1_ s1_ r1_ => ?_))
  refine x_iconst (v := nI 0) C0_ rfl dX12_begins_5 ?_
  refine x_istore_n (L' := [_, _]) C0_ hN (by decide) rfl dX12_begins_6 ?_
  exact h7_ 36 0 I1_ (by decide) s1_.1 r1_ (fun i hi => absurd hi (Nat.not_lt_zero i))
