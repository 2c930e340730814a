/-! READING: the reference, what is told -/
def oF (F : pF) (fr v : Nat) : Option Nat := if fr = 0 then xIdx F.2.1 v F.1.1 else xIdx F.2.2.1 v F.1.2.2.1
def FDj (F : pF) : Prop := F.1.1 ≤ 6 ∧ F.1.2.2.1 ≤ 6 ∧ ∀ v, ¬ xIdx F.2.1 v F.1.1 = none → xIdx F.2.2.1 v F.1.2.2.1 = none
theorem nm_small : ∀ i, i < 6 → (0 ≤ nI i - nI 0 ∧ nI i - nI 0 ≤ 5) ∧ nI i - nI 0 = nI i ∧ ¬ (0 ≤ nI (20 + i) - nI 0 ∧ nI (20 + i) - nI 0 ≤ 5) ∧ ¬ (0 ≤ nI i - nI 20 ∧ nI i - nI 20 ≤ 5) ∧ (0 ≤ nI (20 + i) - nI 20 ∧ nI (20 + i) - nI 20 ≤ 5) ∧ nI (20 + i) - nI 20 = nI i := by decide
theorem nm_fr {F : pF} (dj : FDj F) {fr : Nat} (hf : fr = 0 ∨ fr = 20) (v : Nat) : (oF F fr v = none ∧ ¬ (0 ≤ nmA F v - nI fr ∧ nmA F v - nI fr ≤ 5)) ∨ ∃ i, i < 6 ∧ oF F fr v = some i ∧ nmA F v - nI fr = nI i ∧ (0 ≤ nmA F v - nI fr ∧ nmA F v - nI fr ≤ 5) := by
  obtain ⟨d1, d2, d3⟩ := dj
  unfold nmA oF
  have dd := d3 v
  cases e1 : xIdx F.2.1 v F.1.1 with
  | some t =>
    have ht := (xIdx_some _ e1).1
    have hs := nm_small t (by omega)
    have e2 := dd (by rw [e1]; exact fun z => by cases z)
    rcases hf with rfl | rfl
    · exact Or.inr ⟨t, by omega, if_pos rfl, hs.2.1, hs.1⟩
    · exact Or.inl ⟨by rw [if_neg (by decide)]; exact e2, hs.2.2.2.1⟩
  | none =>
    cases e2 : xIdx F.2.2.1 v F.1.2.2.1 with
    | some w =>
      have hw := (xIdx_some _ e2).1
      have hs := nm_small w (by omega)
      rcases hf with rfl | rfl
      · exact Or.inl ⟨if_pos rfl, hs.2.2.1⟩
      · exact Or.inr ⟨w, by omega, if_neg (by decide), hs.2.2.2.2.2, hs.2.2.2.2.1⟩
    | none =>
      rcases hf with rfl | rfl
      · exact Or.inl ⟨if_pos rfl, (show ¬ ((0 : Int32) ≤ -1 - nI 0 ∧ (-1 : Int32) - nI 0 ≤ 5) by decide)⟩
      · exact Or.inl ⟨if_neg (by decide), (show ¬ ((0 : Int32) ≤ -1 - nI 20 ∧ (-1 : Int32) - nI 20 ≤ 5) by decide)⟩
/-- told here: as it is taken, but not gone past -/
def pTh0 (q : xTok) (F : pF) (fr : Nat) (s : pS) : pS := if pNm q s.1 then (if oF F fr (q s.1).2.1 = none then pRef q 2 s else s) else pRef q 1 s
theorem pTh0_f {q : xTok} {F : pF} {fr : Nat} {s : pS} (h : ¬ s.2 = 0) : pTh0 q F fr s = s := by
  unfold pTh0
  rw [pRef_f h, pRef_f h]
  repeat' split
  all_goals rfl
theorem pThg_0 {q : xTok} {F : pF} {s : pS} : pThg q F s = pNext (pTh0 q F 0 s) := by
  unfold pThg pTh0
  have e : oF F 0 (q s.1).2.1 = xIdx F.2.1 (q s.1).2.1 F.1.1 := if_pos rfl
  rw [e]
  split
  · split
    · exact (pNext_ref (by decide)).symm
    · rfl
  · exact (pNext_ref (by decide)).symm
theorem c_X12_toldHereR {S : xTS} {R : xTR} {I : xTI} {J : xTJ} {post : xPost} (hM : isModel S R) {tp : Nat → Nat} {n c : Nat} (T : MRd I J tp n c) {s : pS} (A : MAt I c s) {m fr : Nat} {F : pF} (e : I 135 19 = nI m) (N9 : MNm I J 145 147 m F) (dj : FDj F) (hf : fr = 0 ∨ fr = 20) (hp : ∀ v I', RFr I I' → MAt I' c (pTh0 (tTok tp n) F fr s) → ((pTh0 (tTok tp n) F fr s).2 = 0 → s.2 = 0 ∧ pNm (tTok tp n) s.1 ∧ ∃ i, i < 6 ∧ v = nI i ∧ oF F fr ((tTok tp n) s.1).2.1 = some i) → post (some (.int v)) S R I' J) : xSpec 4 yX12_toldHere cX12_toldHere 4 (some .int) 0 0 [.ref 135, .int 1, .int (nI fr)] S R I J post := by
  refine xSpec_of mt_X12_toldHere (Nat.le_of_ble_eq_true rfl) (fun G C0 hN hR E hI hZ => ?_)
  change XX G 0 0 0 [some (.ref 135), some (.int 1), some (.int (nI fr)), none] [] S R I J
  obtain ⟨a7, a8, ac, a9⟩ := id A
  obtain ⟨k0, k5, kp, kc, k1, k2, kw, kn, ks⟩ := T.at ac
  have az := A.z
  have h59 : ∀ I1 v, RFr I I1 → MAt I1 c (pTh0 (tTok tp n) F fr s) → ((pTh0 (tTok tp n) F fr s).2 = 0 → s.2 = 0 ∧ pNm (tTok tp n) s.1 ∧ ∃ i, i < 6 ∧ v = nI i ∧ oF F fr ((tTok tp n) s.1).2.1 = some i) → XX G 0 0 59 [some (.ref 135), some (.int 1), some (.int (nI fr)), some (.int v)] [] S R I1 J := by
    intro I1 v f1 A1 e1
    refine x_aload_n C0 rfl dX12_toldHere_59 ?_
    refine x_getI C0 wf_X12_165 (isModel.k0 hM) rfl dX12_toldHere_60 ?_
    refine x_topi A1.2.1 ?_
    refine x_if_le (tgt := 70) C0 (by decide) dX12_toldHere_63 (fun g63 => ?_) (fun g63 => ?_)
    · refine x_iload_n C0 rfl dX12_toldHere_70 ?_
      refine x_iret C0 E (by decide) (by decide) dX12_toldHere_71 ?_
      exact hp v I1 f1 A1 e1
    · refine x_iconst (v := nI 0) C0 rfl dX12_toldHere_66 ?_
      refine x_goto (tgt := 71) C0 (by decide) dX12_toldHere_67 ?_
      refine x_iret C0 E (by decide) (by decide) dX12_toldHere_71 ?_
      exact hp _ I1 f1 A1 (fun z => absurd (by rw [z]; exact Int32.le_refl _) g63)
  have h19 : ∀ I1 s1, RFr I I1 → MAt I1 c s1 → (¬ s1.2 = 0 → pTh0 (tTok tp n) F fr s = s1) → (s1.2 = 0 → s1 = s ∧ pNm (tTok tp n) s.1) → XX G 0 0 19 [some (.ref 135), some (.int 1), some (.int (nI fr)), none] [] S R I1 J := by
    intro I1 s1 f1 A1 e0 e1
    by_cases z : s1.2 = 0
    · obtain ⟨es, zn⟩ := e1 z
      subst es
      have e' : I1 135 19 = nI m := by rw [f1.2 19 (by decide) (by decide)]; exact e
      have N' : MNm I1 J 145 147 m F := by
        unfold MNm at N9 ⊢
        rw [f1.1 147 (by decide)]
        exact N9
      refine x_aload_n C0 rfl dX12_toldHere_19 ?_
      refine x_getI C0 wf_X12_165 (isModel.k0 hM) rfl dX12_toldHere_20 ?_
      refine x_topi A1.2.1 ?_
      refine x_if_le (tgt := 30) C0 (by decide) dX12_toldHere_23 (fun _ => ?_) (fun hkk => absurd ((by rw [z]; exact Int32.le_refl _)) hkk)
      refine x_aload_n C0 rfl dX12_toldHere_30 ?_
      refine x_iload_n C0 rfl dX12_toldHere_31 ?_
      refine x_callV [_] C0 hN rfl (xRf_of hR (by decide) (Nat.zero_le _) (Nat.zero_le _)) mv_X12_nameAt wm_X12_203 dX12_toldHere_32 (isModel.k0 hM) rfl rfl (Nat.le_of_ble_eq_true rfl) (c_X12_nameAtR hM (T.fr f1) A1 e' N' zn.1 ?_)
      refine x_iload_n C0 rfl dX12_toldHere_35 ?_
      refine x_isub C0 dX12_toldHere_36 ?_
      refine x_istore_n (L' := [_, _, _, _]) C0 hN (by decide) rfl dX12_toldHere_37 ?_
      refine x_aload_n C0 rfl dX12_toldHere_38 ?_
      refine x_getI C0 wf_X12_165 (isModel.k0 hM) rfl dX12_toldHere_39 ?_
      refine x_topi A1.2.1 ?_
      refine x_if_ne (tgt := 59) C0 (by decide) dX12_toldHere_42 (fun hkk => absurd ((by rw [z]; rfl)) hkk) (fun _ => ?_)
      refine x_iload_n C0 rfl dX12_toldHere_45 ?_
      refine x_iconst (v := 0) C0 rfl dX12_toldHere_46 ?_
      refine x_iconst (v := 5) C0 rfl dX12_toldHere_47 ?_
      refine x_callS [_, _, _] C0 (xRf_of hR (by decide) (Nat.zero_le _) (Nat.zero_le _)) ms_X12_within wm_X12_207 dX12_toldHere_48 rfl rfl (Nat.le_of_ble_eq_true rfl) (c_X12_within  (fun g48 => ?_) (fun g48 => ?_))
      · refine x_if_ne (tgt := 59) C0 (by decide) dX12_toldHere_51 (fun _ => ?_) (fun hkk => absurd hkk (by decide))
        rcases nm_fr dj hf (tTok tp n s1.1).2.1 with ⟨o1, o2⟩ | ⟨i, hi, o1, o2, o3⟩
        · exact absurd g48 o2
        · have eN : pTh0 (tTok tp n) F fr s1 = s1 := by
            unfold pTh0
            rw [if_pos zn, o1]
            exact if_neg (fun y => by cases y)
          exact h59 I1 _ f1 (by rw [eN]; exact A1) (fun _ => ⟨z, zn, i, hi, o2, o1⟩)
      · refine x_if_ne (tgt := 59) C0 (by decide) dX12_toldHere_51 (fun hkk => absurd (by decide) hkk) (fun _ => ?_)
        refine x_aload_n C0 rfl dX12_toldHere_54 ?_
        refine x_iconst (v := nI 2) C0 rfl dX12_toldHere_55 ?_
        refine x_callV [_] C0 hN rfl (xRf_of hR (by decide) (Nat.zero_le _) (Nat.zero_le _)) mv_X12_wrong wm_X12_171 dX12_toldHere_56 (isModel.k0 hM) rfl rfl (Nat.le_of_ble_eq_true rfl) (c_X12_wrong hM (T.fr f1) A1 (by decide) (fun I2 f2 A2 => ?_))
        rcases nm_fr dj hf (tTok tp n s1.1).2.1 with ⟨o1, o2⟩ | ⟨i, hi, o1, o2, o3⟩
        · have eN : pTh0 (tTok tp n) F fr s1 = pRef (tTok tp n) 2 s1 := by
            unfold pTh0
            rw [if_pos zn, if_pos o1]
          exact h59 I2 _ (f1.trans f2) (by rw [eN]; exact A2) (fun y => absurd (by rw [eN] at y; exact y) (pRef_ne (by decide)))
        · exact absurd o3 g48
    · have gz : ¬ nI s1.2 ≤ 0 := nI_nle (by omega) (by have := A1.2.2.2; omega)
      refine x_aload_n C0 rfl dX12_toldHere_19 ?_
      refine x_getI C0 wf_X12_165 (isModel.k0 hM) rfl dX12_toldHere_20 ?_
      refine x_topi A1.2.1 ?_
      refine x_if_le (tgt := 30) C0 (by decide) dX12_toldHere_23 (fun hkk => absurd hkk (gz)) (fun _ => ?_)
      refine x_iconst (v := -1) C0 rfl dX12_toldHere_26 ?_
      refine x_goto (tgt := 37) C0 (by decide) dX12_toldHere_27 ?_
      refine x_istore_n (L' := [_, _, _, _]) C0 hN (by decide) rfl dX12_toldHere_37 ?_
      refine x_aload_n C0 rfl dX12_toldHere_38 ?_
      refine x_getI C0 wf_X12_165 (isModel.k0 hM) rfl dX12_toldHere_39 ?_
      refine x_topi A1.2.1 ?_
      refine x_if_ne (tgt := 59) C0 (by decide) dX12_toldHere_42 (fun _ => ?_) (fun hkk => absurd hkk ((fun y => gz (by rw [y]; exact Int32.le_refl _))))
      exact h59 I1 _ f1 (by rw [e0 z]; exact A1) (fun y => absurd (by rw [← e0 z]; exact y) z)
  refine x_aload_n C0 rfl dX12_toldHere_0 ?_
  refine x_getI C0 wf_X12_165 (isModel.k0 hM) rfl dX12_toldHere_1 ?_
  refine x_topi a8 ?_
  refine x_if_ne (tgt := 19) C0 (by decide) dX12_toldHere_4 (fun g4 => ?_) (fun g4 => ?_)
  · exact h19 I s RFr.rf A (fun z => pTh0_f z) (fun z => absurd (az.mpr z) g4)
  · refine x_aload_n C0 rfl dX12_toldHere_7 ?_
    refine x_callV [] C0 hN rfl (xRf_of hR (by decide) (Nat.zero_le _) (Nat.zero_le _)) mv_X12_isName wm_X12_199 dX12_toldHere_8 (isModel.k0 hM) rfl rfl (Nat.le_of_ble_eq_true rfl) (c_X12_isName hM T A (fun g8 => ?_) (fun g8 => ?_))
    · refine x_if_ne (tgt := 19) C0 (by decide) dX12_toldHere_11 (fun _ => ?_) (fun hkk => absurd hkk (by decide))
      exact h19 I s RFr.rf A (fun z => absurd g8.1 z) (fun _ => ⟨rfl, g8.2⟩)
    · refine x_if_ne (tgt := 19) C0 (by decide) dX12_toldHere_11 (fun hkk => absurd (by decide) hkk) (fun _ => ?_)
      refine x_aload_n C0 rfl dX12_toldHere_14 ?_
      refine x_iconst (v := nI 1) C0 rfl dX12_toldHere_15 ?_
      refine x_callV [_] C0 hN rfl (xRf_of hR (by decide) (Nat.zero_le _) (Nat.zero_le _)) mv_X12_wrong wm_X12_171 dX12_toldHere_16 (isModel.k0 hM) rfl rfl (Nat.le_of_ble_eq_true rfl) (c_X12_wrong hM T A (by decide) (fun I1 f1 A1 => ?_))
      refine h19 I1 _ f1 A1 (fun _ => ?_) (fun z => absurd z (pRef_ne (by decide)))
      unfold pTh0
      exact if_neg (fun z => g8 ⟨az.mp g4, z⟩)
theorem c_X12_toldHereN {S : xTS} {R : xTR} {I : xTI} {J : xTJ} {post : xPost} (hM : isModel S R) {tp : Nat → Nat} {n c : Nat} (T : MRd I J tp n c) {s : pS} (A : MAt I c s) {m fr : Nat} {F : pF} (e : I 135 18 = nI m) (N9 : MNm I J 144 146 m F) (dj : FDj F) (hf : fr = 0 ∨ fr = 20) (hp : ∀ v I', RFr I I' → MAt I' c (pTh0 (tTok tp n) F fr s) → ((pTh0 (tTok tp n) F fr s).2 = 0 → s.2 = 0 ∧ pNm (tTok tp n) s.1 ∧ ∃ i, i < 6 ∧ v = nI i ∧ oF F fr ((tTok tp n) s.1).2.1 = some i) → post (some (.int v)) S R I' J) : xSpec 4 yX12_toldHere cX12_toldHere 4 (some .int) 0 0 [.ref 135, .int 0, .int (nI fr)] S R I J post := by
  refine xSpec_of mt_X12_toldHere (Nat.le_of_ble_eq_true rfl) (fun G C0 hN hR E hI hZ => ?_)
  change XX G 0 0 0 [some (.ref 135), some (.int 0), some (.int (nI fr)), none] [] S R I J
  obtain ⟨a7, a8, ac, a9⟩ := id A
  obtain ⟨k0, k5, kp, kc, k1, k2, kw, kn, ks⟩ := T.at ac
  have az := A.z
  have h59 : ∀ I1 v, RFr I I1 → MAt I1 c (pTh0 (tTok tp n) F fr s) → ((pTh0 (tTok tp n) F fr s).2 = 0 → s.2 = 0 ∧ pNm (tTok tp n) s.1 ∧ ∃ i, i < 6 ∧ v = nI i ∧ oF F fr ((tTok tp n) s.1).2.1 = some i) → XX G 0 0 59 [some (.ref 135), some (.int 0), some (.int (nI fr)), some (.int v)] [] S R I1 J := by
    intro I1 v f1 A1 e1
    refine x_aload_n C0 rfl dX12_toldHere_59 ?_
    refine x_getI C0 wf_X12_165 (isModel.k0 hM) rfl dX12_toldHere_60 ?_
    refine x_topi A1.2.1 ?_
    refine x_if_le (tgt := 70) C0 (by decide) dX12_toldHere_63 (fun g63 => ?_) (fun g63 => ?_)
    · refine x_iload_n C0 rfl dX12_toldHere_70 ?_
      refine x_iret C0 E (by decide) (by decide) dX12_toldHere_71 ?_
      exact hp v I1 f1 A1 e1
    · refine x_iconst (v := nI 0) C0 rfl dX12_toldHere_66 ?_
      refine x_goto (tgt := 71) C0 (by decide) dX12_toldHere_67 ?_
      refine x_iret C0 E (by decide) (by decide) dX12_toldHere_71 ?_
      exact hp _ I1 f1 A1 (fun z => absurd (by rw [z]; exact Int32.le_refl _) g63)
  have h19 : ∀ I1 s1, RFr I I1 → MAt I1 c s1 → (¬ s1.2 = 0 → pTh0 (tTok tp n) F fr s = s1) → (s1.2 = 0 → s1 = s ∧ pNm (tTok tp n) s.1) → XX G 0 0 19 [some (.ref 135), some (.int 0), some (.int (nI fr)), none] [] S R I1 J := by
    intro I1 s1 f1 A1 e0 e1
    by_cases z : s1.2 = 0
    · obtain ⟨es, zn⟩ := e1 z
      subst es
      have e' : I1 135 18 = nI m := by rw [f1.2 18 (by decide) (by decide)]; exact e
      have N' : MNm I1 J 144 146 m F := by
        unfold MNm at N9 ⊢
        rw [f1.1 146 (by decide)]
        exact N9
      refine x_aload_n C0 rfl dX12_toldHere_19 ?_
      refine x_getI C0 wf_X12_165 (isModel.k0 hM) rfl dX12_toldHere_20 ?_
      refine x_topi A1.2.1 ?_
      refine x_if_le (tgt := 30) C0 (by decide) dX12_toldHere_23 (fun _ => ?_) (fun hkk => absurd ((by rw [z]; exact Int32.le_refl _)) hkk)
      refine x_aload_n C0 rfl dX12_toldHere_30 ?_
      refine x_iload_n C0 rfl dX12_toldHere_31 ?_
      refine x_callV [_] C0 hN rfl (xRf_of hR (by decide) (Nat.zero_le _) (Nat.zero_le _)) mv_X12_nameAt wm_X12_203 dX12_toldHere_32 (isModel.k0 hM) rfl rfl (Nat.le_of_ble_eq_true rfl) (c_X12_nameAtN hM (T.fr f1) A1 e' N' zn.1 ?_)
      refine x_iload_n C0 rfl dX12_toldHere_35 ?_
      refine x_isub C0 dX12_toldHere_36 ?_
      refine x_istore_n (L' := [_, _, _, _]) C0 hN (by decide) rfl dX12_toldHere_37 ?_
      refine x_aload_n C0 rfl dX12_toldHere_38 ?_
      refine x_getI C0 wf_X12_165 (isModel.k0 hM) rfl dX12_toldHere_39 ?_
      refine x_topi A1.2.1 ?_
      refine x_if_ne (tgt := 59) C0 (by decide) dX12_toldHere_42 (fun hkk => absurd ((by rw [z]; rfl)) hkk) (fun _ => ?_)
      refine x_iload_n C0 rfl dX12_toldHere_45 ?_
      refine x_iconst (v := 0) C0 rfl dX12_toldHere_46 ?_
      refine x_iconst (v := 5) C0 rfl dX12_toldHere_47 ?_
      refine x_callS [_, _, _] C0 (xRf_of hR (by decide) (Nat.zero_le _) (Nat.zero_le _)) ms_X12_within wm_X12_207 dX12_toldHere_48 rfl rfl (Nat.le_of_ble_eq_true rfl) (c_X12_within  (fun g48 => ?_) (fun g48 => ?_))
      · refine x_if_ne (tgt := 59) C0 (by decide) dX12_toldHere_51 (fun _ => ?_) (fun hkk => absurd hkk (by decide))
        rcases nm_fr dj hf (tTok tp n s1.1).2.1 with ⟨o1, o2⟩ | ⟨i, hi, o1, o2, o3⟩
        · exact absurd g48 o2
        · have eN : pTh0 (tTok tp n) F fr s1 = s1 := by
            unfold pTh0
            rw [if_pos zn, o1]
            exact if_neg (fun y => by cases y)
          exact h59 I1 _ f1 (by rw [eN]; exact A1) (fun _ => ⟨z, zn, i, hi, o2, o1⟩)
      · refine x_if_ne (tgt := 59) C0 (by decide) dX12_toldHere_51 (fun hkk => absurd (by decide) hkk) (fun _ => ?_)
        refine x_aload_n C0 rfl dX12_toldHere_54 ?_
        refine x_iconst (v := nI 2) C0 rfl dX12_toldHere_55 ?_
        refine x_callV [_] C0 hN rfl (xRf_of hR (by decide) (Nat.zero_le _) (Nat.zero_le _)) mv_X12_wrong wm_X12_171 dX12_toldHere_56 (isModel.k0 hM) rfl rfl (Nat.le_of_ble_eq_true rfl) (c_X12_wrong hM (T.fr f1) A1 (by decide) (fun I2 f2 A2 => ?_))
        rcases nm_fr dj hf (tTok tp n s1.1).2.1 with ⟨o1, o2⟩ | ⟨i, hi, o1, o2, o3⟩
        · have eN : pTh0 (tTok tp n) F fr s1 = pRef (tTok tp n) 2 s1 := by
            unfold pTh0
            rw [if_pos zn, if_pos o1]
          exact h59 I2 _ (f1.trans f2) (by rw [eN]; exact A2) (fun y => absurd (by rw [eN] at y; exact y) (pRef_ne (by decide)))
        · exact absurd o3 g48
    · have gz : ¬ nI s1.2 ≤ 0 := nI_nle (by omega) (by have := A1.2.2.2; omega)
      refine x_aload_n C0 rfl dX12_toldHere_19 ?_
      refine x_getI C0 wf_X12_165 (isModel.k0 hM) rfl dX12_toldHere_20 ?_
      refine x_topi A1.2.1 ?_
      refine x_if_le (tgt := 30) C0 (by decide) dX12_toldHere_23 (fun hkk => absurd hkk (gz)) (fun _ => ?_)
      refine x_iconst (v := -1) C0 rfl dX12_toldHere_26 ?_
      refine x_goto (tgt := 37) C0 (by decide) dX12_toldHere_27 ?_
      refine x_istore_n (L' := [_, _, _, _]) C0 hN (by decide) rfl dX12_toldHere_37 ?_
      refine x_aload_n C0 rfl dX12_toldHere_38 ?_
      refine x_getI C0 wf_X12_165 (isModel.k0 hM) rfl dX12_toldHere_39 ?_
      refine x_topi A1.2.1 ?_
      refine x_if_ne (tgt := 59) C0 (by decide) dX12_toldHere_42 (fun _ => ?_) (fun hkk => absurd hkk ((fun y => gz (by rw [y]; exact Int32.le_refl _))))
      exact h59 I1 _ f1 (by rw [e0 z]; exact A1) (fun y => absurd (by rw [← e0 z]; exact y) z)
  refine x_aload_n C0 rfl dX12_toldHere_0 ?_
  refine x_getI C0 wf_X12_165 (isModel.k0 hM) rfl dX12_toldHere_1 ?_
  refine x_topi a8 ?_
  refine x_if_ne (tgt := 19) C0 (by decide) dX12_toldHere_4 (fun g4 => ?_) (fun g4 => ?_)
  · exact h19 I s RFr.rf A (fun z => pTh0_f z) (fun z => absurd (az.mpr z) g4)
  · refine x_aload_n C0 rfl dX12_toldHere_7 ?_
    refine x_callV [] C0 hN rfl (xRf_of hR (by decide) (Nat.zero_le _) (Nat.zero_le _)) mv_X12_isName wm_X12_199 dX12_toldHere_8 (isModel.k0 hM) rfl rfl (Nat.le_of_ble_eq_true rfl) (c_X12_isName hM T A (fun g8 => ?_) (fun g8 => ?_))
    · refine x_if_ne (tgt := 19) C0 (by decide) dX12_toldHere_11 (fun _ => ?_) (fun hkk => absurd hkk (by decide))
      exact h19 I s RFr.rf A (fun z => absurd g8.1 z) (fun _ => ⟨rfl, g8.2⟩)
    · refine x_if_ne (tgt := 19) C0 (by decide) dX12_toldHere_11 (fun hkk => absurd (by decide) hkk) (fun _ => ?_)
      refine x_aload_n C0 rfl dX12_toldHere_14 ?_
      refine x_iconst (v := nI 1) C0 rfl dX12_toldHere_15 ?_
      refine x_callV [_] C0 hN rfl (xRf_of hR (by decide) (Nat.zero_le _) (Nat.zero_le _)) mv_X12_wrong wm_X12_171 dX12_toldHere_16 (isModel.k0 hM) rfl rfl (Nat.le_of_ble_eq_true rfl) (c_X12_wrong hM T A (by decide) (fun I1 f1 A1 => ?_))
      refine h19 I1 _ f1 A1 (fun _ => ?_) (fun z => absurd z (pRef_ne (by decide)))
      unfold pTh0
      exact if_neg (fun z => g8 ⟨az.mp g4, z⟩)
