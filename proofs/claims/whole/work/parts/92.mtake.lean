/-! READING: the reference, told and taken; a name -/
theorem pTh0_z {q : xTok} {F : pF} {fr : Nat} {s : pS} (h : (pTh0 q F fr s).2 = 0) : pTh0 q F fr s = s := by
  unfold pTh0 at h ⊢
  split at h
  · rename_i g
    rw [if_pos g]
    split at h
    · exact absurd h (pRef_ne (by decide))
    · rename_i g2
      rw [if_neg g2]
  · exact absurd h (pRef_ne (by decide))
theorem pNext_2 {s : pS} : (pNext s).2 = s.2 := by
  unfold pNext
  split
  · rename_i h; exact h.symm
  · rfl
theorem c_X12_takeToldR {S : xTS} {R : xTR} {I : xTI} {J : xTJ} {post : xPost} (hM : isModel S R) {tp : Nat → Nat} {n c : Nat} (T : MRd I J tp n c) {s : pS} (A : MAt I c s) {m fr : Nat} {F : pF} (e : I 135 19 = nI m) (N9 : MNm I J 145 147 m F) (dj : FDj F) (hf : fr = 0 ∨ fr = 20) (hp : ∀ v I', RFr I I' → MAt I' c (pNext (pTh0 (tTok tp n) F fr s)) → ((pNext (pTh0 (tTok tp n) F fr s)).2 = 0 → s.2 = 0 ∧ pNm (tTok tp n) s.1 ∧ ∃ i, i < 6 ∧ v = nI i ∧ oF F fr ((tTok tp n) s.1).2.1 = some i) → post (some (.int v)) S R I' J) : xSpec 5 yX12_takeTold cX12_takeTold 4 (some .int) 0 0 [.ref 135, .int 1, .int (nI fr)] S R I J post := by
  refine xSpec_of mt_X12_takeTold (Nat.le_of_ble_eq_true rfl) (fun G C0 hN hR E hI hZ => ?_)
  change XX G 0 0 0 [some (.ref 135), some (.int 1), some (.int (nI fr)), none] [] S R I J
  obtain ⟨a7, a8, ac, a9⟩ := id A
  obtain ⟨k0, k5, kp, kc, k1, k2, kw, kn, ks⟩ := T.at ac
  have az := A.z
  refine x_aload_n C0 rfl dX12_takeTold_0 ?_
  refine x_iload_n C0 rfl dX12_takeTold_1 ?_
  refine x_iload_n C0 rfl dX12_takeTold_2 ?_
  refine x_callV [_, _] C0 hN rfl (xRf_of hR (by decide) (Nat.zero_le _) (Nat.zero_le _)) mv_X12_toldHere wm_X12_211 dX12_takeTold_3 (isModel.k0 hM) rfl rfl (Nat.le_of_ble_eq_true rfl) (c_X12_toldHereR hM T A e N9 dj hf (fun v I1 f1 A1 e1 => ?_))
  refine x_istore_n (L' := [_, _, _, _]) C0 hN (by decide) rfl dX12_takeTold_6 ?_
  refine x_aload_n C0 rfl dX12_takeTold_7 ?_
  refine x_dup C0 rfl dX12_takeTold_8 ?_
  refine x_getI C0 wf_X12_162 (isModel.k0 hM) rfl dX12_takeTold_9 ?_
  refine x_topi A1.1 ?_
  refine x_aload_n C0 rfl dX12_takeTold_12 ?_
  refine x_getI C0 wf_X12_165 (isModel.k0 hM) rfl dX12_takeTold_13 ?_
  refine x_topi A1.2.1 ?_
  refine x_if_le (tgt := 23) C0 (by decide) dX12_takeTold_16 (fun g16 => ?_) (fun g16 => ?_)
  · refine x_iconst (v := nI 1) C0 rfl dX12_takeTold_23 ?_
    refine x_iadd C0 dX12_takeTold_24 ?_
    refine x_topi (nI_add _ _) ?_
    refine x_putI C0 wf_X12_162 (isModel.k0 hM) rfl dX12_takeTold_25 ?_
    refine x_iload_n C0 rfl dX12_takeTold_28 ?_
    refine x_iret C0 E (by decide) (by decide) dX12_takeTold_29 ?_
    have z : (pTh0 (tTok tp n) F fr s).2 = 0 := by
      have := (nI_le_iff (b := 0) (by have := A1.2.2.2; omega) (by decide)).mp g16
      omega
    have eN := pTh0_z z
    obtain ⟨z0, zn, zi⟩ := e1 z
    refine hp v _ (f1.trans (RFr.st (Or.inl rfl))) (A1.next z ?_) (fun _ => ⟨z0, zn, zi⟩)
    rw [eN]
    exact kc (by rw [zn.1]; decide)
  · refine x_iconst (v := nI 0) C0 rfl dX12_takeTold_19 ?_
    refine x_goto (tgt := 24) C0 (by decide) dX12_takeTold_20 ?_
    refine x_iadd C0 dX12_takeTold_24 ?_
    refine x_topi (nI_add _ _) ?_
    refine x_putI C0 wf_X12_162 (isModel.k0 hM) rfl dX12_takeTold_25 ?_
    refine x_iload_n C0 rfl dX12_takeTold_28 ?_
    refine x_iret C0 E (by decide) (by decide) dX12_takeTold_29 ?_
    have z : ¬ (pTh0 (tTok tp n) F fr s).2 = 0 := fun z => g16 (by rw [z]; exact Int32.le_refl _)
    refine hp v _ (f1.trans (RFr.st (Or.inl rfl))) ?_ (fun y => absurd (pNext_2.symm.trans y) z)
    rw [pNext_f z]
    exact ⟨u2_same _ _ _ _, by rw [u2_off _ _ (by decide)]; exact A1.2.1, A1.2.2.1, A1.2.2.2⟩
theorem c_X12_takeToldN {S : xTS} {R : xTR} {I : xTI} {J : xTJ} {post : xPost} (hM : isModel S R) {tp : Nat → Nat} {n c : Nat} (T : MRd I J tp n c) {s : pS} (A : MAt I c s) {m fr : Nat} {F : pF} (e : I 135 18 = nI m) (N9 : MNm I J 144 146 m F) (dj : FDj F) (hf : fr = 0 ∨ fr = 20) (hp : ∀ v I', RFr I I' → MAt I' c (pNext (pTh0 (tTok tp n) F fr s)) → ((pNext (pTh0 (tTok tp n) F fr s)).2 = 0 → s.2 = 0 ∧ pNm (tTok tp n) s.1 ∧ ∃ i, i < 6 ∧ v = nI i ∧ oF F fr ((tTok tp n) s.1).2.1 = some i) → post (some (.int v)) S R I' J) : xSpec 5 yX12_takeTold cX12_takeTold 4 (some .int) 0 0 [.ref 135, .int 0, .int (nI fr)] S R I J post := by
  refine xSpec_of mt_X12_takeTold (Nat.le_of_ble_eq_true rfl) (fun G C0 hN hR E hI hZ => ?_)
  change XX G 0 0 0 [some (.ref 135), some (.int 0), some (.int (nI fr)), none] [] S R I J
  obtain ⟨a7, a8, ac, a9⟩ := id A
  obtain ⟨k0, k5, kp, kc, k1, k2, kw, kn, ks⟩ := T.at ac
  have az := A.z
  refine x_aload_n C0 rfl dX12_takeTold_0 ?_
  refine x_iload_n C0 rfl dX12_takeTold_1 ?_
  refine x_iload_n C0 rfl dX12_takeTold_2 ?_
  refine x_callV [_, _] C0 hN rfl (xRf_of hR (by decide) (Nat.zero_le _) (Nat.zero_le _)) mv_X12_toldHere wm_X12_211 dX12_takeTold_3 (isModel.k0 hM) rfl rfl (Nat.le_of_ble_eq_true rfl) (c_X12_toldHereN hM T A e N9 dj hf (fun v I1 f1 A1 e1 => ?_))
  refine x_istore_n (L' := [_, _, _, _]) C0 hN (by decide) rfl dX12_takeTold_6 ?_
  refine x_aload_n C0 rfl dX12_takeTold_7 ?_
  refine x_dup C0 rfl dX12_takeTold_8 ?_
  refine x_getI C0 wf_X12_162 (isModel.k0 hM) rfl dX12_takeTold_9 ?_
  refine x_topi A1.1 ?_
  refine x_aload_n C0 rfl dX12_takeTold_12 ?_
  refine x_getI C0 wf_X12_165 (isModel.k0 hM) rfl dX12_takeTold_13 ?_
  refine x_topi A1.2.1 ?_
  refine x_if_le (tgt := 23) C0 (by decide) dX12_takeTold_16 (fun g16 => ?_) (fun g16 => ?_)
  · refine x_iconst (v := nI 1) C0 rfl dX12_takeTold_23 ?_
    refine x_iadd C0 dX12_takeTold_24 ?_
    refine x_topi (nI_add _ _) ?_
    refine x_putI C0 wf_X12_162 (isModel.k0 hM) rfl dX12_takeTold_25 ?_
    refine x_iload_n C0 rfl dX12_takeTold_28 ?_
    refine x_iret C0 E (by decide) (by decide) dX12_takeTold_29 ?_
    have z : (pTh0 (tTok tp n) F fr s).2 = 0 := by
      have := (nI_le_iff (b := 0) (by have := A1.2.2.2; omega) (by decide)).mp g16
      omega
    have eN := pTh0_z z
    obtain ⟨z0, zn, zi⟩ := e1 z
    refine hp v _ (f1.trans (RFr.st (Or.inl rfl))) (A1.next z ?_) (fun _ => ⟨z0, zn, zi⟩)
    rw [eN]
    exact kc (by rw [zn.1]; decide)
  · refine x_iconst (v := nI 0) C0 rfl dX12_takeTold_19 ?_
    refine x_goto (tgt := 24) C0 (by decide) dX12_takeTold_20 ?_
    refine x_iadd C0 dX12_takeTold_24 ?_
    refine x_topi (nI_add _ _) ?_
    refine x_putI C0 wf_X12_162 (isModel.k0 hM) rfl dX12_takeTold_25 ?_
    refine x_iload_n C0 rfl dX12_takeTold_28 ?_
    refine x_iret C0 E (by decide) (by decide) dX12_takeTold_29 ?_
    have z : ¬ (pTh0 (tTok tp n) F fr s).2 = 0 := fun z => g16 (by rw [z]; exact Int32.le_refl _)
    refine hp v _ (f1.trans (RFr.st (Or.inl rfl))) ?_ (fun y => absurd (pNext_2.symm.trans y) z)
    rw [pNext_f z]
    exact ⟨u2_same _ _ _ _, by rw [u2_off _ _ (by decide)]; exact A1.2.1, A1.2.2.1, A1.2.2.2⟩
