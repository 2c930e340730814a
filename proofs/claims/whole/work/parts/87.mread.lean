/-! READING: the reference -/
def MRd (I : xTI) (J : xTJ) (tp : Nat → Nat) (n c : Nat) : Prop := MTk I J tp n c ∧ ∀ i, i < 26 → J 140 i = Int64.ofNat (cv (wCd i))
def MAt (I : xTI) (c : Nat) (s : pS) : Prop := I 135 7 = nI s.1 ∧ I 135 8 = nI s.2 ∧ s.1 ≤ c ∧ s.2 < 20000
def RFr (I I' : xTI) : Prop := (∀ a, a ≠ 135 → I' a = I a) ∧ ∀ k, k ≠ 7 → k ≠ 8 → I' 135 k = I 135 k
theorem RFr.rf {I : xTI} : RFr I I := ⟨fun _ _ => rfl, fun _ _ _ => rfl⟩
theorem RFr.trans {I I1 I2 : xTI} (a : RFr I I1) (b : RFr I1 I2) : RFr I I2 := ⟨fun q h => (b.1 q h).trans (a.1 q h), fun k h1 h2 => (b.2 k h1 h2).trans (a.2 k h1 h2)⟩
theorem RFr.st {I : xTI} {k : Nat} {v : Int32} (h : k = 7 ∨ k = 8) : RFr I (u2 I 135 k v) := ⟨fun a g => u2_row _ _ _ g, fun j h1 h2 => u2_off _ _ (by omega)⟩
theorem MTk.congr {I I' : xTI} {J : xTJ} {tp : Nat → Nat} {n c : Nat} (h : MTk I J tp n c) (e7 : I' 137 = I 137) (e8 : I' 138 = I 138) : MTk I' J tp n c := by
  unfold MTk MTi at h ⊢
  rw [e7, e8]
  exact h
theorem MRd.fr {I I' : xTI} {J : xTJ} {tp : Nat → Nat} {n c : Nat} (h : MRd I J tp n c) (f : RFr I I') : MRd I' J tp n c := ⟨h.1.congr (f.1 _ (by decide)) (f.1 _ (by decide)), h.2⟩
theorem tKind_lt {tp : Nat → Nat} {n k : Nat} : tKind tp n k < 5 := by
  unfold tKind
  repeat' split
  all_goals decide
theorem MRd.at {I : xTI} {J : xTJ} {tp : Nat → Nat} {n c : Nat} (h : MRd I J tp n c) {i : Nat} (hi : i ≤ c) : i ≤ 1000 ∧ (tTok tp n i).1 < 5 ∧ (tTok tp n i).2.2 ≤ 1000 ∧ ((tTok tp n i).1 ≠ 0 → i < c) ∧ I 137 i = nI (tTok tp n i).1 ∧ I 138 i = nI (tTok tp n i).2.2 ∧ ((tTok tp n i).1 = 1 → (tTok tp n i).2.1 < 2 ^ 40 ∧ J 139 i = Int64.ofNat (cv (tTok tp n i).2.1)) ∧ ((tTok tp n i).1 = 2 → (tTok tp n i).2.1 < 10000 ∧ J 139 i = Int64.ofNat (tTok tp n i).2.1) ∧ ((tTok tp n i).1 = 3 → (tTok tp n i).2.1 < 128 ∧ J 139 i = Int64.ofNat (tTok tp n i).2.1) := by
  obtain ⟨c1, c2, c3, c4, c5⟩ := h.1
  obtain ⟨k1, k2, k3, k4⟩ := c5 i hi
  have hv := tVal_lt (tp := tp) (n := n) (k := tP tp n i) c3
  have hp : tP tp n i ≤ n := tP_le
  refine ⟨by omega, tKind_lt, Nat.le_trans hp c2, fun z => ?_, k2, k3, fun z => ⟨hv.1 z, ?_⟩, fun z => ⟨hv.2.1 z, ?_⟩, fun z => ⟨hv.2.2 z, ?_⟩⟩
  · by_cases e : i = c
    · rw [e] at z; exact absurd c4 z
    · omega
  · have := k4 (Or.inl z)
    unfold mV at this
    rw [if_pos z] at this
    exact this
  · have := k4 (Or.inr (Or.inl z))
    unfold mV at this
    rw [if_neg (by rw [z]; decide)] at this
    exact this
  · have := k4 (Or.inr (Or.inr z))
    unfold mV at this
    rw [if_neg (by rw [z]; decide)] at this
    exact this
theorem MAt.ref {I : xTI} {J : xTJ} {tp : Nat → Nat} {n c d : Nat} {s : pS} (T : MRd I J tp n c) (A : MAt I c s) (h0 : s.2 = 0) (hd : d ≤ 5) : MAt (u2 I 135 8 (nI (d + 16 * (tTok tp n s.1).2.2))) c (pRef (tTok tp n) d s) := by
  have h1 := (T.at A.2.2.1).2.2.1
  rw [pRef_0 h0]
  refine ⟨by rw [u2_off _ _ (by decide)]; exact A.1, u2_same _ _ _ _, A.2.2.1, ?_⟩
  show d + 16 * (tTok tp n s.1).2.2 < 20000
  omega
theorem MAt.next {I : xTI} {c : Nat} {s : pS} (A : MAt I c s) (h0 : s.2 = 0) (hc : s.1 < c) : MAt (u2 I 135 7 (nI (s.1 + 1))) c (pNext s) := by
  rw [pNext_0 h0]
  exact ⟨u2_same _ _ _ _, by rw [u2_off _ _ (by decide), A.2.1, h0], hc, (show 0 < 20000 by decide)⟩
theorem MAt.z {I : xTI} {c : Nat} {s : pS} (A : MAt I c s) : nI s.2 = 0 ↔ s.2 = 0 := nI_eq (b := 0) (by have := A.2.2.2; omega) (by decide)
theorem c_X12_wrong {S : xTS} {R : xTR} {I : xTI} {J : xTJ} {post : xPost} (hM : isModel S R) {tp : Nat → Nat} {n c : Nat} (T : MRd I J tp n c) {s : pS} (A : MAt I c s) {d : Nat} (hd : d ≤ 5) (hp : ∀ I', RFr I I' → MAt I' c (pRef (tTok tp n) d s) → post none S R I' J) : xSpec 1 yX12_wrong cX12_wrong 2 none 0 0 [.ref 135, .int (nI d)] S R I J post := by
  refine xSpec_of mt_X12_wrong (Nat.le_of_ble_eq_true rfl) (fun G C0 hN hR E hI hZ => ?_)
  change XX G 0 0 0 [some (.ref 135), some (.int (nI d))] [] S R I J
  obtain ⟨a7, a8, ac, a9⟩ := id A
  obtain ⟨k0, k5, kp, kc, k1, k2, kw, kn, ks⟩ := T.at ac
  have az := A.z
  refine x_aload_n C0 rfl dX12_wrong_0 ?_
  refine x_getI C0 wf_X12_165 (isModel.k0 hM) rfl dX12_wrong_1 ?_
  refine x_topi a8 ?_
  refine x_if_ne (tgt := 25) C0 (by decide) dX12_wrong_4 (fun g4 => ?_) (fun g4 => ?_)
  · refine x_vret C0 E (by decide) (by decide) dX12_wrong_25 ?_
    have h0 : ¬ s.2 = 0 := fun z => g4 (az.mpr z)
    exact hp I RFr.rf (by rw [pRef_f h0]; exact A)
  · refine x_aload_n C0 rfl dX12_wrong_7 ?_
    refine x_iload_n C0 rfl dX12_wrong_8 ?_
    refine x_bipush (v := nI 16) C0 rfl dX12_wrong_9 ?_
    refine x_aload_n C0 rfl dX12_wrong_11 ?_
    refine x_getR C0 wf_X12_27 (isModel.k0 hM) rfl rfl (isModel.r5 hM) dX12_wrong_12 ?_
    refine x_aload_n C0 rfl dX12_wrong_15 ?_
    refine x_getI C0 wf_X12_162 (isModel.k0 hM) rfl dX12_wrong_16 ?_
    refine x_topi a7 ?_
    refine x_ialoadN C0 (isModel.s5 hM) (by omega) (by omega) dX12_wrong_19 ?_
    refine x_topi k2 ?_
    refine x_imul C0 dX12_wrong_20 ?_
    refine x_topi (nI_mul 16 _) ?_
    refine x_iadd C0 dX12_wrong_21 ?_
    refine x_topi (nI_add d _) ?_
    refine x_putI C0 wf_X12_165 (isModel.k0 hM) rfl dX12_wrong_22 ?_
    refine x_vret C0 E (by decide) (by decide) dX12_wrong_25 ?_
    exact hp _ (RFr.st (Or.inr rfl)) (A.ref T (az.mp g4) hd)
theorem c_X12_isSign {S : xTS} {R : xTR} {I : xTI} {J : xTJ} {post : xPost} (hM : isModel S R) {tp : Nat → Nat} {n c : Nat} (T : MRd I J tp n c) {s : pS} (A : MAt I c s) {d : Nat} (hd : d < 128) (h1 : (pIsC (tTok tp n) d s) → post (some (.int 1)) S R I J) (h0 : ¬ (pIsC (tTok tp n) d s) → post (some (.int 0)) S R I J) : xSpec 1 yX12_isSign cX12_isSign 2 (some .boolean) 0 0 [.ref 135, .int (nI d)] S R I J post := by
  refine xSpec_of mt_X12_isSign (Nat.le_of_ble_eq_true rfl) (fun G C0 hN hR E hI hZ => ?_)
  change XX G 0 0 0 [some (.ref 135), some (.int (nI d))] [] S R I J
  obtain ⟨a7, a8, ac, a9⟩ := id A
  obtain ⟨k0, k5, kp, kc, k1, k2, kw, kn, ks⟩ := T.at ac
  have az := A.z
  refine x_aload_n C0 rfl dX12_isSign_0 ?_
  refine x_getI C0 wf_X12_165 (isModel.k0 hM) rfl dX12_isSign_1 ?_
  refine x_topi a8 ?_
  refine x_if_ne (tgt := 39) C0 (by decide) dX12_isSign_4 (fun g4 => ?_) (fun g4 => ?_)
  · refine x_iconst (v := 0) C0 rfl dX12_isSign_39 ?_
    refine x_zret C0 E (by decide) (by decide) rfl dX12_isSign_40 ?_
    exact h0 (fun z => g4 (az.mpr z.1))
  · refine x_aload_n C0 rfl dX12_isSign_7 ?_
    refine x_getR C0 wf_X12_24 (isModel.k0 hM) rfl rfl (isModel.r4 hM) dX12_isSign_8 ?_
    refine x_aload_n C0 rfl dX12_isSign_11 ?_
    refine x_getI C0 wf_X12_162 (isModel.k0 hM) rfl dX12_isSign_12 ?_
    refine x_topi a7 ?_
    refine x_ialoadN C0 (isModel.s4 hM) (by omega) (by omega) dX12_isSign_15 ?_
    refine x_topi k1 ?_
    refine x_iconst (v := nI 3) C0 rfl dX12_isSign_16 ?_
    refine x_icmp_ne (tgt := 39) C0 (by decide) dX12_isSign_17 (fun g17 => ?_) (fun g17 => ?_)
    · refine x_iconst (v := 0) C0 rfl dX12_isSign_39 ?_
      refine x_zret C0 E (by decide) (by decide) rfl dX12_isSign_40 ?_
      exact h0 (fun z => g17 (by rw [z.2.1]))
    · have z0 := az.mp g4
      have k3 := (nI_eq (by omega) (by omega)).mp g17
      obtain ⟨ks1, ks2⟩ := ks k3
      refine x_aload_n C0 rfl dX12_isSign_20 ?_
      refine x_getR C0 wf_X12_30 (isModel.k0 hM) rfl rfl (isModel.r6 hM) dX12_isSign_21 ?_
      refine x_aload_n C0 rfl dX12_isSign_24 ?_
      refine x_getI C0 wf_X12_162 (isModel.k0 hM) rfl dX12_isSign_25 ?_
      refine x_topi a7 ?_
      refine x_laloadN C0 (isModel.s6 hM) (by omega) (by omega) dX12_isSign_28 ?_
      refine x_topl ks2 ?_
      refine x_iload_n C0 rfl dX12_isSign_29 ?_
      refine x_i2l C0 dX12_isSign_30 ?_
      refine x_topl (i_long (by omega)) ?_
      refine x_lcmp C0 dX12_isSign_31 ?_
      refine x_if_ne (tgt := 39) C0 (by decide) dX12_isSign_32 (fun g32 => ?_) (fun g32 => ?_)
      · refine x_iconst (v := 0) C0 rfl dX12_isSign_39 ?_
        refine x_zret C0 E (by decide) (by decide) rfl dX12_isSign_40 ?_
        exact h0 (fun z => g32 ((lg_cmp_eq _ _).mpr (by rw [z.2.2])))
      · refine x_iconst (v := 1) C0 rfl dX12_isSign_35 ?_
        refine x_goto (tgt := 40) C0 (by decide) dX12_isSign_36 ?_
        refine x_zret C0 E (by decide) (by decide) rfl dX12_isSign_40 ?_
        exact h1 ⟨z0, k3, (l_inj (by omega) (by omega)).mp ((lg_cmp_eq _ _).mp g32)⟩
theorem c_X12_isWord {S : xTS} {R : xTR} {I : xTI} {J : xTJ} {post : xPost} (hM : isModel S R) {tp : Nat → Nat} {n c : Nat} (T : MRd I J tp n c) {s : pS} (A : MAt I c s) {i : Nat} (hi : i < 26) (h1 : (pIsW (tTok tp n) i s) → post (some (.int 1)) S R I J) (h0 : ¬ (pIsW (tTok tp n) i s) → post (some (.int 0)) S R I J) : xSpec 1 yX12_isWord cX12_isWord 2 (some .boolean) 0 0 [.ref 135, .int (nI i)] S R I J post := by
  refine xSpec_of mt_X12_isWord (Nat.le_of_ble_eq_true rfl) (fun G C0 hN hR E hI hZ => ?_)
  change XX G 0 0 0 [some (.ref 135), some (.int (nI i))] [] S R I J
  obtain ⟨a7, a8, ac, a9⟩ := id A
  obtain ⟨k0, k5, kp, kc, k1, k2, kw, kn, ks⟩ := T.at ac
  have az := A.z
  refine x_aload_n C0 rfl dX12_isWord_0 ?_
  refine x_getI C0 wf_X12_165 (isModel.k0 hM) rfl dX12_isWord_1 ?_
  refine x_topi a8 ?_
  refine x_if_ne (tgt := 43) C0 (by decide) dX12_isWord_4 (fun g4 => ?_) (fun g4 => ?_)
  · refine x_iconst (v := 0) C0 rfl dX12_isWord_43 ?_
    refine x_zret C0 E (by decide) (by decide) rfl dX12_isWord_44 ?_
    exact h0 (fun z => g4 (az.mpr z.1))
  · refine x_aload_n C0 rfl dX12_isWord_7 ?_
    refine x_getR C0 wf_X12_24 (isModel.k0 hM) rfl rfl (isModel.r4 hM) dX12_isWord_8 ?_
    refine x_aload_n C0 rfl dX12_isWord_11 ?_
    refine x_getI C0 wf_X12_162 (isModel.k0 hM) rfl dX12_isWord_12 ?_
    refine x_topi a7 ?_
    refine x_ialoadN C0 (isModel.s4 hM) (by omega) (by omega) dX12_isWord_15 ?_
    refine x_topi k1 ?_
    refine x_iconst (v := nI 1) C0 rfl dX12_isWord_16 ?_
    refine x_icmp_ne (tgt := 43) C0 (by decide) dX12_isWord_17 (fun g17 => ?_) (fun g17 => ?_)
    · refine x_iconst (v := 0) C0 rfl dX12_isWord_43 ?_
      refine x_zret C0 E (by decide) (by decide) rfl dX12_isWord_44 ?_
      exact h0 (fun z => g17 (by rw [z.2.1]))
    · have z0 := az.mp g4
      have k3 := (nI_eq (by omega) (by omega)).mp g17
      obtain ⟨ks1, ks2⟩ := kw k3
      have l1 := cv_lt (tTok tp n s.1).2.1
      have l2 := cv_lt (wCd i)
      have l3 := wCd_lt i hi
      refine x_aload_n C0 rfl dX12_isWord_20 ?_
      refine x_getR C0 wf_X12_30 (isModel.k0 hM) rfl rfl (isModel.r6 hM) dX12_isWord_21 ?_
      refine x_aload_n C0 rfl dX12_isWord_24 ?_
      refine x_getI C0 wf_X12_162 (isModel.k0 hM) rfl dX12_isWord_25 ?_
      refine x_topi a7 ?_
      refine x_laloadN C0 (isModel.s6 hM) (by omega) (by omega) dX12_isWord_28 ?_
      refine x_topl ks2 ?_
      refine x_aload_n C0 rfl dX12_isWord_29 ?_
      refine x_getR C0 wf_X12_86 (isModel.k0 hM) rfl rfl (isModel.r9 hM) dX12_isWord_30 ?_
      refine x_iload_n C0 rfl dX12_isWord_33 ?_
      refine x_laloadN C0 (isModel.s9 hM) (by omega) (by omega) dX12_isWord_34 ?_
      refine x_topl (T.2 i hi) ?_
      refine x_lcmp C0 dX12_isWord_35 ?_
      refine x_if_ne (tgt := 43) C0 (by decide) dX12_isWord_36 (fun g36 => ?_) (fun g36 => ?_)
      · refine x_iconst (v := 0) C0 rfl dX12_isWord_43 ?_
        refine x_zret C0 E (by decide) (by decide) rfl dX12_isWord_44 ?_
        exact h0 (fun z => g36 ((lg_cmp_eq _ _).mpr (by rw [z.2.2])))
      · refine x_iconst (v := 1) C0 rfl dX12_isWord_39 ?_
        refine x_goto (tgt := 44) C0 (by decide) dX12_isWord_40 ?_
        refine x_zret C0 E (by decide) (by decide) rfl dX12_isWord_44 ?_
        exact h1 ⟨z0, k3, (cv_inj ks1 l3).mp ((l_inj (by omega) (by omega)).mp ((lg_cmp_eq _ _).mp g36))⟩
