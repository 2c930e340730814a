/-! READING: the reference, the lines of an evening -/
def RLn (I : xTI) (p : Nat) (F : pF) (c : Nat × Nat × Nat × Nat) : Prop := lOk F c ∧ I 148 p = nI c.1 ∧ (c.1 = 1 ∨ c.1 = 2 ∨ c.1 = 3 → I 148 (p + 1) = nI c.2.1) ∧ (c.1 = 1 ∨ c.1 = 3 → I 148 (p + 2) = nI c.2.2.1) ∧ (c.1 = 1 → I 148 (p + 3) = nI c.2.2.2)
theorem MRd.ev {I : xTI} {J : xTJ} {tp : Nat → Nat} {n c k : Nat} {v : Int32} (h : MRd I J tp n c) : MRd (u2 I 148 k v) J tp n c := ⟨h.1.congr (u2_row _ _ _ (by decide)) (u2_row _ _ _ (by decide)), h.2⟩
theorem MAt.ev {I : xTI} {c k : Nat} {s : pS} {v : Int32} (h : MAt I c s) : MAt (u2 I 148 k v) c s := ⟨by rw [u2_row _ _ _ (by decide)]; exact h.1, by rw [u2_row _ _ _ (by decide)]; exact h.2.1, h.2.2.1, h.2.2.2⟩
/-- the names told to the film that is shown -/
def NmN (I : xTI) (J : xTJ) (m : Nat) (F : pF) : Prop := I 135 18 = nI m ∧ MNm I J 144 146 m F ∧ FDj F
theorem NmN.ev {I : xTI} {J : xTJ} {m k : Nat} {F : pF} {v : Int32} (h : NmN I J m F) : NmN (u2 I 148 k v) J m F := ⟨by rw [u2_row _ _ _ (by decide)]; exact h.1, h.2.1.congr (u2_row _ _ _ (by decide)) rfl, h.2.2⟩
theorem NmN.fr {I I' : xTI} {J : xTJ} {m : Nat} {F : pF} (h : NmN I J m F) (f : RFr I I') : NmN I' J m F := ⟨by rw [f.2 18 (by decide) (by decide)]; exact h.1, h.2.1.congr (f.1 146 (by decide)) rfl, h.2.2⟩
theorem oF_20 {F : pF} {v : Nat} : oF F 20 v = xIdx F.2.2.1 v F.1.2.2.1 := if_neg (by decide)
theorem pTlk_0 {q : xTok} {F : pF} {s : pS} : pTlk q F none s = pNext (pTh0 q F 20 s) := by
  unfold pTlk pTh0
  rw [oF_20]
  by_cases g : pNm q s.1
  · rw [if_pos g, if_pos g]
    by_cases h : xIdx F.2.2.1 (q s.1).2.1 F.1.2.2.1 = none
    · rw [if_pos h, if_pos h]; exact (pNext_ref (by decide)).symm
    · rw [if_neg h, if_neg h, if_neg h]
  · rw [if_neg g, if_neg g]; exact (pNext_ref (by decide)).symm
theorem pTlk_go {q : xTok} {F : pF} {o : Option Nat} {s : pS} {i : Nat} (hn : pNm q s.1) (hi : xIdx F.2.2.1 (q s.1).2.1 F.1.2.2.1 = some i) : pTlk q F o s = if some i = o then pRef q 3 s else pNext s := by
  unfold pTlk
  rw [if_pos hn, hi, if_neg (fun y => by cases y)]
theorem wtN_is {q : xTok} {F : pF} {s : pS} {i : Nat} (h : oF F 20 (q s.1).2.1 = some i) : wtN q F s = i ∧ i < F.1.2.2.1 := by
  rw [oF_20] at h
  refine ⟨?_, (xIdx_some _ h).1⟩
  unfold wtN
  rw [h]
  rfl
theorem c_readEvening0 {S : xTS} {R : xTR} {I : xTI} {J : xTJ} {post : xPost} (hM : isModel S R) {tp : Nat → Nat} {n c : Nat} (T : MRd I J tp n c) {s : pS} (A : MAt I c s) {F : pF} {m p : Nat} (N9_ : NmN I J m F) (h0_ : s.2 = 0) (hp4_ : p + 4 ≤ 330) (hp : ∀ I', (∀ a, a ≠ 135 → a ≠ 148 → I' a = I a) → (∀ j, j ≠ 7 → j ≠ 8 → I' 135 j = I 135 j) → (∀ j, (j < p ∨ p + 4 ≤ j) → I' 148 j = I 148 j) → MAt I' c s → (s.2 = 0 → RLn I' p F (0, 0, 0, 0)) → post none S R I' J) : xSpec 6 yX12_readEvening cX12_readEvening 3 none 0 0 [.ref 135, .int (nI 0), .int (nI p)] S R I J post := by
  refine xSpec_of mt_X12_readEvening (Nat.le_of_ble_eq_true rfl) (fun G C0_ hN hR E hI hZ => ?_)
  change XX G 0 0 0 [some (.ref 135), some (.int (nI 0)), some (.int (nI p))] [] S R I J
  obtain ⟨a7_, a8_, ac, a9_⟩ := id A
  obtain ⟨k0_, k5_, kp, kc, k1_, k2_, kw, kn, ks⟩ := T.at ac
  have az := A.z
  refine x_aload_n C0_ rfl dX12_readEvening_0 ?_
  refine x_getR C0_ wf_X12_110 (isModel.k0 hM) rfl rfl (isModel.r21 hM) dX12_readEvening_1 ?_
  refine x_iload_n C0_ rfl dX12_readEvening_4 ?_
  refine x_iload_n C0_ rfl dX12_readEvening_5 ?_
  refine x_iastoreN C0_ (isModel.s21 hM) (by omega) (by omega) dX12_readEvening_6 ?_
  refine x_aload_n C0_ rfl dX12_readEvening_7 ?_
  refine x_getR C0_ wf_X12_110 (isModel.k0 hM) rfl rfl (isModel.r21 hM) dX12_readEvening_8 ?_
  refine x_iload_n C0_ rfl dX12_readEvening_11 ?_
  refine x_iconst (v := nI 1) C0_ rfl dX12_readEvening_12 ?_
  refine x_iaddN C0_ dX12_readEvening_13 ?_
  refine x_iload_n C0_ rfl dX12_readEvening_14 ?_
  refine x_iconst (v := nI 1) C0_ rfl dX12_readEvening_15 ?_
  refine x_icmp_eq (tgt := 24) C0_ (by decide) dX12_readEvening_16 (fun hkk => absurd hkk (by decide)) (fun _ => ?_)
  refine x_iload_n C0_ rfl dX12_readEvening_19 ?_
  refine x_iconst (v := nI 2) C0_ rfl dX12_readEvening_20 ?_
  refine x_icmp_ne (tgt := 34) C0_ (by decide) dX12_readEvening_21 (fun _ => ?_) (fun hkk => absurd hkk (by decide))
  refine x_iload_n C0_ rfl dX12_readEvening_34 ?_
  refine x_iconst (v := nI 3) C0_ rfl dX12_readEvening_35 ?_
  refine x_icmp_ne (tgt := 49) C0_ (by decide) dX12_readEvening_36 (fun _ => ?_) (fun hkk => absurd hkk (by decide))
  refine x_iconst (v := nI 0) C0_ rfl dX12_readEvening_49 ?_
  refine x_iastoreN C0_ (isModel.s21 hM) (by omega) (by omega) dX12_readEvening_50 ?_
  refine x_aload_n C0_ rfl dX12_readEvening_51 ?_
  refine x_getR C0_ wf_X12_110 (isModel.k0 hM) rfl rfl (isModel.r21 hM) dX12_readEvening_52 ?_
  refine x_iload_n C0_ rfl dX12_readEvening_55 ?_
  refine x_iconst (v := nI 2) C0_ rfl dX12_readEvening_56 ?_
  refine x_iaddN C0_ dX12_readEvening_57 ?_
  refine x_iconst (v := nI 0) C0_ rfl dX12_readEvening_58 ?_
  refine x_iastoreN C0_ (isModel.s21 hM) (by omega) (by omega) dX12_readEvening_59 ?_
  refine x_aload_n C0_ rfl dX12_readEvening_60 ?_
  refine x_getR C0_ wf_X12_110 (isModel.k0 hM) rfl rfl (isModel.r21 hM) dX12_readEvening_61 ?_
  refine x_iload_n C0_ rfl dX12_readEvening_64 ?_
  refine x_iconst (v := nI 3) C0_ rfl dX12_readEvening_65 ?_
  refine x_iaddN C0_ dX12_readEvening_66 ?_
  refine x_iconst (v := nI 0) C0_ rfl dX12_readEvening_67 ?_
  refine x_iastoreN C0_ (isModel.s21 hM) (by omega) (by omega) dX12_readEvening_68 ?_
  refine x_iload_n C0_ rfl dX12_readEvening_69 ?_
  refine x_iconst (v := nI 1) C0_ rfl dX12_readEvening_70 ?_
  refine x_icmp_ne (tgt := 103) C0_ (by decide) dX12_readEvening_71 (fun _ => ?_) (fun hkk => absurd hkk (by decide))
  refine x_iload_n C0_ rfl dX12_readEvening_103 ?_
  refine x_iconst (v := nI 3) C0_ rfl dX12_readEvening_104 ?_
  refine x_icmp_ne (tgt := 175) C0_ (by decide) dX12_readEvening_105 (fun _ => ?_) (fun hkk => absurd hkk (by decide))
  refine x_vret C0_ E (by decide) (by decide) dX12_readEvening_175 ?_
  refine hp _ (fun a h1_ h2_ => ?_) (fun j h1_ h2_ => ?_) (fun j h => ?_) ?_ (fun z => ?_)
  · rw [u2_row _ _ _ h2_, u2_row _ _ _ h2_, u2_row _ _ _ h2_, u2_row _ _ _ h2_]
  · rw [u2_row _ _ _ (by decide), u2_row _ _ _ (by decide), u2_row _ _ _ (by decide), u2_row _ _ _ (by decide)]
  · rw [u2_off _ _ (by omega), u2_off _ _ (by omega), u2_off _ _ (by omega), u2_off _ _ (by omega)]
  · exact A.ev.ev.ev.ev
  · refine ⟨⟨by decide, fun y => absurd y (by decide), fun y => absurd y (by decide), fun y => absurd y (by decide)⟩, ?_, fun y => absurd y (by decide), fun y => absurd y (by decide), fun y => absurd y (by decide)⟩
    rw [u2_off _ _ (by omega), u2_off _ _ (by omega), u2_off _ _ (by omega), u2_eq _ _ (by omega)]
theorem c_readEvening4 {S : xTS} {R : xTR} {I : xTI} {J : xTJ} {post : xPost} (hM : isModel S R) {tp : Nat → Nat} {n c : Nat} (T : MRd I J tp n c) {s : pS} (A : MAt I c s) {F : pF} {m p : Nat} (N9_ : NmN I J m F) (h0_ : s.2 = 0) (hp4_ : p + 4 ≤ 330) (hp : ∀ I', (∀ a, a ≠ 135 → a ≠ 148 → I' a = I a) → (∀ j, j ≠ 7 → j ≠ 8 → I' 135 j = I 135 j) → (∀ j, (j < p ∨ p + 4 ≤ j) → I' 148 j = I 148 j) → MAt I' c s → (s.2 = 0 → RLn I' p F (4, 0, 0, 0)) → post none S R I' J) : xSpec 6 yX12_readEvening cX12_readEvening 3 none 0 0 [.ref 135, .int (nI 4), .int (nI p)] S R I J post := by
  refine xSpec_of mt_X12_readEvening (Nat.le_of_ble_eq_true rfl) (fun G C0_ hN hR E hI hZ => ?_)
  change XX G 0 0 0 [some (.ref 135), some (.int (nI 4)), some (.int (nI p))] [] S R I J
  obtain ⟨a7_, a8_, ac, a9_⟩ := id A
  obtain ⟨k0_, k5_, kp, kc, k1_, k2_, kw, kn, ks⟩ := T.at ac
  have az := A.z
  refine x_aload_n C0_ rfl dX12_readEvening_0 ?_
  refine x_getR C0_ wf_X12_110 (isModel.k0 hM) rfl rfl (isModel.r21 hM) dX12_readEvening_1 ?_
  refine x_iload_n C0_ rfl dX12_readEvening_4 ?_
  refine x_iload_n C0_ rfl dX12_readEvening_5 ?_
  refine x_iastoreN C0_ (isModel.s21 hM) (by omega) (by omega) dX12_readEvening_6 ?_
  refine x_aload_n C0_ rfl dX12_readEvening_7 ?_
  refine x_getR C0_ wf_X12_110 (isModel.k0 hM) rfl rfl (isModel.r21 hM) dX12_readEvening_8 ?_
  refine x_iload_n C0_ rfl dX12_readEvening_11 ?_
  refine x_iconst (v := nI 1) C0_ rfl dX12_readEvening_12 ?_
  refine x_iaddN C0_ dX12_readEvening_13 ?_
  refine x_iload_n C0_ rfl dX12_readEvening_14 ?_
  refine x_iconst (v := nI 1) C0_ rfl dX12_readEvening_15 ?_
  refine x_icmp_eq (tgt := 24) C0_ (by decide) dX12_readEvening_16 (fun hkk => absurd hkk (by decide)) (fun _ => ?_)
  refine x_iload_n C0_ rfl dX12_readEvening_19 ?_
  refine x_iconst (v := nI 2) C0_ rfl dX12_readEvening_20 ?_
  refine x_icmp_ne (tgt := 34) C0_ (by decide) dX12_readEvening_21 (fun _ => ?_) (fun hkk => absurd hkk (by decide))
  refine x_iload_n C0_ rfl dX12_readEvening_34 ?_
  refine x_iconst (v := nI 3) C0_ rfl dX12_readEvening_35 ?_
  refine x_icmp_ne (tgt := 49) C0_ (by decide) dX12_readEvening_36 (fun _ => ?_) (fun hkk => absurd hkk (by decide))
  refine x_iconst (v := nI 0) C0_ rfl dX12_readEvening_49 ?_
  refine x_iastoreN C0_ (isModel.s21 hM) (by omega) (by omega) dX12_readEvening_50 ?_
  refine x_aload_n C0_ rfl dX12_readEvening_51 ?_
  refine x_getR C0_ wf_X12_110 (isModel.k0 hM) rfl rfl (isModel.r21 hM) dX12_readEvening_52 ?_
  refine x_iload_n C0_ rfl dX12_readEvening_55 ?_
  refine x_iconst (v := nI 2) C0_ rfl dX12_readEvening_56 ?_
  refine x_iaddN C0_ dX12_readEvening_57 ?_
  refine x_iconst (v := nI 0) C0_ rfl dX12_readEvening_58 ?_
  refine x_iastoreN C0_ (isModel.s21 hM) (by omega) (by omega) dX12_readEvening_59 ?_
  refine x_aload_n C0_ rfl dX12_readEvening_60 ?_
  refine x_getR C0_ wf_X12_110 (isModel.k0 hM) rfl rfl (isModel.r21 hM) dX12_readEvening_61 ?_
  refine x_iload_n C0_ rfl dX12_readEvening_64 ?_
  refine x_iconst (v := nI 3) C0_ rfl dX12_readEvening_65 ?_
  refine x_iaddN C0_ dX12_readEvening_66 ?_
  refine x_iconst (v := nI 0) C0_ rfl dX12_readEvening_67 ?_
  refine x_iastoreN C0_ (isModel.s21 hM) (by omega) (by omega) dX12_readEvening_68 ?_
  refine x_iload_n C0_ rfl dX12_readEvening_69 ?_
  refine x_iconst (v := nI 1) C0_ rfl dX12_readEvening_70 ?_
  refine x_icmp_ne (tgt := 103) C0_ (by decide) dX12_readEvening_71 (fun _ => ?_) (fun hkk => absurd hkk (by decide))
  refine x_iload_n C0_ rfl dX12_readEvening_103 ?_
  refine x_iconst (v := nI 3) C0_ rfl dX12_readEvening_104 ?_
  refine x_icmp_ne (tgt := 175) C0_ (by decide) dX12_readEvening_105 (fun _ => ?_) (fun hkk => absurd hkk (by decide))
  refine x_vret C0_ E (by decide) (by decide) dX12_readEvening_175 ?_
  refine hp _ (fun a h1_ h2_ => ?_) (fun j h1_ h2_ => ?_) (fun j h => ?_) ?_ (fun z => ?_)
  · rw [u2_row _ _ _ h2_, u2_row _ _ _ h2_, u2_row _ _ _ h2_, u2_row _ _ _ h2_]
  · rw [u2_row _ _ _ (by decide), u2_row _ _ _ (by decide), u2_row _ _ _ (by decide), u2_row _ _ _ (by decide)]
  · rw [u2_off _ _ (by omega), u2_off _ _ (by omega), u2_off _ _ (by omega), u2_off _ _ (by omega)]
  · exact A.ev.ev.ev.ev
  · refine ⟨⟨by decide, fun y => absurd y (by decide), fun y => absurd y (by decide), fun y => absurd y (by decide)⟩, ?_, fun y => absurd y (by decide), fun y => absurd y (by decide), fun y => absurd y (by decide)⟩
    rw [u2_off _ _ (by omega), u2_off _ _ (by omega), u2_off _ _ (by omega), u2_eq _ _ (by omega)]
theorem c_readEvening2 {S : xTS} {R : xTR} {I : xTI} {J : xTJ} {post : xPost} (hM : isModel S R) {tp : Nat → Nat} {n c : Nat} (T : MRd I J tp n c) {s : pS} (A : MAt I c s) {F : pF} {m p : Nat} (N9_ : NmN I J m F) (h0_ : s.2 = 0) (hp4_ : p + 4 ≤ 330) (hp : ∀ I', (∀ a, a ≠ 135 → a ≠ 148 → I' a = I a) → (∀ j, j ≠ 7 → j ≠ 8 → I' 135 j = I 135 j) → (∀ j, (j < p ∨ p + 4 ≤ j) → I' 148 j = I 148 j) → MAt I' c (pNum (tTok tp n) 0 7 s) → ((pNum (tTok tp n) 0 7 s).2 = 0 → RLn I' p F (2, ((tTok tp n) s.1).2.1, 0, 0)) → post none S R I' J) : xSpec 6 yX12_readEvening cX12_readEvening 3 none 0 0 [.ref 135, .int (nI 2), .int (nI p)] S R I J post := by
  refine xSpec_of mt_X12_readEvening (Nat.le_of_ble_eq_true rfl) (fun G C0_ hN hR E hI hZ => ?_)
  change XX G 0 0 0 [some (.ref 135), some (.int (nI 2)), some (.int (nI p))] [] S R I J
  obtain ⟨a7_, a8_, ac, a9_⟩ := id A
  obtain ⟨k0_, k5_, kp, kc, k1_, k2_, kw, kn, ks⟩ := T.at ac
  have az := A.z
  refine x_aload_n C0_ rfl dX12_readEvening_0 ?_
  refine x_getR C0_ wf_X12_110 (isModel.k0 hM) rfl rfl (isModel.r21 hM) dX12_readEvening_1 ?_
  refine x_iload_n C0_ rfl dX12_readEvening_4 ?_
  refine x_iload_n C0_ rfl dX12_readEvening_5 ?_
  refine x_iastoreN C0_ (isModel.s21 hM) (by omega) (by omega) dX12_readEvening_6 ?_
  refine x_aload_n C0_ rfl dX12_readEvening_7 ?_
  refine x_getR C0_ wf_X12_110 (isModel.k0 hM) rfl rfl (isModel.r21 hM) dX12_readEvening_8 ?_
  refine x_iload_n C0_ rfl dX12_readEvening_11 ?_
  refine x_iconst (v := nI 1) C0_ rfl dX12_readEvening_12 ?_
  refine x_iaddN C0_ dX12_readEvening_13 ?_
  refine x_iload_n C0_ rfl dX12_readEvening_14 ?_
  refine x_iconst (v := nI 1) C0_ rfl dX12_readEvening_15 ?_
  refine x_icmp_eq (tgt := 24) C0_ (by decide) dX12_readEvening_16 (fun hkk => absurd hkk (by decide)) (fun _ => ?_)
  refine x_iload_n C0_ rfl dX12_readEvening_19 ?_
  refine x_iconst (v := nI 2) C0_ rfl dX12_readEvening_20 ?_
  refine x_icmp_ne (tgt := 34) C0_ (by decide) dX12_readEvening_21 (fun hkk => absurd (by decide) hkk) (fun _ => ?_)
  refine x_aload_n C0_ rfl dX12_readEvening_24 ?_
  refine x_iconst (v := nI 0) C0_ rfl dX12_readEvening_25 ?_
  refine x_bipush (v := nI 7) C0_ rfl dX12_readEvening_26 ?_
  refine x_callV [_, _] C0_ hN rfl (xRf_of hR (by decide) (Nat.zero_le _) (Nat.zero_le _)) mv_X12_takeNumber wm_X12_183 dX12_readEvening_28 (isModel.k0 hM) rfl rfl (Nat.le_of_ble_eq_true rfl) (c_X12_takeNumber hM T.ev A.ev (lo := 0) (hi := 7) (by decide) (by decide) (fun v2_ I2_ f2_ A2_ e2_ => ?_))
  refine x_goto (tgt := 50) C0_ (by decide) dX12_readEvening_31 ?_
  refine x_iastoreN C0_ (isModel.s21 hM) (by omega) (by omega) dX12_readEvening_50 ?_
  refine x_aload_n C0_ rfl dX12_readEvening_51 ?_
  refine x_getR C0_ wf_X12_110 (isModel.k0 hM) rfl rfl (isModel.r21 hM) dX12_readEvening_52 ?_
  refine x_iload_n C0_ rfl dX12_readEvening_55 ?_
  refine x_iconst (v := nI 2) C0_ rfl dX12_readEvening_56 ?_
  refine x_iaddN C0_ dX12_readEvening_57 ?_
  refine x_iconst (v := nI 0) C0_ rfl dX12_readEvening_58 ?_
  refine x_iastoreN C0_ (isModel.s21 hM) (by omega) (by omega) dX12_readEvening_59 ?_
  refine x_aload_n C0_ rfl dX12_readEvening_60 ?_
  refine x_getR C0_ wf_X12_110 (isModel.k0 hM) rfl rfl (isModel.r21 hM) dX12_readEvening_61 ?_
  refine x_iload_n C0_ rfl dX12_readEvening_64 ?_
  refine x_iconst (v := nI 3) C0_ rfl dX12_readEvening_65 ?_
  refine x_iaddN C0_ dX12_readEvening_66 ?_
  refine x_iconst (v := nI 0) C0_ rfl dX12_readEvening_67 ?_
  refine x_iastoreN C0_ (isModel.s21 hM) (by omega) (by omega) dX12_readEvening_68 ?_
  refine x_iload_n C0_ rfl dX12_readEvening_69 ?_
  refine x_iconst (v := nI 1) C0_ rfl dX12_readEvening_70 ?_
  refine x_icmp_ne (tgt := 103) C0_ (by decide) dX12_readEvening_71 (fun _ => ?_) (fun hkk => absurd hkk (by decide))
  refine x_iload_n C0_ rfl dX12_readEvening_103 ?_
  refine x_iconst (v := nI 3) C0_ rfl dX12_readEvening_104 ?_
  refine x_icmp_ne (tgt := 175) C0_ (by decide) dX12_readEvening_105 (fun _ => ?_) (fun hkk => absurd hkk (by decide))
  refine x_vret C0_ E (by decide) (by decide) dX12_readEvening_175 ?_
  refine hp _ (fun a h1_ h2_ => ?_) (fun j h1_ h2_ => ?_) (fun j h => ?_) ?_ (fun z => ?_)
  · rw [u2_row _ _ _ h2_, u2_row _ _ _ h2_, u2_row _ _ _ h2_, f2_.1 a h1_, u2_row _ _ _ h2_]
  · rw [u2_row _ _ _ (by decide), u2_row _ _ _ (by decide), u2_row _ _ _ (by decide), f2_.2 j h1_ h2_, u2_row _ _ _ (by decide)]
  · rw [u2_off _ _ (by omega), u2_off _ _ (by omega), u2_off _ _ (by omega), f2_.1 148 (by decide), u2_off _ _ (by omega)]
  · exact A2_.ev.ev.ev
  · obtain ⟨-, ev, -, -, hi⟩ := e2_ z
    refine ⟨⟨(show (2 : Nat) < 5 by decide), fun y => absurd y (show ¬ (2 : Nat) = 1 by decide), fun _ => Nat.lt_succ_of_le hi, fun y => absurd y (show ¬ (2 : Nat) = 3 by decide)⟩, ?_, fun _ => ?_, fun y => absurd y (show ¬ ((2 : Nat) = 1 ∨ (2 : Nat) = 3) by decide), fun y => absurd y (show ¬ (2 : Nat) = 1 by decide)⟩
    · rw [u2_off _ _ (by omega), u2_off _ _ (by omega), u2_off _ _ (by omega), f2_.1 148 (by decide), u2_eq _ _ (by omega)]
    · rw [u2_off _ _ (by omega), u2_off _ _ (by omega), u2_eq _ _ (by omega)]; exact ev
theorem c_readEvening1 {S : xTS} {R : xTR} {I : xTI} {J : xTJ} {post : xPost} (hM : isModel S R) {tp : Nat → Nat} {n c : Nat} (T : MRd I J tp n c) {s : pS} (A : MAt I c s) {F : pF} {m p : Nat} (N9_ : NmN I J m F) (h0_ : s.2 = 0) (hp4_ : p + 4 ≤ 330) (hp : ∀ I', (∀ a, a ≠ 135 → a ≠ 148 → I' a = I a) → (∀ j, j ≠ 7 → j ≠ 8 → I' 135 j = I 135 j) → (∀ j, (j < p ∨ p + 4 ≤ j) → I' 148 j = I 148 j) → MAt I' c (pClm (tTok tp n) F (pNum (tTok tp n) 0 7 s)) → ((pClm (tTok tp n) F (pNum (tTok tp n) 0 7 s)).2 = 0 → RLn I' p F (1, ((tTok tp n) s.1).2.1, cvT (tTok tp n) F (pNum (tTok tp n) 0 7 s), cvB (tTok tp n) F (pNum (tTok tp n) 0 7 s))) → post none S R I' J) : xSpec 6 yX12_readEvening cX12_readEvening 3 none 0 0 [.ref 135, .int (nI 1), .int (nI p)] S R I J post := by
  refine xSpec_of mt_X12_readEvening (Nat.le_of_ble_eq_true rfl) (fun G C0_ hN hR E hI hZ => ?_)
  change XX G 0 0 0 [some (.ref 135), some (.int (nI 1)), some (.int (nI p))] [] S R I J
  obtain ⟨a7_, a8_, ac, a9_⟩ := id A
  obtain ⟨k0_, k5_, kp, kc, k1_, k2_, kw, kn, ks⟩ := T.at ac
  have az := A.z
  refine x_aload_n C0_ rfl dX12_readEvening_0 ?_
  refine x_getR C0_ wf_X12_110 (isModel.k0 hM) rfl rfl (isModel.r21 hM) dX12_readEvening_1 ?_
  refine x_iload_n C0_ rfl dX12_readEvening_4 ?_
  refine x_iload_n C0_ rfl dX12_readEvening_5 ?_
  refine x_iastoreN C0_ (isModel.s21 hM) (by omega) (by omega) dX12_readEvening_6 ?_
  refine x_aload_n C0_ rfl dX12_readEvening_7 ?_
  refine x_getR C0_ wf_X12_110 (isModel.k0 hM) rfl rfl (isModel.r21 hM) dX12_readEvening_8 ?_
  refine x_iload_n C0_ rfl dX12_readEvening_11 ?_
  refine x_iconst (v := nI 1) C0_ rfl dX12_readEvening_12 ?_
  refine x_iaddN C0_ dX12_readEvening_13 ?_
  refine x_iload_n C0_ rfl dX12_readEvening_14 ?_
  refine x_iconst (v := nI 1) C0_ rfl dX12_readEvening_15 ?_
  refine x_icmp_eq (tgt := 24) C0_ (by decide) dX12_readEvening_16 (fun _ => ?_) (fun hkk => absurd (by decide) hkk)
  refine x_aload_n C0_ rfl dX12_readEvening_24 ?_
  refine x_iconst (v := nI 0) C0_ rfl dX12_readEvening_25 ?_
  refine x_bipush (v := nI 7) C0_ rfl dX12_readEvening_26 ?_
  refine x_callV [_, _] C0_ hN rfl (xRf_of hR (by decide) (Nat.zero_le _) (Nat.zero_le _)) mv_X12_takeNumber wm_X12_183 dX12_readEvening_28 (isModel.k0 hM) rfl rfl (Nat.le_of_ble_eq_true rfl) (c_X12_takeNumber hM T.ev A.ev (lo := 0) (hi := 7) (by decide) (by decide) (fun v2_ I2_ f2_ A2_ e2_ => ?_))
  have N2_ := (N9_.ev (k := p) (v := nI 1)).fr f2_
  have T2_ := (T.ev (k := p) (v := nI 1)).fr f2_
  refine x_goto (tgt := 50) C0_ (by decide) dX12_readEvening_31 ?_
  refine x_iastoreN C0_ (isModel.s21 hM) (by omega) (by omega) dX12_readEvening_50 ?_
  refine x_aload_n C0_ rfl dX12_readEvening_51 ?_
  refine x_getR C0_ wf_X12_110 (isModel.k0 hM) rfl rfl (isModel.r21 hM) dX12_readEvening_52 ?_
  refine x_iload_n C0_ rfl dX12_readEvening_55 ?_
  refine x_iconst (v := nI 2) C0_ rfl dX12_readEvening_56 ?_
  refine x_iaddN C0_ dX12_readEvening_57 ?_
  refine x_iconst (v := nI 0) C0_ rfl dX12_readEvening_58 ?_
  refine x_iastoreN C0_ (isModel.s21 hM) (by omega) (by omega) dX12_readEvening_59 ?_
  refine x_aload_n C0_ rfl dX12_readEvening_60 ?_
  refine x_getR C0_ wf_X12_110 (isModel.k0 hM) rfl rfl (isModel.r21 hM) dX12_readEvening_61 ?_
  refine x_iload_n C0_ rfl dX12_readEvening_64 ?_
  refine x_iconst (v := nI 3) C0_ rfl dX12_readEvening_65 ?_
  refine x_iaddN C0_ dX12_readEvening_66 ?_
  refine x_iconst (v := nI 0) C0_ rfl dX12_readEvening_67 ?_
  refine x_iastoreN C0_ (isModel.s21 hM) (by omega) (by omega) dX12_readEvening_68 ?_
  refine x_iload_n C0_ rfl dX12_readEvening_69 ?_
  refine x_iconst (v := nI 1) C0_ rfl dX12_readEvening_70 ?_
  refine x_icmp_ne (tgt := 103) C0_ (by decide) dX12_readEvening_71 (fun hkk => absurd (by decide) hkk) (fun _ => ?_)
  refine x_aload_n C0_ rfl dX12_readEvening_74 ?_
  refine x_getR C0_ wf_X12_110 (isModel.k0 hM) rfl rfl (isModel.r21 hM) dX12_readEvening_75 ?_
  refine x_iload_n C0_ rfl dX12_readEvening_78 ?_
  refine x_iconst (v := nI 2) C0_ rfl dX12_readEvening_79 ?_
  refine x_iaddN C0_ dX12_readEvening_80 ?_
  refine x_aload_n C0_ rfl dX12_readEvening_81 ?_
  refine x_iconst (v := nI 0) C0_ rfl dX12_readEvening_82 ?_
  refine x_iconst (v := nI 0) C0_ rfl dX12_readEvening_83 ?_
  refine x_callV [_, _] C0_ hN rfl (xRf_of hR (by decide) (Nat.zero_le _) (Nat.zero_le _)) mv_X12_takeTold wm_X12_243 dX12_readEvening_84 (isModel.k0 hM) rfl rfl (Nat.le_of_ble_eq_true rfl) (c_X12_takeToldN hM T2_.ev.ev.ev A2_.ev.ev.ev (fr := 0) (F := F) N2_.ev.ev.ev.1 N2_.ev.ev.ev.2.1 N2_.2.2 (Or.inl rfl) (fun v3_ I3_ f3_ A3_ e3_ => ?_))
  rw [← pThg_0] at A3_ e3_
  have T3_ := T2_.ev.ev.ev.fr f3_
  refine x_iastoreN C0_ (isModel.s21 hM) (by omega) (by omega) dX12_readEvening_87 ?_
  refine x_aload_n C0_ rfl dX12_readEvening_88 ?_
  refine x_getR C0_ wf_X12_110 (isModel.k0 hM) rfl rfl (isModel.r21 hM) dX12_readEvening_89 ?_
  refine x_iload_n C0_ rfl dX12_readEvening_92 ?_
  refine x_iconst (v := nI 3) C0_ rfl dX12_readEvening_93 ?_
  refine x_iaddN C0_ dX12_readEvening_94 ?_
  refine x_aload_n C0_ rfl dX12_readEvening_95 ?_
  refine x_callV [] C0_ hN rfl (xRf_of hR (by decide) (Nat.zero_le _) (Nat.zero_le _)) mv_X12_takeIs wm_X12_246 dX12_readEvening_96 (isModel.k0 hM) rfl rfl (Nat.le_of_ble_eq_true rfl) (c_X12_takeIs hM T3_.ev A3_.ev (fun v4_ I4_ f4_ A4_ e4_ => ?_))
  have A4_ : MAt I4_ c (pClm (tTok tp n) F (pNum (tTok tp n) 0 7 s)) := A4_
  refine x_iastoreN C0_ (isModel.s21 hM) (by omega) (by omega) dX12_readEvening_99 ?_
  refine x_goto (tgt := 175) C0_ (by decide) dX12_readEvening_100 ?_
  refine x_vret C0_ E (by decide) (by decide) dX12_readEvening_175 ?_
  refine hp _ (fun a h1_ h2_ => ?_) (fun j h1_ h2_ => ?_) (fun j h => ?_) ?_ (fun z => ?_)
  · rw [u2_row _ _ _ h2_, f4_.1 a h1_, u2_row _ _ _ h2_, f3_.1 a h1_, u2_row _ _ _ h2_, u2_row _ _ _ h2_, u2_row _ _ _ h2_, f2_.1 a h1_, u2_row _ _ _ h2_]
  · rw [u2_row _ _ _ (by decide), f4_.2 j h1_ h2_, u2_row _ _ _ (by decide), f3_.2 j h1_ h2_, u2_row _ _ _ (by decide), u2_row _ _ _ (by decide), u2_row _ _ _ (by decide), f2_.2 j h1_ h2_, u2_row _ _ _ (by decide)]
  · rw [u2_off _ _ (by omega), f4_.1 148 (by decide), u2_off _ _ (by omega), f3_.1 148 (by decide), u2_off _ _ (by omega), u2_off _ _ (by omega), u2_off _ _ (by omega), f2_.1 148 (by decide), u2_off _ _ (by omega)]
  · exact A4_.ev
  · have z4_ : (pIs (tTok tp n) (pThg (tTok tp n) F (pNum (tTok tp n) 0 7 s))).2 = 0 := z
    obtain ⟨z3_, ev4_⟩ := e4_ z4_
    obtain ⟨z2_, zn3_, i3_, hi3_, ev3_, eo3_⟩ := e3_ z3_
    obtain ⟨-, ev, -, -, hi⟩ := e2_ z2_
    obtain ⟨ec3_, hl3_⟩ := cvT_is eo3_
    have hb : cvB (tTok tp n) F (pNum (tTok tp n) 0 7 s) < 2 := by unfold cvB; split <;> decide
    refine ⟨⟨(show (1 : Nat) < 5 by decide), fun _ => ⟨Nat.lt_succ_of_le hi, by show cvT _ F _ < F.1.1; rw [ec3_]; exact hl3_, hb⟩, fun y => absurd y (show ¬ (1 : Nat) = 2 by decide), fun y => absurd y (show ¬ (1 : Nat) = 3 by decide)⟩, ?_, fun _ => ?_, fun _ => ?_, fun _ => ?_⟩
    · rw [u2_off _ _ (by omega), f4_.1 148 (by decide), u2_off _ _ (by omega), f3_.1 148 (by decide), u2_off _ _ (by omega), u2_off _ _ (by omega), u2_off _ _ (by omega), f2_.1 148 (by decide), u2_eq _ _ (by omega)]
    · rw [u2_off _ _ (by omega), f4_.1 148 (by decide), u2_off _ _ (by omega), f3_.1 148 (by decide), u2_off _ _ (by omega), u2_off _ _ (by omega), u2_eq _ _ (by omega)]; exact ev
    · rw [u2_off _ _ (by omega), f4_.1 148 (by decide), u2_eq _ _ (by omega), ec3_]; exact ev3_
    · rw [u2_eq _ _ (by omega)]; exact ev4_
theorem c_readEvening3 {S : xTS} {R : xTR} {I : xTI} {J : xTJ} {post : xPost} (hM : isModel S R) {tp : Nat → Nat} {n c : Nat} (T : MRd I J tp n c) {s : pS} (A : MAt I c s) {F : pF} {m p : Nat} (N9_ : NmN I J m F) (h0_ : s.2 = 0) (hp4_ : p + 4 ≤ 330) (hp : ∀ I', (∀ a, a ≠ 135 → a ≠ 148 → I' a = I a) → (∀ j, j ≠ 7 → j ≠ 8 → I' 135 j = I 135 j) → (∀ j, (j < p ∨ p + 4 ≤ j) → I' 148 j = I 148 j) → MAt I' c (pTlk (tTok tp n) F (xIdx F.2.2.1 ((tTok tp n) s.1).2.1 F.1.2.2.1) (pTlk (tTok tp n) F none s)) → ((pTlk (tTok tp n) F (xIdx F.2.2.1 ((tTok tp n) s.1).2.1 F.1.2.2.1) (pTlk (tTok tp n) F none s)).2 = 0 → RLn I' p F (3, wtN (tTok tp n) F s, wtN (tTok tp n) F (pTlk (tTok tp n) F none s), 0)) → post none S R I' J) : xSpec 6 yX12_readEvening cX12_readEvening 3 none 0 0 [.ref 135, .int (nI 3), .int (nI p)] S R I J post := by
  refine xSpec_of mt_X12_readEvening (Nat.le_of_ble_eq_true rfl) (fun G C0_ hN hR E hI hZ => ?_)
  change XX G 0 0 0 [some (.ref 135), some (.int (nI 3)), some (.int (nI p))] [] S R I J
  obtain ⟨a7_, a8_, ac, a9_⟩ := id A
  obtain ⟨k0_, k5_, kp, kc, k1_, k2_, kw, kn, ks⟩ := T.at ac
  have az := A.z
  have h154_ : ∀ I4_ s4_ v2_ v3_, (∀ a, a ≠ 135 → a ≠ 148 → I4_ a = I a) → (∀ j, j ≠ 7 → j ≠ 8 → I4_ 135 j = I 135 j) → (∀ j, (j < p ∨ p + 4 ≤ j) → I4_ 148 j = I 148 j) → I4_ 148 p = nI 3 → I4_ 148 (p + 1) = v2_ → I4_ 148 (p + 2) = v3_ → MAt I4_ c s4_ → (¬ s4_.2 = 0 → (pTlk (tTok tp n) F (xIdx F.2.2.1 ((tTok tp n) s.1).2.1 F.1.2.2.1) (pTlk (tTok tp n) F none s)) = s4_) → (s4_.2 = 0 → s4_ = (pTlk (tTok tp n) F none s) ∧ (pTlk (tTok tp n) F (xIdx F.2.2.1 ((tTok tp n) s.1).2.1 F.1.2.2.1) (pTlk (tTok tp n) F none s)) = pNext (pTlk (tTok tp n) F none s) ∧ ((tTok tp n) ((pTlk (tTok tp n) F none s).1)).1 ≠ 0 ∧ ∃ i1_ i2_, i1_ < F.1.2.2.1 ∧ i2_ < F.1.2.2.1 ∧ i1_ ≠ i2_ ∧ v2_ = nI i1_ ∧ v3_ = nI i2_ ∧ wtN (tTok tp n) F s = i1_ ∧ wtN (tTok tp n) F (pTlk (tTok tp n) F none s) = i2_) → XX G 0 0 154 [some (.ref 135), some (.int (nI 3)), some (.int (nI p))] [] S R I4_ J := by
    intro I4_ s4_ v2_ v3_ r1_ r2_ r3_ l0_ l1_ l2_ A4_ x0_ x1_
    by_cases z : s4_.2 = 0
    · refine x_aload_n C0_ rfl dX12_readEvening_154 ?_
      refine x_dup C0_ rfl dX12_readEvening_155 ?_
      refine x_getI C0_ wf_X12_162 (isModel.k0 hM) rfl dX12_readEvening_156 ?_
      refine x_topi A4_.1 ?_
      refine x_aload_n C0_ rfl dX12_readEvening_159 ?_
      refine x_getI C0_ wf_X12_165 (isModel.k0 hM) rfl dX12_readEvening_160 ?_
      refine x_topi A4_.2.1 ?_
      refine x_if_le (tgt := 170) C0_ (by decide) dX12_readEvening_163 (fun _ => ?_) (fun hkk => absurd ((by rw [z]; exact Int32.le_refl _)) hkk)
      refine x_iconst (v := nI 1) C0_ rfl dX12_readEvening_170 ?_
      refine x_iadd C0_ dX12_readEvening_171 ?_
      refine x_topi (nI_add s4_.1 1) ?_
      refine x_putI C0_ wf_X12_162 (isModel.k0 hM) rfl dX12_readEvening_172 ?_
      refine x_vret C0_ E (by decide) (by decide) dX12_readEvening_175 ?_
      obtain ⟨es, eX, hk, i1_, i2_, hi1_, hi2_, hne, ev2_, ev3_, ew1_, ew2_⟩ := x1_ z
      refine hp _ (fun a h1_ h2_ => ?_) (fun j h1_ h2_ => ?_) (fun j h => ?_) ?_ (fun _ => ⟨⟨(show (3 : Nat) < 5 by decide), fun y => absurd y (show ¬ (3 : Nat) = 1 by decide), fun y => absurd y (show ¬ (3 : Nat) = 2 by decide), fun _ => ⟨by show wtN _ F _ < F.1.2.2.1; rw [ew1_]; exact hi1_, by show wtN _ F _ < F.1.2.2.1; rw [ew2_]; exact hi2_, by show wtN _ F _ ≠ wtN _ F _; rw [ew1_, ew2_]; exact hne⟩⟩, ?_, fun _ => ?_, fun _ => ?_, fun y => absurd y (show ¬ (3 : Nat) = 1 by decide)⟩)
      · rw [u2_row _ _ _ h1_]; exact r1_ a h1_ h2_
      · rw [u2_off _ _ h1_]; exact r2_ j h1_ h2_
      · rw [u2_row _ _ _ (by decide)]; exact r3_ j h
      · have hlt : s4_.1 < c := by
          have T4_ : MRd I4_ J tp n c := ⟨T.1.congr (r1_ 137 (by decide) (by decide)) (r1_ 138 (by decide) (by decide)), T.2⟩
          exact (T4_.at A4_.2.2.1).2.2.2.1 (by rw [es]; exact hk)
        rw [eX, ← es]
        exact A4_.next z hlt
      · rw [u2_row _ _ _ (by decide)]; exact l0_
      · rw [u2_row _ _ _ (by decide), l1_, ew1_]; exact ev2_
      · rw [u2_row _ _ _ (by decide), l2_, ew2_]; exact ev3_
    · refine x_aload_n C0_ rfl dX12_readEvening_154 ?_
      refine x_dup C0_ rfl dX12_readEvening_155 ?_
      refine x_getI C0_ wf_X12_162 (isModel.k0 hM) rfl dX12_readEvening_156 ?_
      refine x_topi A4_.1 ?_
      refine x_aload_n C0_ rfl dX12_readEvening_159 ?_
      refine x_getI C0_ wf_X12_165 (isModel.k0 hM) rfl dX12_readEvening_160 ?_
      refine x_topi A4_.2.1 ?_
      refine x_if_le (tgt := 170) C0_ (by decide) dX12_readEvening_163 (fun hkk => absurd hkk ((nI_nle (Nat.pos_of_ne_zero z) (Nat.lt_trans A4_.2.2.2 (by decide))))) (fun _ => ?_)
      refine x_iconst (v := nI 0) C0_ rfl dX12_readEvening_166 ?_
      refine x_goto (tgt := 171) C0_ (by decide) dX12_readEvening_167 ?_
      refine x_iadd C0_ dX12_readEvening_171 ?_
      refine x_topi (nI_add s4_.1 0) ?_
      refine x_putI C0_ wf_X12_162 (isModel.k0 hM) rfl dX12_readEvening_172 ?_
      refine x_vret C0_ E (by decide) (by decide) dX12_readEvening_175 ?_
      refine hp _ (fun a h1_ h2_ => ?_) (fun j h1_ h2_ => ?_) (fun j h => ?_) ?_ (fun y => absurd (by rw [← x0_ z]; exact y) z)
      · rw [u2_row _ _ _ h1_]; exact r1_ a h1_ h2_
      · rw [u2_off _ _ h1_]; exact r2_ j h1_ h2_
      · rw [u2_row _ _ _ (by decide)]; exact r3_ j h
      · rw [x0_ z]
        exact ⟨u2_same _ _ _ _, by rw [u2_off _ _ (by decide)]; exact A4_.2.1, A4_.2.2.1, A4_.2.2.2⟩
  refine x_aload_n C0_ rfl dX12_readEvening_0 ?_
  refine x_getR C0_ wf_X12_110 (isModel.k0 hM) rfl rfl (isModel.r21 hM) dX12_readEvening_1 ?_
  refine x_iload_n C0_ rfl dX12_readEvening_4 ?_
  refine x_iload_n C0_ rfl dX12_readEvening_5 ?_
  refine x_iastoreN C0_ (isModel.s21 hM) (by omega) (by omega) dX12_readEvening_6 ?_
  refine x_aload_n C0_ rfl dX12_readEvening_7 ?_
  refine x_getR C0_ wf_X12_110 (isModel.k0 hM) rfl rfl (isModel.r21 hM) dX12_readEvening_8 ?_
  refine x_iload_n C0_ rfl dX12_readEvening_11 ?_
  refine x_iconst (v := nI 1) C0_ rfl dX12_readEvening_12 ?_
  refine x_iaddN C0_ dX12_readEvening_13 ?_
  refine x_iload_n C0_ rfl dX12_readEvening_14 ?_
  refine x_iconst (v := nI 1) C0_ rfl dX12_readEvening_15 ?_
  refine x_icmp_eq (tgt := 24) C0_ (by decide) dX12_readEvening_16 (fun hkk => absurd hkk (by decide)) (fun _ => ?_)
  refine x_iload_n C0_ rfl dX12_readEvening_19 ?_
  refine x_iconst (v := nI 2) C0_ rfl dX12_readEvening_20 ?_
  refine x_icmp_ne (tgt := 34) C0_ (by decide) dX12_readEvening_21 (fun _ => ?_) (fun hkk => absurd hkk (by decide))
  refine x_iload_n C0_ rfl dX12_readEvening_34 ?_
  refine x_iconst (v := nI 3) C0_ rfl dX12_readEvening_35 ?_
  refine x_icmp_ne (tgt := 49) C0_ (by decide) dX12_readEvening_36 (fun hkk => absurd (by decide) hkk) (fun _ => ?_)
  refine x_aload_n C0_ rfl dX12_readEvening_39 ?_
  refine x_iconst (v := nI 0) C0_ rfl dX12_readEvening_40 ?_
  refine x_bipush (v := nI 20) C0_ rfl dX12_readEvening_41 ?_
  refine x_callV [_, _] C0_ hN rfl (xRf_of hR (by decide) (Nat.zero_le _) (Nat.zero_le _)) mv_X12_takeTold wm_X12_243 dX12_readEvening_43 (isModel.k0 hM) rfl rfl (Nat.le_of_ble_eq_true rfl) (c_X12_takeToldN hM T.ev A.ev (fr := 20) (F := F) N9_.ev.1 N9_.ev.2.1 N9_.2.2 (Or.inr rfl) (fun v2_ I2_ f2_ A2_ e2_ => ?_))
  rw [← pTlk_0] at A2_ e2_
  have N2_ := (N9_.ev (k := p) (v := nI 3)).fr f2_
  have T2_ := (T.ev (k := p) (v := nI 3)).fr f2_
  refine x_goto (tgt := 50) C0_ (by decide) dX12_readEvening_46 ?_
  refine x_iastoreN C0_ (isModel.s21 hM) (by omega) (by omega) dX12_readEvening_50 ?_
  refine x_aload_n C0_ rfl dX12_readEvening_51 ?_
  refine x_getR C0_ wf_X12_110 (isModel.k0 hM) rfl rfl (isModel.r21 hM) dX12_readEvening_52 ?_
  refine x_iload_n C0_ rfl dX12_readEvening_55 ?_
  refine x_iconst (v := nI 2) C0_ rfl dX12_readEvening_56 ?_
  refine x_iaddN C0_ dX12_readEvening_57 ?_
  refine x_iconst (v := nI 0) C0_ rfl dX12_readEvening_58 ?_
  refine x_iastoreN C0_ (isModel.s21 hM) (by omega) (by omega) dX12_readEvening_59 ?_
  refine x_aload_n C0_ rfl dX12_readEvening_60 ?_
  refine x_getR C0_ wf_X12_110 (isModel.k0 hM) rfl rfl (isModel.r21 hM) dX12_readEvening_61 ?_
  refine x_iload_n C0_ rfl dX12_readEvening_64 ?_
  refine x_iconst (v := nI 3) C0_ rfl dX12_readEvening_65 ?_
  refine x_iaddN C0_ dX12_readEvening_66 ?_
  refine x_iconst (v := nI 0) C0_ rfl dX12_readEvening_67 ?_
  refine x_iastoreN C0_ (isModel.s21 hM) (by omega) (by omega) dX12_readEvening_68 ?_
  refine x_iload_n C0_ rfl dX12_readEvening_69 ?_
  refine x_iconst (v := nI 1) C0_ rfl dX12_readEvening_70 ?_
  refine x_icmp_ne (tgt := 103) C0_ (by decide) dX12_readEvening_71 (fun _ => ?_) (fun hkk => absurd hkk (by decide))
  refine x_iload_n C0_ rfl dX12_readEvening_103 ?_
  refine x_iconst (v := nI 3) C0_ rfl dX12_readEvening_104 ?_
  refine x_icmp_ne (tgt := 175) C0_ (by decide) dX12_readEvening_105 (fun hkk => absurd (by decide) hkk) (fun _ => ?_)
  refine x_aload_n C0_ rfl dX12_readEvening_108 ?_
  refine x_getR C0_ wf_X12_110 (isModel.k0 hM) rfl rfl (isModel.r21 hM) dX12_readEvening_109 ?_
  refine x_iload_n C0_ rfl dX12_readEvening_112 ?_
  refine x_iconst (v := nI 2) C0_ rfl dX12_readEvening_113 ?_
  refine x_iaddN C0_ dX12_readEvening_114 ?_
  refine x_aload_n C0_ rfl dX12_readEvening_115 ?_
  refine x_iconst (v := nI 0) C0_ rfl dX12_readEvening_116 ?_
  refine x_bipush (v := nI 20) C0_ rfl dX12_readEvening_117 ?_
  refine x_callV [_, _] C0_ hN rfl (xRf_of hR (by decide) (Nat.zero_le _) (Nat.zero_le _)) mv_X12_toldHere wm_X12_211 dX12_readEvening_119 (isModel.k0 hM) rfl rfl (Nat.le_of_ble_eq_true rfl) (c_X12_toldHereN hM T2_.ev.ev.ev A2_.ev.ev.ev (fr := 20) (F := F) N2_.ev.ev.ev.1 N2_.ev.ev.ev.2.1 N9_.2.2 (Or.inr rfl) (fun v3_ I3_ f3_ A3_ e3_ => ?_))
  have hX0_ : ¬ (pTh0 (tTok tp n) F 20 (pTlk (tTok tp n) F none s)).2 = 0 → (pTlk (tTok tp n) F (xIdx F.2.2.1 ((tTok tp n) s.1).2.1 F.1.2.2.1) (pTlk (tTok tp n) F none s)) = pTh0 (tTok tp n) F 20 (pTlk (tTok tp n) F none s) := fun h => by
    by_cases h2_ : (pTlk (tTok tp n) F none s).2 = 0
    · unfold pTlk pTh0 at h ⊢
      rw [oF_20] at h ⊢
      by_cases g : pNm (tTok tp n) (pTlk (tTok tp n) F none s).1
      · unfold pTlk at g
        rw [if_pos g] at h ⊢
        by_cases g2_ : xIdx F.2.2.1 ((tTok tp n) (pTlk (tTok tp n) F none s).1).2.1 F.1.2.2.1 = none
        · unfold pTlk at g2_
          rw [if_pos g2_, if_pos g, if_pos g2_]
        · unfold pTlk at g2_ h2_
          rw [if_neg g2_] at h
          exact absurd h2_ h
      · unfold pTlk at g
        rw [if_neg g, if_neg g]
    · rw [pTlk_f h2_, pTh0_f h2_]
  refine x_iastoreN C0_ (isModel.s21 hM) (by omega) (by omega) dX12_readEvening_122 ?_
  refine x_aload_n C0_ rfl dX12_readEvening_123 ?_
  refine x_getI C0_ wf_X12_165 (isModel.k0 hM) rfl dX12_readEvening_124 ?_
  refine x_topi (v := nI (pTh0 (tTok tp n) F 20 (pTlk (tTok tp n) F none s)).2) (by rw [u2_row _ _ _ (by decide)]; exact A3_.2.1) ?_
  refine x_if_ne (tgt := 154) C0_ (by decide) dX12_readEvening_127 (fun g127_ => ?_) (fun g127_ => ?_)
  · have z3_ : ¬ (pTh0 (tTok tp n) F 20 (pTlk (tTok tp n) F none s)).2 = 0 := fun z => g127_ (A3_.z.mpr z)
    exact h154_ _ _ v2_ v3_ (fun a h1_ h2_ => by rw [u2_row _ _ _ h2_, f3_.1 a h1_, u2_row _ _ _ h2_, u2_row _ _ _ h2_, u2_row _ _ _ h2_, f2_.1 a h1_, u2_row _ _ _ h2_]) (fun j h1_ h2_ => by rw [u2_row _ _ _ (by decide), f3_.2 j h1_ h2_, u2_row _ _ _ (by decide), u2_row _ _ _ (by decide), u2_row _ _ _ (by decide), f2_.2 j h1_ h2_, u2_row _ _ _ (by decide)]) (fun j h => by rw [u2_off _ _ (by omega), f3_.1 148 (by decide), u2_off _ _ (by omega), u2_off _ _ (by omega), u2_off _ _ (by omega), f2_.1 148 (by decide), u2_off _ _ (by omega)]) (by rw [u2_off _ _ (by omega), f3_.1 148 (by decide), u2_off _ _ (by omega), u2_off _ _ (by omega), u2_off _ _ (by omega), f2_.1 148 (by decide), u2_eq _ _ (by omega)]) (by rw [u2_off _ _ (by omega), f3_.1 148 (by decide), u2_off _ _ (by omega), u2_off _ _ (by omega), u2_eq _ _ (by omega)]) (by rw [u2_eq _ _ (by omega)]) A3_.ev hX0_ (fun z => absurd z z3_)
  · have z3_ : (pTh0 (tTok tp n) F 20 (pTlk (tTok tp n) F none s)).2 = 0 := A3_.z.mp g127_
    obtain ⟨z2_, zn3_, i3_, hi3_, ev3_, eo3_⟩ := e3_ z3_
    obtain ⟨z1_, zn2_, i2_, hi2_, ev2_, eo2_⟩ := e2_ z2_
    have es3_ := pTh0_z z3_
    rw [es3_] at A3_
    obtain ⟨ew2_, hl2_⟩ := wtN_is eo2_
    obtain ⟨ew3_, hl3_⟩ := wtN_is eo3_
    rw [oF_20] at eo2_ eo3_
    refine x_aload_n C0_ rfl dX12_readEvening_130 ?_
    refine x_getR C0_ wf_X12_110 (isModel.k0 hM) rfl rfl (isModel.r21 hM) dX12_readEvening_131 ?_
    refine x_iload_n C0_ rfl dX12_readEvening_134 ?_
    refine x_iconst (v := nI 2) C0_ rfl dX12_readEvening_135 ?_
    refine x_iaddN C0_ dX12_readEvening_136 ?_
    refine x_ialoadN C0_ (isModel.s21 hM) (by omega) (by omega) dX12_readEvening_137 ?_
    refine x_topi (v := v3_) (by rw [u2_eq _ _ (by omega)]) ?_
    refine x_aload_n C0_ rfl dX12_readEvening_138 ?_
    refine x_getR C0_ wf_X12_110 (isModel.k0 hM) rfl rfl (isModel.r21 hM) dX12_readEvening_139 ?_
    refine x_iload_n C0_ rfl dX12_readEvening_142 ?_
    refine x_iconst (v := nI 1) C0_ rfl dX12_readEvening_143 ?_
    refine x_iaddN C0_ dX12_readEvening_144 ?_
    refine x_ialoadN C0_ (isModel.s21 hM) (by omega) (by omega) dX12_readEvening_145 ?_
    refine x_topi (v := v2_) (by rw [u2_off _ _ (by omega), f3_.1 148 (by decide), u2_off _ _ (by omega), u2_off _ _ (by omega), u2_eq _ _ (by omega)]) ?_
    refine x_icmp_ne (tgt := 154) C0_ (by decide) dX12_readEvening_146 (fun g146_ => ?_) (fun g146_ => ?_)
    · have hne : i2_ ≠ i3_ := fun e => g146_ (by rw [ev2_, ev3_, e])
      exact h154_ _ _ v2_ v3_ (fun a h1_ h2_ => by rw [u2_row _ _ _ h2_, f3_.1 a h1_, u2_row _ _ _ h2_, u2_row _ _ _ h2_, u2_row _ _ _ h2_, f2_.1 a h1_, u2_row _ _ _ h2_]) (fun j h1_ h2_ => by rw [u2_row _ _ _ (by decide), f3_.2 j h1_ h2_, u2_row _ _ _ (by decide), u2_row _ _ _ (by decide), u2_row _ _ _ (by decide), f2_.2 j h1_ h2_, u2_row _ _ _ (by decide)]) (fun j h => by rw [u2_off _ _ (by omega), f3_.1 148 (by decide), u2_off _ _ (by omega), u2_off _ _ (by omega), u2_off _ _ (by omega), f2_.1 148 (by decide), u2_off _ _ (by omega)]) (by rw [u2_off _ _ (by omega), f3_.1 148 (by decide), u2_off _ _ (by omega), u2_off _ _ (by omega), u2_off _ _ (by omega), f2_.1 148 (by decide), u2_eq _ _ (by omega)]) (by rw [u2_off _ _ (by omega), f3_.1 148 (by decide), u2_off _ _ (by omega), u2_off _ _ (by omega), u2_eq _ _ (by omega)]) (by rw [u2_eq _ _ (by omega)]) A3_.ev (fun z => absurd z2_ z) (fun _ => ⟨rfl, by
        rw [eo2_, pTlk_go zn3_ eo3_, if_neg (fun y => hne (Option.some.inj y).symm)], by rw [zn3_.1]; decide, i2_, i3_, hl2_, hl3_, hne, ev2_, ev3_, ew2_, ew3_⟩)
    · refine x_aload_n C0_ rfl dX12_readEvening_149 ?_
      refine x_iconst (v := nI 3) C0_ rfl dX12_readEvening_150 ?_
      refine x_callV [_] C0_ hN rfl (xRf_of hR (by decide) (Nat.zero_le _) (Nat.zero_le _)) mv_X12_wrong wm_X12_171 dX12_readEvening_151 (isModel.k0 hM) rfl rfl (Nat.le_of_ble_eq_true rfl) (c_X12_wrong hM (T2_.ev.ev.ev.fr f3_).ev A3_.ev (by decide) (fun I4_ f4_ A4_ => ?_))
      have heq : i2_ = i3_ := (nI_eq (by omega) (by omega)).mp (by rw [← ev2_, ← ev3_]; exact g146_.symm)
      have eX : (pTlk (tTok tp n) F (xIdx F.2.2.1 ((tTok tp n) s.1).2.1 F.1.2.2.1) (pTlk (tTok tp n) F none s)) = pRef (tTok tp n) 3 (pTlk (tTok tp n) F none s) := by
        rw [eo2_, pTlk_go zn3_ eo3_, if_pos (by rw [heq])]
      exact h154_ _ _ v2_ v3_ (fun a h1_ h2_ => by rw [f4_.1 a h1_, u2_row _ _ _ h2_, f3_.1 a h1_, u2_row _ _ _ h2_, u2_row _ _ _ h2_, u2_row _ _ _ h2_, f2_.1 a h1_, u2_row _ _ _ h2_]) (fun j h1_ h2_ => by rw [f4_.2 j h1_ h2_, u2_row _ _ _ (by decide), f3_.2 j h1_ h2_, u2_row _ _ _ (by decide), u2_row _ _ _ (by decide), u2_row _ _ _ (by decide), f2_.2 j h1_ h2_, u2_row _ _ _ (by decide)]) (fun j h => by rw [f4_.1 148 (by decide), u2_off _ _ (by omega), f3_.1 148 (by decide), u2_off _ _ (by omega), u2_off _ _ (by omega), u2_off _ _ (by omega), f2_.1 148 (by decide), u2_off _ _ (by omega)]) (by rw [f4_.1 148 (by decide), u2_off _ _ (by omega), f3_.1 148 (by decide), u2_off _ _ (by omega), u2_off _ _ (by omega), u2_off _ _ (by omega), f2_.1 148 (by decide), u2_eq _ _ (by omega)]) (by rw [f4_.1 148 (by decide), u2_off _ _ (by omega), f3_.1 148 (by decide), u2_off _ _ (by omega), u2_off _ _ (by omega), u2_eq _ _ (by omega)]) (by rw [f4_.1 148 (by decide), u2_eq _ _ (by omega)]) A4_ (fun _ => eX) (fun z => absurd z (pRef_ne (by decide)))
