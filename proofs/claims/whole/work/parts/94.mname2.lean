/-! READING: the reference, one name more -/
theorem nmA_lt {F : pF} {v : Nat} (dj : FDj F) : nmA F v < 0 ↔ ¬ pTold F v := by
  rw [← nmA_told dj.1 dj.2.1]
  obtain ⟨d1, d2, -⟩ := dj
  unfold nmA
  cases e1 : xIdx F.2.1 v F.1.1 with
  | some t =>
    have ht := (xIdx_some _ e1).1
    exact ⟨fun z => absurd z (nI_pos (by omega)), fun z => absurd z (nI_ne_m1 (by omega))⟩
  | none =>
    cases e2 : xIdx F.2.2.1 v F.1.2.2.1 with
    | some w =>
      have hw := (xIdx_some _ e2).1
      exact ⟨fun z => absurd z (nI_pos (by omega)), fun z => absurd z (nI_ne_m1 (by omega))⟩
    | none => exact ⟨fun _ => rfl, fun _ => (show (-1 : Int32) < 0 by decide)⟩
theorem MNm.congr {I I' : xTI} {J J' : xTJ} {a b m : Nat} {F : pF} (h : MNm I J a b m F) (e1 : I' b = I b) (e2 : J' a = J a) : MNm I' J' a b m F := by
  unfold MNm at h ⊢
  rw [e1, e2]
  exact h
theorem c_X12_readName {S : xTS} {R : xTR} {I : xTI} {J : xTJ} {post : xPost} (hM : isModel S R) {tp : Nat → Nat} {n c : Nat} (T : MRd I J tp n c) {s : pS} (A : MAt I c s) {mn fr k m : Nat} {F : pF} (dj : FDj F) (hmn : mn = 0 ∨ mn = 2) (h0 : s.2 = 0) (hw : ((tTok tp n) s.1).1 = 1) (ek : I 141 (60 + mn) = nI k) (k6 : k ≤ 6) (e : I 135 19 = nI m) (N9 : MNm I J 145 147 m F) (hm : k < 6 → m < 12) (hp0 : ∀ I', RFr I I' → MAt I' c (pNew (tTok tp n) F (pFull (tTok tp n) (k < 6) s)) → ¬ (pNew (tTok tp n) F (pFull (tTok tp n) (k < 6) s)).2 = 0 → post none S R I' J) (hp1 : k < 6 → pNew (tTok tp n) F (pFull (tTok tp n) (k < 6) s) = (s.1 + 2, 0) → (tTok tp n (s.1 + 1)).2.1 < 2 ^ 40 → ¬ pTold F (tTok tp n (s.1 + 1)).2.1 → ∀ I', (∀ a, a ≠ 135 → a ≠ 141 → a ≠ 147 → I' a = I a) → (∀ j, j ≠ 7 → j ≠ 8 → j ≠ 19 → I' 135 j = I 135 j) → I' 141 = u2 I 141 (60 + mn) (nI (k + 1)) 141 → I' 147 = u2 I 147 m (nI (fr + k)) 147 → I' 135 19 = nI (m + 1) → MAt I' c (s.1 + 2, 0) → post none S R I' (u2 J 145 m (Int64.ofNat (cv (tTok tp n (s.1 + 1)).2.1)))) : xSpec 4 yX12_readName cX12_readName 5 none 0 0 [.ref 135, .int (nI mn), .int (nI 6), .int (nI fr)] S R I J post := by
  refine xSpec_of mt_X12_readName (Nat.le_of_ble_eq_true rfl) (fun G C0 hN hR E hI hZ => ?_)
  change XX G 0 0 0 [some (.ref 135), some (.int (nI mn)), some (.int (nI 6)), some (.int (nI fr)), none] [] S R I J
  obtain ⟨a7, a8, ac, a9⟩ := id A
  obtain ⟨k0, k5, kp, kc, k1, k2, kw, kn, ks⟩ := T.at ac
  have az := A.z
  have hc := kc (by rw [hw]; decide)
  have hP0 : ¬ k < 6 → pNew (tTok tp n) F (pFull (tTok tp n) (k < 6) s) = pRef (tTok tp n) 5 s := fun h => by
    unfold pFull
    rw [if_neg h, pNext_ref (by decide)]
    exact pNew_f (pRef_ne (by decide))
  have hP1 : k < 6 → pNew (tTok tp n) F (pFull (tTok tp n) (k < 6) s) = pNew (tTok tp n) F (s.1 + 1, 0) := fun h => by
    unfold pFull
    rw [if_pos h, pNext_0 h0]
  have h61 : k < 6 → ∀ I2 s2, RFr I I2 → MAt I2 c s2 → (¬ s2.2 = 0 → pNew (tTok tp n) F (s.1 + 1, 0) = s2) → (s2.2 = 0 → s2 = (s.1 + 1, 0) ∧ pNm (tTok tp n) (s.1 + 1) ∧ ¬ pTold F (tTok tp n (s.1 + 1)).2.1) → XX G 0 0 61 [some (.ref 135), some (.int (nI mn)), some (.int (nI 6)), some (.int (nI fr)), some (.int (nI k))] [] S R I2 J := by
    intro hk6 I2 s2 f2 A2 e20 e21
    have hm2 := hm hk6
    have e19 : I2 135 19 = nI m := by rw [f2.2 19 (by decide) (by decide)]; exact e
    have ek2 : I2 141 (60 + mn) = nI k := by rw [f2.1 141 (by decide)]; exact ek
    refine x_aload_n C0 rfl dX12_readName_61 ?_
    refine x_getI C0 wf_X12_165 (isModel.k0 hM) rfl dX12_readName_62 ?_
    refine x_topi A2.2.1 ?_
    refine x_if_ne (tgt := 132) C0 (by decide) dX12_readName_65 (fun g65 => ?_) (fun g65 => ?_)
    · refine x_vret C0 E (by decide) (by decide) dX12_readName_132 ?_
      have z2 : ¬ s2.2 = 0 := fun z => g65 (by rw [z]; rfl)
      have eP := (hP1 hk6).trans (e20 z2)
      exact hp0 I2 f2 (by rw [eP]; exact A2) (by rw [eP]; exact z2)
    · have z2 : s2.2 = 0 := (nI_eq (b := 0) (by have := A2.2.2.2; omega) (by decide)).mp g65
      obtain ⟨es, zn, zt⟩ := e21 z2
      subst es
      have T2 := T.fr f2
      obtain ⟨-, -, -, kc2, -, -, kw2, -, -⟩ := T2.at A2.2.2.1
      obtain ⟨kv, kj⟩ := kw2 zn.1
      have hc2 : s.1 + 1 < c := kc2 (by rw [zn.1]; decide)
      have a72 : I2 135 7 = nI (s.1 + 1) := A2.1
      have hc1000 : c ≤ 1000 := Nat.le_trans T.1.1 T.1.2.1
      refine x_aload_n C0 rfl dX12_readName_68 ?_
      refine x_getR C0 wf_X12_101 (isModel.k0 hM) rfl rfl (isModel.r15 hM) dX12_readName_69 ?_
      refine x_aload_n C0 rfl dX12_readName_72 ?_
      refine x_getI C0 wf_X12_193 (isModel.k0 hM) rfl dX12_readName_73 ?_
      refine x_topi e19 ?_
      refine x_aload_n C0 rfl dX12_readName_76 ?_
      refine x_getR C0 wf_X12_30 (isModel.k0 hM) rfl rfl (isModel.r6 hM) dX12_readName_77 ?_
      refine x_aload_n C0 rfl dX12_readName_80 ?_
      refine x_getI C0 wf_X12_162 (isModel.k0 hM) rfl dX12_readName_81 ?_
      refine x_topi a72 ?_
      refine x_laloadN C0 (isModel.s6 hM) (by omega) (by omega) dX12_readName_84 ?_
      refine x_topl kj ?_
      refine x_lastoreN C0 (isModel.s15 hM) (by omega) (by omega) dX12_readName_85 ?_
      refine x_aload_n C0 rfl dX12_readName_86 ?_
      refine x_getR C0 wf_X12_107 (isModel.k0 hM) rfl rfl (isModel.r17 hM) dX12_readName_87 ?_
      refine x_aload_n C0 rfl dX12_readName_90 ?_
      refine x_getI C0 wf_X12_193 (isModel.k0 hM) rfl dX12_readName_91 ?_
      refine x_topi e19 ?_
      refine x_iload_n C0 rfl dX12_readName_94 ?_
      refine x_iload C0 rfl dX12_readName_95 ?_
      refine x_iaddN C0 dX12_readName_97 ?_
      refine x_iastoreN C0 (isModel.s17 hM) (by omega) (by omega) dX12_readName_98 ?_
      refine x_aload_n C0 rfl dX12_readName_99 ?_
      refine x_dup C0 rfl dX12_readName_100 ?_
      refine x_getI C0 wf_X12_193 (isModel.k0 hM) rfl dX12_readName_101 ?_
      refine x_topi (v := nI m) (by rw [u2_row _ _ _ (by decide)]; exact e19) ?_
      refine x_iconst (v := nI 1) C0 rfl dX12_readName_104 ?_
      refine x_iadd C0 dX12_readName_105 ?_
      refine x_topi (nI_add m 1) ?_
      refine x_putI C0 wf_X12_193 (isModel.k0 hM) rfl dX12_readName_106 ?_
      refine x_aload_n C0 rfl dX12_readName_109 ?_
      refine x_dup C0 rfl dX12_readName_110 ?_
      refine x_getI C0 wf_X12_162 (isModel.k0 hM) rfl dX12_readName_111 ?_
      refine x_topi (v := nI (s.1 + 1)) (by rw [u2_off _ _ (by decide), u2_row _ _ _ (by decide)]; exact a72) ?_
      refine x_iconst (v := nI 1) C0 rfl dX12_readName_114 ?_
      refine x_iadd C0 dX12_readName_115 ?_
      refine x_topi (nI_add (s.1 + 1) 1) ?_
      refine x_putI C0 wf_X12_162 (isModel.k0 hM) rfl dX12_readName_116 ?_
      refine x_aload_n C0 rfl dX12_readName_119 ?_
      refine x_getR C0 wf_X12_89 (isModel.k0 hM) rfl rfl (isModel.r10 hM) dX12_readName_120 ?_
      refine x_bipush (v := nI 60) C0 rfl dX12_readName_123 ?_
      refine x_iload_n C0 rfl dX12_readName_125 ?_
      refine x_iaddN C0 dX12_readName_126 ?_
      refine x_dup2 C0 rfl rfl dX12_readName_127 ?_
      refine x_ialoadN C0 (isModel.s10 hM) (by omega) (by omega) dX12_readName_128 ?_
      refine x_topi (v := nI k) (by rw [u2_row _ _ _ (by decide), u2_row _ _ _ (by decide), u2_row _ _ _ (by decide)]; exact ek2) ?_
      refine x_iconst (v := nI 1) C0 rfl dX12_readName_129 ?_
      refine x_iadd C0 dX12_readName_130 ?_
      refine x_topi (nI_add k 1) ?_
      refine x_iastoreN C0 (isModel.s10 hM) (by omega) (by omega) dX12_readName_131 ?_
      refine x_vret C0 E (by decide) (by decide) dX12_readName_132 ?_
      have eP : pNew (tTok tp n) F (pFull (tTok tp n) (k < 6) s) = (s.1 + 2, 0) := by
        rw [hP1 hk6]
        unfold pNew
        rw [if_pos zn, if_neg zt]
        rfl
      refine hp1 hk6 eP kv zt _ (fun a h1 h2 h3 => ?_) (fun j h1 h2 h3 => ?_) ?_ ?_ ?_ ⟨?_, ?_, hc2, (by decide : 0 < 20000)⟩
      · rw [u2_row _ _ _ h2, u2_row _ _ _ h1, u2_row _ _ _ h1, u2_row _ _ _ h3]; exact f2.1 a h1
      · rw [u2_row _ _ _ (by decide), u2_off _ _ h1, u2_off _ _ h3, u2_row _ _ _ (by decide)]; exact f2.2 j h1 h2
      · rw [u2_at, u2_at, u2_row _ _ _ (by decide), u2_row _ _ _ (by decide), u2_row _ _ _ (by decide), f2.1 141 (by decide)]
      · rw [u2_row _ _ _ (by decide), u2_row _ _ _ (by decide), u2_row _ _ _ (by decide), u2_at, u2_at, f2.1 147 (by decide)]
      · rw [u2_row _ _ _ (by decide), u2_off _ _ (by decide), u2_same]
      · rw [u2_row _ _ _ (by decide), u2_same]
      · rw [u2_row _ _ _ (by decide), u2_off _ _ (by decide), u2_off _ _ (by decide), u2_row _ _ _ (by decide)]; exact A2.2.1
  refine x_aload_n C0 rfl dX12_readName_0 ?_
  refine x_getR C0 wf_X12_89 (isModel.k0 hM) rfl rfl (isModel.r10 hM) dX12_readName_1 ?_
  refine x_bipush (v := nI 60) C0 rfl dX12_readName_4 ?_
  refine x_iload_n C0 rfl dX12_readName_6 ?_
  refine x_iaddN C0 dX12_readName_7 ?_
  refine x_ialoadN C0 (isModel.s10 hM) (by omega) (by omega) dX12_readName_8 ?_
  refine x_topi ek ?_
  refine x_istore (L' := [_, _, _, _, _]) C0 hN (by decide) rfl dX12_readName_9 ?_
  refine x_iload C0 rfl dX12_readName_11 ?_
  refine x_iload_n C0 rfl dX12_readName_13 ?_
  refine x_icmp_ne (tgt := 23) C0 (by decide) dX12_readName_14 (fun g14 => ?_) (fun g14 => ?_)
  · have hk6 : k < 6 := by
      rcases Nat.lt_or_eq_of_le k6 with h | h
      · exact h
      · exact absurd (by rw [h]) g14
    have h61 := h61 hk6
    refine x_aload_n C0 rfl dX12_readName_23 ?_
    refine x_dup C0 rfl dX12_readName_24 ?_
    refine x_getI C0 wf_X12_162 (isModel.k0 hM) rfl dX12_readName_25 ?_
    refine x_topi a7 ?_
    refine x_iconst (v := nI 1) C0 rfl dX12_readName_28 ?_
    refine x_iadd C0 dX12_readName_29 ?_
    refine x_topi (nI_add s.1 1) ?_
    refine x_putI C0 wf_X12_162 (isModel.k0 hM) rfl dX12_readName_30 ?_
    have f1 : RFr I (u2 I 135 7 (nI (s.1 + 1))) := RFr.st (Or.inl rfl)
    have A1 := A.next h0 hc
    rw [pNext_0 h0] at A1
    generalize u2 I 135 7 (nI (s.1 + 1)) = I1 at f1 A1 ⊢
    have T1 := T.fr f1
    refine x_aload_n C0 rfl dX12_readName_33 ?_
    refine x_callV [] C0 hN rfl (xRf_of hR (by decide) (Nat.zero_le _) (Nat.zero_le _)) mv_X12_isName wm_X12_199 dX12_readName_34 (isModel.k0 hM) rfl rfl (Nat.le_of_ble_eq_true rfl) (c_X12_isName hM T1 A1 (fun g34 => ?_) (fun g34 => ?_))
    · refine x_if_ne (tgt := 48) C0 (by decide) dX12_readName_37 (fun _ => ?_) (fun hkk => absurd hkk (by decide))
      refine x_aload_n C0 rfl dX12_readName_48 ?_
      refine x_iconst (v := nI 1) C0 rfl dX12_readName_49 ?_
      refine x_callV [_] C0 hN rfl (xRf_of hR (by decide) (Nat.zero_le _) (Nat.zero_le _)) mv_X12_nameAt wm_X12_203 dX12_readName_50 (isModel.k0 hM) rfl rfl (Nat.le_of_ble_eq_true rfl) (c_X12_nameAtR hM T1 A1 (m := m) (F := F) (by rw [f1.2 19 (by decide) (by decide)]; exact e) (N9.congr (f1.1 147 (by decide)) rfl) g34.2.1 ?_)
      refine x_if_lt (tgt := 61) C0 (by decide) dX12_readName_53 (fun g53 => ?_) (fun g53 => ?_)
      · exact h61 I1 _ f1 A1 (fun z => absurd rfl z) (fun _ => ⟨rfl, g34.2, (nmA_lt dj).mp g53⟩)
      · refine x_aload_n C0 rfl dX12_readName_56 ?_
        refine x_iconst (v := nI 3) C0 rfl dX12_readName_57 ?_
        refine x_callV [_] C0 hN rfl (xRf_of hR (by decide) (Nat.zero_le _) (Nat.zero_le _)) mv_X12_wrong wm_X12_171 dX12_readName_58 (isModel.k0 hM) rfl rfl (Nat.le_of_ble_eq_true rfl) (c_X12_wrong hM T1 A1 (by decide) (fun I2 f2 A2 => ?_))
        refine h61 I2 _ (f1.trans f2) A2 (fun _ => ?_) (fun z => absurd z (pRef_ne (by decide)))
        unfold pNew
        rw [if_pos g34.2, if_pos (Decidable.of_not_not (fun y => g53 ((nmA_lt dj).mpr y)))]
    · refine x_if_ne (tgt := 48) C0 (by decide) dX12_readName_37 (fun hkk => absurd (by decide) hkk) (fun _ => ?_)
      refine x_aload_n C0 rfl dX12_readName_40 ?_
      refine x_iconst (v := nI 1) C0 rfl dX12_readName_41 ?_
      refine x_callV [_] C0 hN rfl (xRf_of hR (by decide) (Nat.zero_le _) (Nat.zero_le _)) mv_X12_wrong wm_X12_171 dX12_readName_42 (isModel.k0 hM) rfl rfl (Nat.le_of_ble_eq_true rfl) (c_X12_wrong hM T1 A1 (by decide) (fun I2 f2 A2 => ?_))
      refine x_goto (tgt := 61) C0 (by decide) dX12_readName_45 ?_
      refine h61 I2 _ (f1.trans f2) A2 (fun _ => ?_) (fun z => absurd z (pRef_ne (by decide)))
      unfold pNew
      exact if_neg (fun y => g34 ⟨rfl, y⟩)
  · refine x_aload_n C0 rfl dX12_readName_17 ?_
    refine x_iconst (v := nI 5) C0 rfl dX12_readName_18 ?_
    refine x_callV [_] C0 hN rfl (xRf_of hR (by decide) (Nat.zero_le _) (Nat.zero_le _)) mv_X12_wrong wm_X12_171 dX12_readName_19 (isModel.k0 hM) rfl rfl (Nat.le_of_ble_eq_true rfl) (c_X12_wrong hM T A (by decide) (fun I1 f1 A1 => ?_))
    refine x_vret C0 E (by decide) (by decide) dX12_readName_22 ?_
    have hk6 : ¬ k < 6 := by
      have := (nI_eq (b := 6) (by omega) (by decide)).mp g14
      omega
    exact hp0 I1 f1 (by rw [hP0 hk6]; exact A1) (by rw [hP0 hk6]; exact pRef_ne (by decide))
