/-! READING: the reference, thing, scene, watcher -/
theorem u2_eq {α : Type} (f : Nat → Nat → α) {a k k' : Nat} (v : α) (h : k' = k) : u2 f a k v a k' = v := by rw [h, u2_same]
def KOn (I I' : xTI) : Prop := I' 135 20 = I 135 20 ∧ I' 135 13 = I 135 13 ∧ I' 142 = I 142 ∧ I' 143 = I 143
theorem KOn.of {I I' : xTI} (f : RFr I I') : KOn I I' := ⟨f.2 20 (by decide) (by decide), f.2 13 (by decide) (by decide), f.1 142 (by decide), f.1 143 (by decide)⟩
theorem KOn.trans {I I1 I2 : xTI} (a : KOn I I1) (b : KOn I1 I2) : KOn I I2 := ⟨b.1.trans a.1, b.2.1.trans a.2.1, b.2.2.1.trans a.2.2.1, b.2.2.2.trans a.2.2.2⟩
theorem c_rThing {S : xTS} {R : xTR} {I : xTI} {J : xTJ} {post : xPost} (hM : isModel S R) {tp : Nat → Nat} {n c : Nat} (T : MRd I J tp n c) {s : pS} (A : MAt I c s) {F : pF} {lo : Bool} (W : RSt I J F lo) (h0 : s.2 = 0) (hw : (tTok tp n s.1).1 = 1) (hp : ∀ I' J', FrR I J I' J' → KOn I I' → MAt I' c (rThing (tTok tp n) F s) → ((rThing (tTok tp n) F s).2 = 0 → RSt I' J' (fThing F (tTok tp n (s.1 + 1)).2.1) lo) → post none S R I' J') : xSpec 4 yX12_readName cX12_readName 5 none 0 0 [.ref 135, .int (nI 0), .int (nI 6), .int (nI 0)] S R I J post := by
  refine c_X12_readName hM T A (mn := 0) (fr := 0) (k := F.1.1) (m := F.1.1 + F.1.2.2.1) W.2.1 (Or.inl rfl) h0 hw (W.2.2.1 0 (by decide)) W.1.1 W.2.2.2.1 W.2.2.2.2 (fun h => by have := W.1.2.2.1; omega) (fun I' f A' z => hp I' J (FrR.of f) (KOn.of f) A' (fun y => absurd y z)) (fun h6 eP hv ht I' ea ek e1 e2 e3 A' => hp I' _ ⟨fun a h1 h2 h3 h4 h5 => ea a h1 h2 h5, fun k h1 h2 h3 h4 h5 => ek k h1 h2 h4, fun j hj => ?_, fun j _ => by rw [ea 142 (by decide) (by decide) (by decide), ea 143 (by decide) (by decide) (by decide)]; exact ⟨rfl, rfl⟩, fun a ha => u2_row _ _ _ ha⟩ ⟨ek 20 (by decide) (by decide) (by decide), ek 13 (by decide) (by decide) (by decide), ea 142 (by decide) (by decide) (by decide), ea 143 (by decide) (by decide) (by decide)⟩ ?_ (fun _ => W.thing h6 hv ht e1 (by rw [Nat.zero_add] at e2; exact e2) e3))
  · rw [e1, u2_off _ _ (by omega)]
  · show MAt I' c (pNew (tTok tp n) F (pFull (tTok tp n) (F.1.1 < 6) s))
    rw [eP]
    exact A'
theorem oF_0 {F : pF} {v : Nat} : oF F 0 v = xIdx F.2.1 v F.1.1 := if_pos rfl
theorem cvT_is {q : xTok} {F : pF} {s : pS} {i : Nat} (h : oF F 0 (q s.1).2.1 = some i) : cvT q F s = i ∧ i < F.1.1 := by
  rw [oF_0] at h
  refine ⟨?_, (xIdx_some _ h).1⟩
  unfold cvT
  rw [h]
  rfl
theorem c_X12_readScene {S : xTS} {R : xTR} {I : xTI} {J : xTJ} {post : xPost} (hM : isModel S R) {tp : Nat → Nat} {n c : Nat} (T : MRd I J tp n c) {s : pS} (A : MAt I c s) {F : pF} {lo : Bool} (W : RSt I J F lo) (h0 : s.2 = 0) (hw : ((tTok tp n) s.1).1 = 1) (hp : ∀ I', FrR I J I' J → KOn I I' → MAt I' c (rScene (tTok tp n) F s) → ((rScene (tTok tp n) F s).2 = 0 → RSt I' J (fScene F (cvT (tTok tp n) F (s.1 + 1, 0), cvB (tTok tp n) F (s.1 + 1, 0), cvT (tTok tp n) F (pNeed (tTok tp n) 4 (pClm (tTok tp n) F (s.1 + 1, 0))), cvB (tTok tp n) F (pNeed (tTok tp n) 4 (pClm (tTok tp n) F (s.1 + 1, 0))))) lo) → post none S R I' J) : xSpec 6 yX12_readScene cX12_readScene 7 none 0 0 [.ref 135] S R I J post := by
  refine xSpec_of mt_X12_readScene (Nat.le_of_ble_eq_true rfl) (fun G C0 hN hR E hI hZ => ?_)
  change XX G 0 0 0 [some (.ref 135), none, none, none, none, none, none] [] S R I J
  obtain ⟨a7, a8, ac, a9⟩ := id A
  obtain ⟨k0, k5, kp, kc, k1, k2, kw, kn, ks⟩ := T.at ac
  have az := A.z
  have hc := kc (by rw [hw]; decide)
  have hN8 := W.1.2.1
  have e61 : I 141 61 = nI F.1.2.1 := W.2.2.1 1 (by decide)
  have hR0 : ¬ F.1.2.1 < 8 → rScene (tTok tp n) F s = pRef (tTok tp n) 5 s := fun h => by
    unfold rScene pFull
    rw [if_neg h, pNext_ref (by decide), pClm_f (pRef_ne (by decide)), pNeed_f (pRef_ne (by decide)), pClm_f (pRef_ne (by decide))]
  have hR1 : F.1.2.1 < 8 → rScene (tTok tp n) F s = pClm (tTok tp n) F (pNeed (tTok tp n) 4 (pClm (tTok tp n) F (s.1 + 1, 0))) := fun h => by
    unfold rScene pFull
    rw [if_pos h, pNext_0 h0]
  refine x_aload_n C0 rfl dX12_readScene_0 ?_
  refine x_getR C0 wf_X12_89 (isModel.k0 hM) rfl rfl (isModel.r10 hM) dX12_readScene_1 ?_
  refine x_bipush (v := nI 61) C0 rfl dX12_readScene_4 ?_
  refine x_ialoadN C0 (isModel.s10 hM) (by omega) (by omega) dX12_readScene_6 ?_
  refine x_topi e61 ?_
  refine x_istore_n (L' := [_, _, _, _, _, _, _]) C0 hN (by decide) rfl dX12_readScene_7 ?_
  refine x_iload_n C0 rfl dX12_readScene_8 ?_
  refine x_bipush (v := nI 8) C0 rfl dX12_readScene_9 ?_
  refine x_icmp_ne (tgt := 20) C0 (by decide) dX12_readScene_11 (fun g11 => ?_) (fun g11 => ?_)
  · have hk8 : F.1.2.1 < 8 := by
      rcases Nat.lt_or_eq_of_le hN8 with h | h
      · exact h
      · exact absurd (by rw [h]) g11
    refine x_aload_n C0 rfl dX12_readScene_20 ?_
    refine x_dup C0 rfl dX12_readScene_21 ?_
    refine x_getI C0 wf_X12_162 (isModel.k0 hM) rfl dX12_readScene_22 ?_
    refine x_topi a7 ?_
    refine x_iconst (v := nI 1) C0 rfl dX12_readScene_25 ?_
    refine x_iadd C0 dX12_readScene_26 ?_
    refine x_topi (nI_add s.1 1) ?_
    refine x_putI C0 wf_X12_162 (isModel.k0 hM) rfl dX12_readScene_27 ?_
    have f1 : RFr I (u2 I 135 7 (nI (s.1 + 1))) := RFr.st (Or.inl rfl)
    have A1 := A.next h0 hc
    rw [pNext_0 h0] at A1
    generalize u2 I 135 7 (nI (s.1 + 1)) = I1 at f1 A1 ⊢
    have T1 := T.fr f1
    have W1 := W.rfr f1
    refine x_aload_n C0 rfl dX12_readScene_30 ?_
    refine x_iconst (v := nI 1) C0 rfl dX12_readScene_31 ?_
    refine x_iconst (v := nI 0) C0 rfl dX12_readScene_32 ?_
    refine x_callV [_, _] C0 hN rfl (xRf_of hR (by decide) (Nat.zero_le _) (Nat.zero_le _)) mv_X12_takeTold wm_X12_243 dX12_readScene_33 (isModel.k0 hM) rfl rfl (Nat.le_of_ble_eq_true rfl) (c_X12_takeToldR hM T1 A1 (fr := 0) (F := F) W1.2.2.2.1 W1.2.2.2.2 W1.2.1 (Or.inl rfl) (fun v2 I2 f2 A2 e2 => ?_))
    rw [← pThg_0] at A2 e2
    have T2 := T1.fr f2
    refine x_istore_n (L' := [_, _, _, _, _, _, _]) C0 hN (by decide) rfl dX12_readScene_36 ?_
    refine x_aload_n C0 rfl dX12_readScene_37 ?_
    refine x_callV [] C0 hN rfl (xRf_of hR (by decide) (Nat.zero_le _) (Nat.zero_le _)) mv_X12_takeIs wm_X12_246 dX12_readScene_38 (isModel.k0 hM) rfl rfl (Nat.le_of_ble_eq_true rfl) (c_X12_takeIs hM T2 A2 (fun v3 I3 f3 A3 e3 => ?_))
    have T3 := T2.fr f3
    have A3 : MAt I3 c (pClm (tTok tp n) F (s.1 + 1, 0)) := A3
    have W3 := (W1.rfr f2).rfr f3
    refine x_istore_n (L' := [_, _, _, _, _, _, _]) C0 hN (by decide) rfl dX12_readScene_41 ?_
    refine x_aload_n C0 rfl dX12_readScene_42 ?_
    refine x_iconst (v := nI 4) C0 rfl dX12_readScene_43 ?_
    refine x_callV [_] C0 hN rfl (xRf_of hR (by decide) (Nat.zero_le _) (Nat.zero_le _)) mv_X12_takeWord wm_X12_180 dX12_readScene_44 (isModel.k0 hM) rfl rfl (Nat.le_of_ble_eq_true rfl) (c_X12_takeWord hM T3 A3 (i := 4) (by decide) (fun I4 f4 A4 => ?_))
    have T4 := T3.fr f4
    have W4 := W3.rfr f4
    refine x_aload_n C0 rfl dX12_readScene_47 ?_
    refine x_iconst (v := nI 1) C0 rfl dX12_readScene_48 ?_
    refine x_iconst (v := nI 0) C0 rfl dX12_readScene_49 ?_
    refine x_callV [_, _] C0 hN rfl (xRf_of hR (by decide) (Nat.zero_le _) (Nat.zero_le _)) mv_X12_takeTold wm_X12_243 dX12_readScene_50 (isModel.k0 hM) rfl rfl (Nat.le_of_ble_eq_true rfl) (c_X12_takeToldR hM T4 A4 (fr := 0) (F := F) W4.2.2.2.1 W4.2.2.2.2 W4.2.1 (Or.inl rfl) (fun v5 I5 f5 A5 e5 => ?_))
    rw [← pThg_0] at A5 e5
    have T5 := T4.fr f5
    refine x_istore (L' := [_, _, _, _, _, _, _]) C0 hN (by decide) rfl dX12_readScene_53 ?_
    refine x_aload_n C0 rfl dX12_readScene_55 ?_
    refine x_callV [] C0 hN rfl (xRf_of hR (by decide) (Nat.zero_le _) (Nat.zero_le _)) mv_X12_takeIs wm_X12_246 dX12_readScene_56 (isModel.k0 hM) rfl rfl (Nat.le_of_ble_eq_true rfl) (c_X12_takeIs hM T5 A5 (fun v6 I6 f6 A6 e6 => ?_))
    have A6 : MAt I6 c (pClm (tTok tp n) F (pNeed (tTok tp n) 4 (pClm (tTok tp n) F (s.1 + 1, 0)))) := A6
    have f16 := ((((f1.trans f2).trans f3).trans f4).trans f5).trans f6
    have W6 := (W4.rfr f5).rfr f6
    refine x_istore (L' := [_, _, _, _, _, _, _]) C0 hN (by decide) rfl dX12_readScene_59 ?_
    refine x_aload_n C0 rfl dX12_readScene_61 ?_
    refine x_getI C0 wf_X12_165 (isModel.k0 hM) rfl dX12_readScene_62 ?_
    refine x_topi A6.2.1 ?_
    refine x_if_ne (tgt := 127) C0 (by decide) dX12_readScene_65 (fun g65 => ?_) (fun g65 => ?_)
    · refine x_vret C0 E (by decide) (by decide) dX12_readScene_127 ?_
      have z6 : ¬ (pClm (tTok tp n) F (pNeed (tTok tp n) 4 (pClm (tTok tp n) F (s.1 + 1, 0)))).2 = 0 := fun z => g65 (A6.z.mpr z)
      exact hp I6 (FrR.of f16) (KOn.of f16) (by rw [hR1 hk8]; exact A6) (fun y => absurd (by rw [← hR1 hk8]; exact y) z6)
    · have z6 : (pClm (tTok tp n) F (pNeed (tTok tp n) 4 (pClm (tTok tp n) F (s.1 + 1, 0)))).2 = 0 := A6.z.mp g65
      have z6' : (pIs (tTok tp n) (pThg (tTok tp n) F (pNeed (tTok tp n) 4 (pClm (tTok tp n) F (s.1 + 1, 0))))).2 = 0 := z6
      obtain ⟨z5, ev6⟩ := e6 z6'
      obtain ⟨z4, zn5, i5, hi5, ev5, eo5⟩ := e5 z5
      have z3 := pz (f := pNeed (tTok tp n) 4) (fun y => pNeed_f y) z4
      obtain ⟨z2, ev3⟩ := e3 z3
      obtain ⟨z1, zn2, i2, hi2, ev2, eo2⟩ := e2 z2
      obtain ⟨ec2, hl2⟩ := cvT_is eo2
      obtain ⟨ec5, hl5⟩ := cvT_is eo5
      have e61' : I6 141 61 = nI F.1.2.1 := W6.2.2.1 1 (by decide)
      refine x_bipush (v := nI 65) C0 rfl dX12_readScene_68 ?_
      refine x_iconst (v := nI 4) C0 rfl dX12_readScene_70 ?_
      refine x_iload_n C0 rfl dX12_readScene_71 ?_
      refine x_imulN C0 dX12_readScene_72 ?_
      refine x_iaddN C0 dX12_readScene_73 ?_
      refine x_istore (L' := [_, _, _, _, _, _, _]) C0 hN (by decide) rfl dX12_readScene_74 ?_
      refine x_aload_n C0 rfl dX12_readScene_76 ?_
      refine x_getR C0 wf_X12_89 (isModel.k0 hM) rfl rfl (isModel.r10 hM) dX12_readScene_77 ?_
      refine x_iload C0 rfl dX12_readScene_80 ?_
      refine x_iload_n C0 rfl dX12_readScene_82 ?_
      refine x_iastoreN C0 (isModel.s10 hM) (by omega) (by omega) dX12_readScene_83 ?_
      refine x_aload_n C0 rfl dX12_readScene_84 ?_
      refine x_getR C0 wf_X12_89 (isModel.k0 hM) rfl rfl (isModel.r10 hM) dX12_readScene_85 ?_
      refine x_iload C0 rfl dX12_readScene_88 ?_
      refine x_iconst (v := nI 1) C0 rfl dX12_readScene_90 ?_
      refine x_iaddN C0 dX12_readScene_91 ?_
      refine x_iload_n C0 rfl dX12_readScene_92 ?_
      refine x_iastoreN C0 (isModel.s10 hM) (by omega) (by omega) dX12_readScene_93 ?_
      refine x_aload_n C0 rfl dX12_readScene_94 ?_
      refine x_getR C0 wf_X12_89 (isModel.k0 hM) rfl rfl (isModel.r10 hM) dX12_readScene_95 ?_
      refine x_iload C0 rfl dX12_readScene_98 ?_
      refine x_iconst (v := nI 2) C0 rfl dX12_readScene_100 ?_
      refine x_iaddN C0 dX12_readScene_101 ?_
      refine x_iload C0 rfl dX12_readScene_102 ?_
      refine x_iastoreN C0 (isModel.s10 hM) (by omega) (by omega) dX12_readScene_104 ?_
      refine x_aload_n C0 rfl dX12_readScene_105 ?_
      refine x_getR C0 wf_X12_89 (isModel.k0 hM) rfl rfl (isModel.r10 hM) dX12_readScene_106 ?_
      refine x_iload C0 rfl dX12_readScene_109 ?_
      refine x_iconst (v := nI 3) C0 rfl dX12_readScene_111 ?_
      refine x_iaddN C0 dX12_readScene_112 ?_
      refine x_iload C0 rfl dX12_readScene_113 ?_
      refine x_iastoreN C0 (isModel.s10 hM) (by omega) (by omega) dX12_readScene_115 ?_
      refine x_aload_n C0 rfl dX12_readScene_116 ?_
      refine x_getR C0 wf_X12_89 (isModel.k0 hM) rfl rfl (isModel.r10 hM) dX12_readScene_117 ?_
      refine x_bipush (v := nI 61) C0 rfl dX12_readScene_120 ?_
      refine x_dup2 C0 rfl rfl dX12_readScene_122 ?_
      refine x_ialoadN C0 (isModel.s10 hM) (by omega) (by omega) dX12_readScene_123 ?_
      refine x_topi (v := nI F.1.2.1) (by rw [u2_off _ _ (by omega), u2_off _ _ (by omega), u2_off _ _ (by omega), u2_off _ _ (by omega)]; exact e61') ?_
      refine x_iconst (v := nI 1) C0 rfl dX12_readScene_124 ?_
      refine x_iadd C0 dX12_readScene_125 ?_
      refine x_topi (nI_add F.1.2.1 1) ?_
      refine x_iastoreN C0 (isModel.s10 hM) (by omega) (by omega) dX12_readScene_126 ?_
      refine x_vret C0 E (by decide) (by decide) dX12_readScene_127 ?_
      refine hp _ ⟨fun a h1 h2 h3 h4 h5 => ?_, fun k h1 h2 h3 h4 h5 => ?_, fun j hj => ?_, fun j _ => ?_, fun _ _ => rfl⟩ ⟨?_, ?_, ?_, ?_⟩ ?_ (fun _ => ⟨fScene_ok W6.1 hk8 ⟨?_, ?_, ?_, ?_⟩, W6.2.1, fun i hi => ?_, ?_, ?_⟩)
      · rw [u2_row _ _ _ h2, u2_row _ _ _ h2, u2_row _ _ _ h2, u2_row _ _ _ h2, u2_row _ _ _ h2]; exact f16.1 a h1
      · rw [u2_row _ _ _ (by decide), u2_row _ _ _ (by decide), u2_row _ _ _ (by decide), u2_row _ _ _ (by decide), u2_row _ _ _ (by decide)]; exact f16.2 k h1 h2
      · rw [u2_off _ _ (by omega), u2_off _ _ (by omega), u2_off _ _ (by omega), u2_off _ _ (by omega), u2_off _ _ (by omega), f16.1 141 (by decide)]
      · have e : ∀ a, a ≠ 141 → (u2 (u2 (u2 (u2 (u2 I6 141 (65 + 4 * F.1.2.1) v2) 141 (65 + 4 * F.1.2.1 + 1) v3) 141 (65 + 4 * F.1.2.1 + 2) v5) 141 (65 + 4 * F.1.2.1 + 3) v6) 141 61 (nI (F.1.2.1 + 1))) a = I6 a := fun a h2 => by rw [u2_row _ _ _ h2, u2_row _ _ _ h2, u2_row _ _ _ h2, u2_row _ _ _ h2, u2_row _ _ _ h2]
        rw [e 142 (by decide), e 143 (by decide), f16.1 142 (by decide), f16.1 143 (by decide)]
        exact ⟨rfl, rfl⟩
      · rw [u2_row _ _ _ (by decide), u2_row _ _ _ (by decide), u2_row _ _ _ (by decide), u2_row _ _ _ (by decide), u2_row _ _ _ (by decide)]; exact f16.2 20 (by decide) (by decide)
      · rw [u2_row _ _ _ (by decide), u2_row _ _ _ (by decide), u2_row _ _ _ (by decide), u2_row _ _ _ (by decide), u2_row _ _ _ (by decide)]; exact f16.2 13 (by decide) (by decide)
      · rw [u2_row _ _ _ (by decide), u2_row _ _ _ (by decide), u2_row _ _ _ (by decide), u2_row _ _ _ (by decide), u2_row _ _ _ (by decide)]; exact f16.1 142 (by decide)
      · rw [u2_row _ _ _ (by decide), u2_row _ _ _ (by decide), u2_row _ _ _ (by decide), u2_row _ _ _ (by decide), u2_row _ _ _ (by decide)]; exact f16.1 143 (by decide)
      · rw [hR1 hk8]
        refine ⟨?_, ?_, A6.2.2.1, A6.2.2.2⟩
        · rw [u2_row _ _ _ (by decide), u2_row _ _ _ (by decide), u2_row _ _ _ (by decide), u2_row _ _ _ (by decide), u2_row _ _ _ (by decide)]; exact A6.1
        · rw [u2_row _ _ _ (by decide), u2_row _ _ _ (by decide), u2_row _ _ _ (by decide), u2_row _ _ _ (by decide), u2_row _ _ _ (by decide)]; exact A6.2.1
      · show cvT _ F _ < F.1.1
        rw [ec2]; exact hl2
      · show cvB _ F _ < 2
        unfold cvB; split <;> decide
      · show cvT _ F _ < F.1.1
        rw [ec5]; exact hl5
      · show cvB _ F _ < 2
        unfold cvB; split <;> decide
      · rw [fRow_scene hk8]
        by_cases i1 : i = 1
        · rw [if_pos i1, u2_eq _ _ (by omega)]
        rw [if_neg i1, u2_off _ _ (by omega)]
        by_cases i5 : i = 5 + 4 * F.1.2.1
        · rw [if_pos i5, u2_off _ _ (by omega), u2_off _ _ (by omega), u2_off _ _ (by omega), u2_eq _ _ (by omega), ec2]; exact ev2
        rw [if_neg i5]
        by_cases i6 : i = 6 + 4 * F.1.2.1
        · rw [if_pos i6, u2_off _ _ (by omega), u2_off _ _ (by omega), u2_eq _ _ (by omega)]; exact ev3
        rw [if_neg i6]
        by_cases i7 : i = 7 + 4 * F.1.2.1
        · rw [if_pos i7, u2_off _ _ (by omega), u2_eq _ _ (by omega), ec5]; exact ev5
        rw [if_neg i7]
        by_cases i8 : i = 8 + 4 * F.1.2.1
        · rw [if_pos i8, u2_eq _ _ (by omega)]; exact ev6
        rw [if_neg i8, u2_off _ _ (by omega), u2_off _ _ (by omega), u2_off _ _ (by omega), u2_off _ _ (by omega)]
        exact W6.2.2.1 i hi
      · rw [u2_row _ _ _ (by decide), u2_row _ _ _ (by decide), u2_row _ _ _ (by decide), u2_row _ _ _ (by decide), u2_row _ _ _ (by decide)]; exact W6.2.2.2.1
      · exact W6.2.2.2.2.congr (by rw [u2_row _ _ _ (by decide), u2_row _ _ _ (by decide), u2_row _ _ _ (by decide), u2_row _ _ _ (by decide), u2_row _ _ _ (by decide)]) rfl
  · refine x_aload_n C0 rfl dX12_readScene_14 ?_
    refine x_iconst (v := nI 5) C0 rfl dX12_readScene_15 ?_
    refine x_callV [_] C0 hN rfl (xRf_of hR (by decide) (Nat.zero_le _) (Nat.zero_le _)) mv_X12_wrong wm_X12_171 dX12_readScene_16 (isModel.k0 hM) rfl rfl (Nat.le_of_ble_eq_true rfl) (c_X12_wrong hM T A (by decide) (fun I1 f1 A1 => ?_))
    refine x_vret C0 E (by decide) (by decide) dX12_readScene_19 ?_
    have hk8 : ¬ F.1.2.1 < 8 := by
      have := (nI_eq (b := 8) (by omega) (by decide)).mp g11
      omega
    exact hp I1 (FrR.of f1) (KOn.of f1) (by rw [hR0 hk8]; exact A1) (fun y => absurd (by rw [← hR0 hk8]; exact y) (pRef_ne (by decide)))
theorem c_X12_readWatcher {S : xTS} {R : xTR} {I : xTI} {J : xTJ} {post : xPost} (hM : isModel S R) {tp : Nat → Nat} {n c : Nat} (T : MRd I J tp n c) {s : pS} (A : MAt I c s) {F : pF} {lo : Bool} (W : RSt I J F lo) (h0 : s.2 = 0) (hw : ((tTok tp n) s.1).1 = 1) (hp : ∀ I' J', FrR I J I' J' → KOn I I' → MAt I' c (rWatch (tTok tp n) F s) → ((rWatch (tTok tp n) F s).2 = 0 → RSt I' J' (fWatch F ((tTok tp n) (s.1 + 1)).2.1 ((wHr (tTok tp n) 15 4 (pNew (tTok tp n) F (s.1 + 1, 0))).getD 0, ((tTok tp n) (pNeed (tTok tp n) 6 (pOne (tTok tp n) 15 4 (pNew (tTok tp n) F (s.1 + 1, 0)))).1).2.1, ((tTok tp n) (pNeed (tTok tp n) 7 (pNum (tTok tp n) 0 9 (pNeed (tTok tp n) 6 (pOne (tTok tp n) 15 4 (pNew (tTok tp n) F (s.1 + 1, 0)))))).1).2.1)) lo) → post none S R I' J') : xSpec 5 yX12_readWatcher cX12_readWatcher 5 none 0 0 [.ref 135] S R I J post := by
  refine xSpec_of mt_X12_readWatcher (Nat.le_of_ble_eq_true rfl) (fun G C0 hN hR E hI hZ => ?_)
  change XX G 0 0 0 [some (.ref 135), none, none, none, none] [] S R I J
  obtain ⟨a7, a8, ac, a9⟩ := id A
  obtain ⟨k0, k5, kp, kc, k1, k2, kw, kn, ks⟩ := T.at ac
  have az := A.z
  have hV6 := W.1.2.2.1
  have e62 : I 141 62 = nI F.1.2.2.1 := W.2.2.1 2 (by decide)
  have hXf : ¬ (pNew (tTok tp n) F (pFull (tTok tp n) (F.1.2.2.1 < 6) s)).2 = 0 → rWatch (tTok tp n) F s = pNew (tTok tp n) F (pFull (tTok tp n) (F.1.2.2.1 < 6) s) := fun h => by
    unfold rWatch
    rw [pOne_f h, pNeed_f h, pNum_f h, pNeed_f h, pNum_f h]
  have hgo : ∀ I1 J1 s1, s1 = pNew (tTok tp n) F (pFull (tTok tp n) (F.1.2.2.1 < 6) s) → MRd I1 J1 tp n c → MAt I1 c s1 → FrR I J I1 J1 → KOn I I1 → (s1.2 = 0 → F.1.2.2.1 < 6 ∧ ((tTok tp n) (s.1 + 1)).2.1 < 2 ^ 40 ∧ ¬ pTold F ((tTok tp n) (s.1 + 1)).2.1 ∧ I1 141 = u2 I 141 62 (nI (F.1.2.2.1 + 1)) 141 ∧ I1 147 = u2 I 147 (F.1.1 + F.1.2.2.1) (nI (20 + F.1.2.2.1)) 147 ∧ I1 135 19 = nI (F.1.1 + F.1.2.2.1 + 1) ∧ J1 = u2 J 145 (F.1.1 + F.1.2.2.1) (Int64.ofNat (cv ((tTok tp n) (s.1 + 1)).2.1))) → XX G 0 0 22 [some (.ref 135), some (.int (nI (97 + 3 * F.1.2.2.1))), none, none, none] [] S R I1 J1 := by
    intro I1 J1 s1 es T1 A1 fr1 k1' e1
    refine x_aload_n C0 rfl dX12_readWatcher_22 ?_
    refine x_bipush (v := nI 15) C0 rfl dX12_readWatcher_23 ?_
    refine x_iconst (v := nI 4) C0 rfl dX12_readWatcher_25 ?_
    refine x_callV [_, _] C0 hN rfl (xRf_of hR (by decide) (Nat.zero_le _) (Nat.zero_le _)) mv_X12_takeOne wm_X12_190 dX12_readWatcher_26 (isModel.k0 hM) rfl rfl (Nat.le_of_ble_eq_true rfl) (c_X12_takeOne hM T1 A1 (fr := 15) (m := 4) (by decide) (fun v2 I2 f2 A2 e2 => ?_))
    have T2 := T1.fr f2
    refine x_istore_n (L' := [_, _, _, _, _]) C0 hN (by decide) rfl dX12_readWatcher_29 ?_
    refine x_aload_n C0 rfl dX12_readWatcher_30 ?_
    refine x_bipush (v := nI 6) C0 rfl dX12_readWatcher_31 ?_
    refine x_iconst (v := nI 0) C0 rfl dX12_readWatcher_33 ?_
    refine x_bipush (v := nI 9) C0 rfl dX12_readWatcher_34 ?_
    refine x_callV [_, _, _] C0 hN rfl (xRf_of hR (by decide) (Nat.zero_le _) (Nat.zero_le _)) mv_X12_takeAfter wm_X12_250 dX12_readWatcher_36 (isModel.k0 hM) rfl rfl (Nat.le_of_ble_eq_true rfl) (c_X12_takeAfter hM T2 A2 (i := 6) (lo := 0) (hi := 9) (by decide) (by decide) (by decide) (fun v3 I3 f3 A3 e3 => ?_))
    have T3 := T2.fr f3
    refine x_istore_n (L' := [_, _, _, _, _]) C0 hN (by decide) rfl dX12_readWatcher_39 ?_
    refine x_aload_n C0 rfl dX12_readWatcher_40 ?_
    refine x_bipush (v := nI 7) C0 rfl dX12_readWatcher_41 ?_
    refine x_iconst (v := nI 1) C0 rfl dX12_readWatcher_43 ?_
    refine x_bipush (v := nI 30) C0 rfl dX12_readWatcher_44 ?_
    refine x_callV [_, _, _] C0 hN rfl (xRf_of hR (by decide) (Nat.zero_le _) (Nat.zero_le _)) mv_X12_takeAfter wm_X12_250 dX12_readWatcher_46 (isModel.k0 hM) rfl rfl (Nat.le_of_ble_eq_true rfl) (c_X12_takeAfter hM T3 A3 (i := 7) (lo := 1) (hi := 30) (by decide) (by decide) (by decide) (fun v4 I4 f4 A4 e4 => ?_))
    have f14 := (f2.trans f3).trans f4
    have eX : rWatch (tTok tp n) F s = pNum (tTok tp n) 1 30 (pNeed (tTok tp n) 7 (pNum (tTok tp n) 0 9 (pNeed (tTok tp n) 6 (pOne (tTok tp n) 15 4 s1)))) := by
      rw [es]
      rfl
    refine x_istore (L' := [_, _, _, _, _]) C0 hN (by decide) rfl dX12_readWatcher_49 ?_
    refine x_aload_n C0 rfl dX12_readWatcher_51 ?_
    refine x_getI C0 wf_X12_165 (isModel.k0 hM) rfl dX12_readWatcher_52 ?_
    refine x_topi A4.2.1 ?_
    refine x_if_ne (tgt := 84) C0 (by decide) dX12_readWatcher_55 (fun g55 => ?_) (fun g55 => ?_)
    · refine x_vret C0 E (by decide) (by decide) dX12_readWatcher_84 ?_
      have z4 : ¬ _ := fun z => g55 (A4.z.mpr z)
      exact hp I4 J1 (fr1.trans (FrR.of f14)) (k1'.trans (KOn.of f14)) (by rw [eX]; exact A4) (fun y => absurd (by rw [← eX]; exact y) z4)
    · have z4 := A4.z.mp g55
      obtain ⟨z4', ev4, k4, lo4, hi4⟩ := e4 z4
      have z3 := pz (f := pNeed (tTok tp n) 7) (fun y => pNeed_f y) z4'
      obtain ⟨z3', ev3, k3, lo3, hi3⟩ := e3 z3
      have z2 := pz (f := pNeed (tTok tp n) 6) (fun y => pNeed_f y) z3'
      obtain ⟨z1, i2, hi2, ev2, eo2⟩ := e2 z2
      obtain ⟨h6, hv, ht, c1, c2, c3, c4⟩ := e1 z1
      have hs1 : s1 = pNew (tTok tp n) F (s.1 + 1, 0) := by
        rw [es]
        unfold pFull
        rw [if_pos h6, pNext_0 h0]
      subst c4
      refine x_aload_n C0 rfl dX12_readWatcher_58 ?_
      refine x_getR C0 wf_X12_89 (isModel.k0 hM) rfl rfl (isModel.r10 hM) dX12_readWatcher_59 ?_
      refine x_iload_n C0 rfl dX12_readWatcher_62 ?_
      refine x_iload_n C0 rfl dX12_readWatcher_63 ?_
      refine x_iastoreN C0 (isModel.s10 hM) (by omega) (by omega) dX12_readWatcher_64 ?_
      refine x_aload_n C0 rfl dX12_readWatcher_65 ?_
      refine x_getR C0 wf_X12_89 (isModel.k0 hM) rfl rfl (isModel.r10 hM) dX12_readWatcher_66 ?_
      refine x_iload_n C0 rfl dX12_readWatcher_69 ?_
      refine x_iconst (v := nI 1) C0 rfl dX12_readWatcher_70 ?_
      refine x_iaddN C0 dX12_readWatcher_71 ?_
      refine x_iload_n C0 rfl dX12_readWatcher_72 ?_
      refine x_iastoreN C0 (isModel.s10 hM) (by omega) (by omega) dX12_readWatcher_73 ?_
      refine x_aload_n C0 rfl dX12_readWatcher_74 ?_
      refine x_getR C0 wf_X12_89 (isModel.k0 hM) rfl rfl (isModel.r10 hM) dX12_readWatcher_75 ?_
      refine x_iload_n C0 rfl dX12_readWatcher_78 ?_
      refine x_iconst (v := nI 2) C0 rfl dX12_readWatcher_79 ?_
      refine x_iaddN C0 dX12_readWatcher_80 ?_
      refine x_iload C0 rfl dX12_readWatcher_81 ?_
      refine x_iastoreN C0 (isModel.s10 hM) (by omega) (by omega) dX12_readWatcher_83 ?_
      refine x_vret C0 E (by decide) (by decide) dX12_readWatcher_84 ?_
      have fr4 := fr1.trans (FrR.of f14)
      have k4' := k1'.trans (KOn.of f14)
      refine hp _ _ ⟨fun a h1 h2 h3 h4 h5 => ?_, fun k h1 h2 h3 h4 h5 => ?_, fun j hj => ?_, fun j hj => ?_, fr4.2.2.2.2⟩ ⟨?_, ?_, ?_, ?_⟩ ?_ (fun _ => ⟨fWatch_ok W.1 h6 hv ⟨?_, ?_, ?_⟩, FDj_watch W.2.1 h6 ht, fun i hi => ?_, ?_, ?_⟩)
      · rw [u2_row _ _ _ h2, u2_row _ _ _ h2, u2_row _ _ _ h2]; exact fr4.1 a h1 h2 h3 h4 h5
      · rw [u2_row _ _ _ (by decide), u2_row _ _ _ (by decide), u2_row _ _ _ (by decide)]; exact fr4.2.1 k h1 h2 h3 h4 h5
      · rw [u2_off _ _ (by omega), u2_off _ _ (by omega), u2_off _ _ (by omega)]; exact fr4.2.2.1 j hj
      · have e : ∀ a, a ≠ 141 → (u2 (u2 (u2 I4 141 (97 + 3 * F.1.2.2.1) v2) 141 (97 + 3 * F.1.2.2.1 + 1) v3) 141 (97 + 3 * F.1.2.2.1 + 2) v4) a = I4 a := fun a h2 => by rw [u2_row _ _ _ h2, u2_row _ _ _ h2, u2_row _ _ _ h2]
        rw [e 142 (by decide), e 143 (by decide)]
        exact fr4.2.2.2.1 j hj
      · rw [u2_row _ _ _ (by decide), u2_row _ _ _ (by decide), u2_row _ _ _ (by decide)]; exact k4'.1
      · rw [u2_row _ _ _ (by decide), u2_row _ _ _ (by decide), u2_row _ _ _ (by decide)]; exact k4'.2.1
      · rw [u2_row _ _ _ (by decide), u2_row _ _ _ (by decide), u2_row _ _ _ (by decide)]; exact k4'.2.2.1
      · rw [u2_row _ _ _ (by decide), u2_row _ _ _ (by decide), u2_row _ _ _ (by decide)]; exact k4'.2.2.2
      · rw [eX]
        refine ⟨?_, ?_, A4.2.2.1, A4.2.2.2⟩
        · rw [u2_row _ _ _ (by decide), u2_row _ _ _ (by decide), u2_row _ _ _ (by decide)]; exact A4.1
        · rw [u2_row _ _ _ (by decide), u2_row _ _ _ (by decide), u2_row _ _ _ (by decide)]; exact A4.2.1
      · show (wHr _ 15 4 _).getD 0 < 4
        rw [← hs1, eo2]; exact hi2
      · show ((tTok tp n) (pNeed (tTok tp n) 6 (pOne (tTok tp n) 15 4 (pNew (tTok tp n) F (s.1 + 1, 0)))).1).2.1 < 10
        rw [← hs1]; omega
      · show ((tTok tp n) (pNeed (tTok tp n) 7 (pNum (tTok tp n) 0 9 (pNeed (tTok tp n) 6 (pOne (tTok tp n) 15 4 (pNew (tTok tp n) F (s.1 + 1, 0)))))).1).2.1 ≤ 30
        rw [← hs1]; exact hi4
      · have e141 : I4 141 = u2 I 141 62 (nI (F.1.2.2.1 + 1)) 141 := (f14.1 141 (by decide)).trans c1
        rw [fRow_watch]
        by_cases i2' : i = 2
        · rw [if_pos i2', u2_off _ _ (by omega), u2_off _ _ (by omega), u2_off _ _ (by omega), e141, u2_eq _ _ (by omega)]
        rw [if_neg i2']
        by_cases i5 : i = 37 + 3 * F.1.2.2.1
        · rw [if_pos i5, u2_off _ _ (by omega), u2_off _ _ (by omega), u2_eq _ _ (by omega), ← hs1, eo2]; exact ev2
        rw [if_neg i5]
        by_cases i6 : i = 38 + 3 * F.1.2.2.1
        · rw [if_pos i6, u2_off _ _ (by omega), u2_eq _ _ (by omega), ← hs1]; exact ev3
        rw [if_neg i6]
        by_cases i7 : i = 39 + 3 * F.1.2.2.1
        · rw [if_pos i7, u2_eq _ _ (by omega), ← hs1]; exact ev4
        rw [if_neg i7, u2_off _ _ (by omega), u2_off _ _ (by omega), u2_off _ _ (by omega), e141, u2_off _ _ (by omega)]
        exact W.2.2.1 i hi
      · rw [u2_row _ _ _ (by decide), u2_row _ _ _ (by decide), u2_row _ _ _ (by decide), f14.2 19 (by decide) (by decide), c3]
        exact congrArg nI (show F.1.1 + F.1.2.2.1 + 1 = F.1.1 + (F.1.2.2.1 + 1) by omega)
      · have h9 := W.2.2.2.2.add (F' := fWatch F ((tTok tp n) (s.1 + 1)).2.1 ((wHr (tTok tp n) 15 4 (pNew (tTok tp n) F (s.1 + 1, 0))).getD 0, ((tTok tp n) (pNeed (tTok tp n) 6 (pOne (tTok tp n) 15 4 (pNew (tTok tp n) F (s.1 + 1, 0)))).1).2.1, ((tTok tp n) (pNeed (tTok tp n) 7 (pNum (tTok tp n) 0 9 (pNeed (tTok tp n) 6 (pOne (tTok tp n) 15 4 (pNew (tTok tp n) F (s.1 + 1, 0)))))).1).2.1)) (v := ((tTok tp n) (s.1 + 1)).2.1) (d := 20 + F.1.2.2.1) (by have := W.1.1; omega) hv (by omega) ((nmA_told W.2.1.1 W.2.1.2.1).mpr ht) (fun u => nmA_watch ht)
        have e9 : (fWatch F ((tTok tp n) (s.1 + 1)).2.1 ((wHr (tTok tp n) 15 4 (pNew (tTok tp n) F (s.1 + 1, 0))).getD 0, ((tTok tp n) (pNeed (tTok tp n) 6 (pOne (tTok tp n) 15 4 (pNew (tTok tp n) F (s.1 + 1, 0)))).1).2.1, ((tTok tp n) (pNeed (tTok tp n) 7 (pNum (tTok tp n) 0 9 (pNeed (tTok tp n) 6 (pOne (tTok tp n) 15 4 (pNew (tTok tp n) F (s.1 + 1, 0)))))).1).2.1)).1.1 + (fWatch F ((tTok tp n) (s.1 + 1)).2.1 ((wHr (tTok tp n) 15 4 (pNew (tTok tp n) F (s.1 + 1, 0))).getD 0, ((tTok tp n) (pNeed (tTok tp n) 6 (pOne (tTok tp n) 15 4 (pNew (tTok tp n) F (s.1 + 1, 0)))).1).2.1, ((tTok tp n) (pNeed (tTok tp n) 7 (pNum (tTok tp n) 0 9 (pNeed (tTok tp n) 6 (pOne (tTok tp n) 15 4 (pNew (tTok tp n) F (s.1 + 1, 0)))))).1).2.1)).1.2.2.1 = F.1.1 + F.1.2.2.1 + 1 := by
          show F.1.1 + (F.1.2.2.1 + 1) = _
          omega
        rw [e9]
        exact h9.congr (by rw [u2_row _ _ _ (by decide), u2_row _ _ _ (by decide), u2_row _ _ _ (by decide), f14.1 147 (by decide)]; exact c2) rfl
  refine x_bipush (v := nI 97) C0 rfl dX12_readWatcher_0 ?_
  refine x_iconst (v := nI 3) C0 rfl dX12_readWatcher_2 ?_
  refine x_aload_n C0 rfl dX12_readWatcher_3 ?_
  refine x_getR C0 wf_X12_89 (isModel.k0 hM) rfl rfl (isModel.r10 hM) dX12_readWatcher_4 ?_
  refine x_bipush (v := nI 62) C0 rfl dX12_readWatcher_7 ?_
  refine x_ialoadN C0 (isModel.s10 hM) (by omega) (by omega) dX12_readWatcher_9 ?_
  refine x_topi e62 ?_
  refine x_imul C0 dX12_readWatcher_10 ?_
  refine x_topi (nI_mul 3 _) ?_
  refine x_iadd C0 dX12_readWatcher_11 ?_
  refine x_topi (nI_add 97 _) ?_
  refine x_istore_n (L' := [_, _, _, _, _]) C0 hN (by decide) rfl dX12_readWatcher_12 ?_
  refine x_aload_n C0 rfl dX12_readWatcher_13 ?_
  refine x_iconst (v := nI 2) C0 rfl dX12_readWatcher_14 ?_
  refine x_bipush (v := nI 6) C0 rfl dX12_readWatcher_15 ?_
  refine x_bipush (v := nI 20) C0 rfl dX12_readWatcher_17 ?_
  refine x_callV [_, _, _] C0 hN rfl (xRf_of hR (by decide) (Nat.zero_le _) (Nat.zero_le _)) mv_X12_readName wm_X12_230 dX12_readWatcher_19 (isModel.k0 hM) rfl rfl (Nat.le_of_ble_eq_true rfl) (c_X12_readName hM T A (mn := 2) (fr := 20) (k := F.1.2.2.1) (m := F.1.1 + F.1.2.2.1) W.2.1 (Or.inr rfl) h0 hw e62 hV6 W.2.2.2.1 W.2.2.2.2 (fun h => by have := W.1.1; omega) (fun I1 f1 A1 z => ?_) (fun h6 eP hv ht I1 ea ek e1 e2 e3 A1 => ?_))
  · exact hgo I1 J _ rfl (T.fr f1) A1 (FrR.of f1) (KOn.of f1) (fun y => absurd y z)
  have fr1 : FrR I J I1 (u2 J 145 (F.1.1 + F.1.2.2.1) (Int64.ofNat (cv ((tTok tp n) (s.1 + 1)).2.1))) := ⟨fun a h1 h2 h3 h4 h5 => ea a h1 h2 h5, fun k h1 h2 h3 h4 h5 => ek k h1 h2 h4, fun j hj => by rw [e1, u2_off _ _ (by omega)], fun j _ => by rw [ea 142 (by decide) (by decide) (by decide), ea 143 (by decide) (by decide) (by decide)]; exact ⟨rfl, rfl⟩, fun a ha => u2_row _ _ _ ha⟩
  exact hgo I1 _ _ rfl (T.frr fr1) (by rw [eP]; exact A1) fr1 ⟨ek 20 (by decide) (by decide) (by decide), ek 13 (by decide) (by decide) (by decide), ea 142 (by decide) (by decide) (by decide), ea 143 (by decide) (by decide) (by decide)⟩ (fun _ => ⟨h6, hv, ht, e1, e2, e3, rfl⟩)
