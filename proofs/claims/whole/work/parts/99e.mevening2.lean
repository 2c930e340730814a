/-! READING: the reference, an evening -/
def FvR (I : xTI) (I' : xTI) : Prop := (∀ a, a ≠ 135 → a ≠ 148 → I' a = I a) ∧ (∀ k, k ≠ 7 → k ≠ 8 → I' 135 k = I 135 k) ∧ ∀ j, j < 165 → I' 148 j = I 148 j
theorem FvR.rf {I : xTI} : FvR I I := ⟨fun _ _ _ => rfl, fun _ _ _ => rfl, fun _ _ => rfl⟩
theorem FvR.of {I I' : xTI} (f : RFr I I') : FvR I I' := ⟨fun a h _ => f.1 a h, f.2, fun j _ => by rw [f.1 148 (by decide)]⟩
theorem FvR.trans {I I1_ I2_ : xTI} (a : FvR I I1_) (b : FvR I1_ I2_) : FvR I I2_ := ⟨fun q h1_ h2_ => (b.1 q h1_ h2_).trans (a.1 q h1_ h2_), fun k h1_ h2_ => (b.2.1 k h1_ h2_).trans (a.2.1 k h1_ h2_), fun j h => (b.2.2 j h).trans (a.2.2 j h)⟩
theorem MRd.fvr {I I' : xTI} {J : xTJ} {tp : Nat → Nat} {n c : Nat} (h : MRd I J tp n c) (f : FvR I I') : MRd I' J tp n c := ⟨h.1.congr (f.1 _ (by decide) (by decide)) (f.1 _ (by decide) (by decide)), h.2⟩
theorem NmN.fvr {I I' : xTI} {J : xTJ} {m : Nat} {F : pF} (h : NmN I J m F) (f : FvR I I') : NmN I' J m F := ⟨by rw [f.2.1 18 (by decide) (by decide)]; exact h.1, h.2.1.congr (f.1 146 (by decide) (by decide)) rfl, h.2.2⟩
theorem RLn.congr {I I' : xTI} {p p' : Nat} {F : pF} {c : Nat × Nat × Nat × Nat} (h : RLn I p F c) (e : ∀ k, k < 4 → I' 148 (p' + k) = I 148 (p + k)) : RLn I' p' F c := by
  obtain ⟨h1_, h2_, h3_, h4_, h5_⟩ := h
  exact ⟨h1_, (e 0 (by decide)).trans h2_, fun z => (e 1 (by decide)).trans (h3_ z), fun z => (e 2 (by decide)).trans (h4_ z), fun z => (e 3 (by decide)).trans (h5_ z)⟩
theorem pTlk_mn (q : xTok) (F : pF) (o : Option Nat) (s : pS) : s.1 ≤ (pTlk q F o s).1 := by
  unfold pTlk
  split
  · split
    · exact pRef_mn q 2 s
    · split
      · exact pRef_mn q 3 s
      · exact pNext_mn s
  · exact pRef_mn q 1 s
theorem eLine_none {q : xTok} {F : pF} {s : pS} {ev : Nat} (hk : wHr q 10 5 s = none) : (eLine q F s ev).1 = pRef q 1 s := by
  unfold eLine
  rw [if_pos hk]
theorem eLine_full {q : xTok} {F : pF} {s : pS} {ev k : Nat} (hk : wHr q 10 5 s = some k) (h : ¬ ev < 40) : (eLine q F s ev).1 = pRef q 5 s := by
  have e5_ : pFull q (ev < 40) s = pRef q 5 s := by unfold pFull; rw [if_neg h, pNext_ref (by decide)]
  have ne := pRef_ne (q := q) (c := 5) (s := s) (by decide)
  unfold eLine
  rw [e5_, hk, if_neg (fun y => by cases y)]
  repeat' split
  all_goals dsimp only
  all_goals first | rw [pNum_f ne, pClm_f ne, pSign_f ne] | rw [pNum_f ne, pSign_f ne] | rw [pTlk_f ne, pTlk_f ne, pSign_f ne] | rw [pSign_f ne]
theorem eLine_0 {tp : Nat → Nat} {n : Nat} {F : pF} {s : pS} {ev : Nat} (hk : wHr (tTok tp n) 10 5 s = some 0) (h : ev < 40) (h0_ : s.2 = 0) : eLine (tTok tp n) F s ev = (pSign (tTok tp n) 59 (s.1 + 1, 0), (0, 0, 0, 0)) := by
  have e5_ : pFull (tTok tp n) (ev < 40) s = (s.1 + 1, 0) := by unfold pFull; rw [if_pos h, pNext_0 h0_]
  unfold eLine
  rw [e5_, hk, if_neg (show ¬ some 0 = (none : Option Nat) from fun y => by cases y), if_neg (show ¬ some 0 = some 1 by decide), if_neg (show ¬ some 0 = some 2 by decide), if_neg (show ¬ some 0 = some 3 by decide)]
  rfl
theorem eLine_1 {tp : Nat → Nat} {n : Nat} {F : pF} {s : pS} {ev : Nat} (hk : wHr (tTok tp n) 10 5 s = some 1) (h : ev < 40) (h0_ : s.2 = 0) : eLine (tTok tp n) F s ev = (pSign (tTok tp n) 59 (pClm (tTok tp n) F (pNum (tTok tp n) 0 7 (s.1 + 1, 0))), (1, ((tTok tp n) ((s.1 + 1, 0)).1).2.1, cvT (tTok tp n) F (pNum (tTok tp n) 0 7 (s.1 + 1, 0)), cvB (tTok tp n) F (pNum (tTok tp n) 0 7 (s.1 + 1, 0)))) := by
  have e5_ : pFull (tTok tp n) (ev < 40) s = (s.1 + 1, 0) := by unfold pFull; rw [if_pos h, pNext_0 h0_]
  unfold eLine
  rw [e5_, hk, if_neg (show ¬ some 1 = (none : Option Nat) from fun y => by cases y), if_pos rfl]
theorem eLine_2 {tp : Nat → Nat} {n : Nat} {F : pF} {s : pS} {ev : Nat} (hk : wHr (tTok tp n) 10 5 s = some 2) (h : ev < 40) (h0_ : s.2 = 0) : eLine (tTok tp n) F s ev = (pSign (tTok tp n) 59 (pNum (tTok tp n) 0 7 (s.1 + 1, 0)), (2, ((tTok tp n) ((s.1 + 1, 0)).1).2.1, 0, 0)) := by
  have e5_ : pFull (tTok tp n) (ev < 40) s = (s.1 + 1, 0) := by unfold pFull; rw [if_pos h, pNext_0 h0_]
  unfold eLine
  rw [e5_, hk, if_neg (show ¬ some 2 = (none : Option Nat) from fun y => by cases y), if_neg (show ¬ some 2 = some 1 by decide), if_pos rfl]
theorem eLine_3 {tp : Nat → Nat} {n : Nat} {F : pF} {s : pS} {ev : Nat} (hk : wHr (tTok tp n) 10 5 s = some 3) (h : ev < 40) (h0_ : s.2 = 0) : eLine (tTok tp n) F s ev = (pSign (tTok tp n) 59 (pTlk (tTok tp n) F (xIdx F.2.2.1 ((tTok tp n) ((s.1 + 1, 0)).1).2.1 F.1.2.2.1) (pTlk (tTok tp n) F none (s.1 + 1, 0))), (3, wtN (tTok tp n) F (s.1 + 1, 0), wtN (tTok tp n) F (pTlk (tTok tp n) F none (s.1 + 1, 0)), 0)) := by
  have e5_ : pFull (tTok tp n) (ev < 40) s = (s.1 + 1, 0) := by unfold pFull; rw [if_pos h, pNext_0 h0_]
  unfold eLine
  rw [e5_, hk, if_neg (show ¬ some 3 = (none : Option Nat) from fun y => by cases y), if_neg (show ¬ some 3 = some 1 by decide), if_neg (show ¬ some 3 = some 2 by decide), if_pos rfl]
theorem eLine_4 {tp : Nat → Nat} {n : Nat} {F : pF} {s : pS} {ev : Nat} (hk : wHr (tTok tp n) 10 5 s = some 4) (h : ev < 40) (h0_ : s.2 = 0) : eLine (tTok tp n) F s ev = (pSign (tTok tp n) 59 (s.1 + 1, 0), (4, 0, 0, 0)) := by
  have e5_ : pFull (tTok tp n) (ev < 40) s = (s.1 + 1, 0) := by unfold pFull; rw [if_pos h, pNext_0 h0_]
  unfold eLine
  rw [e5_, hk, if_neg (show ¬ some 4 = (none : Option Nat) from fun y => by cases y), if_neg (show ¬ some 4 = some 1 by decide), if_neg (show ¬ some 4 = some 2 by decide), if_neg (show ¬ some 4 = some 3 by decide)]
  rfl
theorem c_X12_evening {S : xTS} {R : xTR} {I : xTI} {J : xTJ} {post : xPost} (hM : isModel S R) {tp : Nat → Nat} {n : Nat} (T : MTp I tp n) (hw : ∀ i, i < 26 → J 140 i = Int64.ofNat (cv (wCd i))) {F : pF} {mm : Nat} (N9_ : NmN I J mm F) {m : pV} (em : evAll (tTok tp n) F = m) (hp0_ : ¬ m.1.2 = 0 → ∀ I' J', (∀ a, a ≠ 135 → a ≠ 137 → a ≠ 138 → a ≠ 148 → I' a = I a) → (∀ k, k ≠ 0 → k ≠ 2 → k ≠ 3 → k ≠ 7 → k ≠ 8 → I' 135 k = I 135 k) → (∀ j, j < 165 → I' 148 j = I 148 j) → (∀ a, a ≠ 139 → J' a = J a) → I' 135 2 = nI 0 → post (some (.int (nI m.1.2))) S R I' J') (hp1_ : m.1.2 = 0 → ∀ I' J', (∀ a, a ≠ 135 → a ≠ 137 → a ≠ 138 → a ≠ 148 → I' a = I a) → (∀ k, k ≠ 0 → k ≠ 2 → k ≠ 3 → k ≠ 7 → k ≠ 8 → I' 135 k = I 135 k) → (∀ a, a ≠ 139 → J' a = J a) → I' 135 2 = nI 0 → m.2.1 ≤ 40 → I' 148 0 = nI m.2.1 → (∀ i, i < m.2.1 → RLn I' (1 + 4 * i) F (m.2.2 i)) → post (some (.int (nI m.1.2))) S R I' J') : xSpec 7 yX12_evening cX12_evening 3 (some .int) 0 0 [.ref 135] S R I J post := by
  refine xSpec_of mt_X12_evening (Nat.le_of_ble_eq_true rfl) (fun G C0_ hN hR E hI hZ => ?_)
  change XX G 0 0 0 [some (.ref 135), none, none] [] S R I J
  have hgo : ∀ I0_ J0_ c, (∀ a, a ≠ 135 → a ≠ 137 → a ≠ 138 → a ≠ 148 → I0_ a = I a) → (∀ k, k ≠ 0 → k ≠ 2 → k ≠ 3 → k ≠ 7 → k ≠ 8 → I0_ 135 k = I 135 k) → (∀ j, j < 165 → I0_ 148 j = I 148 j) → (∀ a, a ≠ 139 → J0_ a = J a) → I0_ 135 2 = nI 0 → MRd I0_ J0_ tp n c → MAt I0_ c (0, 0) → NmN I0_ J0_ mm F → XX G 0 0 11 [some (.ref 135), some (.int (nI 0)), none] [] S R I0_ J0_ := by
    intro I0_ J0_ c ra rk rj rJ e2_ M0_ A0_ NN
    have c1000_ : c ≤ 1000 := Nat.le_trans M0_.1.1 M0_.1.2.1
    have h98_ : ∀ I1_ v1_ v2_, FvR I0_ I1_ → MAt I1_ c m.1 → (m.1.2 = 0 → v1_ = nI m.2.1 ∧ m.2.1 ≤ 40 ∧ ∀ i, i < m.2.1 → RLn I1_ (165 + 4 * i) F (m.2.2 i)) → XX G 0 0 98 [some (.ref 135), some (.int v1_), v2_] [] S R I1_ J0_ := by
      intro I1_ v1_ v2_ fv A1_ W1_
      have ra1_ : ∀ a, a ≠ 135 → a ≠ 137 → a ≠ 138 → a ≠ 148 → I1_ a = I a := fun a h1_ h2_ h3_ h4_ => (fv.1 a h1_ h4_).trans (ra a h1_ h2_ h3_ h4_)
      have rk1_ : ∀ k, k ≠ 0 → k ≠ 2 → k ≠ 3 → k ≠ 7 → k ≠ 8 → I1_ 135 k = I 135 k := fun k h1_ h2_ h3_ h4_ h5_ => (fv.2.1 k h4_ h5_).trans (rk k h1_ h2_ h3_ h4_ h5_)
      have e21_ : I1_ 135 2 = nI 0 := (fv.2.1 2 (by decide) (by decide)).trans e2_
      have h110_ : m.1.2 = 0 → XX G 0 0 110 [some (.ref 135), some (.int v1_), v2_] [] S R I1_ J0_ := by
        intro z0_
        obtain ⟨ev, h40_, hR1_⟩ := W1_ z0_
        subst ev
        have h119_ : ∀ j k I2_, k + j = 4 * m.2.1 → (∀ a, a ≠ 148 → I2_ a = I1_ a) → I2_ 148 0 = nI m.2.1 → (∀ i, i < k → I2_ 148 (1 + i) = I1_ 148 (165 + i)) → (∀ i, 165 ≤ i → I2_ 148 i = I1_ 148 i) → XX G 0 0 119 [some (.ref 135), some (.int (nI m.2.1)), some (.int (nI k))] [] S R I2_ J0_ := by
          intro j
          induction j with
          | zero =>
            intro k I2_ hk s2_ e0_ d2_ u2'_
            have hk8_ : k = 4 * m.2.1 := by omega
            refine x_iload_n C0_ rfl dX12_evening_119 ?_
            refine x_iconst (v := nI 4) C0_ rfl dX12_evening_120 ?_
            refine x_iload_n C0_ rfl dX12_evening_121 ?_
            refine x_imulN C0_ dX12_evening_122 ?_
            refine x_icmp_ge (tgt := 150) C0_ (by decide) dX12_evening_123 (fun _ => ?_) (fun hkk => absurd ((by rw [hk8_]; exact Int32.le_refl _)) hkk)
            refine x_iconst (v := nI 0) C0_ rfl dX12_evening_150 ?_
            refine x_iret C0_ E (by decide) (by decide) dX12_evening_151 ?_
            rw [z0_] at hp1_
            refine hp1_ rfl I2_ J0_ (fun a h1_ h2_ h3_ h4_ => (s2_ a h4_).trans (ra1_ a h1_ h2_ h3_ h4_)) (fun k h1_ h2_ h3_ h4_ h5_ => by rw [s2_ 135 (by decide)]; exact rk1_ k h1_ h2_ h3_ h4_ h5_) rJ (by rw [s2_ 135 (by decide)]; exact e21_) h40_ e0_ (fun i hi => (hR1_ i hi).congr (fun q hq => ?_))
            have h9_ := d2_ (4 * i + q) (by omega)
            rw [show 1 + (4 * i + q) = 1 + 4 * i + q by omega, show 165 + (4 * i + q) = 165 + 4 * i + q by omega] at h9_
            exact h9_
          | succ j ih =>
            intro k I2_ hk s2_ e0_ d2_ u2'_
            refine x_iload_n C0_ rfl dX12_evening_119 ?_
            refine x_iconst (v := nI 4) C0_ rfl dX12_evening_120 ?_
            refine x_iload_n C0_ rfl dX12_evening_121 ?_
            refine x_imulN C0_ dX12_evening_122 ?_
            refine x_icmp_ge (tgt := 150) C0_ (by decide) dX12_evening_123 (fun hkk => absurd hkk ((nI_ge (by omega) (by omega)))) (fun _ => ?_)
            refine x_aload_n C0_ rfl dX12_evening_126 ?_
            refine x_getR C0_ wf_X12_110 (isModel.k0 hM) rfl rfl (isModel.r21 hM) dX12_evening_127 ?_
            refine x_iconst (v := nI 1) C0_ rfl dX12_evening_130 ?_
            refine x_iload_n C0_ rfl dX12_evening_131 ?_
            refine x_iaddN C0_ dX12_evening_132 ?_
            refine x_aload_n C0_ rfl dX12_evening_133 ?_
            refine x_getR C0_ wf_X12_110 (isModel.k0 hM) rfl rfl (isModel.r21 hM) dX12_evening_134 ?_
            refine x_sipush (v := nI 165) C0_ rfl dX12_evening_137 ?_
            refine x_iload_n C0_ rfl dX12_evening_140 ?_
            refine x_iaddN C0_ dX12_evening_141 ?_
            refine x_ialoadN C0_ (isModel.s21 hM) (by omega) (by omega) dX12_evening_142 ?_
            refine x_iastoreN C0_ (isModel.s21 hM) (by omega) (by omega) dX12_evening_143 ?_
            refine x_iinc (v := nI (k + 1)) (L' := [_, _, _]) C0_ hN rfl (by decide) (nI_inc k) rfl dX12_evening_144 ?_
            refine x_goto (tgt := 119) C0_ (by decide) dX12_evening_147 ?_
            refine ih (k + 1) _ (by omega) (fun a h => ?_) ?_ (fun i hi => ?_) (fun i hi => ?_)
            · rw [u2_row _ _ _ h]; exact s2_ a h
            · rw [u2_off _ _ (by omega)]; exact e0_
            · by_cases e : i = k
              · rw [u2_eq _ _ (by omega), e]; exact u2'_ _ (by omega)
              · rw [u2_off _ _ (by omega)]; exact d2_ i (by omega)
            · rw [u2_off _ _ (by omega)]; exact u2'_ i hi
        refine x_aload_n C0_ rfl dX12_evening_110 ?_
        refine x_getR C0_ wf_X12_110 (isModel.k0 hM) rfl rfl (isModel.r21 hM) dX12_evening_111 ?_
        refine x_iconst (v := nI 0) C0_ rfl dX12_evening_114 ?_
        refine x_iload_n C0_ rfl dX12_evening_115 ?_
        refine x_iastoreN C0_ (isModel.s21 hM) (by omega) (by omega) dX12_evening_116 ?_
        refine x_iconst (v := nI 0) C0_ rfl dX12_evening_117 ?_
        refine x_istore_n (L' := [_, _, _]) C0_ hN (by decide) rfl dX12_evening_118 ?_
        exact h119_ _ 0 _ (Nat.zero_add _) (fun a h => u2_row _ _ _ h) (u2_same _ _ _ _) (fun i hi => absurd hi (Nat.not_lt_zero i)) (fun i hi => u2_off _ _ (by omega))
      refine x_aload_n C0_ rfl dX12_evening_98 ?_
      refine x_getI C0_ wf_X12_165 (isModel.k0 hM) rfl dX12_evening_99 ?_
      refine x_topi A1_.2.1 ?_
      refine x_if_le (tgt := 110) C0_ (by decide) dX12_evening_102 (fun g102_ => ?_) (fun g102_ => ?_)
      · exact h110_ (by
          have := (nI_le_iff (b := 0) (by have := A1_.2.2.2; omega) (by decide)).mp g102_
          omega)
      · refine x_aload_n C0_ rfl dX12_evening_105 ?_
        refine x_getI C0_ wf_X12_165 (isModel.k0 hM) rfl dX12_evening_106 ?_
        refine x_topi A1_.2.1 ?_
        refine x_iret C0_ E (by decide) (by decide) dX12_evening_109 ?_
        exact hp0_ (fun z => g102_ (by rw [z]; exact Int32.le_refl _)) I1_ J0_ ra1_ rk1_ (fun j h => (fv.2.2 j h).trans (rj j h)) rJ e21_
    have h11_ : ∀ j I1_ m1_ v1_ v2_, FvR I0_ I1_ → MAt I1_ c m1_.1 → (m1_.1.2 = 0 → v1_ = nI m1_.2.1 ∧ m1_.2.1 ≤ 40 ∧ ∀ i, i < m1_.2.1 → RLn I1_ (165 + 4 * i) F (m1_.2.2 i)) → (m1_.1.2 = 0 → c ≤ m1_.1.1 + j) → evLoop (tTok tp n) F j m1_ = m → XX G 0 0 11 [some (.ref 135), some (.int v1_), v2_] [] S R I1_ J0_ := by
      intro j
      induction j with
      | zero =>
        intro I1_ m1_ v1_ v2_ fv A1_ W1_ hc el
        have el : m1_ = m := el
        subst el
        have T1_ := M0_.fvr fv
        obtain ⟨a7_, a8_, ac, a9_⟩ := id A1_
        obtain ⟨-, k5_, -, -, k1_, -, -, -, -⟩ := T1_.at ac
        have hK : m1_.1.2 = 0 → ((tTok tp n) m1_.1.1).1 = 0 := fun z => by
          have h1_ := hc z
          rw [show m1_.1.1 = c by omega]
          exact T1_.1.2.2.2.1
        refine x_aload_n C0_ rfl dX12_evening_11 ?_
        refine x_getI C0_ wf_X12_165 (isModel.k0 hM) rfl dX12_evening_12 ?_
        refine x_topi a8_ ?_
        refine x_if_ne (tgt := 98) C0_ (by decide) dX12_evening_15 (fun g15_ => ?_) (fun g15_ => ?_)
        · exact h98_ I1_ v1_ v2_ fv A1_ W1_
        · refine x_aload_n C0_ rfl dX12_evening_18 ?_
          refine x_getR C0_ wf_X12_24 (isModel.k0 hM) rfl rfl (isModel.r4 hM) dX12_evening_19 ?_
          refine x_aload_n C0_ rfl dX12_evening_22 ?_
          refine x_getI C0_ wf_X12_162 (isModel.k0 hM) rfl dX12_evening_23 ?_
          refine x_topi a7_ ?_
          refine x_ialoadN C0_ (isModel.s4 hM) (by omega) (by omega) dX12_evening_26 ?_
          refine x_topi k1_ ?_
          refine x_if_eq (tgt := 98) C0_ (by decide) dX12_evening_27 (fun _ => ?_) (fun hkk => absurd ((by rw [hK (A1_.z.mp g15_)]; rfl)) hkk)
          exact h98_ I1_ v1_ v2_ fv A1_ W1_
      | succ j ih =>
        intro I1_ m1_ v1_ v2_ fv A1_ W1_ hc el
        have elu : evLoop (tTok tp n) F (j + 1) m1_ = if m1_.1.2 = 0 ∧ ((tTok tp n) m1_.1.1).1 ≠ 0 then evLoop (tTok tp n) F j (evLine (tTok tp n) F m1_) else m1_ := rfl
        rw [elu] at el
        have T1_ := M0_.fvr fv
        have NN1_ := NN.fvr fv
        obtain ⟨a7_, a8_, ac, a9_⟩ := id A1_
        obtain ⟨k0_, k5_, -, kc, k1_, -, -, -, -⟩ := T1_.at ac
        obtain ⟨s, nv, ln⟩ := m1_
        have e1_ : ∀ x, (evLine (tTok tp n) F (s, nv, ln)).1 = x → eLine (tTok tp n) F s nv = eLine (tTok tp n) F s nv := fun _ _ => rfl
        have h89_ : ∀ I3_ s3_ v1_ v2_, s.2 = 0 → s.1 < c → evLoop (tTok tp n) F j (evLine (tTok tp n) F (s, nv, ln)) = m → FvR I0_ I3_ → MAt I3_ c s3_ → pSign (tTok tp n) 59 s3_ = (eLine (tTok tp n) F s nv).1 → s.1 ≤ s3_.1 → (s3_.2 = 0 → v1_ = nI (nv + 1) ∧ nv + 1 ≤ 40 ∧ ∀ i, i < nv + 1 → RLn I3_ (165 + 4 * i) F (mUp ln nv (eLine (tTok tp n) F s nv).2 i)) → XX G 0 0 89 [some (.ref 135), some (.int v1_), v2_] [] S R I3_ J0_ := by
          intro I3_ s3_ v1_ v2_ z0_ zc el f3_ A3_ hs hl W3_
          refine x_aload_n C0_ rfl dX12_evening_89 ?_
          refine x_bipush (v := nI 59) C0_ rfl dX12_evening_90 ?_
          refine x_callV [_] C0_ hN rfl (xRf_of hR (by decide) (Nat.zero_le _) (Nat.zero_le _)) mv_X12_takeSign wm_X12_227 dX12_evening_92 (isModel.k0 hM) rfl rfl (Nat.le_of_ble_eq_true rfl) (c_X12_takeSign hM (M0_.fvr f3_) A3_ (d := 59) (by decide) (fun I4_ f4_ A4_ => ?_))
          refine x_goto (tgt := 11) C0_ (by decide) dX12_evening_95 ?_
          rw [hs] at A4_
          refine ih I4_ (evLine (tTok tp n) F (s, nv, ln)) v1_ v2_ (f3_.trans (FvR.of f4_)) A4_ (fun z => ?_) (fun z => ?_) el
          · have zs : s3_.2 = 0 := pz (f := pSign (tTok tp n) 59) (fun y => pSign_f y) (by rw [hs]; exact z)
            obtain ⟨b1_, b2_, b3_⟩ := W3_ zs
            exact ⟨b1_, b2_, fun i hi => (b3_ i hi).congr (fun k _ => by rw [f4_.1 148 (by decide)])⟩
          · have z' : (eLine (tTok tp n) F s nv).1.2 = 0 := z
            have zs : s3_.2 = 0 := pz (f := pSign (tTok tp n) 59) (fun y => pSign_f y) (by rw [hs]; exact z')
            have h2_ := hc z0_
            show c ≤ (eLine (tTok tp n) F s nv).1.1 + j
            rw [← hs] at z' ⊢
            unfold pSign at z' ⊢
            by_cases g : pIsC (tTok tp n) 59 s3_
            · rw [if_pos g, pNext_0 zs]
              show c ≤ s3_.1 + 1 + j
              have h3_ : c ≤ s.1 + (j + 1) := h2_
              omega
            · rw [if_neg g] at z'
              exact absurd z' (pRef_ne (by decide))
        have hNo : s.2 = 0 → s.1 < c → evLoop (tTok tp n) F j (evLine (tTok tp n) F (s, nv, ln)) = m → wHr (tTok tp n) 10 5 s = none → XX G 0 0 37 [some (.ref 135), some (.int v1_), v2_] [.int (-1)] S R I1_ J0_ := by
          intro z0_ zc el wn
          refine x_istore_n (L' := [_, _, _]) C0_ hN (by decide) rfl dX12_evening_37 ?_
          refine x_iload_n C0_ rfl dX12_evening_38 ?_
          refine x_if_ge (tgt := 50) C0_ (by decide) dX12_evening_39 (fun hkk => absurd hkk ((by decide))) (fun _ => ?_)
          refine x_aload_n C0_ rfl dX12_evening_42 ?_
          refine x_iconst (v := nI 1) C0_ rfl dX12_evening_43 ?_
          refine x_callV [_] C0_ hN rfl (xRf_of hR (by decide) (Nat.zero_le _) (Nat.zero_le _)) mv_X12_wrong wm_X12_171 dX12_evening_44 (isModel.k0 hM) rfl rfl (Nat.le_of_ble_eq_true rfl) (c_X12_wrong hM T1_ A1_ (by decide) (fun I2_ f2_ A2_ => ?_))
          refine x_goto (tgt := 89) C0_ (by decide) dX12_evening_47 ?_
          exact h89_ I2_ _ _ _ z0_ zc el (fv.trans (FvR.of f2_)) A2_ (by rw [eLine_none wn]; exact pSign_f (pRef_ne (by decide))) (pRef_mn _ _ _) (fun z => absurd z (pRef_ne (by decide)))
        have hS0_ : s.2 = 0 → s.1 < c → evLoop (tTok tp n) F j (evLine (tTok tp n) F (s, nv, ln)) = m → wHr (tTok tp n) 10 5 s = some 0 → XX G 0 0 37 [some (.ref 135), some (.int v1_), v2_] [.int (nI 0)] S R I1_ J0_ := by
          intro z0_ zc el wn
          obtain ⟨ev, h40_, hR1_⟩ := W1_ z0_
          have ev : v1_ = nI nv := ev
          subst ev
          have h40_ : nv ≤ 40 := h40_
          have hR1_ : ∀ i, i < nv → RLn I1_ (165 + 4 * i) F (ln i) := hR1_
          refine x_istore_n (L' := [_, _, _]) C0_ hN (by decide) rfl dX12_evening_37 ?_
          refine x_iload_n C0_ rfl dX12_evening_38 ?_
          refine x_if_ge (tgt := 50) C0_ (by decide) dX12_evening_39 (fun _ => ?_) (fun hkk => absurd ((by decide)) hkk)
          refine x_iload_n C0_ rfl dX12_evening_50 ?_
          refine x_bipush (v := nI 40) C0_ rfl dX12_evening_51 ?_
          refine x_icmp_ne (tgt := 64) C0_ (by decide) dX12_evening_53 (fun g53_ => ?_) (fun g53_ => ?_)
          · have hlt : nv < 40 := by
              rcases Nat.lt_or_eq_of_le h40_ with h | h
              · exact h
              · exact absurd (by rw [h]) g53_
            refine x_aload_n C0_ rfl dX12_evening_64 ?_
            refine x_dup C0_ rfl dX12_evening_65 ?_
            refine x_getI C0_ wf_X12_162 (isModel.k0 hM) rfl dX12_evening_66 ?_
            refine x_topi a7_ ?_
            refine x_iconst (v := nI 1) C0_ rfl dX12_evening_69 ?_
            refine x_iadd C0_ dX12_evening_70 ?_
            refine x_topi (nI_add s.1 1) ?_
            refine x_putI C0_ wf_X12_162 (isModel.k0 hM) rfl dX12_evening_71 ?_
            have f2_ : RFr I1_ (u2 I1_ 135 7 (nI (s.1 + 1))) := RFr.st (Or.inl rfl)
            have A2_ := A1_.next z0_ zc
            rw [pNext_0 z0_] at A2_
            have A2_ : MAt (u2 I1_ 135 7 (nI (s.1 + 1))) c (s.1 + 1, 0) := A2_
            generalize u2 I1_ 135 7 (nI (s.1 + 1)) = I2_ at f2_ A2_ ⊢
            have fv2_ := fv.trans (FvR.of f2_)
            refine x_aload_n C0_ rfl dX12_evening_74 ?_
            refine x_iload_n C0_ rfl dX12_evening_75 ?_
            refine x_sipush (v := nI 165) C0_ rfl dX12_evening_76 ?_
            refine x_iconst (v := nI 4) C0_ rfl dX12_evening_79 ?_
            refine x_iload_n C0_ rfl dX12_evening_80 ?_
            refine x_imulN C0_ dX12_evening_81 ?_
            refine x_iaddN C0_ dX12_evening_82 ?_
            refine x_callV [_, _] C0_ hN rfl (xRf_of hR (by decide) (Nat.zero_le _) (Nat.zero_le _)) mv_X12_readEvening wm_X12_261 dX12_evening_83 (isModel.k0 hM) rfl rfl (Nat.le_of_ble_eq_true rfl) (c_readEvening0 hM (M0_.fvr fv2_) A2_ (NN.fvr fv2_) rfl (by omega) (fun I3_ r1_ r2_ r3_ A3_ z3_ => ?_))
            refine x_iinc (v := nI (nv + 1)) (L' := [_, _, _]) C0_ hN rfl (by decide) (nI_inc nv) rfl dX12_evening_86 ?_
            have eK := eLine_0 (F := F) (ev := nv) wn hlt z0_
            have f3_ : FvR I2_ I3_ := ⟨r1_, r2_, fun j h => r3_ j (Or.inl (by omega))⟩
            refine h89_ I3_ _ _ _ z0_ zc el (fv2_.trans f3_) A3_ (by rw [eK]) (Nat.le_succ _) (fun z => ⟨rfl, hlt, fun i hi => ?_⟩)
            by_cases e : i = nv
            · rw [e, mUp_same, eK]
              exact z3_ z
            · rw [mUp_off _ _ e]
              exact (hR1_ i (by omega)).congr (fun q hq => by rw [r3_ _ (Or.inl (by omega)), f2_.1 148 (by decide)])
          · refine x_aload_n C0_ rfl dX12_evening_56 ?_
            refine x_iconst (v := nI 5) C0_ rfl dX12_evening_57 ?_
            refine x_callV [_] C0_ hN rfl (xRf_of hR (by decide) (Nat.zero_le _) (Nat.zero_le _)) mv_X12_wrong wm_X12_171 dX12_evening_58 (isModel.k0 hM) rfl rfl (Nat.le_of_ble_eq_true rfl) (c_X12_wrong hM T1_ A1_ (by decide) (fun I2_ f2_ A2_ => ?_))
            refine x_goto (tgt := 89) C0_ (by decide) dX12_evening_61 ?_
            have hge : ¬ nv < 40 := by
              have := (nI_eq (b := 40) (by omega) (by decide)).mp g53_
              omega
            exact h89_ I2_ _ _ _ z0_ zc el (fv.trans (FvR.of f2_)) A2_ (by rw [eLine_full wn hge]; exact pSign_f (pRef_ne (by decide))) (pRef_mn _ _ _) (fun z => absurd z (pRef_ne (by decide)))
        have hS1_ : s.2 = 0 → s.1 < c → evLoop (tTok tp n) F j (evLine (tTok tp n) F (s, nv, ln)) = m → wHr (tTok tp n) 10 5 s = some 1 → XX G 0 0 37 [some (.ref 135), some (.int v1_), v2_] [.int (nI 1)] S R I1_ J0_ := by
          intro z0_ zc el wn
          obtain ⟨ev, h40_, hR1_⟩ := W1_ z0_
          have ev : v1_ = nI nv := ev
          subst ev
          have h40_ : nv ≤ 40 := h40_
          have hR1_ : ∀ i, i < nv → RLn I1_ (165 + 4 * i) F (ln i) := hR1_
          refine x_istore_n (L' := [_, _, _]) C0_ hN (by decide) rfl dX12_evening_37 ?_
          refine x_iload_n C0_ rfl dX12_evening_38 ?_
          refine x_if_ge (tgt := 50) C0_ (by decide) dX12_evening_39 (fun _ => ?_) (fun hkk => absurd ((by decide)) hkk)
          refine x_iload_n C0_ rfl dX12_evening_50 ?_
          refine x_bipush (v := nI 40) C0_ rfl dX12_evening_51 ?_
          refine x_icmp_ne (tgt := 64) C0_ (by decide) dX12_evening_53 (fun g53_ => ?_) (fun g53_ => ?_)
          · have hlt : nv < 40 := by
              rcases Nat.lt_or_eq_of_le h40_ with h | h
              · exact h
              · exact absurd (by rw [h]) g53_
            refine x_aload_n C0_ rfl dX12_evening_64 ?_
            refine x_dup C0_ rfl dX12_evening_65 ?_
            refine x_getI C0_ wf_X12_162 (isModel.k0 hM) rfl dX12_evening_66 ?_
            refine x_topi a7_ ?_
            refine x_iconst (v := nI 1) C0_ rfl dX12_evening_69 ?_
            refine x_iadd C0_ dX12_evening_70 ?_
            refine x_topi (nI_add s.1 1) ?_
            refine x_putI C0_ wf_X12_162 (isModel.k0 hM) rfl dX12_evening_71 ?_
            have f2_ : RFr I1_ (u2 I1_ 135 7 (nI (s.1 + 1))) := RFr.st (Or.inl rfl)
            have A2_ := A1_.next z0_ zc
            rw [pNext_0 z0_] at A2_
            have A2_ : MAt (u2 I1_ 135 7 (nI (s.1 + 1))) c (s.1 + 1, 0) := A2_
            generalize u2 I1_ 135 7 (nI (s.1 + 1)) = I2_ at f2_ A2_ ⊢
            have fv2_ := fv.trans (FvR.of f2_)
            refine x_aload_n C0_ rfl dX12_evening_74 ?_
            refine x_iload_n C0_ rfl dX12_evening_75 ?_
            refine x_sipush (v := nI 165) C0_ rfl dX12_evening_76 ?_
            refine x_iconst (v := nI 4) C0_ rfl dX12_evening_79 ?_
            refine x_iload_n C0_ rfl dX12_evening_80 ?_
            refine x_imulN C0_ dX12_evening_81 ?_
            refine x_iaddN C0_ dX12_evening_82 ?_
            refine x_callV [_, _] C0_ hN rfl (xRf_of hR (by decide) (Nat.zero_le _) (Nat.zero_le _)) mv_X12_readEvening wm_X12_261 dX12_evening_83 (isModel.k0 hM) rfl rfl (Nat.le_of_ble_eq_true rfl) (c_readEvening1 hM (M0_.fvr fv2_) A2_ (NN.fvr fv2_) rfl (by omega) (fun I3_ r1_ r2_ r3_ A3_ z3_ => ?_))
            refine x_iinc (v := nI (nv + 1)) (L' := [_, _, _]) C0_ hN rfl (by decide) (nI_inc nv) rfl dX12_evening_86 ?_
            have eK := eLine_1 (F := F) (ev := nv) wn hlt z0_
            have f3_ : FvR I2_ I3_ := ⟨r1_, r2_, fun j h => r3_ j (Or.inl (by omega))⟩
            refine h89_ I3_ _ _ _ z0_ zc el (fv2_.trans f3_) A3_ (by rw [eK]) (Nat.le_trans (Nat.le_succ _) (Nat.le_trans (pNum_mn _ _ _ (s.1 + 1, 0)) (pClm_mn _ _ _))) (fun z => ⟨rfl, hlt, fun i hi => ?_⟩)
            by_cases e : i = nv
            · rw [e, mUp_same, eK]
              exact z3_ z
            · rw [mUp_off _ _ e]
              exact (hR1_ i (by omega)).congr (fun q hq => by rw [r3_ _ (Or.inl (by omega)), f2_.1 148 (by decide)])
          · refine x_aload_n C0_ rfl dX12_evening_56 ?_
            refine x_iconst (v := nI 5) C0_ rfl dX12_evening_57 ?_
            refine x_callV [_] C0_ hN rfl (xRf_of hR (by decide) (Nat.zero_le _) (Nat.zero_le _)) mv_X12_wrong wm_X12_171 dX12_evening_58 (isModel.k0 hM) rfl rfl (Nat.le_of_ble_eq_true rfl) (c_X12_wrong hM T1_ A1_ (by decide) (fun I2_ f2_ A2_ => ?_))
            refine x_goto (tgt := 89) C0_ (by decide) dX12_evening_61 ?_
            have hge : ¬ nv < 40 := by
              have := (nI_eq (b := 40) (by omega) (by decide)).mp g53_
              omega
            exact h89_ I2_ _ _ _ z0_ zc el (fv.trans (FvR.of f2_)) A2_ (by rw [eLine_full wn hge]; exact pSign_f (pRef_ne (by decide))) (pRef_mn _ _ _) (fun z => absurd z (pRef_ne (by decide)))
        have hS2_ : s.2 = 0 → s.1 < c → evLoop (tTok tp n) F j (evLine (tTok tp n) F (s, nv, ln)) = m → wHr (tTok tp n) 10 5 s = some 2 → XX G 0 0 37 [some (.ref 135), some (.int v1_), v2_] [.int (nI 2)] S R I1_ J0_ := by
          intro z0_ zc el wn
          obtain ⟨ev, h40_, hR1_⟩ := W1_ z0_
          have ev : v1_ = nI nv := ev
          subst ev
          have h40_ : nv ≤ 40 := h40_
          have hR1_ : ∀ i, i < nv → RLn I1_ (165 + 4 * i) F (ln i) := hR1_
          refine x_istore_n (L' := [_, _, _]) C0_ hN (by decide) rfl dX12_evening_37 ?_
          refine x_iload_n C0_ rfl dX12_evening_38 ?_
          refine x_if_ge (tgt := 50) C0_ (by decide) dX12_evening_39 (fun _ => ?_) (fun hkk => absurd ((by decide)) hkk)
          refine x_iload_n C0_ rfl dX12_evening_50 ?_
          refine x_bipush (v := nI 40) C0_ rfl dX12_evening_51 ?_
          refine x_icmp_ne (tgt := 64) C0_ (by decide) dX12_evening_53 (fun g53_ => ?_) (fun g53_ => ?_)
          · have hlt : nv < 40 := by
              rcases Nat.lt_or_eq_of_le h40_ with h | h
              · exact h
              · exact absurd (by rw [h]) g53_
            refine x_aload_n C0_ rfl dX12_evening_64 ?_
            refine x_dup C0_ rfl dX12_evening_65 ?_
            refine x_getI C0_ wf_X12_162 (isModel.k0 hM) rfl dX12_evening_66 ?_
            refine x_topi a7_ ?_
            refine x_iconst (v := nI 1) C0_ rfl dX12_evening_69 ?_
            refine x_iadd C0_ dX12_evening_70 ?_
            refine x_topi (nI_add s.1 1) ?_
            refine x_putI C0_ wf_X12_162 (isModel.k0 hM) rfl dX12_evening_71 ?_
            have f2_ : RFr I1_ (u2 I1_ 135 7 (nI (s.1 + 1))) := RFr.st (Or.inl rfl)
            have A2_ := A1_.next z0_ zc
            rw [pNext_0 z0_] at A2_
            have A2_ : MAt (u2 I1_ 135 7 (nI (s.1 + 1))) c (s.1 + 1, 0) := A2_
            generalize u2 I1_ 135 7 (nI (s.1 + 1)) = I2_ at f2_ A2_ ⊢
            have fv2_ := fv.trans (FvR.of f2_)
            refine x_aload_n C0_ rfl dX12_evening_74 ?_
            refine x_iload_n C0_ rfl dX12_evening_75 ?_
            refine x_sipush (v := nI 165) C0_ rfl dX12_evening_76 ?_
            refine x_iconst (v := nI 4) C0_ rfl dX12_evening_79 ?_
            refine x_iload_n C0_ rfl dX12_evening_80 ?_
            refine x_imulN C0_ dX12_evening_81 ?_
            refine x_iaddN C0_ dX12_evening_82 ?_
            refine x_callV [_, _] C0_ hN rfl (xRf_of hR (by decide) (Nat.zero_le _) (Nat.zero_le _)) mv_X12_readEvening wm_X12_261 dX12_evening_83 (isModel.k0 hM) rfl rfl (Nat.le_of_ble_eq_true rfl) (c_readEvening2 hM (M0_.fvr fv2_) A2_ (NN.fvr fv2_) rfl (by omega) (fun I3_ r1_ r2_ r3_ A3_ z3_ => ?_))
            refine x_iinc (v := nI (nv + 1)) (L' := [_, _, _]) C0_ hN rfl (by decide) (nI_inc nv) rfl dX12_evening_86 ?_
            have eK := eLine_2 (F := F) (ev := nv) wn hlt z0_
            have f3_ : FvR I2_ I3_ := ⟨r1_, r2_, fun j h => r3_ j (Or.inl (by omega))⟩
            refine h89_ I3_ _ _ _ z0_ zc el (fv2_.trans f3_) A3_ (by rw [eK]) (Nat.le_trans (Nat.le_succ _) (pNum_mn _ _ _ (s.1 + 1, 0))) (fun z => ⟨rfl, hlt, fun i hi => ?_⟩)
            by_cases e : i = nv
            · rw [e, mUp_same, eK]
              exact z3_ z
            · rw [mUp_off _ _ e]
              exact (hR1_ i (by omega)).congr (fun q hq => by rw [r3_ _ (Or.inl (by omega)), f2_.1 148 (by decide)])
          · refine x_aload_n C0_ rfl dX12_evening_56 ?_
            refine x_iconst (v := nI 5) C0_ rfl dX12_evening_57 ?_
            refine x_callV [_] C0_ hN rfl (xRf_of hR (by decide) (Nat.zero_le _) (Nat.zero_le _)) mv_X12_wrong wm_X12_171 dX12_evening_58 (isModel.k0 hM) rfl rfl (Nat.le_of_ble_eq_true rfl) (c_X12_wrong hM T1_ A1_ (by decide) (fun I2_ f2_ A2_ => ?_))
            refine x_goto (tgt := 89) C0_ (by decide) dX12_evening_61 ?_
            have hge : ¬ nv < 40 := by
              have := (nI_eq (b := 40) (by omega) (by decide)).mp g53_
              omega
            exact h89_ I2_ _ _ _ z0_ zc el (fv.trans (FvR.of f2_)) A2_ (by rw [eLine_full wn hge]; exact pSign_f (pRef_ne (by decide))) (pRef_mn _ _ _) (fun z => absurd z (pRef_ne (by decide)))
        have hS3_ : s.2 = 0 → s.1 < c → evLoop (tTok tp n) F j (evLine (tTok tp n) F (s, nv, ln)) = m → wHr (tTok tp n) 10 5 s = some 3 → XX G 0 0 37 [some (.ref 135), some (.int v1_), v2_] [.int (nI 3)] S R I1_ J0_ := by
          intro z0_ zc el wn
          obtain ⟨ev, h40_, hR1_⟩ := W1_ z0_
          have ev : v1_ = nI nv := ev
          subst ev
          have h40_ : nv ≤ 40 := h40_
          have hR1_ : ∀ i, i < nv → RLn I1_ (165 + 4 * i) F (ln i) := hR1_
          refine x_istore_n (L' := [_, _, _]) C0_ hN (by decide) rfl dX12_evening_37 ?_
          refine x_iload_n C0_ rfl dX12_evening_38 ?_
          refine x_if_ge (tgt := 50) C0_ (by decide) dX12_evening_39 (fun _ => ?_) (fun hkk => absurd ((by decide)) hkk)
          refine x_iload_n C0_ rfl dX12_evening_50 ?_
          refine x_bipush (v := nI 40) C0_ rfl dX12_evening_51 ?_
          refine x_icmp_ne (tgt := 64) C0_ (by decide) dX12_evening_53 (fun g53_ => ?_) (fun g53_ => ?_)
          · have hlt : nv < 40 := by
              rcases Nat.lt_or_eq_of_le h40_ with h | h
              · exact h
              · exact absurd (by rw [h]) g53_
            refine x_aload_n C0_ rfl dX12_evening_64 ?_
            refine x_dup C0_ rfl dX12_evening_65 ?_
            refine x_getI C0_ wf_X12_162 (isModel.k0 hM) rfl dX12_evening_66 ?_
            refine x_topi a7_ ?_
            refine x_iconst (v := nI 1) C0_ rfl dX12_evening_69 ?_
            refine x_iadd C0_ dX12_evening_70 ?_
            refine x_topi (nI_add s.1 1) ?_
            refine x_putI C0_ wf_X12_162 (isModel.k0 hM) rfl dX12_evening_71 ?_
            have f2_ : RFr I1_ (u2 I1_ 135 7 (nI (s.1 + 1))) := RFr.st (Or.inl rfl)
            have A2_ := A1_.next z0_ zc
            rw [pNext_0 z0_] at A2_
            have A2_ : MAt (u2 I1_ 135 7 (nI (s.1 + 1))) c (s.1 + 1, 0) := A2_
            generalize u2 I1_ 135 7 (nI (s.1 + 1)) = I2_ at f2_ A2_ ⊢
            have fv2_ := fv.trans (FvR.of f2_)
            refine x_aload_n C0_ rfl dX12_evening_74 ?_
            refine x_iload_n C0_ rfl dX12_evening_75 ?_
            refine x_sipush (v := nI 165) C0_ rfl dX12_evening_76 ?_
            refine x_iconst (v := nI 4) C0_ rfl dX12_evening_79 ?_
            refine x_iload_n C0_ rfl dX12_evening_80 ?_
            refine x_imulN C0_ dX12_evening_81 ?_
            refine x_iaddN C0_ dX12_evening_82 ?_
            refine x_callV [_, _] C0_ hN rfl (xRf_of hR (by decide) (Nat.zero_le _) (Nat.zero_le _)) mv_X12_readEvening wm_X12_261 dX12_evening_83 (isModel.k0 hM) rfl rfl (Nat.le_of_ble_eq_true rfl) (c_readEvening3 hM (M0_.fvr fv2_) A2_ (NN.fvr fv2_) rfl (by omega) (fun I3_ r1_ r2_ r3_ A3_ z3_ => ?_))
            refine x_iinc (v := nI (nv + 1)) (L' := [_, _, _]) C0_ hN rfl (by decide) (nI_inc nv) rfl dX12_evening_86 ?_
            have eK := eLine_3 (F := F) (ev := nv) wn hlt z0_
            have f3_ : FvR I2_ I3_ := ⟨r1_, r2_, fun j h => r3_ j (Or.inl (by omega))⟩
            refine h89_ I3_ _ _ _ z0_ zc el (fv2_.trans f3_) A3_ (by rw [eK]) (Nat.le_trans (Nat.le_succ _) (Nat.le_trans (pTlk_mn _ _ _ (s.1 + 1, 0)) (pTlk_mn _ _ _ _))) (fun z => ⟨rfl, hlt, fun i hi => ?_⟩)
            by_cases e : i = nv
            · rw [e, mUp_same, eK]
              exact z3_ z
            · rw [mUp_off _ _ e]
              exact (hR1_ i (by omega)).congr (fun q hq => by rw [r3_ _ (Or.inl (by omega)), f2_.1 148 (by decide)])
          · refine x_aload_n C0_ rfl dX12_evening_56 ?_
            refine x_iconst (v := nI 5) C0_ rfl dX12_evening_57 ?_
            refine x_callV [_] C0_ hN rfl (xRf_of hR (by decide) (Nat.zero_le _) (Nat.zero_le _)) mv_X12_wrong wm_X12_171 dX12_evening_58 (isModel.k0 hM) rfl rfl (Nat.le_of_ble_eq_true rfl) (c_X12_wrong hM T1_ A1_ (by decide) (fun I2_ f2_ A2_ => ?_))
            refine x_goto (tgt := 89) C0_ (by decide) dX12_evening_61 ?_
            have hge : ¬ nv < 40 := by
              have := (nI_eq (b := 40) (by omega) (by decide)).mp g53_
              omega
            exact h89_ I2_ _ _ _ z0_ zc el (fv.trans (FvR.of f2_)) A2_ (by rw [eLine_full wn hge]; exact pSign_f (pRef_ne (by decide))) (pRef_mn _ _ _) (fun z => absurd z (pRef_ne (by decide)))
        have hS4_ : s.2 = 0 → s.1 < c → evLoop (tTok tp n) F j (evLine (tTok tp n) F (s, nv, ln)) = m → wHr (tTok tp n) 10 5 s = some 4 → XX G 0 0 37 [some (.ref 135), some (.int v1_), v2_] [.int (nI 4)] S R I1_ J0_ := by
          intro z0_ zc el wn
          obtain ⟨ev, h40_, hR1_⟩ := W1_ z0_
          have ev : v1_ = nI nv := ev
          subst ev
          have h40_ : nv ≤ 40 := h40_
          have hR1_ : ∀ i, i < nv → RLn I1_ (165 + 4 * i) F (ln i) := hR1_
          refine x_istore_n (L' := [_, _, _]) C0_ hN (by decide) rfl dX12_evening_37 ?_
          refine x_iload_n C0_ rfl dX12_evening_38 ?_
          refine x_if_ge (tgt := 50) C0_ (by decide) dX12_evening_39 (fun _ => ?_) (fun hkk => absurd ((by decide)) hkk)
          refine x_iload_n C0_ rfl dX12_evening_50 ?_
          refine x_bipush (v := nI 40) C0_ rfl dX12_evening_51 ?_
          refine x_icmp_ne (tgt := 64) C0_ (by decide) dX12_evening_53 (fun g53_ => ?_) (fun g53_ => ?_)
          · have hlt : nv < 40 := by
              rcases Nat.lt_or_eq_of_le h40_ with h | h
              · exact h
              · exact absurd (by rw [h]) g53_
            refine x_aload_n C0_ rfl dX12_evening_64 ?_
            refine x_dup C0_ rfl dX12_evening_65 ?_
            refine x_getI C0_ wf_X12_162 (isModel.k0 hM) rfl dX12_evening_66 ?_
            refine x_topi a7_ ?_
            refine x_iconst (v := nI 1) C0_ rfl dX12_evening_69 ?_
            refine x_iadd C0_ dX12_evening_70 ?_
            refine x_topi (nI_add s.1 1) ?_
            refine x_putI C0_ wf_X12_162 (isModel.k0 hM) rfl dX12_evening_71 ?_
            have f2_ : RFr I1_ (u2 I1_ 135 7 (nI (s.1 + 1))) := RFr.st (Or.inl rfl)
            have A2_ := A1_.next z0_ zc
            rw [pNext_0 z0_] at A2_
            have A2_ : MAt (u2 I1_ 135 7 (nI (s.1 + 1))) c (s.1 + 1, 0) := A2_
            generalize u2 I1_ 135 7 (nI (s.1 + 1)) = I2_ at f2_ A2_ ⊢
            have fv2_ := fv.trans (FvR.of f2_)
            refine x_aload_n C0_ rfl dX12_evening_74 ?_
            refine x_iload_n C0_ rfl dX12_evening_75 ?_
            refine x_sipush (v := nI 165) C0_ rfl dX12_evening_76 ?_
            refine x_iconst (v := nI 4) C0_ rfl dX12_evening_79 ?_
            refine x_iload_n C0_ rfl dX12_evening_80 ?_
            refine x_imulN C0_ dX12_evening_81 ?_
            refine x_iaddN C0_ dX12_evening_82 ?_
            refine x_callV [_, _] C0_ hN rfl (xRf_of hR (by decide) (Nat.zero_le _) (Nat.zero_le _)) mv_X12_readEvening wm_X12_261 dX12_evening_83 (isModel.k0 hM) rfl rfl (Nat.le_of_ble_eq_true rfl) (c_readEvening4 hM (M0_.fvr fv2_) A2_ (NN.fvr fv2_) rfl (by omega) (fun I3_ r1_ r2_ r3_ A3_ z3_ => ?_))
            refine x_iinc (v := nI (nv + 1)) (L' := [_, _, _]) C0_ hN rfl (by decide) (nI_inc nv) rfl dX12_evening_86 ?_
            have eK := eLine_4 (F := F) (ev := nv) wn hlt z0_
            have f3_ : FvR I2_ I3_ := ⟨r1_, r2_, fun j h => r3_ j (Or.inl (by omega))⟩
            refine h89_ I3_ _ _ _ z0_ zc el (fv2_.trans f3_) A3_ (by rw [eK]) (Nat.le_succ _) (fun z => ⟨rfl, hlt, fun i hi => ?_⟩)
            by_cases e : i = nv
            · rw [e, mUp_same, eK]
              exact z3_ z
            · rw [mUp_off _ _ e]
              exact (hR1_ i (by omega)).congr (fun q hq => by rw [r3_ _ (Or.inl (by omega)), f2_.1 148 (by decide)])
          · refine x_aload_n C0_ rfl dX12_evening_56 ?_
            refine x_iconst (v := nI 5) C0_ rfl dX12_evening_57 ?_
            refine x_callV [_] C0_ hN rfl (xRf_of hR (by decide) (Nat.zero_le _) (Nat.zero_le _)) mv_X12_wrong wm_X12_171 dX12_evening_58 (isModel.k0 hM) rfl rfl (Nat.le_of_ble_eq_true rfl) (c_X12_wrong hM T1_ A1_ (by decide) (fun I2_ f2_ A2_ => ?_))
            refine x_goto (tgt := 89) C0_ (by decide) dX12_evening_61 ?_
            have hge : ¬ nv < 40 := by
              have := (nI_eq (b := 40) (by omega) (by decide)).mp g53_
              omega
            exact h89_ I2_ _ _ _ z0_ zc el (fv.trans (FvR.of f2_)) A2_ (by rw [eLine_full wn hge]; exact pSign_f (pRef_ne (by decide))) (pRef_mn _ _ _) (fun z => absurd z (pRef_ne (by decide)))
        refine x_aload_n C0_ rfl dX12_evening_11 ?_
        refine x_getI C0_ wf_X12_165 (isModel.k0 hM) rfl dX12_evening_12 ?_
        refine x_topi a8_ ?_
        refine x_if_ne (tgt := 98) C0_ (by decide) dX12_evening_15 (fun g15_ => ?_) (fun g15_ => ?_)
        · rw [if_neg (fun z => g15_ (A1_.z.mpr z.1))] at el
          subst el
          exact h98_ I1_ v1_ v2_ fv A1_ W1_
        · refine x_aload_n C0_ rfl dX12_evening_18 ?_
          refine x_getR C0_ wf_X12_24 (isModel.k0 hM) rfl rfl (isModel.r4 hM) dX12_evening_19 ?_
          refine x_aload_n C0_ rfl dX12_evening_22 ?_
          refine x_getI C0_ wf_X12_162 (isModel.k0 hM) rfl dX12_evening_23 ?_
          refine x_topi a7_ ?_
          refine x_ialoadN C0_ (isModel.s4 hM) (by omega) (by omega) dX12_evening_26 ?_
          refine x_topi k1_ ?_
          refine x_if_eq (tgt := 98) C0_ (by decide) dX12_evening_27 (fun g27_ => ?_) (fun g27_ => ?_)
          · rw [if_neg (fun z => z.2 ((nI_eq (b := 0) (Nat.lt_trans k5_ (by decide)) (by decide)).mp g27_))] at el
            subst el
            exact h98_ I1_ v1_ v2_ fv A1_ W1_
          · have z0_ : s.2 = 0 := A1_.z.mp g15_
            have hK : ((tTok tp n) s.1).1 ≠ 0 := fun z => g27_ (by show nI ((tTok tp n) s.1).1 = 0; rw [z]; rfl)
            have zc : s.1 < c := kc hK
            rw [if_pos ⟨z0_, hK⟩] at el
            refine x_aload_n C0_ rfl dX12_evening_30 ?_
            refine x_bipush (v := nI 10) C0_ rfl dX12_evening_31 ?_
            refine x_iconst (v := nI 5) C0_ rfl dX12_evening_33 ?_
            refine x_callV [_, _] C0_ hN rfl (xRf_of hR (by decide) (Nat.zero_le _) (Nat.zero_le _)) mv_X12_wordHere wm_X12_187 dX12_evening_34 (isModel.k0 hM) rfl rfl (Nat.le_of_ble_eq_true rfl) (c_X12_wordHere hM T1_ A1_ (fr := 10) (m := 5) (by decide) ?_)
            cases wn : wHr (tTok tp n) 10 5 s with
            | none => exact hNo z0_ zc el wn
            | some k =>
              have hk := (wHr_is wn).1
              rcases (show k = 0 ∨ k = 1 ∨ k = 2 ∨ k = 3 ∨ k = 4 by omega) with rfl | rfl | rfl | rfl | rfl
              · exact hS0_ z0_ zc el wn
              · exact hS1_ z0_ zc el wn
              · exact hS2_ z0_ zc el wn
              · exact hS3_ z0_ zc el wn
              · exact hS4_ z0_ zc el wn
    exact h11_ 1000 I0_ ((0, 0), 0, fun _ => (0, 0, 0, 0)) _ _ FvR.rf A0_ (fun _ => ⟨rfl, Nat.zero_le _, fun i hi => absurd hi (Nat.not_lt_zero i)⟩) (fun _ => by show c ≤ 0 + 1000; omega) em
  refine x_aload_n C0_ rfl dX12_evening_0 ?_
  refine x_iconst (v := nI 0) C0_ rfl dX12_evening_1 ?_
  refine x_putI C0_ wf_X12_1 (isModel.k0 hM) rfl dX12_evening_2 ?_
  have T0_ : MTp (u2 I 135 0 (nI 0)) tp n := ⟨by rw [u2_off _ _ (by decide)]; exact T.1, T.2.1, fun i hi => by rw [u2_row _ _ _ (by decide)]; exact T.2.2 i hi⟩
  refine x_aload_n C0_ rfl dX12_evening_5 ?_
  refine x_callV [] C0_ hN rfl (xRf_of hR (by decide) (Nat.zero_le _) (Nat.zero_le _)) mv_X12_cutAll wm_X12_215 dX12_evening_6 (isModel.k0 hM) rfl rfl (Nat.le_of_ble_eq_true rfl) (c_X12_cutAll hM T0_ (fun I1_ J1_ c f1_ e2_ e3_ e7_ e8_ M1_ => ?_))
  refine x_iconst (v := nI 0) C0_ rfl dX12_evening_9 ?_
  refine x_istore_n (L' := [_, _, _]) C0_ hN (by decide) rfl dX12_evening_10 ?_
  refine hgo I1_ J1_ c (fun a h1_ h2_ h3_ h4_ => by rw [f1_.1 a h1_ h2_ h3_, u2_row _ _ _ h1_]) (fun k h1_ h2_ h3_ h4_ h5_ => by rw [f1_.2.1 k h2_ h3_ h4_ h5_, u2_off _ _ h1_]) (fun j _ => by rw [f1_.1 148 (by decide) (by decide) (by decide), u2_row _ _ _ (by decide)]) f1_.2.2 e2_ ⟨M1_, fun i hi => by rw [f1_.2.2 140 (by decide)]; exact hw i hi⟩ ⟨e7_, e8_, Nat.zero_le _, (by decide : 0 < 20000)⟩ ⟨?_, N9_.2.1.congr ?_ ?_, N9_.2.2⟩
  · rw [f1_.2.1 18 (by decide) (by decide) (by decide) (by decide), u2_off _ _ (by decide)]; exact N9_.1
  · rw [f1_.1 146 (by decide) (by decide) (by decide), u2_row _ _ _ (by decide)]
  · exact f1_.2.2 144 (by decide)
