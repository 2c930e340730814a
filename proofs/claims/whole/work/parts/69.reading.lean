/-! READING: what the tape is asked, faults; the class -/
abbrev pS : Type := Nat × Nat
def pRef (q : xTok) (c : Nat) (s : pS) : pS := if s.2 = 0 then (s.1, c + 16 * (q s.1).2.2) else s
def pNext (s : pS) : pS := if s.2 = 0 then (s.1 + 1, 0) else s
abbrev pIsW (q : xTok) (i : Nat) (s : pS) : Prop := s.2 = 0 ∧ (q s.1).1 = 1 ∧ (q s.1).2.1 = wCd i
abbrev pIsC (q : xTok) (c : Nat) (s : pS) : Prop := s.2 = 0 ∧ (q s.1).1 = 3 ∧ (q s.1).2.1 = c
def pNeed (q : xTok) (i : Nat) (s : pS) : pS := if pIsW q i s then pNext s else pRef q 1 s
def pSign (q : xTok) (c : Nat) (s : pS) : pS := if pIsC q c s then pNext s else pRef q 1 s
def pNum (q : xTok) (lo hi : Nat) (s : pS) : pS := if (q s.1).1 = 2 then (if (q s.1).2.1 < lo ∨ hi < (q s.1).2.1 then pRef q 4 s else pNext s) else pRef q 1 s
abbrev pNm (q : xTok) (k : Nat) : Prop := (q k).1 = 1 ∧ ∀ i, i < 22 → (q k).2.1 ≠ wCd i
theorem pRef_f {q : xTok} {c : Nat} {s : pS} (h : ¬ s.2 = 0) : pRef q c s = s := if_neg h
theorem pNext_f {s : pS} (h : ¬ s.2 = 0) : pNext s = s := if_neg h
theorem pRef_0 {q : xTok} {c : Nat} {s : pS} (h : s.2 = 0) : pRef q c s = (s.1, c + 16 * (q s.1).2.2) := if_pos h
theorem pNext_0 {s : pS} (h : s.2 = 0) : pNext s = (s.1 + 1, 0) := if_pos h
theorem pRef_ne {q : xTok} {c : Nat} {s : pS} (hc : 1 ≤ c) : ¬ (pRef q c s).2 = 0 := by
  by_cases h : s.2 = 0
  · rw [pRef_0 h]
    show ¬ c + 16 * (q s.1).2.2 = 0
    omega
  · rw [pRef_f h]; exact h
theorem pNext_ref {q : xTok} {c : Nat} {s : pS} (hc : 1 ≤ c) : pNext (pRef q c s) = pRef q c s := pNext_f (pRef_ne hc)
theorem pRef_ref {q : xTok} {c d : Nat} {s : pS} (hc : 1 ≤ c) : pRef q d (pRef q c s) = pRef q c s := pRef_f (pRef_ne hc)
theorem pNum_f {q : xTok} {lo hi : Nat} {s : pS} (h : ¬ s.2 = 0) : pNum q lo hi s = s := by
  unfold pNum
  rw [pRef_f h, pRef_f h, pNext_f h]
  split
  · split <;> rfl
  · rfl
theorem pNeed_f {q : xTok} {i : Nat} {s : pS} (h : ¬ s.2 = 0) : pNeed q i s = s := by
  unfold pNeed
  rw [pRef_f h, pNext_f h]
  split <;> rfl
theorem pSign_f {q : xTok} {c : Nat} {s : pS} (h : ¬ s.2 = 0) : pSign q c s = s := by
  unfold pSign
  rw [pRef_f h, pNext_f h]
  split <;> rfl
theorem kC_lt (k : Nat) : kC k < 5 := by unfold kC; repeat' split
                                         all_goals omega
theorem kC_is (k : Nat) : (kC k = 2 ↔ k = 1) ∧ (kC k = 3 ↔ k = 2) ∧ (kC k = 4 ↔ k = 3) ∧ (kC k = 0 ↔ k = 0) := by
  unfold kC
  by_cases h0 : k = 0
  · subst h0; decide
  · rw [if_neg h0]
    by_cases h1 : k = 1
    · subst h1; decide
    · rw [if_neg h1]
      by_cases h2 : k = 2
      · subst h2; decide
      · rw [if_neg h2]
        by_cases h3 : k = 3
        · subst h3; decide
        · rw [if_neg h3]; omega
theorem TAt.ref {R : xTR} {I : xTI} {J : xTJ} {tp : Nat → Nat} {n c : Nat} {s : pS} (hn : n ≤ 1000) (h : TAt R I J tp n s) (h0 : s.2 = 0) (hc : 1 ≤ c) (hc5 : c ≤ 5) : TAt R (u2 I 1 8 (nI (c + 16 * tP tp n s.1))) J tp n (pRef (tTok tp n) c s) := by
  have hp : tP tp n s.1 ≤ n := tP_le
  have e : pRef (tTok tp n) c s = (s.1, c + 16 * tP tp n s.1) := pRef_0 h0
  rw [e]
  refine ⟨u2_same _ _ _ _, ?_, h.2.2.1, fun z => ?_⟩
  · show c + 16 * tP tp n s.1 < 20000
    omega
  · have z9 : c + 16 * tP tp n s.1 = 0 := z
    omega
theorem TAt.val {R : xTR} {I : xTI} {J : xTJ} {tp : Nat → Nat} {n : Nat} {s : pS} (T : CTp I tp n) : ((tTok tp n s.1).1 = 1 → (tTok tp n s.1).2.1 < 2 ^ 40) ∧ ((tTok tp n s.1).1 = 2 → (tTok tp n s.1).2.1 < 10000) ∧ ((tTok tp n s.1).1 = 3 → (tTok tp n s.1).2.1 < 128) := tVal_lt (fun i hi => (T.2.2 i hi).2)
theorem c_X9_refuse {S : xTS} {R : xTR} {I : xTI} {J : xTJ} {post : xPost} (hS : fixd S R) {tp : Nat → Nat} {n : Nat} (T : CTp I tp n) {s : pS} (A : TAt R I J tp n s) {c : Nat} (hc : 1 ≤ c) (hc5 : c ≤ 5) (hp : ∀ I', TFr R I J R I' J → TAt R I' J tp n (pRef (tTok tp n) c s) → post none S R I' J) : xSpec 1 yX9_refuse cX9_refuse 2 none 0 0 [.ref 1, .int (nI c)] S R I J post := by
  refine xSpec_of mt_X9_refuse (Nat.le_of_ble_eq_true rfl) (fun G C0 hN hR E hI hZ => ?_)
  change XX G 0 0 0 [some (.ref 1), some (.int (nI c))] [] S R I J
  have s1 := hS.sTape
  have s2 := hS.sSigns
  have r0 := hS.rSigns
  obtain ⟨t1, t2, t3⟩ := id T
  have a8 := A.1
  have hs2 := A.2.1
  refine x_aload_n C0 rfl dX9_refuse_0 ?_
  refine x_getI C0 wf_X9_24 (by assumption) rfl dX9_refuse_1 ?_
  refine x_topi a8 ?_
  refine x_if_ne (tgt := 20) C0 (by decide) dX9_refuse_4 (fun g4 => ?_) (fun g4 => ?_)
  · refine x_vret C0 E (by decide) (by decide) dX9_refuse_20 ?_
    have h0 : ¬ s.2 = 0 := fun z => g4 (by rw [z]; rfl)
    exact hp I TFr.rf (by rw [pRef_f h0]; exact A)
  · have h0 : s.2 = 0 := (nI_eq (b := 0) (by omega) (by decide)).mp g4
    have a3 := (A.2.2.2 h0).2.1
    refine x_aload_n C0 rfl dX9_refuse_7 ?_
    refine x_iload_n C0 rfl dX9_refuse_8 ?_
    refine x_bipush (v := nI 16) C0 rfl dX9_refuse_9 ?_
    refine x_aload_n C0 rfl dX9_refuse_11 ?_
    refine x_getI C0 wf_X9_30 (by assumption) rfl dX9_refuse_12 ?_
    refine x_topi a3 ?_
    refine x_imul C0 dX9_refuse_15 ?_
    refine x_topi (nI_mul 16 _) ?_
    refine x_iadd C0 dX9_refuse_16 ?_
    refine x_topi (nI_add c _) ?_
    refine x_putI C0 wf_X9_24 (by assumption) rfl dX9_refuse_17 ?_
    refine x_vret C0 E (by decide) (by decide) dX9_refuse_20 ?_
    exact hp _ (TFr.st (by decide)) (A.ref t2 h0 hc hc5)
theorem c_stepA {S : xTS} {R : xTR} {I : xTI} {J : xTJ} {post : xPost} (hS : fixd S R) {tp : Nat → Nat} {n : Nat} (T : CTp I tp n) {s : pS} (A : TAt R I J tp n s) (hp : ∀ R' I' J', TFr R I J R' I' J' → TAt R' I' J' tp n (pNext s) → post none S R' I' J') : xSpec 5 yX9_step cX9_step 2 none 0 0 [.ref 1] S R I J post := by
  by_cases h0 : s.2 = 0
  · refine c_X9_step hS T (i := s.1 + 1) (by rw [A.1, h0]) (A.2.2.2 h0).1 (fun R1 I1 J1 f1 A1 => hp R1 I1 J1 f1 ?_)
    rw [pNext_0 h0]
    exact A1
  refine xSpec_of mt_X9_step (Nat.le_of_ble_eq_true rfl) (fun G C0 hN hR E hI hZ => ?_)
  change XX G 0 0 0 [some (.ref 1), none] [] S R I J
  have s1 := hS.sTape
  have s2 := hS.sSigns
  have r0 := hS.rSigns
  obtain ⟨t1, t2, t3⟩ := id T
  have a8 := A.1
  have hs2 := A.2.1
  refine x_aload_n C0 rfl dX9_step_0 ?_
  refine x_getI C0 wf_X9_24 (by assumption) rfl dX9_step_1 ?_
  refine x_topi a8 ?_
  refine x_if_eq (tgt := 8) C0 (by decide) dX9_step_4 (fun hkk => absurd hkk ((fun z => h0 ((nI_eq (b := 0) (by omega) (by decide)).mp z)))) (fun _ => ?_)
  refine x_vret C0 E (by decide) (by decide) dX9_step_7 ?_
  exact hp R I J TFr.rf (by rw [pNext_f h0]; exact A)
theorem c_X9_begin {S : xTS} {R : xTR} {I : xTI} {J : xTJ} {post : xPost} (hS : fixd S R) {tp : Nat → Nat} {n : Nat} (T : CTp I tp n) (ro : wOr (R 1 7)) (hp : ∀ R' I' J', TFr R I J R' I' J' → TAt R' I' J' tp n (0, 0) → post none S R' I' J') : xSpec 6 yX9_begin cX9_begin 1 none 0 0 [.ref 1] S R I J post := by
  refine xSpec_of mt_X9_begin (Nat.le_of_ble_eq_true rfl) (fun G C0 hN hR E hI hZ => ?_)
  change XX G 0 0 0 [some (.ref 1)] [] S R I J
  have s1 := hS.sTape
  have s2 := hS.sSigns
  have r0 := hS.rSigns
  obtain ⟨t1, t2, t3⟩ := id T
  refine x_aload_n C0 rfl dX9_begin_0 ?_
  refine x_iconst (v := nI 0) C0 rfl dX9_begin_1 ?_
  refine x_putI C0 wf_X9_21 (by assumption) rfl dX9_begin_2 ?_
  refine x_aload_n C0 rfl dX9_begin_5 ?_
  refine x_iconst (v := nI 0) C0 rfl dX9_begin_6 ?_
  refine x_putI C0 wf_X9_24 (by assumption) rfl dX9_begin_7 ?_
  have f1 : TFr R I J R (u2 (u2 I 1 2 (nI 0)) 1 8 (nI 0)) J := (TFr.st (by decide)).trans (TFr.st (by decide))
  refine x_aload_n C0 rfl dX9_begin_10 ?_
  refine x_callV [] C0 hN rfl (xRf_of hR (by decide) (Nat.zero_le _) (Nat.zero_le _)) mv_X9_step wm_X9_27 dX9_begin_11 (by assumption) rfl rfl (Nat.le_of_ble_eq_true rfl) (c_X9_step hS (T.tfr f1) (i := 0) (u2_same _ _ _ _) (by rw [u2_off _ _ (by decide), u2_same]; rfl) (fun R1 I1 J1 f2 A1 => ?_))
  refine x_vret C0 E (by decide) (by decide) dX9_begin_14 ?_
  exact hp R1 I1 J1 (f1.trans f2) A1
theorem c_X9_goesOn {S : xTS} {R : xTR} {I : xTI} {J : xTJ} {post : xPost} (hS : fixd S R) {tp : Nat → Nat} {n : Nat} (T : CTp I tp n) {s : pS} (A : TAt R I J tp n s) (h1 : (s.2 = 0 ∧ ((tTok tp n) s.1).1 ≠ 0) → post (some (.int 1)) S R I J) (h0 : ¬ (s.2 = 0 ∧ ((tTok tp n) s.1).1 ≠ 0) → post (some (.int 0)) S R I J) : xSpec 1 yX9_goesOn cX9_goesOn 1 (some .boolean) 0 0 [.ref 1] S R I J post := by
  refine xSpec_of mt_X9_goesOn (Nat.le_of_ble_eq_true rfl) (fun G C0 hN hR E hI hZ => ?_)
  change XX G 0 0 0 [some (.ref 1)] [] S R I J
  have s1 := hS.sTape
  have s2 := hS.sSigns
  have r0 := hS.rSigns
  obtain ⟨t1, t2, t3⟩ := id T
  have a8 := A.1
  have hs2 := A.2.1
  have hv := TAt.val (R := R) (J := J) (s := s) T
  have hk5 := kC_lt (tTok tp n s.1).1
  have kk := kC_is (tTok tp n s.1).1
  refine x_aload_n C0 rfl dX9_goesOn_0 ?_
  refine x_getI C0 wf_X9_24 (by assumption) rfl dX9_goesOn_1 ?_
  refine x_topi a8 ?_
  refine x_if_ne (tgt := 18) C0 (by decide) dX9_goesOn_4 (fun g4 => ?_) (fun g4 => ?_)
  · refine x_iconst (v := 0) C0 rfl dX9_goesOn_18 ?_
    refine x_zret C0 E (by decide) (by decide) rfl dX9_goesOn_19 ?_
    exact h0 (fun z => g4 (by rw [z.1]; rfl))
  · have z0 : s.2 = 0 := (nI_eq (b := 0) (by omega) (by decide)).mp g4
    obtain ⟨a2, a3, a4, a6, a5⟩ := A.2.2.2 z0
    refine x_aload_n C0 rfl dX9_goesOn_7 ?_
    refine x_getI C0 wf_X9_41 (by assumption) rfl dX9_goesOn_8 ?_
    refine x_topi a4 ?_
    refine x_if_eq (tgt := 18) C0 (by decide) dX9_goesOn_11 (fun g11 => ?_) (fun g11 => ?_)
    · refine x_iconst (v := 0) C0 rfl dX9_goesOn_18 ?_
      refine x_zret C0 E (by decide) (by decide) rfl dX9_goesOn_19 ?_
      exact h0 (fun z => z.2 (kk.2.2.2.mp ((nI_eq (b := 0) (by omega) (by decide)).mp g11)))
    · refine x_iconst (v := 1) C0 rfl dX9_goesOn_14 ?_
      refine x_goto (tgt := 19) C0 (by decide) dX9_goesOn_15 ?_
      refine x_zret C0 E (by decide) (by decide) rfl dX9_goesOn_19 ?_
      exact h1 ⟨z0, fun z => g11 (by rw [kk.2.2.2.mpr z]; rfl)⟩
theorem c_X9_isSign {S : xTS} {R : xTR} {I : xTI} {J : xTJ} {post : xPost} (hS : fixd S R) {tp : Nat → Nat} {n : Nat} (T : CTp I tp n) {s : pS} (A : TAt R I J tp n s) {c : Nat} (hc : c < 128) (h1 : (pIsC (tTok tp n) c s) → post (some (.int 1)) S R I J) (h0 : ¬ (pIsC (tTok tp n) c s) → post (some (.int 0)) S R I J) : xSpec 1 yX9_isSign cX9_isSign 2 (some .boolean) 0 0 [.ref 1, .int (nI c)] S R I J post := by
  refine xSpec_of mt_X9_isSign (Nat.le_of_ble_eq_true rfl) (fun G C0 hN hR E hI hZ => ?_)
  change XX G 0 0 0 [some (.ref 1), some (.int (nI c))] [] S R I J
  have s1 := hS.sTape
  have s2 := hS.sSigns
  have r0 := hS.rSigns
  obtain ⟨t1, t2, t3⟩ := id T
  have a8 := A.1
  have hs2 := A.2.1
  have hv := TAt.val (R := R) (J := J) (s := s) T
  have hk5 := kC_lt (tTok tp n s.1).1
  have kk := kC_is (tTok tp n s.1).1
  refine x_aload_n C0 rfl dX9_isSign_0 ?_
  refine x_getI C0 wf_X9_24 (by assumption) rfl dX9_isSign_1 ?_
  refine x_topi a8 ?_
  refine x_if_ne (tgt := 27) C0 (by decide) dX9_isSign_4 (fun g4 => ?_) (fun g4 => ?_)
  · refine x_iconst (v := 0) C0 rfl dX9_isSign_27 ?_
    refine x_zret C0 E (by decide) (by decide) rfl dX9_isSign_28 ?_
    exact h0 (fun z => g4 (by rw [z.1]; rfl))
  · have z0 : s.2 = 0 := (nI_eq (b := 0) (by omega) (by decide)).mp g4
    obtain ⟨a2, a3, a4, a6, a5⟩ := A.2.2.2 z0
    refine x_aload_n C0 rfl dX9_isSign_7 ?_
    refine x_getI C0 wf_X9_41 (by assumption) rfl dX9_isSign_8 ?_
    refine x_topi a4 ?_
    refine x_iconst (v := nI 4) C0 rfl dX9_isSign_11 ?_
    refine x_icmp_ne (tgt := 27) C0 (by decide) dX9_isSign_12 (fun g12 => ?_) (fun g12 => ?_)
    · refine x_iconst (v := 0) C0 rfl dX9_isSign_27 ?_
      refine x_zret C0 E (by decide) (by decide) rfl dX9_isSign_28 ?_
      exact h0 (fun z => g12 (by rw [kk.2.2.1.mpr z.2.1]))
    · have k3 := kk.2.2.1.mp ((nI_eq (by omega) (by omega)).mp g12)
      refine x_aload_n C0 rfl dX9_isSign_15 ?_
      refine x_getI C0 wf_X9_65 (by assumption) rfl dX9_isSign_16 ?_
      refine x_topi (a5 (Or.inr k3)) ?_
      refine x_iload_n C0 rfl dX9_isSign_19 ?_
      refine x_icmp_ne (tgt := 27) C0 (by decide) dX9_isSign_20 (fun g20 => ?_) (fun g20 => ?_)
      · refine x_iconst (v := 0) C0 rfl dX9_isSign_27 ?_
        refine x_zret C0 E (by decide) (by decide) rfl dX9_isSign_28 ?_
        exact h0 (fun z => g20 (by rw [z.2.2]))
      · refine x_iconst (v := 1) C0 rfl dX9_isSign_23 ?_
        refine x_goto (tgt := 28) C0 (by decide) dX9_isSign_24 ?_
        refine x_zret C0 E (by decide) (by decide) rfl dX9_isSign_28 ?_
        exact h1 ⟨z0, k3, (nI_eq (by have := hv.2.2 k3; omega) (by omega)).mp g20⟩
theorem c_X9_isWord {S : xTS} {R : xTR} {I : xTI} {J : xTJ} {post : xPost} (hS : fixd S R) {tp : Nat → Nat} {n : Nat} (T : CTp I tp n) {s : pS} (A : TAt R I J tp n s) {i : Nat} (hi : i < 26) (h1 : (pIsW (tTok tp n) i s) → post (some (.int 1)) S R I J) (h0 : ¬ (pIsW (tTok tp n) i s) → post (some (.int 0)) S R I J) : xSpec 1 yX9_isWord cX9_isWord 2 (some .boolean) 0 0 [.ref 1, .ref (10000 + i)] S R I J post := by
  refine xSpec_of mt_X9_isWord (Nat.le_of_ble_eq_true rfl) (fun G C0 hN hR E hI hZ => ?_)
  change XX G 0 0 0 [some (.ref 1), some (.ref (10000 + i))] [] S R I J
  have s1 := hS.sTape
  have s2 := hS.sSigns
  have r0 := hS.rSigns
  obtain ⟨t1, t2, t3⟩ := id T
  have a8 := A.1
  have hs2 := A.2.1
  have hv := TAt.val (R := R) (J := J) (s := s) T
  have hk5 := kC_lt (tTok tp n s.1).1
  have kk := kC_is (tTok tp n s.1).1
  refine x_aload_n C0 rfl dX9_isWord_0 ?_
  refine x_getI C0 wf_X9_24 (by assumption) rfl dX9_isWord_1 ?_
  refine x_topi a8 ?_
  refine x_if_ne (tgt := 27) C0 (by decide) dX9_isWord_4 (fun g4 => ?_) (fun g4 => ?_)
  · refine x_iconst (v := 0) C0 rfl dX9_isWord_27 ?_
    refine x_zret C0 E (by decide) (by decide) rfl dX9_isWord_28 ?_
    exact h0 (fun z => g4 (by rw [z.1]; rfl))
  · have z0 : s.2 = 0 := (nI_eq (b := 0) (by omega) (by decide)).mp g4
    obtain ⟨a2, a3, a4, a6, a5⟩ := A.2.2.2 z0
    refine x_aload_n C0 rfl dX9_isWord_7 ?_
    refine x_getI C0 wf_X9_41 (by assumption) rfl dX9_isWord_8 ?_
    refine x_topi a4 ?_
    refine x_iconst (v := nI 2) C0 rfl dX9_isWord_11 ?_
    refine x_icmp_ne (tgt := 27) C0 (by decide) dX9_isWord_12 (fun g12 => ?_) (fun g12 => ?_)
    · refine x_iconst (v := 0) C0 rfl dX9_isWord_27 ?_
      refine x_zret C0 E (by decide) (by decide) rfl dX9_isWord_28 ?_
      exact h0 (fun z => g12 (by rw [kk.1.mpr z.2.1]))
    · have k3 := kk.1.mp ((nI_eq (by omega) (by omega)).mp g12)
      have k9 := hv.1 k3
      obtain ⟨a61, a62⟩ := a6 k3
      refine x_aload_n C0 rfl dX9_isWord_15 ?_
      refine x_getQ C0 wf_X9_37 (by assumption) rfl rfl dX9_isWord_16 ?_
      refine x_aload_n C0 rfl dX9_isWord_19 ?_
      refine x_acmpW (tgt := 27) C0 A.2.2.1 hi (by decide) dX9_isWord_20 (fun g20 => ?_) (fun g20 => ?_)
      · refine x_iconst (v := 0) C0 rfl dX9_isWord_27 ?_
        refine x_zret C0 E (by decide) (by decide) rfl dX9_isWord_28 ?_
        exact h0 (fun z => g20 (by rw [a62, wRef, (wFind_word k9 hi).mpr z.2.2]; rfl))
      · refine x_iconst (v := 1) C0 rfl dX9_isWord_23 ?_
        refine x_goto (tgt := 28) C0 (by decide) dX9_isWord_24 ?_
        refine x_zret C0 E (by decide) (by decide) rfl dX9_isWord_28 ?_
        refine h1 ⟨z0, k3, (wFind_word k9 hi).mp ?_⟩
        rw [a62, wRef] at g20
        cases e : wFind (Int64.ofNat (tTok tp n s.1).2.1) 26 with
        | none => rw [e] at g20; cases g20
        | some j =>
          rw [e] at g20
          have g21 : 10000 + j = 10000 + i := Option.some.inj g20
          rw [show j = i by omega]
theorem kept_lt : ∀ i, i < 26 → (xWkept i = 0 ↔ 22 ≤ i) := by decide +kernel
theorem wRef_cases {v : Nat} (hv : v < 2 ^ 40) : (wRef v = none ∧ ∀ i, i < 26 → v ≠ wCd i) ∨ ∃ j, j < 26 ∧ wRef v = some (10000 + j) ∧ v = wCd j := by
  cases e : wFind (Int64.ofNat v) 26 with
  | none => exact Or.inl ⟨by rw [wRef, e]; rfl, fun i hi z => by rw [(wFind_word hv hi).mpr z] at e; cases e⟩
  | some j =>
    have hj := (wFind_some 26 e).1
    exact Or.inr ⟨j, hj, by rw [wRef, e]; rfl, (wFind_word hv hj).mp e⟩
theorem c_X9_isName {S : xTS} {R : xTR} {I : xTI} {J : xTJ} {post : xPost} (hS : fixd S R) {tp : Nat → Nat} {n : Nat} (T : CTp I tp n) {s : pS} (A : TAt R I J tp n s) (h1 : (s.2 = 0 → pNm (tTok tp n) s.1) → post (some (.int 1)) S R I J) (h0 : (s.2 = 0 → ¬ pNm (tTok tp n) s.1) → post (some (.int 0)) S R I J) : xSpec 1 yX9_isName cX9_isName 1 (some .boolean) 0 0 [.ref 1] S R I J post := by
  refine xSpec_of mt_X9_isName (Nat.le_of_ble_eq_true rfl) (fun G C0 hN hR E hI hZ => ?_)
  change XX G 0 0 0 [some (.ref 1)] [] S R I J
  have s1 := hS.sTape
  have s2 := hS.sSigns
  have r0 := hS.rSigns
  obtain ⟨t1, t2, t3⟩ := id T
  have a8 := A.1
  have hs2 := A.2.1
  have hv := TAt.val (R := R) (J := J) (s := s) T
  have hk5 := kC_lt (tTok tp n s.1).1
  have kk := kC_is (tTok tp n s.1).1
  refine x_aload_n C0 rfl dX9_isName_0 ?_
  refine x_getI C0 wf_X9_41 (by assumption) rfl dX9_isName_1 ?_
  refine x_iconst (v := nI 2) C0 rfl dX9_isName_4 ?_
  refine x_icmp_ne (tgt := 29) C0 (by decide) dX9_isName_5 (fun g5 => ?_) (fun g5 => ?_)
  · refine x_iconst (v := 0) C0 rfl dX9_isName_29 ?_
    refine x_zret C0 E (by decide) (by decide) rfl dX9_isName_30 ?_
    exact h0 (fun z0 z => g5 (by rw [(A.2.2.2 z0).2.2.1, kk.1.mpr z.1]))
  · have hk1 : s.2 = 0 → (tTok tp n s.1).1 = 1 := fun z0 => by
      have a4 := (A.2.2.2 z0).2.2.1
      rw [a4] at g5
      exact kk.1.mp ((nI_eq (by omega) (by omega)).mp g5)
    have hk7 : s.2 = 0 → R 1 7 = wRef (tTok tp n s.1).2.1 := fun z0 => ((A.2.2.2 z0).2.2.2.1 (hk1 z0)).2
    have hc : s.2 = 0 → (wRef (tTok tp n s.1).2.1 = none ∧ ∀ i, i < 26 → (tTok tp n s.1).2.1 ≠ wCd i) ∨ ∃ j, j < 26 ∧ wRef (tTok tp n s.1).2.1 = some (10000 + j) ∧ (tTok tp n s.1).2.1 = wCd j := fun z0 => wRef_cases (hv.1 (hk1 z0))
    rcases A.2.2.1 with e7 | ⟨j, hj, e7⟩
    · refine x_aload_n C0 rfl dX9_isName_8 ?_
      refine x_getQ C0 wf_X9_37 (by assumption) rfl rfl dX9_isName_9 ?_
      rw [e7]
      refine x_ifnullN (tgt := 25) C0 (by decide) dX9_isName_12 ?_
      refine x_iconst (v := 1) C0 rfl dX9_isName_25 ?_
      refine x_goto (tgt := 30) C0 (by decide) dX9_isName_26 ?_
      refine x_zret C0 E (by decide) (by decide) rfl dX9_isName_30 ?_
      refine h1 (fun z0 => ⟨hk1 z0, fun i hi => ?_⟩)
      rcases hc z0 with ⟨c1, c2⟩ | ⟨j, hj, c1, c2⟩
      · exact c2 i (by omega)
      · rw [← hk7 z0, e7] at c1; cases c1
    · refine x_aload_n C0 rfl dX9_isName_8 ?_
      refine x_getR C0 wf_X9_37 (by assumption) rfl rfl e7 dX9_isName_9 ?_
      refine x_ifnull C0 dX9_isName_12 ?_
      refine x_aload_n C0 rfl dX9_isName_15 ?_
      refine x_getR C0 wf_X9_37 (by assumption) rfl rfl e7 dX9_isName_16 ?_
      refine x_wkept C0 hj ww_kept dX9_isName_19 ?_
      refine x_if_ne (tgt := 29) C0 (by decide) dX9_isName_22 (fun g22 => ?_) (fun g22 => ?_)
      · refine x_iconst (v := 0) C0 rfl dX9_isName_29 ?_
        refine x_zret C0 E (by decide) (by decide) rfl dX9_isName_30 ?_
        refine h0 (fun z0 z => ?_)
        rcases hc z0 with ⟨c1, c2⟩ | ⟨j2, hj2, c1, c2⟩
        · rw [← hk7 z0, e7] at c1; cases c1
        · rw [← hk7 z0, e7] at c1
          have e9 : 10000 + j = 10000 + j2 := Option.some.inj c1
          have e8 : j = j2 := by omega
          subst e8
          exact z.2 j (Nat.lt_of_not_le (fun y => g22 ((kept_lt j hj).mpr y))) c2
      · refine x_iconst (v := 1) C0 rfl dX9_isName_25 ?_
        refine x_goto (tgt := 30) C0 (by decide) dX9_isName_26 ?_
        refine x_zret C0 E (by decide) (by decide) rfl dX9_isName_30 ?_
        refine h1 (fun z0 => ⟨hk1 z0, fun i hi z => ?_⟩)
        rcases hc z0 with ⟨c1, c2⟩ | ⟨j2, hj2, c1, c2⟩
        · exact c2 i (by omega) z
        · rw [← hk7 z0, e7] at c1
          have e9 : 10000 + j = 10000 + j2 := Option.some.inj c1
          have e8 : j = j2 := by omega
          subst e8
          have := (kept_lt j hj).mp g22
          have := wCd_inj j hj i (by omega) (c2.symm.trans z)
          omega
theorem c_X9_need {S : xTS} {R : xTR} {I : xTI} {J : xTJ} {post : xPost} (hS : fixd S R) {tp : Nat → Nat} {n : Nat} (T : CTp I tp n) {s : pS} (A : TAt R I J tp n s) {i : Nat} (hi : i < 26) (hp : ∀ R' I' J', TFr R I J R' I' J' → TAt R' I' J' tp n (pNeed (tTok tp n) i s) → post none S R' I' J') : xSpec 6 yX9_need cX9_need 2 none 0 0 [.ref 1, .ref (10000 + i)] S R I J post := by
  refine xSpec_of mt_X9_need (Nat.le_of_ble_eq_true rfl) (fun G C0 hN hR E hI hZ => ?_)
  change XX G 0 0 0 [some (.ref 1), some (.ref (10000 + i))] [] S R I J
  have s1 := hS.sTape
  have s2 := hS.sSigns
  have r0 := hS.rSigns
  obtain ⟨t1, t2, t3⟩ := id T
  refine x_aload_n C0 rfl dX9_need_0 ?_
  refine x_aload_n C0 rfl dX9_need_1 ?_
  refine x_callV [_] C0 hN rfl (xRf_of hR (by decide) (Nat.zero_le _) (Nat.zero_le _)) mv_X9_isWord wm_X9_90 dX9_need_2 (by assumption) rfl rfl (Nat.le_of_ble_eq_true rfl) (c_X9_isWord hS T A hi (fun g2 => ?_) (fun g2 => ?_))
  · refine x_if_ne (tgt := 13) C0 (by decide) dX9_need_5 (fun _ => ?_) (fun hkk => absurd hkk (by decide))
    refine x_aload_n C0 rfl dX9_need_13 ?_
    refine x_callV [] C0 hN rfl (xRf_of hR (by decide) (Nat.zero_le _) (Nat.zero_le _)) mv_X9_step wm_X9_27 dX9_need_14 (by assumption) rfl rfl (Nat.le_of_ble_eq_true rfl) (c_stepA hS T A (fun R2 I2 J2 f2 A2 => ?_))
    refine x_vret C0 E (by decide) (by decide) dX9_need_17 ?_
    refine hp R2 I2 J2 f2 ?_
    unfold pNeed
    rw [if_pos g2]
    exact A2
  · refine x_if_ne (tgt := 13) C0 (by decide) dX9_need_5 (fun hkk => absurd (by decide) hkk) (fun _ => ?_)
    refine x_aload_n C0 rfl dX9_need_8 ?_
    refine x_iconst (v := nI 1) C0 rfl dX9_need_9 ?_
    refine x_callV [_] C0 hN rfl (xRf_of hR (by decide) (Nat.zero_le _) (Nat.zero_le _)) mv_X9_refuse wm_X9_94 dX9_need_10 (by assumption) rfl rfl (Nat.le_of_ble_eq_true rfl) (c_X9_refuse hS T A (by decide) (by decide) (fun I1 f1 A1 => ?_))
    refine x_aload_n C0 rfl dX9_need_13 ?_
    refine x_callV [] C0 hN rfl (xRf_of hR (by decide) (Nat.zero_le _) (Nat.zero_le _)) mv_X9_step wm_X9_27 dX9_need_14 (by assumption) rfl rfl (Nat.le_of_ble_eq_true rfl) (c_stepA (hS.tfr f1) (T.tfr f1) A1 (fun R2 I2 J2 f2 A2 => ?_))
    refine x_vret C0 E (by decide) (by decide) dX9_need_17 ?_
    refine hp R2 I2 J2 (f1.trans f2) ?_
    unfold pNeed
    rw [if_neg g2, ← pNext_ref (by decide)]
    exact A2
theorem c_X9_needSign {S : xTS} {R : xTR} {I : xTI} {J : xTJ} {post : xPost} (hS : fixd S R) {tp : Nat → Nat} {n : Nat} (T : CTp I tp n) {s : pS} (A : TAt R I J tp n s) {c : Nat} (hc : c < 128) (hp : ∀ R' I' J', TFr R I J R' I' J' → TAt R' I' J' tp n (pSign (tTok tp n) c s) → post none S R' I' J') : xSpec 6 yX9_needSign cX9_needSign 2 none 0 0 [.ref 1, .int (nI c)] S R I J post := by
  refine xSpec_of mt_X9_needSign (Nat.le_of_ble_eq_true rfl) (fun G C0 hN hR E hI hZ => ?_)
  change XX G 0 0 0 [some (.ref 1), some (.int (nI c))] [] S R I J
  have s1 := hS.sTape
  have s2 := hS.sSigns
  have r0 := hS.rSigns
  obtain ⟨t1, t2, t3⟩ := id T
  refine x_aload_n C0 rfl dX9_needSign_0 ?_
  refine x_iload_n C0 rfl dX9_needSign_1 ?_
  refine x_callV [_] C0 hN rfl (xRf_of hR (by decide) (Nat.zero_le _) (Nat.zero_le _)) mv_X9_isSign wm_X9_98 dX9_needSign_2 (by assumption) rfl rfl (Nat.le_of_ble_eq_true rfl) (c_X9_isSign hS T A hc (fun g2 => ?_) (fun g2 => ?_))
  · refine x_if_ne (tgt := 13) C0 (by decide) dX9_needSign_5 (fun _ => ?_) (fun hkk => absurd hkk (by decide))
    refine x_aload_n C0 rfl dX9_needSign_13 ?_
    refine x_callV [] C0 hN rfl (xRf_of hR (by decide) (Nat.zero_le _) (Nat.zero_le _)) mv_X9_step wm_X9_27 dX9_needSign_14 (by assumption) rfl rfl (Nat.le_of_ble_eq_true rfl) (c_stepA hS T A (fun R2 I2 J2 f2 A2 => ?_))
    refine x_vret C0 E (by decide) (by decide) dX9_needSign_17 ?_
    refine hp R2 I2 J2 f2 ?_
    unfold pSign
    rw [if_pos g2]
    exact A2
  · refine x_if_ne (tgt := 13) C0 (by decide) dX9_needSign_5 (fun hkk => absurd (by decide) hkk) (fun _ => ?_)
    refine x_aload_n C0 rfl dX9_needSign_8 ?_
    refine x_iconst (v := nI 1) C0 rfl dX9_needSign_9 ?_
    refine x_callV [_] C0 hN rfl (xRf_of hR (by decide) (Nat.zero_le _) (Nat.zero_le _)) mv_X9_refuse wm_X9_94 dX9_needSign_10 (by assumption) rfl rfl (Nat.le_of_ble_eq_true rfl) (c_X9_refuse hS T A (by decide) (by decide) (fun I1 f1 A1 => ?_))
    refine x_aload_n C0 rfl dX9_needSign_13 ?_
    refine x_callV [] C0 hN rfl (xRf_of hR (by decide) (Nat.zero_le _) (Nat.zero_le _)) mv_X9_step wm_X9_27 dX9_needSign_14 (by assumption) rfl rfl (Nat.le_of_ble_eq_true rfl) (c_stepA (hS.tfr f1) (T.tfr f1) A1 (fun R2 I2 J2 f2 A2 => ?_))
    refine x_vret C0 E (by decide) (by decide) dX9_needSign_17 ?_
    refine hp R2 I2 J2 (f1.trans f2) ?_
    unfold pSign
    rw [if_neg g2, ← pNext_ref (by decide)]
    exact A2
theorem c_X9_number {S : xTS} {R : xTR} {I : xTI} {J : xTJ} {post : xPost} (hS : fixd S R) {tp : Nat → Nat} {n : Nat} (T : CTp I tp n) {s : pS} (A : TAt R I J tp n s) {lo hi : Nat} (hlo : lo < 10000) (hhi : hi < 10000) (hp : ∀ v R' I' J', TFr R I J R' I' J' → TAt R' I' J' tp n (pNum (tTok tp n) lo hi s) → ((pNum (tTok tp n) lo hi s).2 = 0 → s.2 = 0 ∧ v = nI ((tTok tp n) s.1).2.1 ∧ ((tTok tp n) s.1).1 = 2 ∧ lo ≤ ((tTok tp n) s.1).2.1 ∧ ((tTok tp n) s.1).2.1 ≤ hi) → post (some (.int v)) S R' I' J') : xSpec 6 yX9_number cX9_number 4 (some .int) 0 0 [.ref 1, .int (nI lo), .int (nI hi)] S R I J post := by
  refine xSpec_of mt_X9_number (Nat.le_of_ble_eq_true rfl) (fun G C0 hN hR E hI hZ => ?_)
  change XX G 0 0 0 [some (.ref 1), some (.int (nI lo)), some (.int (nI hi)), none] [] S R I J
  have s1 := hS.sTape
  have s2 := hS.sSigns
  have r0 := hS.rSigns
  obtain ⟨t1, t2, t3⟩ := id T
  have a8 := A.1
  have hs2 := A.2.1
  have hv := TAt.val (R := R) (J := J) (s := s) T
  have hk5 := kC_lt (tTok tp n s.1).1
  have kk := kC_is (tTok tp n s.1).1
  have hk4 : s.2 = 0 → I 1 4 = nI (kC (tTok tp n s.1).1) := fun z0 => (A.2.2.2 z0).2.2.1
  have h37 : ∀ I1, TFr R I J R I1 J → ∀ s1, TAt R I1 J tp n s1 → pNext s1 = pNum (tTok tp n) lo hi s → (s.2 = 0 → (pNum (tTok tp n) lo hi s).2 = 0 → I1 1 5 = nI (tTok tp n s.1).2.1 ∧ (tTok tp n s.1).1 = 2 ∧ lo ≤ (tTok tp n s.1).2.1 ∧ (tTok tp n s.1).2.1 ≤ hi) → XX G 0 0 37 [some (.ref 1), some (.int (nI lo)), some (.int (nI hi)), none] [] S R I1 J := by
    intro I1 f1 s1 A1 e1 hv1
    refine x_aload_n C0 rfl dX9_number_37 ?_
    refine x_getI C0 wf_X9_65 (by assumption) rfl dX9_number_38 ?_
    refine x_istore_n (L' := [_, _, _, _]) C0 hN (by decide) rfl dX9_number_41 ?_
    refine x_aload_n C0 rfl dX9_number_42 ?_
    refine x_callV [] C0 hN rfl (xRf_of hR (by decide) (Nat.zero_le _) (Nat.zero_le _)) mv_X9_step wm_X9_27 dX9_number_43 (by assumption) rfl rfl (Nat.le_of_ble_eq_true rfl) (c_stepA hS (T.tfr f1) A1 (fun R2 I2 J2 f2 A2 => ?_))
    refine x_iload_n C0 rfl dX9_number_46 ?_
    refine x_iret C0 E (by decide) (by decide) dX9_number_47 ?_
    rw [e1] at A2
    refine hp _ R2 I2 J2 (f1.trans f2) A2 (fun z => ?_)
    have z0 : s.2 = 0 := Decidable.of_not_not (fun y => y (by rw [pNum_f y] at z; exact z))
    exact ⟨z0, hv1 z0 z⟩
  refine x_aload_n C0 rfl dX9_number_0 ?_
  refine x_getI C0 wf_X9_41 (by assumption) rfl dX9_number_1 ?_
  refine x_iconst (v := nI 3) C0 rfl dX9_number_4 ?_
  refine x_icmp_eq (tgt := 16) C0 (by decide) dX9_number_5 (fun g5 => ?_) (fun g5 => ?_)
  · refine x_aload_n C0 rfl dX9_number_16 ?_
    refine x_getI C0 wf_X9_65 (by assumption) rfl dX9_number_17 ?_
    refine x_iload_n C0 rfl dX9_number_20 ?_
    refine x_icmp_lt (tgt := 32) C0 (by decide) dX9_number_21 (fun g21 => ?_) (fun g21 => ?_)
    · refine x_aload_n C0 rfl dX9_number_32 ?_
      refine x_iconst (v := nI 4) C0 rfl dX9_number_33 ?_
      refine x_callV [_] C0 hN rfl (xRf_of hR (by decide) (Nat.zero_le _) (Nat.zero_le _)) mv_X9_refuse wm_X9_94 dX9_number_34 (by assumption) rfl rfl (Nat.le_of_ble_eq_true rfl) (c_X9_refuse hS T A (by decide) (by decide) (fun I1 f1 A1 => ?_))
      have hk2 : s.2 = 0 → (tTok tp n s.1).1 = 2 ∧ I 1 5 = nI (tTok tp n s.1).2.1 ∧ (tTok tp n s.1).2.1 < 10000 := fun z0 => by
        have e4 := hk4 z0
        rw [g5] at e4
        have k2 := kk.2.1.mp ((nI_eq (by omega) (by omega)).mp e4.symm)
        exact ⟨k2, (A.2.2.2 z0).2.2.2.2 (Or.inl k2), hv.2.1 k2⟩
      refine h37 I1 f1 _ A1 ?_ (fun z0 z => ?_)
      · rw [pNext_ref (by decide)]
        by_cases z0 : s.2 = 0
        · obtain ⟨k2, k5, k9⟩ := hk2 z0
          unfold pNum
          rw [if_pos k2, if_pos (Or.inl (by rw [k5] at g21; exact (nI_lt_iff (by omega) (by omega)).mp g21))]
        · rw [pRef_f z0, pNum_f z0]
      · exfalso
        obtain ⟨k2, k5, k9⟩ := hk2 z0
        unfold pNum at z
        rw [if_pos k2, if_pos (Or.inl (by rw [k5] at g21; exact (nI_lt_iff (by omega) (by omega)).mp g21))] at z
        exact pRef_ne (by decide) z
    · refine x_aload_n C0 rfl dX9_number_24 ?_
      refine x_getI C0 wf_X9_65 (by assumption) rfl dX9_number_25 ?_
      refine x_iload_n C0 rfl dX9_number_28 ?_
      refine x_icmp_le (tgt := 37) C0 (by decide) dX9_number_29 (fun g29 => ?_) (fun g29 => ?_)
      · have hk2 : s.2 = 0 → (tTok tp n s.1).1 = 2 ∧ I 1 5 = nI (tTok tp n s.1).2.1 ∧ (tTok tp n s.1).2.1 < 10000 := fun z0 => by
          have e4 := hk4 z0
          rw [g5] at e4
          have k2 := kk.2.1.mp ((nI_eq (by omega) (by omega)).mp e4.symm)
          exact ⟨k2, (A.2.2.2 z0).2.2.2.2 (Or.inl k2), hv.2.1 k2⟩
        refine h37 I TFr.rf s A ?_ (fun z0 z => ?_)
        · by_cases z0 : s.2 = 0
          · obtain ⟨k2, k5, k9⟩ := hk2 z0
            have q1 : lo ≤ (tTok tp n s.1).2.1 := by rw [k5] at g21; exact Nat.le_of_not_lt (fun z => g21 ((nI_lt_iff (by omega) (by omega)).mpr z))
            have q2 : (tTok tp n s.1).2.1 ≤ hi := by rw [k5] at g29; exact (nI_le_iff (by omega) (by omega)).mp g29
            unfold pNum
            rw [if_pos k2, if_neg (by omega)]
          · rw [pNext_f z0, pNum_f z0]
        · obtain ⟨k2, k5, k9⟩ := hk2 z0
          refine ⟨k5, k2, ?_, ?_⟩
          · rw [k5] at g21; exact Nat.le_of_not_lt (fun z => g21 ((nI_lt_iff (by omega) (by omega)).mpr z))
          · rw [k5] at g29; exact (nI_le_iff (by omega) (by omega)).mp g29
      · refine x_aload_n C0 rfl dX9_number_32 ?_
        refine x_iconst (v := nI 4) C0 rfl dX9_number_33 ?_
        refine x_callV [_] C0 hN rfl (xRf_of hR (by decide) (Nat.zero_le _) (Nat.zero_le _)) mv_X9_refuse wm_X9_94 dX9_number_34 (by assumption) rfl rfl (Nat.le_of_ble_eq_true rfl) (c_X9_refuse hS T A (by decide) (by decide) (fun I1 f1 A1 => ?_))
        have hk2 : s.2 = 0 → (tTok tp n s.1).1 = 2 ∧ I 1 5 = nI (tTok tp n s.1).2.1 ∧ (tTok tp n s.1).2.1 < 10000 := fun z0 => by
          have e4 := hk4 z0
          rw [g5] at e4
          have k2 := kk.2.1.mp ((nI_eq (by omega) (by omega)).mp e4.symm)
          exact ⟨k2, (A.2.2.2 z0).2.2.2.2 (Or.inl k2), hv.2.1 k2⟩
        refine h37 I1 f1 _ A1 ?_ (fun z0 z => ?_)
        · rw [pNext_ref (by decide)]
          by_cases z0 : s.2 = 0
          · obtain ⟨k2, k5, k9⟩ := hk2 z0
            unfold pNum
            rw [if_pos k2, if_pos (Or.inr (by rw [k5] at g29; exact Nat.lt_of_not_le (fun z => g29 ((nI_le_iff (by omega) (by omega)).mpr z))))]
          · rw [pRef_f z0, pNum_f z0]
        · exfalso
          obtain ⟨k2, k5, k9⟩ := hk2 z0
          unfold pNum at z
          rw [if_pos k2, if_pos (Or.inr (by rw [k5] at g29; exact Nat.lt_of_not_le (fun z => g29 ((nI_le_iff (by omega) (by omega)).mpr z))))] at z
          exact pRef_ne (by decide) z
  · refine x_aload_n C0 rfl dX9_number_8 ?_
    refine x_iconst (v := nI 1) C0 rfl dX9_number_9 ?_
    refine x_callV [_] C0 hN rfl (xRf_of hR (by decide) (Nat.zero_le _) (Nat.zero_le _)) mv_X9_refuse wm_X9_94 dX9_number_10 (by assumption) rfl rfl (Nat.le_of_ble_eq_true rfl) (c_X9_refuse hS T A (by decide) (by decide) (fun I1 f1 A1 => ?_))
    refine x_goto (tgt := 37) C0 (by decide) dX9_number_13 ?_
    refine h37 I1 f1 _ A1 ?_ (fun z0 z => ?_)
    · rw [pNext_ref (by decide)]
      by_cases z0 : s.2 = 0
      · unfold pNum
        rw [if_neg (fun z => g5 (by rw [hk4 z0, kk.2.1.mpr z]))]
      · rw [pRef_f z0, pNum_f z0]
    · exfalso
      unfold pNum at z
      rw [if_neg (fun z => g5 (by rw [hk4 z0, kk.2.1.mpr z]))] at z
      exact pRef_ne (by decide) z
