/-! AN EVENING IS READ; the class -/
def pTlk (q : xTok) (F : pF) (o : Option Nat) (s : pS) : pS := if pNm q s.1 then (if xIdx F.2.2.1 (q s.1).2.1 F.1.2.2.1 = none then pRef q 2 s else if xIdx F.2.2.1 (q s.1).2.1 F.1.2.2.1 = o then pRef q 3 s else pNext s) else pRef q 1 s
theorem pTlk_f {q : xTok} {F : pF} {o : Option Nat} {s : pS} (h : ¬ s.2 = 0) : pTlk q F o s = s := by
  unfold pTlk
  rw [pRef_f h, pRef_f h, pRef_f h, pNext_f h]
  repeat' split
  all_goals rfl
def wtN (q : xTok) (F : pF) (s : pS) : Nat := (xIdx F.2.2.1 (q s.1).2.1 F.1.2.2.1).getD 0
def eLine (q : xTok) (F : pF) (s : pS) (ev : Nat) : pS × (Nat × Nat × Nat × Nat) :=
  if wHr q 10 5 s = none then (pRef q 1 s, (0, 0, 0, 0))
  else if wHr q 10 5 s = some 1 then (pSign q 59 (pClm q F (pNum q 0 7 (pFull q (ev < 40) s))), (1, (q (s.1 + 1)).2.1, cvT q F (pNum q 0 7 (s.1 + 1, 0)), cvB q F (pNum q 0 7 (s.1 + 1, 0))))
  else if wHr q 10 5 s = some 2 then (pSign q 59 (pNum q 0 7 (pFull q (ev < 40) s)), (2, (q (s.1 + 1)).2.1, 0, 0))
  else if wHr q 10 5 s = some 3 then (pSign q 59 (pTlk q F (xIdx F.2.2.1 (q (pFull q (ev < 40) s).1).2.1 F.1.2.2.1) (pTlk q F none (pFull q (ev < 40) s))), (3, wtN q F (s.1 + 1, 0), wtN q F (pTlk q F none (s.1 + 1, 0)), 0))
  else (pSign q 59 (pFull q (ev < 40) s), ((wHr q 10 5 s).getD 0, 0, 0, 0))
abbrev pV : Type := pS × Nat × (Nat → Nat × Nat × Nat × Nat)
def evLine (q : xTok) (F : pF) (m : pV) : pV := ((eLine q F m.1 m.2.1).1, m.2.1 + 1, mUp m.2.2 m.2.1 (eLine q F m.1 m.2.1).2)
def evLoop (q : xTok) (F : pF) : Nat → pV → pV
  | 0, m => m
  | j + 1, m => if m.1.2 = 0 ∧ (q m.1.1).1 ≠ 0 then evLoop q F j (evLine q F m) else m
def evAll (q : xTok) (F : pF) : pV := evLoop q F 1000 ((0, 0), 0, fun _ => (0, 0, 0, 0))
/-- a line as it is told: a SCENE may be none of the film's -/
def lOk (F : pF) (c : Nat × Nat × Nat × Nat) : Prop := c.1 < 5 ∧ (c.1 = 1 → c.2.1 < 8 ∧ c.2.2.1 < F.1.1 ∧ c.2.2.2 < 2) ∧ (c.1 = 2 → c.2.1 < 8) ∧ (c.1 = 3 → c.2.1 < F.1.2.2.1 ∧ c.2.2.1 < F.1.2.2.1 ∧ c.2.1 ≠ c.2.2.1)
/-- the class's evening at h, as far as it is read -/
def CEv (I : xTI) (h : Nat) (F : pF) (ev : Nat) (ln : Nat → Nat × Nat × Nat × Nat) : Prop := ev ≤ 40 ∧ I h 0 = nI ev ∧ ∀ i, i < ev → lOk F (ln i) ∧ I (h + 1) i = nI (ln i).1 ∧ ((ln i).1 = 1 ∨ (ln i).1 = 2 ∨ (ln i).1 = 3 → I (h + 2) i = nI (ln i).2.1) ∧ ((ln i).1 = 1 → I (h + 3) i = nI (2 * (ln i).2.2.1 + (ln i).2.2.2)) ∧ ((ln i).1 = 3 → I (h + 3) i = nI (ln i).2.2.1)
theorem CEv.congr {I I' : xTI} {h : Nat} {F : pF} {ev : Nat} {ln : Nat → Nat × Nat × Nat × Nat} (H : CEv I h F ev ln) (e : ∀ j, j < 4 → I' (h + j) = I (h + j)) : CEv I' h F ev ln := by
  obtain ⟨h1, h2, h3⟩ := H
  have e0 := e 0 (by decide)
  rw [Nat.add_zero] at e0
  refine ⟨h1, by rw [e0]; exact h2, fun i hi => ?_⟩
  rw [e 1 (by decide), e 2 (by decide), e 3 (by decide)]
  exact h3 i hi
theorem c_X7_deedAt {S : xTS} {R : xTR} {I : xTI} {J : xTJ} {post : xPost} (hS : fixd S R) {tp : Nat → Nat} {n : Nat} (T : CTp I tp n) {s : pS} (A : TAt R I J tp n s) (hp : ∀ v, (∀ i, wHr (tTok tp n) 10 5 s = some i → v = nI i) → (wHr (tTok tp n) 10 5 s = none → v = -1) → post (some (.int v)) S R I J) : xSpec 2 yX7_deedAt cX7_deedAt 1 (some .int) 0 0 [.ref 1] S R I J post := by
  refine xSpec_of mt_X7_deedAt (Nat.le_of_ble_eq_true rfl) (fun G C0 hN hR E hI hZ => ?_)
  change XX G 0 0 0 [some (.ref 1)] [] S R I J
  have s1 := hS.sTape
  have s2 := hS.sSigns
  have r0 := hS.rSigns
  obtain ⟨t1, t2, t3⟩ := id T
  refine x_aload_n C0 rfl dX7_deedAt_0 ?_
  refine x_word 10 C0 (by decide) wg_X7_213 dX7_deedAt_1 ?_
  refine x_callV [_] C0 hN rfl (xRf_of hR (by decide) (Nat.zero_le _) (Nat.zero_le _)) mv_X9_isWord wm_X7_45 dX7_deedAt_4 (by assumption) rfl rfl (Nat.le_of_ble_eq_true rfl) (c_X9_isWord hS T A (by decide) (fun g4 => ?_) (fun g4 => ?_))
  · refine x_if_eq (tgt := 12) C0 (by decide) dX7_deedAt_7 (fun hkk => absurd hkk (by decide)) (fun _ => ?_)
    refine x_iconst (v := nI 0) C0 rfl dX7_deedAt_10 ?_
    refine x_iret C0 E (by decide) (by decide) dX7_deedAt_11 ?_
    have e := wHr_some (q := tTok tp n) (fr := 10) (m := 5) (i := 0) (by decide) (by decide) g4
    exact hp _ (fun f hf => by rw [e] at hf; cases hf; rfl) (fun z => by rw [e] at z; cases z)
  · refine x_if_eq (tgt := 12) C0 (by decide) dX7_deedAt_7 (fun _ => ?_) (fun hkk => absurd (by decide) hkk)
    refine x_aload_n C0 rfl dX7_deedAt_12 ?_
    refine x_word 11 C0 (by decide) wg_X7_216 dX7_deedAt_13 ?_
    refine x_callV [_] C0 hN rfl (xRf_of hR (by decide) (Nat.zero_le _) (Nat.zero_le _)) mv_X9_isWord wm_X7_45 dX7_deedAt_16 (by assumption) rfl rfl (Nat.le_of_ble_eq_true rfl) (c_X9_isWord hS T A (by decide) (fun g16 => ?_) (fun g16 => ?_))
    · refine x_if_eq (tgt := 24) C0 (by decide) dX7_deedAt_19 (fun hkk => absurd hkk (by decide)) (fun _ => ?_)
      refine x_iconst (v := nI 1) C0 rfl dX7_deedAt_22 ?_
      refine x_iret C0 E (by decide) (by decide) dX7_deedAt_23 ?_
      have e := wHr_some (q := tTok tp n) (fr := 10) (m := 5) (i := 1) (by decide) (by decide) g16
      exact hp _ (fun f hf => by rw [e] at hf; cases hf; rfl) (fun z => by rw [e] at z; cases z)
    · refine x_if_eq (tgt := 24) C0 (by decide) dX7_deedAt_19 (fun _ => ?_) (fun hkk => absurd (by decide) hkk)
      refine x_aload_n C0 rfl dX7_deedAt_24 ?_
      refine x_word 12 C0 (by decide) wg_X7_219 dX7_deedAt_25 ?_
      refine x_callV [_] C0 hN rfl (xRf_of hR (by decide) (Nat.zero_le _) (Nat.zero_le _)) mv_X9_isWord wm_X7_45 dX7_deedAt_28 (by assumption) rfl rfl (Nat.le_of_ble_eq_true rfl) (c_X9_isWord hS T A (by decide) (fun g28 => ?_) (fun g28 => ?_))
      · refine x_if_eq (tgt := 36) C0 (by decide) dX7_deedAt_31 (fun hkk => absurd hkk (by decide)) (fun _ => ?_)
        refine x_iconst (v := nI 2) C0 rfl dX7_deedAt_34 ?_
        refine x_iret C0 E (by decide) (by decide) dX7_deedAt_35 ?_
        have e := wHr_some (q := tTok tp n) (fr := 10) (m := 5) (i := 2) (by decide) (by decide) g28
        exact hp _ (fun f hf => by rw [e] at hf; cases hf; rfl) (fun z => by rw [e] at z; cases z)
      · refine x_if_eq (tgt := 36) C0 (by decide) dX7_deedAt_31 (fun _ => ?_) (fun hkk => absurd (by decide) hkk)
        refine x_aload_n C0 rfl dX7_deedAt_36 ?_
        refine x_word 13 C0 (by decide) wg_X7_222 dX7_deedAt_37 ?_
        refine x_callV [_] C0 hN rfl (xRf_of hR (by decide) (Nat.zero_le _) (Nat.zero_le _)) mv_X9_isWord wm_X7_45 dX7_deedAt_40 (by assumption) rfl rfl (Nat.le_of_ble_eq_true rfl) (c_X9_isWord hS T A (by decide) (fun g40 => ?_) (fun g40 => ?_))
        · refine x_if_eq (tgt := 48) C0 (by decide) dX7_deedAt_43 (fun hkk => absurd hkk (by decide)) (fun _ => ?_)
          refine x_iconst (v := nI 3) C0 rfl dX7_deedAt_46 ?_
          refine x_iret C0 E (by decide) (by decide) dX7_deedAt_47 ?_
          have e := wHr_some (q := tTok tp n) (fr := 10) (m := 5) (i := 3) (by decide) (by decide) g40
          exact hp _ (fun f hf => by rw [e] at hf; cases hf; rfl) (fun z => by rw [e] at z; cases z)
        · refine x_if_eq (tgt := 48) C0 (by decide) dX7_deedAt_43 (fun _ => ?_) (fun hkk => absurd (by decide) hkk)
          refine x_aload_n C0 rfl dX7_deedAt_48 ?_
          refine x_word 14 C0 (by decide) wg_X7_225 dX7_deedAt_49 ?_
          refine x_callV [_] C0 hN rfl (xRf_of hR (by decide) (Nat.zero_le _) (Nat.zero_le _)) mv_X9_isWord wm_X7_45 dX7_deedAt_52 (by assumption) rfl rfl (Nat.le_of_ble_eq_true rfl) (c_X9_isWord hS T A (by decide) (fun g52 => ?_) (fun g52 => ?_))
          · refine x_if_eq (tgt := 62) C0 (by decide) dX7_deedAt_55 (fun hkk => absurd hkk (by decide)) (fun _ => ?_)
            refine x_iconst (v := nI 4) C0 rfl dX7_deedAt_58 ?_
            refine x_goto (tgt := 63) C0 (by decide) dX7_deedAt_59 ?_
            refine x_iret C0 E (by decide) (by decide) dX7_deedAt_63 ?_
            have e := wHr_some (q := tTok tp n) (fr := 10) (m := 5) (i := 4) (by decide) (by decide) g52
            exact hp _ (fun f hf => by rw [e] at hf; cases hf; rfl) (fun z => by rw [e] at z; cases z)
          · refine x_if_eq (tgt := 62) C0 (by decide) dX7_deedAt_55 (fun _ => ?_) (fun hkk => absurd (by decide) hkk)
            refine x_iconst (v := -1) C0 rfl dX7_deedAt_62 ?_
            refine x_iret C0 E (by decide) (by decide) dX7_deedAt_63 ?_
            have e := wHr_none (q := tTok tp n) (fr := 10) (m := 5) (s := s) (fun i hi => by
              rcases (show i = 0 ∨ i = 1 ∨ i = 2 ∨ i = 3 ∨ i = 4 by omega) with rfl | rfl | rfl | rfl | rfl <;> assumption)
            exact hp _ (fun f hf => by rw [e] at hf; cases hf) (fun _ => rfl)
theorem c_X7_readTalker {S : xTS} {R : xTR} {I : xTI} {J : xTJ} {post : xPost} (hS : fixd S R) {tp : Nat → Nat} {n : Nat} (T : CTp I tp n) {s : pS} (A : TAt R I J tp n s) {g : Nat} (hg : 7 ≤ g) (hF : isFilm S R g) {F : pF} (ok : FOk F) (C : CFm I J g F) {o : Option Nat} (ho : ∀ w, o = some w → w < 6) {x : Int32} (hx : s.2 = 0 → x = oI o) (hp : ∀ v R' I' J', TFr R I J R' I' J' → TAt R' I' J' tp n (pTlk (tTok tp n) F o s) → ((pTlk (tTok tp n) F o s).2 = 0 → s.2 = 0 ∧ ∃ w, w < F.1.2.2.1 ∧ xIdx F.2.2.1 ((tTok tp n) s.1).2.1 F.1.2.2.1 = some w ∧ v = nI w ∧ o ≠ some w) → post (some (.int v)) S R' I' J') : xSpec 6 yX7_readTalker cX7_readTalker 4 (some .int) 0 0 [.ref 1, .ref g, .int x] S R I J post := by
  refine xSpec_of mt_X7_readTalker (Nat.le_of_ble_eq_true rfl) (fun G C0 hN hR E hI hZ => ?_)
  change XX G 0 0 0 [some (.ref 1), some (.ref g), some (.int x), none] [] S R I J
  have s1 := hS.sTape
  have s2 := hS.sSigns
  have r0 := hS.rSigns
  obtain ⟨t1, t2, t3⟩ := id T
  have a8 := A.1
  have hs2 := A.2.1
  have hv := TAt.val (R := R) (J := J) (s := s) T
  have hk5 := kC_lt (tTok tp n s.1).1
  have kk := kC_is (tTok tp n s.1).1
  have zg := hF.1
  have hJ : pNm (tTok tp n) s.1 → s.2 = 0 → J 1 6 = Int64.ofNat (tTok tp n s.1).2.1 ∧ (tTok tp n s.1).2.1 < 2 ^ 40 := fun z z0 => ⟨((A.2.2.2 z0).2.2.2.1 z.1).1, hv.1 z.1⟩
  have x1 : pNm (tTok tp n) s.1 → s.2 = 0 → xIdx (J (g + 1)) (J 1 6) F.1.1 = xIdx F.2.1 (tTok tp n s.1).2.1 F.1.1 := fun z z0 => by
    rw [(hJ z z0).1]
    exact xIdx_long (hJ z z0).2 _ (fun i hi => ⟨C.2.2.2.1 i hi, ok.2.2.2.2.1 i hi⟩)
  have x2 : pNm (tTok tp n) s.1 → s.2 = 0 → xIdx (J (g + 2)) (J 1 6) F.1.2.2.1 = xIdx F.2.2.1 (tTok tp n s.1).2.1 F.1.2.2.1 := fun z z0 => by
    rw [(hJ z z0).1]
    exact xIdx_long (hJ z z0).2 _ (fun i hi => ⟨C.2.2.2.2.1 i hi, ok.2.2.2.2.2.1 i hi⟩)
  have h47 : ∀ I1, TFr R I J R I1 J → ∀ s1, TAt R I1 J tp n s1 → pNext s1 = pTlk (tTok tp n) F o s → XX G 0 0 47 [some (.ref 1), some (.ref g), some (.int x), some (.int (oI (xIdx (J (g + 2)) (J 1 6) F.1.2.2.1)))] [] S R I1 J := by
    intro I1 f1 s1 A1 e1
    refine x_aload_n C0 rfl dX7_readTalker_47 ?_
    refine x_callV [] C0 hN rfl (xRf_of hR (by decide) (Nat.zero_le _) (Nat.zero_le _)) mv_X9_step wm_X7_93 dX7_readTalker_48 (by assumption) rfl rfl (Nat.le_of_ble_eq_true rfl) (c_stepA (hS.tfr f1) (T.tfr f1) A1 (fun R2 I2 J2 f2 A2 => ?_))
    refine x_iload_n C0 rfl dX7_readTalker_51 ?_
    refine x_iret C0 E (by decide) (by decide) dX7_readTalker_52 ?_
    rw [e1] at A2
    refine hp _ R2 I2 J2 (f1.trans f2) A2 (fun z => ?_)
    have z0 := pz (f := pTlk (tTok tp n) F o) (fun y => pTlk_f y) z
    unfold pTlk at z
    by_cases zn : pNm (tTok tp n) s.1
    · rw [if_pos zn] at z
      cases zt : (xIdx F.2.2.1 (tTok tp n s.1).2.1 F.1.2.2.1) with
      | none => rw [if_pos zt] at z; exact absurd z (pRef_ne (by decide))
      | some w =>
        rw [if_neg (by rw [zt]; exact fun y => by cases y)] at z
        by_cases zo : (xIdx F.2.2.1 (tTok tp n s.1).2.1 F.1.2.2.1) = o
        · rw [if_pos zo] at z; exact absurd z (pRef_ne (by decide))
        · refine ⟨z0, w, (xIdx_some _ zt).1, rfl, ?_, fun y => zo (zt.trans y.symm)⟩
          rw [x2 zn z0, zt]; rfl
    · rw [if_neg zn] at z; exact absurd z (pRef_ne (by decide))
  have hoi : ∀ z : s.2 = 0, pNm (tTok tp n) s.1 → ¬ oI (xIdx (J (g + 2)) (J 1 6) F.1.2.2.1) = -1 → (oI (xIdx (J (g + 2)) (J 1 6) F.1.2.2.1) = x ↔ xIdx F.2.2.1 (tTok tp n s.1).2.1 F.1.2.2.1 = o) := fun z0 zn hne => by
    rw [x2 zn z0] at hne ⊢
    rw [hx z0]
    cases zt : xIdx F.2.2.1 (tTok tp n s.1).2.1 F.1.2.2.1 with
    | none => rw [zt] at hne; exact absurd rfl hne
    | some w =>
      have hw := (xIdx_some _ zt).1
      have h6 := ok.2.2.1
      cases o with
      | none => exact ⟨fun y => absurd y (nI_ne_m1 (n := w) (by omega)), fun y => by cases y⟩
      | some w2 =>
        have h2 := ho w2 rfl
        exact ⟨fun y => by rw [show w = w2 from (nI_eq (by omega) (by omega)).mp y], fun y => by cases y; rfl⟩
  refine x_aload_n C0 rfl dX7_readTalker_0 ?_
  refine x_aload_n C0 rfl dX7_readTalker_1 ?_
  refine x_getJ C0 wf_X7_157 (by assumption) rfl dX7_readTalker_2 ?_
  refine x_callV [_] C0 hN rfl (xRf_of hR (by decide) (Nat.zero_le _) (Nat.zero_le _)) mv_X2_watcherNamed wm_X7_168 dX7_readTalker_5 (by assumption) rfl rfl (Nat.le_of_ble_eq_true rfl) (c_X2_watcherNamed hF ok C ?_)
  refine x_istore_n (L' := [_, _, _, _]) C0 hN (by decide) rfl dX7_readTalker_8 ?_
  refine x_aload_n C0 rfl dX7_readTalker_9 ?_
  refine x_callV [] C0 hN rfl (xRf_of hR (by decide) (Nat.zero_le _) (Nat.zero_le _)) mv_X9_isName wm_X7_161 dX7_readTalker_10 (by assumption) rfl rfl (Nat.le_of_ble_eq_true rfl) (c_X9_isName hS T A (fun g10 => ?_) (fun g10 => ?_))
  · refine x_if_ne (tgt := 24) C0 (by decide) dX7_readTalker_13 (fun _ => ?_) (fun hkk => absurd hkk (by decide))
    refine x_iload_n C0 rfl dX7_readTalker_24 ?_
    refine x_iconst (v := -1) C0 rfl dX7_readTalker_25 ?_
    refine x_icmp_ne (tgt := 37) C0 (by decide) dX7_readTalker_26 (fun g26 => ?_) (fun g26 => ?_)
    · refine x_iload_n C0 rfl dX7_readTalker_37 ?_
      refine x_iload_n C0 rfl dX7_readTalker_38 ?_
      refine x_icmp_ne (tgt := 47) C0 (by decide) dX7_readTalker_39 (fun g39 => ?_) (fun g39 => ?_)
      · refine h47 I TFr.rf s A ?_
        by_cases z0 : s.2 = 0
        · have zn := g10 z0
          unfold pTlk
          rw [if_pos zn, if_neg (fun z => g26 ((oI_x ok.2.2.1).mpr (by rw [x2 zn z0]; exact z))), if_neg (fun z => g39 ((hoi z0 zn g26).mpr z))]
        · rw [pNext_f z0, pTlk_f z0]
      · refine x_aload_n C0 rfl dX7_readTalker_42 ?_
        refine x_iconst (v := nI 3) C0 rfl dX7_readTalker_43 ?_
        refine x_callV [_] C0 hN rfl (xRf_of hR (by decide) (Nat.zero_le _) (Nat.zero_le _)) mv_X9_refuse wm_X7_78 dX7_readTalker_44 (by assumption) rfl rfl (Nat.le_of_ble_eq_true rfl) (c_X9_refuse hS T A (by decide) (by decide) (fun I1 f1 A1 => ?_))
        refine h47 I1 f1 _ A1 ?_
        rw [pNext_ref (by decide)]
        by_cases z0 : s.2 = 0
        · have zn := g10 z0
          unfold pTlk
          rw [if_pos zn, if_neg (fun z => g26 ((oI_x ok.2.2.1).mpr (by rw [x2 zn z0]; exact z))), if_pos ((hoi z0 zn g26).mp g39)]
        · rw [pRef_f z0, pTlk_f z0]
    · refine x_aload_n C0 rfl dX7_readTalker_29 ?_
      refine x_iconst (v := nI 2) C0 rfl dX7_readTalker_30 ?_
      refine x_callV [_] C0 hN rfl (xRf_of hR (by decide) (Nat.zero_le _) (Nat.zero_le _)) mv_X9_refuse wm_X7_78 dX7_readTalker_31 (by assumption) rfl rfl (Nat.le_of_ble_eq_true rfl) (c_X9_refuse hS T A (by decide) (by decide) (fun I1 f1 A1 => ?_))
      refine x_goto (tgt := 47) C0 (by decide) dX7_readTalker_34 ?_
      refine h47 I1 f1 _ A1 ?_
      rw [pNext_ref (by decide)]
      by_cases z0 : s.2 = 0
      · have zn := g10 z0
        unfold pTlk
        rw [if_pos zn, if_pos (by rw [← x2 zn z0]; exact (oI_x ok.2.2.1).mp g26)]
      · rw [pRef_f z0, pTlk_f z0]
  · refine x_if_ne (tgt := 24) C0 (by decide) dX7_readTalker_13 (fun hkk => absurd (by decide) hkk) (fun _ => ?_)
    refine x_aload_n C0 rfl dX7_readTalker_16 ?_
    refine x_iconst (v := nI 1) C0 rfl dX7_readTalker_17 ?_
    refine x_callV [_] C0 hN rfl (xRf_of hR (by decide) (Nat.zero_le _) (Nat.zero_le _)) mv_X9_refuse wm_X7_78 dX7_readTalker_18 (by assumption) rfl rfl (Nat.le_of_ble_eq_true rfl) (c_X9_refuse hS T A (by decide) (by decide) (fun I1 f1 A1 => ?_))
    refine x_goto (tgt := 47) C0 (by decide) dX7_readTalker_21 ?_
    refine h47 I1 f1 _ A1 ?_
    rw [pNext_ref (by decide)]
    by_cases z0 : s.2 = 0
    · unfold pTlk
      rw [if_neg (g10 z0)]
    · rw [pRef_f z0, pTlk_f z0]
theorem c_X1_add {S : xTS} {R : xTR} {I : xTI} {J : xTJ} {post : xPost} {h : Nat} (hh : S[h]? = some (1, 4) ∧ S[h + 1]? = some (11, 40) ∧ S[h + 2]? = some (11, 40) ∧ S[h + 3]? = some (11, 40) ∧ R h 1 = some (h + 1) ∧ R h 2 = some (h + 2) ∧ R h 3 = some (h + 3)) {F : pF} {ev : Nat} {ln : Nat → Nat × Nat × Nat × Nat} (E0 : CEv I h F ev ln) (hev : ev < 40) {c : Nat × Nat × Nat × Nat} (hc : lOk F c) {w1 w2 : Int32} (m2 : c.1 = 1 ∨ c.1 = 2 ∨ c.1 = 3 → w1 = nI c.2.1) (m3 : c.1 = 1 → w2 = nI (2 * c.2.2.1 + c.2.2.2)) (m4 : c.1 = 3 → w2 = nI c.2.2.1) (hp : ∀ I', (∀ a, (a < h ∨ h + 4 ≤ a) → I' a = I a) → CEv I' h F (ev + 1) (mUp ln ev c) → post none S R I' J) : xSpec 2 yX1_add cX1_add 4 none 0 0 [.ref h, .int (nI c.1), .int w1, .int w2] S R I J post := by
  refine xSpec_of mt_X1_add (Nat.le_of_ble_eq_true rfl) (fun G C0 hN hR E hI hZ => ?_)
  change XX G 0 0 0 [some (.ref h), some (.int (nI c.1)), some (.int w1), some (.int w2)] [] S R I J
  obtain ⟨z0, z1, z2, z3, z4, z5, z6⟩ := hh
  obtain ⟨q1, q2, q3⟩ := id E0
  refine x_aload_n C0 rfl dX1_add_0 ?_
  refine x_getI C0 wf_X1_21 (by assumption) rfl dX1_add_1 ?_
  refine x_topi q2 ?_
  refine x_bipush (v := nI 40) C0 rfl dX1_add_4 ?_
  refine x_icmp_ge (tgt := 55) C0 (by decide) dX1_add_6 (fun hkk => absurd hkk ((nI_ge (by omega) (by omega)))) (fun _ => ?_)
  refine x_aload_n C0 rfl dX1_add_9 ?_
  refine x_getR C0 wf_X1_9 (by assumption) rfl rfl (by assumption) dX1_add_10 ?_
  refine x_aload_n C0 rfl dX1_add_13 ?_
  refine x_getI C0 wf_X1_21 (by assumption) rfl dX1_add_14 ?_
  refine x_topi q2 ?_
  refine x_iload_n C0 rfl dX1_add_17 ?_
  refine x_callS [_, _, _] C0 (xRf_of hR (by decide) (Nat.zero_le _) (Nat.zero_le _)) ms_X8_set wm_X1_25 dX1_add_18 rfl rfl (Nat.le_of_ble_eq_true rfl) (c_X8_set z1 (by omega) (by decide) ?_)
  refine x_aload_n C0 rfl dX1_add_21 ?_
  refine x_getR C0 wf_X1_15 (by assumption) rfl rfl (by assumption) dX1_add_22 ?_
  refine x_aload_n C0 rfl dX1_add_25 ?_
  refine x_getI C0 wf_X1_21 (by assumption) rfl dX1_add_26 ?_
  refine x_topi (show (u2 I (h + 1) ev (nI c.1)) h 0 = nI ev by rw [u2_row _ _ _ (by omega)]; exact q2) ?_
  refine x_iload_n C0 rfl dX1_add_29 ?_
  refine x_callS [_, _, _] C0 (xRf_of hR (by decide) (Nat.zero_le _) (Nat.zero_le _)) ms_X8_set wm_X1_25 dX1_add_30 rfl rfl (Nat.le_of_ble_eq_true rfl) (c_X8_set z2 (by omega) (by decide) ?_)
  refine x_aload_n C0 rfl dX1_add_33 ?_
  refine x_getR C0 wf_X1_18 (by assumption) rfl rfl (by assumption) dX1_add_34 ?_
  refine x_aload_n C0 rfl dX1_add_37 ?_
  refine x_getI C0 wf_X1_21 (by assumption) rfl dX1_add_38 ?_
  refine x_topi (show (u2 (u2 I (h + 1) ev (nI c.1)) (h + 2) ev w1) h 0 = nI ev by rw [u2_row _ _ _ (by omega), u2_row _ _ _ (by omega)]; exact q2) ?_
  refine x_iload_n C0 rfl dX1_add_41 ?_
  refine x_callS [_, _, _] C0 (xRf_of hR (by decide) (Nat.zero_le _) (Nat.zero_le _)) ms_X8_set wm_X1_25 dX1_add_42 rfl rfl (Nat.le_of_ble_eq_true rfl) (c_X8_set z3 (by omega) (by decide) ?_)
  refine x_aload_n C0 rfl dX1_add_45 ?_
  refine x_dup C0 rfl dX1_add_46 ?_
  refine x_getI C0 wf_X1_21 (by assumption) rfl dX1_add_47 ?_
  refine x_topi (show (u2 (u2 (u2 I (h + 1) ev (nI c.1)) (h + 2) ev w1) (h + 3) ev w2) h 0 = nI ev by rw [u2_row _ _ _ (by omega), u2_row _ _ _ (by omega), u2_row _ _ _ (by omega)]; exact q2) ?_
  refine x_iconst (v := nI 1) C0 rfl dX1_add_50 ?_
  refine x_iadd C0 dX1_add_51 ?_
  refine x_topi (nI_add ev 1) ?_
  refine x_putI C0 wf_X1_21 (by assumption) rfl dX1_add_52 ?_
  refine x_vret C0 E (by decide) (by decide) dX1_add_55 ?_
  refine hp _ (fun a ha => ?_) ⟨by omega, u2_same _ _ _ _, fun i hi => ?_⟩
  · rw [u2_row _ _ _ (by omega), u2_row _ _ _ (by omega), u2_row _ _ _ (by omega), u2_row _ _ _ (by omega)]
  · have e1 : (u2 (u2 (u2 (u2 I (h + 1) ev (nI c.1)) (h + 2) ev w1) (h + 3) ev w2) h 0 (nI (ev + 1))) (h + 1) i = (u2 I (h + 1) ev (nI c.1)) (h + 1) i := by rw [u2_row _ _ _ (by omega), u2_row _ _ _ (by omega), u2_row _ _ _ (by omega)]
    have e2 : (u2 (u2 (u2 (u2 I (h + 1) ev (nI c.1)) (h + 2) ev w1) (h + 3) ev w2) h 0 (nI (ev + 1))) (h + 2) i = (u2 I (h + 2) ev w1) (h + 2) i := by
      rw [u2_row _ _ _ (by omega), u2_row _ _ _ (by omega)]
      by_cases g : i = ev
      · rw [g, u2_same, u2_same]
      · rw [u2_off _ _ g, u2_off _ _ g, u2_row _ _ _ (by omega)]
    have e3 : (u2 (u2 (u2 (u2 I (h + 1) ev (nI c.1)) (h + 2) ev w1) (h + 3) ev w2) h 0 (nI (ev + 1))) (h + 3) i = (u2 I (h + 3) ev w2) (h + 3) i := by
      rw [u2_row _ _ _ (by omega)]
      by_cases g : i = ev
      · rw [g, u2_same, u2_same]
      · rw [u2_off _ _ g, u2_off _ _ g, u2_row _ _ _ (by omega), u2_row _ _ _ (by omega)]
    rw [e1, e2, e3]
    by_cases g : i = ev
    · rw [g, u2_same, u2_same, u2_same, mUp_same]
      exact ⟨hc, rfl, m2, m3, m4⟩
    · rw [u2_off _ _ g, u2_off _ _ g, u2_off _ _ g, mUp_off _ _ g]
      exact q3 i (by omega)
