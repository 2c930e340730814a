/-! THE LINES OF A FILM; the class -/
def FrL (g : Nat) (R : xTR) (I : xTI) (J : xTJ) (R' : xTR) (I' : xTI) (J' : xTJ) : Prop := (∀ a, a ≠ 1 → a ≠ 3 → a ≠ 4 → a ≠ 5 → (a < g ∨ g + 9 ≤ a) → I' a = I a) ∧ I' 1 1 = I 1 1 ∧ (∀ a, a ≠ 1 → a ≠ g + 1 → a ≠ g + 2 → J' a = J a) ∧ (∀ a k, a ≠ 1 ∨ k ≠ 7 → R' a k = R a k)
theorem FrL.tfr {g : Nat} {R R' : xTR} {I I' : xTI} {J J' : xTJ} (f : TFr R I J R' I' J') : FrL g R I J R' I' J' := ⟨fun a h _ _ _ _ => f.1 a h, f.2.1, fun a h _ _ => f.2.2.1 a h, f.2.2.2⟩
theorem FrL.trans {g : Nat} {R R1 R2 : xTR} {I I1 I2 : xTI} {J J1 J2 : xTJ} (a : FrL g R I J R1 I1 J1) (b : FrL g R1 I1 J1 R2 I2 J2) : FrL g R I J R2 I2 J2 := ⟨fun q h1 h2 h3 h4 h5 => (b.1 q h1 h2 h3 h4 h5).trans (a.1 q h1 h2 h3 h4 h5), b.2.1.trans a.2.1, fun q h1 h2 h3 => (b.2.2.1 q h1 h2 h3).trans (a.2.2.1 q h1 h2 h3), fun q k h => (b.2.2.2 q k h).trans (a.2.2.2 q k h)⟩
theorem pz {f : pS → pS} {s : pS} (hf : ¬ s.2 = 0 → f s = s) (h : (f s).2 = 0) : s.2 = 0 := Decidable.of_not_not (fun y => y (by rw [hf y] at h; exact h))
def pFull (q : xTok) (b : Prop) [Decidable b] (s : pS) : pS := pNext (if b then s else pRef q 5 s)
theorem pFull_z {q : xTok} {b : Prop} [Decidable b] {s : pS} (h : (pFull q b s).2 = 0) : b ∧ s.2 = 0 ∧ pFull q b s = (s.1 + 1, 0) := by
  unfold pFull at h ⊢
  have h1 := pz (fun y => pNext_f y) h
  by_cases g : b
  · rw [if_pos g] at h1 ⊢
    exact ⟨g, h1, pNext_0 h1⟩
  · rw [if_neg g] at h1
    exact absurd h1 (pRef_ne (by decide))
def pLThing (q : xTok) (F : pF) (s : pS) : pS := pSign q 59 (pNew q F (pFull q (F.1.1 < 6) s))
def pLScene (q : xTok) (F : pF) (s : pS) : pS := pSign q 59 (pClm q F (pNeed q 4 (pClm q F (pFull q (F.1.2.1 < 8) s))))
def pLWatch (q : xTok) (F : pF) (s : pS) : pS := pSign q 59 (pNum q 1 30 (pNeed q 7 (pNum q 0 9 (pNeed q 6 (pOne q 15 4 (pNew q F (pFull q (F.1.2.2.1 < 6) s)))))))
def pOnce (q : xTok) (b : Bool) (s : pS) : pS := pNext (if b = true then pRef q 3 s else s)
theorem pOnce_z {q : xTok} {b : Bool} {s : pS} (h : (pOnce q b s).2 = 0) : b = false ∧ s.2 = 0 ∧ pOnce q b s = (s.1 + 1, 0) := by
  unfold pOnce at h ⊢
  have h1 := pz (fun y => pNext_f y) h
  cases b
  · rw [if_neg (by decide)] at h1 ⊢
    exact ⟨rfl, h1, pNext_0 h1⟩
  · rw [if_pos rfl] at h1
    exact absurd h1 (pRef_ne (by decide))
def pLStar (q : xTok) (b : Bool) (s : pS) : pS := pSign q 59 (pNum q 0 8 (pOnce q b s))
/-- a claim's value -/
def cvT (q : xTok) (F : pF) (s : pS) : Nat := (xIdx F.2.1 (q s.1).2.1 F.1.1).getD 0
def cvB (q : xTok) (F : pF) (s : pS) : Nat := if pIsW q 2 (pThg q F s) then 1 else 0
theorem c_X7_readThing {S : xTS} {R : xTR} {I : xTI} {J : xTJ} {post : xPost} (hS : fixd S R) {tp : Nat → Nat} {n : Nat} (T : CTp I tp n) {s : pS} (A : TAt R I J tp n s) {g : Nat} (hg : 7 ≤ g) (hF : isFilm S R g) {F : pF} (ok : FOk F) (C : CFm I J g F) (hp : ∀ R' I' J', FrL g R I J R' I' J' → (I' 3 = I 3 ∧ I' 4 = I 4 ∧ I' 5 = I 5) → TAt R' I' J' tp n (pLThing (tTok tp n) F s) → ((pLThing (tTok tp n) F s).2 = 0 → I' g 3 = I g 3 ∧ F.1.1 < 6 ∧ ((tTok tp n) (s.1 + 1)).2.1 < 2 ^ 40 ∧ ¬ pTold F ((tTok tp n) (s.1 + 1)).2.1 ∧ CFm I' J' g (fThing F ((tTok tp n) (s.1 + 1)).2.1)) → post none S R' I' J') : xSpec 7 yX7_readThing cX7_readThing 5 none 0 0 [.ref 3, .ref 1, .ref g] S R I J post := by
  refine xSpec_of mt_X7_readThing (Nat.le_of_ble_eq_true rfl) (fun G C0 hN hR E hI hZ => ?_)
  change XX G 0 0 0 [some (.ref 3), some (.ref 1), some (.ref g), none, none] [] S R I J
  have s1 := hS.sTape
  have s2 := hS.sSigns
  have r0 := hS.rSigns
  obtain ⟨t1, t2, t3⟩ := id T
  have zg := hF.1
  have zr := hS.sReader
  obtain ⟨c0, c1, c2, c3, c4, c5, c6⟩ := id C
  have k6 := ok.1
  have k8 := ok.2.1
  have k6v := ok.2.2.1
  have h14 : ∀ I1, TFr R I J R I1 J → TAt R I1 J tp n (if F.1.1 < 6 then s else pRef (tTok tp n) 5 s) → XX G 0 0 14 [some (.ref 3), some (.ref 1), some (.ref g), none, none] [] S R I1 J := by
    intro I1 f1 A1
    refine x_aload_n C0 rfl dX7_readThing_14 ?_
    refine x_callV [] C0 hN rfl (xRf_of hR (by decide) (Nat.zero_le _) (Nat.zero_le _)) mv_X9_step wm_X7_93 dX7_readThing_15 (by assumption) rfl rfl (Nat.le_of_ble_eq_true rfl) (c_stepA (hS.tfr f1) (T.tfr f1) A1 (fun R2 I2 J2 f2 A2 => ?_))
    refine x_aload_n C0 rfl dX7_readThing_18 ?_
    refine x_aload_n C0 rfl dX7_readThing_19 ?_
    refine x_callS [_, _] C0 (xRf_of hR (by decide) (Nat.zero_le _) (Nat.zero_le _)) ms_X7_newName wm_X7_96 dX7_readThing_20 rfl rfl (Nat.le_of_ble_eq_true rfl) (c_X7_newName (hS.tfr (f1.trans f2)) (T.tfr (f1.trans f2)) A2 hg (hF.tfr hg (f1.trans f2)) ok (C.tfr hg (f1.trans f2)) (fun v3 R3 I3 J3 f3 A3 e3 => ?_))
    refine x_lstore_n (L' := [_, _, _, _, _]) C0 hN (by decide) rfl dX7_readThing_23 ?_
    refine x_aload_n C0 rfl dX7_readThing_24 ?_
    refine x_bipush (v := nI 59) C0 rfl dX7_readThing_25 ?_
    refine x_callV [_] C0 hN rfl (xRf_of hR (by decide) (Nat.zero_le _) (Nat.zero_le _)) mv_X9_needSign wm_X7_100 dX7_readThing_27 (by assumption) rfl rfl (Nat.le_of_ble_eq_true rfl) (c_X9_needSign (hS.tfr ((f1.trans f2).trans f3)) (T.tfr ((f1.trans f2).trans f3)) A3 (by decide) (fun R4 I4 J4 f4 A4 => ?_))
    refine x_aload_n C0 rfl dX7_readThing_30 ?_
    refine x_getI C0 wf_X7_82 (by assumption) rfl dX7_readThing_31 ?_
    refine x_topi A4.1 ?_
    refine x_if_ne (tgt := 42) C0 (by decide) dX7_readThing_34 (fun g34 => ?_) (fun g34 => ?_)
    · refine x_vret C0 E (by decide) (by decide) dX7_readThing_42 ?_
      have hf := (((f1.trans f2).trans f3).trans f4)
      exact hp R4 I4 J4 (FrL.tfr hf) ⟨hf.1 3 (by decide), hf.1 4 (by decide), hf.1 5 (by decide)⟩ A4 (fun z => absurd (show nI (pLThing (tTok tp n) F s).2 = 0 by rw [z]; rfl) g34)
    · have z4 : (pLThing (tTok tp n) F s).2 = 0 := (nI_eq (b := 0) (by have := A4.2.1; exact Nat.lt_trans this (by decide)) (by decide)).mp g34
      have z3 := pz (f := pSign (tTok tp n) 59) (fun y => pSign_f y) z4
      obtain ⟨-, ev, hv40, hnt⟩ := e3 z3
      have z2 := pz (f := pNew (tTok tp n) F) (fun y => pNew_f y) z3
      obtain ⟨hT6, z0, e2⟩ := pFull_z (q := (tTok tp n)) (b := F.1.1 < 6) z2
      have e2' : ((tTok tp n) (pNext (if F.1.1 < 6 then s else pRef (tTok tp n) 5 s)).1).2.1 = ((tTok tp n) (s.1 + 1)).2.1 := congrArg (fun z : pS => ((tTok tp n) z.1).2.1) e2
      rw [e2'] at ev hv40 hnt
      subst ev
      refine x_aload_n C0 rfl dX7_readThing_37 ?_
      refine x_lload_n C0 rfl dX7_readThing_38 ?_
      refine x_callV [_] C0 hN rfl (xRf_of hR (by decide) (Nat.zero_le _) (Nat.zero_le _)) mv_X2_addThing wm_X7_104 dX7_readThing_39 (by assumption) rfl rfl (Nat.le_of_ble_eq_true rfl) (c_X2_addThing (hF.tfr hg (((f1.trans f2).trans f3).trans f4)) ok (C.tfr hg (((f1.trans f2).trans f3).trans f4)) hT6 (fun I5 J5 s5 k5 j5 C5 => ?_))
      refine x_vret C0 E (by decide) (by decide) dX7_readThing_42 ?_
      have hf := (((f1.trans f2).trans f3).trans f4)
      refine hp R4 I5 J5 ((FrL.tfr hf).trans ⟨fun a _ _ _ _ h => s5 a (by omega), by rw [s5 1 (by omega)], fun a _ h _ => j5 a h, fun _ _ _ => rfl⟩) ?_ (A4.congr (s5 1 (by omega)) (j5 1 (by omega)) rfl) (fun _ => ⟨?_, hT6, hv40, hnt, C5⟩)
      · exact ⟨(s5 3 (by omega)).trans (hf.1 3 (by decide)), (s5 4 (by omega)).trans (hf.1 4 (by decide)), (s5 5 (by omega)).trans (hf.1 5 (by decide))⟩
      · rw [k5 3 (by decide), hf.1 g (by omega)]
  refine x_aload_n C0 rfl dX7_readThing_0 ?_
  refine x_getI C0 wf_X7_90 (by assumption) rfl dX7_readThing_1 ?_
  refine x_topi c0 ?_
  refine x_bipush (v := nI 6) C0 rfl dX7_readThing_4 ?_
  refine x_icmp_lt (tgt := 14) C0 (by decide) dX7_readThing_6 (fun g6 => ?_) (fun g6 => ?_)
  · exact h14 I TFr.rf (by rw [if_pos ((nI_lt_iff (by omega) (by omega)).mp g6)]; exact A)
  · refine x_aload_n C0 rfl dX7_readThing_9 ?_
    refine x_iconst (v := nI 5) C0 rfl dX7_readThing_10 ?_
    refine x_callV [_] C0 hN rfl (xRf_of hR (by decide) (Nat.zero_le _) (Nat.zero_le _)) mv_X9_refuse wm_X7_78 dX7_readThing_11 (by assumption) rfl rfl (Nat.le_of_ble_eq_true rfl) (c_X9_refuse hS T A (by decide) (by decide) (fun I1 f1 A1 => ?_))
    exact h14 I1 f1 (by rw [if_neg (fun z => g6 ((nI_lt_iff (by omega) (by omega)).mpr z))]; exact A1)
theorem c_X7_readScene {S : xTS} {R : xTR} {I : xTI} {J : xTJ} {post : xPost} (hS : fixd S R) {tp : Nat → Nat} {n : Nat} (T : CTp I tp n) {s : pS} (A : TAt R I J tp n s) {g : Nat} (hg : 7 ≤ g) (hF : isFilm S R g) {F : pF} (ok : FOk F) (C : CFm I J g F) (hp : ∀ R' I' J', FrL g R I J R' I' J' → (I' 3 = I 3 ∧ I' 4 = I 4 ∧ I' 5 = I 5) → TAt R' I' J' tp n (pLScene (tTok tp n) F s) → ((pLScene (tTok tp n) F s).2 = 0 → I' g 3 = I g 3 ∧ F.1.2.1 < 8 ∧ cvT (tTok tp n) F (s.1 + 1, 0) < F.1.1 ∧ cvT (tTok tp n) F (pNeed (tTok tp n) 4 (pClm (tTok tp n) F (s.1 + 1, 0))) < F.1.1 ∧ CFm I' J' g (fScene F (cvT (tTok tp n) F (s.1 + 1, 0), cvB (tTok tp n) F (s.1 + 1, 0), cvT (tTok tp n) F (pNeed (tTok tp n) 4 (pClm (tTok tp n) F (s.1 + 1, 0))), cvB (tTok tp n) F (pNeed (tTok tp n) 4 (pClm (tTok tp n) F (s.1 + 1, 0)))))) → post none S R' I' J') : xSpec 7 yX7_readScene cX7_readScene 5 none 0 0 [.ref 3, .ref 1, .ref g] S R I J post := by
  refine xSpec_of mt_X7_readScene (Nat.le_of_ble_eq_true rfl) (fun G C0 hN hR E hI hZ => ?_)
  change XX G 0 0 0 [some (.ref 3), some (.ref 1), some (.ref g), none, none] [] S R I J
  have s1 := hS.sTape
  have s2 := hS.sSigns
  have r0 := hS.rSigns
  obtain ⟨t1, t2, t3⟩ := id T
  have zg := hF.1
  have zr := hS.sReader
  obtain ⟨c0, c1, c2, c3, c4, c5, c6⟩ := id C
  have k6 := ok.1
  have k8 := ok.2.1
  have k6v := ok.2.2.1
  have h14 : ∀ I1, TFr R I J R I1 J → TAt R I1 J tp n (if F.1.2.1 < 8 then s else pRef (tTok tp n) 5 s) → XX G 0 0 14 [some (.ref 3), some (.ref 1), some (.ref g), none, none] [] S R I1 J := by
    intro I1 f1 A1
    refine x_aload_n C0 rfl dX7_readScene_14 ?_
    refine x_callV [] C0 hN rfl (xRf_of hR (by decide) (Nat.zero_le _) (Nat.zero_le _)) mv_X9_step wm_X7_93 dX7_readScene_15 (by assumption) rfl rfl (Nat.le_of_ble_eq_true rfl) (c_stepA (hS.tfr f1) (T.tfr f1) A1 (fun R2 I2 J2 f2 A2 => ?_))
    refine x_aload_n C0 rfl dX7_readScene_18 ?_
    refine x_aload_n C0 rfl dX7_readScene_19 ?_
    refine x_callS [_, _] C0 (xRf_of hR (by decide) (Nat.zero_le _) (Nat.zero_le _)) ms_X7_readClaim wm_X7_111 dX7_readScene_20 rfl rfl (Nat.le_of_ble_eq_true rfl) (c_X7_readClaim (hS.tfr (f1.trans f2)) (T.tfr (f1.trans f2)) A2 hg (hF.tfr hg (f1.trans f2)) ok (C.tfr hg (f1.trans f2)) (fun v3 R3 I3 J3 f3 A3 e3 => ?_))
    refine x_istore_n (L' := [_, _, _, _, _]) C0 hN (by decide) rfl dX7_readScene_23 ?_
    refine x_aload_n C0 rfl dX7_readScene_24 ?_
    refine x_word 4 C0 (by decide) wg_X7_115 dX7_readScene_25 ?_
    refine x_callV [_] C0 hN rfl (xRf_of hR (by decide) (Nat.zero_le _) (Nat.zero_le _)) mv_X9_need wm_X7_118 dX7_readScene_28 (by assumption) rfl rfl (Nat.le_of_ble_eq_true rfl) (c_X9_need (hS.tfr ((f1.trans f2).trans f3)) (T.tfr ((f1.trans f2).trans f3)) A3 (by decide) (fun R4 I4 J4 f4 A4 => ?_))
    refine x_aload_n C0 rfl dX7_readScene_31 ?_
    refine x_aload_n C0 rfl dX7_readScene_32 ?_
    refine x_callS [_, _] C0 (xRf_of hR (by decide) (Nat.zero_le _) (Nat.zero_le _)) ms_X7_readClaim wm_X7_111 dX7_readScene_33 rfl rfl (Nat.le_of_ble_eq_true rfl) (c_X7_readClaim (hS.tfr (((f1.trans f2).trans f3).trans f4)) (T.tfr (((f1.trans f2).trans f3).trans f4)) A4 hg (hF.tfr hg (((f1.trans f2).trans f3).trans f4)) ok (C.tfr hg (((f1.trans f2).trans f3).trans f4)) (fun v5 R5 I5 J5 f5 A5 e5 => ?_))
    refine x_istore (L' := [_, _, _, _, _]) C0 hN (by decide) rfl dX7_readScene_36 ?_
    refine x_aload_n C0 rfl dX7_readScene_38 ?_
    refine x_bipush (v := nI 59) C0 rfl dX7_readScene_39 ?_
    refine x_callV [_] C0 hN rfl (xRf_of hR (by decide) (Nat.zero_le _) (Nat.zero_le _)) mv_X9_needSign wm_X7_100 dX7_readScene_41 (by assumption) rfl rfl (Nat.le_of_ble_eq_true rfl) (c_X9_needSign (hS.tfr ((((f1.trans f2).trans f3).trans f4).trans f5)) (T.tfr ((((f1.trans f2).trans f3).trans f4).trans f5)) A5 (by decide) (fun R6 I6 J6 f6 A6 => ?_))
    refine x_aload_n C0 rfl dX7_readScene_44 ?_
    refine x_getI C0 wf_X7_82 (by assumption) rfl dX7_readScene_45 ?_
    refine x_topi A6.1 ?_
    refine x_if_ne (tgt := 58) C0 (by decide) dX7_readScene_48 (fun g34 => ?_) (fun g34 => ?_)
    · refine x_vret C0 E (by decide) (by decide) dX7_readScene_58 ?_
      have hf := (((((f1.trans f2).trans f3).trans f4).trans f5).trans f6)
      exact hp R6 I6 J6 (FrL.tfr hf) ⟨hf.1 3 (by decide), hf.1 4 (by decide), hf.1 5 (by decide)⟩ A6 (fun z => absurd (show nI (pLScene (tTok tp n) F s).2 = 0 by rw [z]; rfl) g34)
    · have z6 : (pLScene (tTok tp n) F s).2 = 0 := (nI_eq (b := 0) (by have := A6.2.1; exact Nat.lt_trans this (by decide)) (by decide)).mp g34
      have z5 := pz (f := pSign (tTok tp n) 59) (fun y => pSign_f y) z6
      obtain ⟨-, t5, ht5, et5, ev5⟩ := e5 z5
      have z4 := pz (f := pClm (tTok tp n) F) (fun y => pClm_f y) z5
      have z3 := pz (f := pNeed (tTok tp n) 4) (fun y => pNeed_f y) z4
      obtain ⟨-, t3, ht3, et3, ev3⟩ := e3 z3
      have z2 := pz (f := pClm (tTok tp n) F) (fun y => pClm_f y) z3
      obtain ⟨hN8, z0, e2⟩ := pFull_z (q := (tTok tp n)) (b := F.1.2.1 < 8) z2
      have e2' : pNext (if F.1.2.1 < 8 then s else pRef (tTok tp n) 5 s) = (s.1 + 1, 0) := e2
      rw [e2'] at et3 ev3 et5 ev5
      have q3 : t3 = cvT (tTok tp n) F (s.1 + 1, 0) := by unfold cvT; rw [et3]; rfl
      have q5 : t5 = cvT (tTok tp n) F (pNeed (tTok tp n) 4 (pClm (tTok tp n) F (s.1 + 1, 0))) := by unfold cvT; rw [et5]; rfl
      have w3 : v3 = nI (2 * cvT (tTok tp n) F (s.1 + 1, 0) + cvB (tTok tp n) F (s.1 + 1, 0)) := by rw [ev3, q3]; rfl
      have w5 : v5 = nI (2 * cvT (tTok tp n) F (pNeed (tTok tp n) 4 (pClm (tTok tp n) F (s.1 + 1, 0))) + cvB (tTok tp n) F (pNeed (tTok tp n) 4 (pClm (tTok tp n) F (s.1 + 1, 0)))) := by rw [ev5, q5]; rfl
      rw [q3] at ht3
      rw [q5] at ht5
      rw [w3, w5]
      refine x_aload_n C0 rfl dX7_readScene_51 ?_
      refine x_iload_n C0 rfl dX7_readScene_52 ?_
      refine x_iload C0 rfl dX7_readScene_53 ?_
      refine x_callV [_, _] C0 hN rfl (xRf_of hR (by decide) (Nat.zero_le _) (Nat.zero_le _)) mv_X2_addScene wm_X7_122 dX7_readScene_55 (by assumption) rfl rfl (Nat.le_of_ble_eq_true rfl) (c_X2_addScene (hF.tfr hg (((((f1.trans f2).trans f3).trans f4).trans f5).trans f6)) ok (C.tfr hg (((((f1.trans f2).trans f3).trans f4).trans f5).trans f6)) hN8 (fun I7 s7 k7 C7 => ?_))
      refine x_vret C0 E (by decide) (by decide) dX7_readScene_58 ?_
      have hf := (((((f1.trans f2).trans f3).trans f4).trans f5).trans f6)
      refine hp R6 I7 J6 ((FrL.tfr hf).trans ⟨fun a _ _ _ _ h => s7 a (by omega), by rw [s7 1 (by omega)], fun a _ h _ => rfl, fun _ _ _ => rfl⟩) ?_ (A6.congr (s7 1 (by omega)) rfl rfl) (fun _ => ⟨?_, hN8, ht3, ht5, C7⟩)
      · exact ⟨(s7 3 (by omega)).trans (hf.1 3 (by decide)), (s7 4 (by omega)).trans (hf.1 4 (by decide)), (s7 5 (by omega)).trans (hf.1 5 (by decide))⟩
      · rw [k7 3 (by decide), hf.1 g (by omega)]
  refine x_aload_n C0 rfl dX7_readScene_0 ?_
  refine x_getI C0 wf_X7_108 (by assumption) rfl dX7_readScene_1 ?_
  refine x_topi c1 ?_
  refine x_bipush (v := nI 8) C0 rfl dX7_readScene_4 ?_
  refine x_icmp_lt (tgt := 14) C0 (by decide) dX7_readScene_6 (fun g6 => ?_) (fun g6 => ?_)
  · exact h14 I TFr.rf (by rw [if_pos ((nI_lt_iff (by omega) (by omega)).mp g6)]; exact A)
  · refine x_aload_n C0 rfl dX7_readScene_9 ?_
    refine x_iconst (v := nI 5) C0 rfl dX7_readScene_10 ?_
    refine x_callV [_] C0 hN rfl (xRf_of hR (by decide) (Nat.zero_le _) (Nat.zero_le _)) mv_X9_refuse wm_X7_78 dX7_readScene_11 (by assumption) rfl rfl (Nat.le_of_ble_eq_true rfl) (c_X9_refuse hS T A (by decide) (by decide) (fun I1 f1 A1 => ?_))
    exact h14 I1 f1 (by rw [if_neg (fun z => g6 ((nI_lt_iff (by omega) (by omega)).mpr z))]; exact A1)
theorem c_X7_readWatcher {S : xTS} {R : xTR} {I : xTI} {J : xTJ} {post : xPost} (hS : fixd S R) {tp : Nat → Nat} {n : Nat} (T : CTp I tp n) {s : pS} (A : TAt R I J tp n s) {g : Nat} (hg : 7 ≤ g) (hF : isFilm S R g) {F : pF} (ok : FOk F) (C : CFm I J g F) (hp : ∀ R' I' J', FrL g R I J R' I' J' → (I' 3 = I 3 ∧ I' 4 = I 4 ∧ I' 5 = I 5) → TAt R' I' J' tp n (pLWatch (tTok tp n) F s) → ((pLWatch (tTok tp n) F s).2 = 0 → I' g 3 = I g 3 ∧ F.1.2.2.1 < 6 ∧ ((tTok tp n) (s.1 + 1)).2.1 < 2 ^ 40 ∧ ¬ pTold F ((tTok tp n) (s.1 + 1)).2.1 ∧ ((wHr (tTok tp n) 15 4 (pNew (tTok tp n) F (s.1 + 1, 0))).getD 0) < 4 ∧ (((tTok tp n) (pNeed (tTok tp n) 6 (pOne (tTok tp n) 15 4 (pNew (tTok tp n) F (s.1 + 1, 0)))).1).2.1) ≤ 9 ∧ 1 ≤ (((tTok tp n) (pNeed (tTok tp n) 7 (pNum (tTok tp n) 0 9 (pNeed (tTok tp n) 6 (pOne (tTok tp n) 15 4 (pNew (tTok tp n) F (s.1 + 1, 0)))))).1).2.1) ∧ (((tTok tp n) (pNeed (tTok tp n) 7 (pNum (tTok tp n) 0 9 (pNeed (tTok tp n) 6 (pOne (tTok tp n) 15 4 (pNew (tTok tp n) F (s.1 + 1, 0)))))).1).2.1) ≤ 30 ∧ CFm I' J' g (fWatch F ((tTok tp n) (s.1 + 1)).2.1 (((wHr (tTok tp n) 15 4 (pNew (tTok tp n) F (s.1 + 1, 0))).getD 0), (((tTok tp n) (pNeed (tTok tp n) 6 (pOne (tTok tp n) 15 4 (pNew (tTok tp n) F (s.1 + 1, 0)))).1).2.1), (((tTok tp n) (pNeed (tTok tp n) 7 (pNum (tTok tp n) 0 9 (pNeed (tTok tp n) 6 (pOne (tTok tp n) 15 4 (pNew (tTok tp n) F (s.1 + 1, 0)))))).1).2.1)))) → post none S R' I' J') : xSpec 7 yX7_readWatcher cX7_readWatcher 8 none 0 0 [.ref 3, .ref 1, .ref g] S R I J post := by
  refine xSpec_of mt_X7_readWatcher (Nat.le_of_ble_eq_true rfl) (fun G C0 hN hR E hI hZ => ?_)
  change XX G 0 0 0 [some (.ref 3), some (.ref 1), some (.ref g), none, none, none, none, none] [] S R I J
  have s1 := hS.sTape
  have s2 := hS.sSigns
  have r0 := hS.rSigns
  obtain ⟨t1, t2, t3⟩ := id T
  have zg := hF.1
  have zr := hS.sReader
  obtain ⟨c0, c1, c2, c3, c4, c5, c6⟩ := id C
  have k6 := ok.1
  have k8 := ok.2.1
  have k6v := ok.2.2.1
  have h14 : ∀ I1, TFr R I J R I1 J → TAt R I1 J tp n (if F.1.2.2.1 < 6 then s else pRef (tTok tp n) 5 s) → XX G 0 0 14 [some (.ref 3), some (.ref 1), some (.ref g), none, none, none, none, none] [] S R I1 J := by
    intro I1 f1 A1
    refine x_aload_n C0 rfl dX7_readWatcher_14 ?_
    refine x_callV [] C0 hN rfl (xRf_of hR (by decide) (Nat.zero_le _) (Nat.zero_le _)) mv_X9_step wm_X7_93 dX7_readWatcher_15 (by assumption) rfl rfl (Nat.le_of_ble_eq_true rfl) (c_stepA (hS.tfr f1) (T.tfr f1) A1 (fun R2 I2 J2 f2 A2 => ?_))
    refine x_aload_n C0 rfl dX7_readWatcher_18 ?_
    refine x_aload_n C0 rfl dX7_readWatcher_19 ?_
    refine x_callS [_, _] C0 (xRf_of hR (by decide) (Nat.zero_le _) (Nat.zero_le _)) ms_X7_newName wm_X7_96 dX7_readWatcher_20 rfl rfl (Nat.le_of_ble_eq_true rfl) (c_X7_newName (hS.tfr (f1.trans f2)) (T.tfr (f1.trans f2)) A2 hg (hF.tfr hg (f1.trans f2)) ok (C.tfr hg (f1.trans f2)) (fun v3 R3 I3 J3 f3 A3 e3 => ?_))
    refine x_lstore_n (L' := [_, _, _, _, _, _, _, _]) C0 hN (by decide) rfl dX7_readWatcher_23 ?_
    refine x_aload_n C0 rfl dX7_readWatcher_24 ?_
    refine x_callS [_] C0 (xRf_of hR (by decide) (Nat.zero_le _) (Nat.zero_le _)) ms_X7_readKind wm_X7_129 dX7_readWatcher_25 rfl rfl (Nat.le_of_ble_eq_true rfl) (c_X7_readKind (hS.tfr ((f1.trans f2).trans f3)) (T.tfr ((f1.trans f2).trans f3)) A3 (fun v4 R4 I4 J4 f4 A4 e4 => ?_))
    refine x_istore (L' := [_, _, _, _, _, _, _, _]) C0 hN (by decide) rfl dX7_readWatcher_28 ?_
    refine x_aload_n C0 rfl dX7_readWatcher_30 ?_
    refine x_word 6 C0 (by decide) wg_X7_133 dX7_readWatcher_31 ?_
    refine x_callV [_] C0 hN rfl (xRf_of hR (by decide) (Nat.zero_le _) (Nat.zero_le _)) mv_X9_need wm_X7_118 dX7_readWatcher_34 (by assumption) rfl rfl (Nat.le_of_ble_eq_true rfl) (c_X9_need (hS.tfr (((f1.trans f2).trans f3).trans f4)) (T.tfr (((f1.trans f2).trans f3).trans f4)) A4 (by decide) (fun R5 I5 J5 f5 A5 => ?_))
    refine x_aload_n C0 rfl dX7_readWatcher_37 ?_
    refine x_iconst (v := nI 0) C0 rfl dX7_readWatcher_38 ?_
    refine x_bipush (v := nI 9) C0 rfl dX7_readWatcher_39 ?_
    refine x_callV [_, _] C0 hN rfl (xRf_of hR (by decide) (Nat.zero_le _) (Nat.zero_le _)) mv_X9_number wm_X7_136 dX7_readWatcher_41 (by assumption) rfl rfl (Nat.le_of_ble_eq_true rfl) (c_X9_number (hS.tfr ((((f1.trans f2).trans f3).trans f4).trans f5)) (T.tfr ((((f1.trans f2).trans f3).trans f4).trans f5)) A5 (by decide) (by decide) (fun v6 R6 I6 J6 f6 A6 e6 => ?_))
    refine x_istore (L' := [_, _, _, _, _, _, _, _]) C0 hN (by decide) rfl dX7_readWatcher_44 ?_
    refine x_aload_n C0 rfl dX7_readWatcher_46 ?_
    refine x_word 7 C0 (by decide) wg_X7_140 dX7_readWatcher_47 ?_
    refine x_callV [_] C0 hN rfl (xRf_of hR (by decide) (Nat.zero_le _) (Nat.zero_le _)) mv_X9_need wm_X7_118 dX7_readWatcher_50 (by assumption) rfl rfl (Nat.le_of_ble_eq_true rfl) (c_X9_need (hS.tfr (((((f1.trans f2).trans f3).trans f4).trans f5).trans f6)) (T.tfr (((((f1.trans f2).trans f3).trans f4).trans f5).trans f6)) A6 (by decide) (fun R7 I7 J7 f7 A7 => ?_))
    refine x_aload_n C0 rfl dX7_readWatcher_53 ?_
    refine x_iconst (v := nI 1) C0 rfl dX7_readWatcher_54 ?_
    refine x_bipush (v := nI 30) C0 rfl dX7_readWatcher_55 ?_
    refine x_callV [_, _] C0 hN rfl (xRf_of hR (by decide) (Nat.zero_le _) (Nat.zero_le _)) mv_X9_number wm_X7_136 dX7_readWatcher_57 (by assumption) rfl rfl (Nat.le_of_ble_eq_true rfl) (c_X9_number (hS.tfr ((((((f1.trans f2).trans f3).trans f4).trans f5).trans f6).trans f7)) (T.tfr ((((((f1.trans f2).trans f3).trans f4).trans f5).trans f6).trans f7)) A7 (by decide) (by decide) (fun v8 R8 I8 J8 f8 A8 e8 => ?_))
    refine x_istore (L' := [_, _, _, _, _, _, _, _]) C0 hN (by decide) rfl dX7_readWatcher_60 ?_
    refine x_aload_n C0 rfl dX7_readWatcher_62 ?_
    refine x_bipush (v := nI 59) C0 rfl dX7_readWatcher_63 ?_
    refine x_callV [_] C0 hN rfl (xRf_of hR (by decide) (Nat.zero_le _) (Nat.zero_le _)) mv_X9_needSign wm_X7_100 dX7_readWatcher_65 (by assumption) rfl rfl (Nat.le_of_ble_eq_true rfl) (c_X9_needSign (hS.tfr (((((((f1.trans f2).trans f3).trans f4).trans f5).trans f6).trans f7).trans f8)) (T.tfr (((((((f1.trans f2).trans f3).trans f4).trans f5).trans f6).trans f7).trans f8)) A8 (by decide) (fun R9 I9 J9 f9 A9 => ?_))
    refine x_aload_n C0 rfl dX7_readWatcher_68 ?_
    refine x_getI C0 wf_X7_82 (by assumption) rfl dX7_readWatcher_69 ?_
    refine x_topi A9.1 ?_
    refine x_if_ne (tgt := 86) C0 (by decide) dX7_readWatcher_72 (fun g34 => ?_) (fun g34 => ?_)
    · refine x_vret C0 E (by decide) (by decide) dX7_readWatcher_86 ?_
      have hf := ((((((((f1.trans f2).trans f3).trans f4).trans f5).trans f6).trans f7).trans f8).trans f9)
      exact hp R9 I9 J9 (FrL.tfr hf) ⟨hf.1 3 (by decide), hf.1 4 (by decide), hf.1 5 (by decide)⟩ A9 (fun z => absurd (show nI (pLWatch (tTok tp n) F s).2 = 0 by rw [z]; rfl) g34)
    · have z9 : (pLWatch (tTok tp n) F s).2 = 0 := (nI_eq (b := 0) (by have := A9.2.1; exact Nat.lt_trans this (by decide)) (by decide)).mp g34
      have z8 := pz (f := pSign (tTok tp n) 59) (fun y => pSign_f y) z9
      obtain ⟨-, ev8, -, l8, u8⟩ := e8 z8
      have z7 := pz (f := pNum (tTok tp n) 1 30) (fun y => pNum_f y) z8
      have z6 := pz (f := pNeed (tTok tp n) 7) (fun y => pNeed_f y) z7
      obtain ⟨-, ev6, -, l6, u6⟩ := e6 z6
      have z5 := pz (f := pNum (tTok tp n) 0 9) (fun y => pNum_f y) z6
      have z4 := pz (f := pNeed (tTok tp n) 6) (fun y => pNeed_f y) z5
      obtain ⟨-, k4, hk4, ev4, ek4⟩ := e4 z4
      have z3 := pz (f := pOne (tTok tp n) 15 4) (fun y => pOne_f y) z4
      obtain ⟨-, ev3, hv40, hnt⟩ := e3 z3
      have z2 := pz (f := pNew (tTok tp n) F) (fun y => pNew_f y) z3
      obtain ⟨hV6, z0, e2⟩ := pFull_z (q := (tTok tp n)) (b := F.1.2.2.1 < 6) z2
      have e2' : pNext (if F.1.2.2.1 < 6 then s else pRef (tTok tp n) 5 s) = (s.1 + 1, 0) := e2
      rw [e2'] at ev3 hv40 hnt ek4 ev6 l6 u6 ev8 l8 u8
      have q4 : k4 = ((wHr (tTok tp n) 15 4 (pNew (tTok tp n) F (s.1 + 1, 0))).getD 0) := by rw [ek4]; rfl
      rw [q4] at ev4 hk4
      rw [ev4, ev6, ev8, ev3]
      refine x_aload_n C0 rfl dX7_readWatcher_75 ?_
      refine x_lload_n C0 rfl dX7_readWatcher_76 ?_
      refine x_iload C0 rfl dX7_readWatcher_77 ?_
      refine x_iload C0 rfl dX7_readWatcher_79 ?_
      refine x_iload C0 rfl dX7_readWatcher_81 ?_
      refine x_callV [_, _, _, _] C0 hN rfl (xRf_of hR (by decide) (Nat.zero_le _) (Nat.zero_le _)) mv_X2_addWatcher wm_X7_143 dX7_readWatcher_83 (by assumption) rfl rfl (Nat.le_of_ble_eq_true rfl) (c_X2_addWatcher (hF.tfr hg ((((((((f1.trans f2).trans f3).trans f4).trans f5).trans f6).trans f7).trans f8).trans f9)) ok (C.tfr hg ((((((((f1.trans f2).trans f3).trans f4).trans f5).trans f6).trans f7).trans f8).trans f9)) hV6 (fun I10 J10 s7 k7 j7 C7 => ?_))
      refine x_vret C0 E (by decide) (by decide) dX7_readWatcher_86 ?_
      have hf := ((((((((f1.trans f2).trans f3).trans f4).trans f5).trans f6).trans f7).trans f8).trans f9)
      refine hp R9 I10 J10 ((FrL.tfr hf).trans ⟨fun a _ _ _ _ h => s7 a (by omega), by rw [s7 1 (by omega)], fun a _ _ h => j7 a h, fun _ _ _ => rfl⟩) ?_ (A9.congr (s7 1 (by omega)) (j7 1 (by omega)) rfl) (fun _ => ⟨?_, hV6, hv40, hnt, hk4, u6, l8, u8, C7⟩)
      · exact ⟨(s7 3 (by omega)).trans (hf.1 3 (by decide)), (s7 4 (by omega)).trans (hf.1 4 (by decide)), (s7 5 (by omega)).trans (hf.1 5 (by decide))⟩
      · rw [k7 3 (by decide), hf.1 g (by omega)]
  refine x_aload_n C0 rfl dX7_readWatcher_0 ?_
  refine x_getI C0 wf_X7_126 (by assumption) rfl dX7_readWatcher_1 ?_
  refine x_topi c2 ?_
  refine x_bipush (v := nI 6) C0 rfl dX7_readWatcher_4 ?_
  refine x_icmp_lt (tgt := 14) C0 (by decide) dX7_readWatcher_6 (fun g6 => ?_) (fun g6 => ?_)
  · exact h14 I TFr.rf (by rw [if_pos ((nI_lt_iff (by omega) (by omega)).mp g6)]; exact A)
  · refine x_aload_n C0 rfl dX7_readWatcher_9 ?_
    refine x_iconst (v := nI 5) C0 rfl dX7_readWatcher_10 ?_
    refine x_callV [_] C0 hN rfl (xRf_of hR (by decide) (Nat.zero_le _) (Nat.zero_le _)) mv_X9_refuse wm_X7_78 dX7_readWatcher_11 (by assumption) rfl rfl (Nat.le_of_ble_eq_true rfl) (c_X9_refuse hS T A (by decide) (by decide) (fun I1 f1 A1 => ?_))
    exact h14 I1 f1 (by rw [if_neg (fun z => g6 ((nI_lt_iff (by omega) (by omega)).mpr z))]; exact A1)
theorem c_X7_readStar {S : xTS} {R : xTR} {I : xTI} {J : xTJ} {post : xPost} (hS : fixd S R) {tp : Nat → Nat} {n : Nat} (T : CTp I tp n) {s : pS} (A : TAt R I J tp n s) {g : Nat} (hg : 7 ≤ g) (hF : isFilm S R g) {F : pF} (ok : FOk F) (C : CFm I J g F) {b : Bool} (eb : I 3 1 = bI b) (hp : ∀ R' I' J', FrL g R I J R' I' J' → (I' 3 1 = 1 ∧ I' 3 2 = I 3 2 ∧ I' 4 = I 4 ∧ I' 5 = I 5) → TAt R' I' J' tp n (pLStar (tTok tp n) b s) → ((pLStar (tTok tp n) b s).2 = 0 → b = false ∧ ((tTok tp n) (s.1 + 1)).2.1 ≤ 8 ∧ I' g 3 = nI ((tTok tp n) (s.1 + 1)).2.1 ∧ CFm I' J' g F) → post none S R' I' J') : xSpec 7 yX7_readStar cX7_readStar 3 none 0 0 [.ref 3, .ref 1, .ref g] S R I J post := by
  refine xSpec_of mt_X7_readStar (Nat.le_of_ble_eq_true rfl) (fun G C0 hN hR E hI hZ => ?_)
  change XX G 0 0 0 [some (.ref 3), some (.ref 1), some (.ref g)] [] S R I J
  have s1 := hS.sTape
  have s2 := hS.sSigns
  have r0 := hS.rSigns
  obtain ⟨t1, t2, t3⟩ := id T
  have zg := hF.1
  have zr := hS.sReader
  obtain ⟨c0, c1, c2, c3, c4, c5, c6⟩ := id C
  have k6 := ok.1
  have k8 := ok.2.1
  have k6v := ok.2.2.1
  have h12 : ∀ I1, TFr R I J R I1 J → TAt R I1 J tp n (if b = true then pRef (tTok tp n) 3 s else s) → XX G 0 0 12 [some (.ref 3), some (.ref 1), some (.ref g)] [] S R I1 J := by
    intro I1 f1 A1
    have T2 : CTp (u2 I1 3 1 (nI 1)) tp n := ⟨by rw [u2_row _ _ _ (by decide)]; exact (T.tfr f1).1, T.2.1, fun i hi => by rw [u2_row _ _ _ (by decide)]; exact (T.tfr f1).2.2 i hi⟩
    have A2 := A1.congr (I' := u2 I1 3 1 (nI 1)) (J' := J) (R' := R) (u2_row _ _ _ (by decide)) rfl rfl
    have hS1 := hS.tfr f1
    refine x_aload_n C0 rfl dX7_readStar_12 ?_
    refine x_iconst (v := nI 1) C0 rfl dX7_readStar_13 ?_
    refine x_putZ C0 wf_X7_23 (by assumption) rfl (Or.inr rfl) dX7_readStar_14 ?_
    refine x_aload_n C0 rfl dX7_readStar_17 ?_
    refine x_callV [] C0 hN rfl (xRf_of hR (by decide) (Nat.zero_le _) (Nat.zero_le _)) mv_X9_step wm_X7_93 dX7_readStar_18 (by assumption) rfl rfl (Nat.le_of_ble_eq_true rfl) (c_stepA hS1 T2 A2 (fun R2 I2 J2 f2 A2 => ?_))
    refine x_aload_n C0 rfl dX7_readStar_21 ?_
    refine x_aload_n C0 rfl dX7_readStar_22 ?_
    refine x_iconst (v := nI 0) C0 rfl dX7_readStar_23 ?_
    refine x_bipush (v := nI 8) C0 rfl dX7_readStar_24 ?_
    refine x_callV [_, _] C0 hN rfl (xRf_of hR (by decide) (Nat.zero_le _) (Nat.zero_le _)) mv_X9_number wm_X7_136 dX7_readStar_26 (by assumption) rfl rfl (Nat.le_of_ble_eq_true rfl) (c_X9_number (hS1.tfr f2) (T2.tfr f2) A2 (by decide) (by decide) (fun v3 R3 I3 J3 f3 A3 e3 => ?_))
    refine x_putI C0 wf_X7_147 zg rfl dX7_readStar_29 ?_
    have f23 := f2.trans f3
    have T3 := T2.tfr f23
    have T4 : CTp (u2 I3 g 3 v3) tp n := ⟨by rw [u2_row _ _ _ (by omega)]; exact T3.1, T3.2.1, fun i hi => by rw [u2_row _ _ _ (by omega)]; exact T3.2.2 i hi⟩
    have A4 := A3.congr (I' := u2 I3 g 3 v3) (J' := J3) (R' := R3) (u2_row _ _ _ (by omega)) rfl rfl
    refine x_aload_n C0 rfl dX7_readStar_32 ?_
    refine x_bipush (v := nI 59) C0 rfl dX7_readStar_33 ?_
    refine x_callV [_] C0 hN rfl (xRf_of hR (by decide) (Nat.zero_le _) (Nat.zero_le _)) mv_X9_needSign wm_X7_100 dX7_readStar_35 (by assumption) rfl rfl (Nat.le_of_ble_eq_true rfl) (c_X9_needSign (hS1.tfr f23) T4 A4 (by decide) (fun R5 I5 J5 f5 A5 => ?_))
    refine x_vret C0 E (by decide) (by decide) dX7_readStar_38 ?_
    refine hp R5 I5 J5 ?_ ?_ A5 (fun z => ?_)
    · refine (FrL.tfr f1).trans (FrL.trans ⟨fun a _ h3 _ _ _ => u2_row _ _ _ h3, by rw [u2_row _ _ _ (by decide)], fun _ _ _ _ => rfl, fun _ _ _ => rfl⟩ ((FrL.tfr f23).trans (FrL.trans ⟨fun a _ _ _ _ h => u2_row _ _ _ (by omega), by rw [u2_row _ _ _ (by omega)], fun _ _ _ _ => rfl, fun _ _ _ => rfl⟩ (FrL.tfr f5))))
    · have e : ∀ a, a ≠ 1 → a < 7 → I5 a = u2 I1 3 1 (nI 1) a := fun a h1 h7 => by rw [f5.1 a h1, u2_row _ _ _ (by omega), f23.1 a h1]
      exact ⟨by rw [e 3 (by decide) (by decide), u2_same]; rfl, by rw [e 3 (by decide) (by decide), u2_off _ _ (by decide), f1.1 3 (by decide)], by rw [e 4 (by decide) (by decide), u2_row _ _ _ (by decide), f1.1 4 (by decide)], by rw [e 5 (by decide) (by decide), u2_row _ _ _ (by decide), f1.1 5 (by decide)]⟩
    · have z4 := pz (f := pSign (tTok tp n) 59) (fun y => pSign_f y) z
      obtain ⟨-, ev, -, -, u8⟩ := e3 z4
      have z3 := pz (f := pNum (tTok tp n) 0 8) (fun y => pNum_f y) z4
      obtain ⟨hb, z0, e2⟩ := pOnce_z (q := (tTok tp n)) (b := b) z3
      have e2' : pNext (if b = true then pRef (tTok tp n) 3 s else s) = (s.1 + 1, 0) := e2
      rw [e2'] at ev u8
      refine ⟨hb, u8, ?_, ?_⟩
      · rw [f5.1 g (by omega), u2_same]; exact ev
      · refine CFm.tfr (CFm.congr (I := I3) (J := J3) ((CFm.congr (C.tfr hg f1) (I' := u2 I1 3 1 (nI 1)) (J' := J) ?_ ?_ ?_ ?_ rfl rfl).tfr hg f23) ?_ ?_ ?_ ?_ rfl rfl) hg f5
        · rw [u2_row _ _ _ (by omega)]
        · rw [u2_row _ _ _ (by omega)]
        · rw [u2_row _ _ _ (by omega)]
        · exact fun j _ _ => u2_row _ _ _ (by omega)
        · rw [u2_off _ _ (by decide)]
        · rw [u2_off _ _ (by decide)]
        · rw [u2_off _ _ (by decide)]
        · exact fun j _ _ => u2_row _ _ _ (by omega)
  refine x_aload_n C0 rfl dX7_readStar_0 ?_
  refine x_getZ C0 wf_X7_23 (by assumption) rfl dX7_readStar_1 ?_
  refine x_topi eb ?_
  refine x_if_eq (tgt := 12) C0 (by decide) dX7_readStar_4 (fun g4 => ?_) (fun g4 => ?_)
  · exact h12 I TFr.rf (by cases b; exact A; exact absurd g4 (by decide))
  · refine x_aload_n C0 rfl dX7_readStar_7 ?_
    refine x_iconst (v := nI 3) C0 rfl dX7_readStar_8 ?_
    refine x_callV [_] C0 hN rfl (xRf_of hR (by decide) (Nat.zero_le _) (Nat.zero_le _)) mv_X9_refuse wm_X7_78 dX7_readStar_9 (by assumption) rfl rfl (Nat.le_of_ble_eq_true rfl) (c_X9_refuse hS T A (by decide) (by decide) (fun I1 f1 A1 => ?_))
    exact h12 I1 f1 (by cases b; exact absurd rfl g4; exact A1)
