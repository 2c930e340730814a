/-! THE LINES OF AN EVENING, evening; the class -/
def FrH (h : Nat) (R : xTR) (I : xTI) (J : xTJ) (R' : xTR) (I' : xTI) (J' : xTJ) : Prop := (∀ a, a ≠ 1 → (a < h ∨ h + 4 ≤ a) → I' a = I a) ∧ I' 1 1 = I 1 1 ∧ (∀ a, a ≠ 1 → J' a = J a) ∧ (∀ a k, a ≠ 1 ∨ k ≠ 7 → R' a k = R a k)
theorem FrH.tfr {h : Nat} {R R' : xTR} {I I' : xTI} {J J' : xTJ} (f : TFr R I J R' I' J') : FrH h R I J R' I' J' := ⟨fun a q _ => f.1 a q, f.2.1, f.2.2.1, f.2.2.2⟩
theorem FrH.trans {h : Nat} {R R1 R2 : xTR} {I I1 I2 : xTI} {J J1 J2 : xTJ} (a : FrH h R I J R1 I1 J1) (b : FrH h R1 I1 J1 R2 I2 J2) : FrH h R I J R2 I2 J2 := ⟨fun q h1 g => (b.1 q h1 g).trans (a.1 q h1 g), b.2.1.trans a.2.1, fun q h1 => (b.2.2.1 q h1).trans (a.2.2.1 q h1), fun q k g => (b.2.2.2 q k g).trans (a.2.2.2 q k g)⟩
theorem fixd.frh {h : Nat} {S : xTS} {R R' : xTR} {I I' : xTI} {J J' : xTJ} (H : fixd S R) (f : FrH h R I J R' I' J') : fixd S R' := ⟨H.1, fun q hq => (f.2.2.2 _ _ (rtab_17 q hq)).trans (H.2 q hq)⟩
theorem CTp.frh {h : Nat} {R R' : xTR} {I I' : xTI} {J J' : xTJ} {tp : Nat → Nat} {n : Nat} (H : CTp I tp n) (hh : 25 ≤ h) (f : FrH h R I J R' I' J') : CTp I' tp n := ⟨f.2.1.trans H.1, H.2.1, fun i hi => by rw [f.1 2 (by decide) (by omega)]; exact H.2.2 i hi⟩
theorem CFm.frh {h g : Nat} {R R' : xTR} {I I' : xTI} {J J' : xTJ} {F : pF} (H : CFm I J g F) (hg : 7 ≤ g) (hg2 : g ≤ 16) (hh : 25 ≤ h) (f : FrH h R I J R' I' J') : CFm I' J' g F := H.congr (by rw [f.1 g (by omega) (by omega)]) (by rw [f.1 g (by omega) (by omega)]) (by rw [f.1 g (by omega) (by omega)]) (fun j _ _ => f.1 _ (by omega) (by omega)) (f.2.2.1 _ (by omega)) (f.2.2.1 _ (by omega))
theorem cvB_lt {q : xTok} {F : pF} {s : pS} : cvB q F s < 2 := by unfold cvB; split <;> decide
theorem c_X7_readEveningLine {S : xTS} {R : xTR} {I : xTI} {J : xTJ} {post : xPost} (hS : fixd S R) {tp : Nat → Nat} {n : Nat} (T : CTp I tp n) {s : pS} (A : TAt R I J tp n s) {g : Nat} (hg : 7 ≤ g) (hF : isFilm S R g) {F : pF} (ok : FOk F) (C : CFm I J g F) {h : Nat} (h25 : h = 25 ∨ h = 29) (hg16 : g ≤ 16) {ev : Nat} {ln : Nat → Nat × Nat × Nat × Nat} (V0 : CEv I h F ev ln) (hp : ∀ R' I' J', FrH h R I J R' I' J' → TAt R' I' J' tp n (eLine (tTok tp n) F s ev).1 → ((eLine (tTok tp n) F s ev).1.2 = 0 → CEv I' h F (ev + 1) (mUp ln ev (eLine (tTok tp n) F s ev).2)) → post none S R' I' J') : xSpec 7 yX7_readEveningLine cX7_readEveningLine 6 none 0 0 [.ref 1, .ref g, .ref h] S R I J post := by
  refine xSpec_of mt_X7_readEveningLine (Nat.le_of_ble_eq_true rfl) (fun G C0 hN hR E hI hZ => ?_)
  change XX G 0 0 0 [some (.ref 1), some (.ref g), some (.ref h), none, none, none] [] S R I J
  have s1 := hS.sTape
  have s2 := hS.sSigns
  have r0 := hS.rSigns
  obtain ⟨t1, t2, t3⟩ := id T
  have hse := fixd.eve hS h25
  have zh := hse.1
  obtain ⟨q1, q2, q3⟩ := id V0
  have hh25 : 25 ≤ h := by omega
  have hfin : ∀ R1 I1 J1, TFr R I J R1 I1 J1 → TAt R1 I1 J1 tp n (eLine (tTok tp n) F s ev).1 → ¬ (eLine (tTok tp n) F s ev).1.2 = 0 → post none S R1 I1 J1 := fun R1 I1 J1 f1 A1 z => hp R1 I1 J1 (FrH.tfr f1) A1 (fun y => absurd y z)
  have hadd : ∀ R1 I1 J1 I2 c, TFr R I J R1 I1 J1 → TAt R1 I1 J1 tp n (eLine (tTok tp n) F s ev).1 → c = (eLine (tTok tp n) F s ev).2 → (∀ a, (a < h ∨ h + 4 ≤ a) → I2 a = I1 a) → CEv I2 h F (ev + 1) (mUp ln ev c) → post none S R1 I2 J1 := fun R1 I1 J1 I2 c f1 A1 ec s2 V2 => hp R1 I2 J1 ((FrH.tfr f1).trans ⟨fun a _ g => s2 a g, by rw [s2 1 (by omega)], fun _ _ => rfl, fun _ _ _ => rfl⟩) (A1.congr (s2 1 (by omega)) rfl rfl) (fun _ => by rw [← ec]; exact V2)
  refine x_aload_n C0 rfl dX7_readEveningLine_0 ?_
  refine x_callS [_] C0 (xRf_of hR (by decide) (Nat.zero_le _) (Nat.zero_le _)) ms_X7_deedAt wm_X7_202 dX7_readEveningLine_1 rfl rfl (Nat.le_of_ble_eq_true rfl) (c_X7_deedAt hS T A (fun vd hd1 hd2 => ?_))
  cases hw : wHr (tTok tp n) 10 5 s with
  | none =>
    have el : eLine (tTok tp n) F s ev = (pRef (tTok tp n) 1 s, (0, 0, 0, 0)) := by unfold eLine; rw [if_pos hw]
    rw [hd2 hw]
    rw [el] at hfin
    refine x_istore_n (L' := [_, _, _, _, _, _]) C0 hN (by decide) rfl dX7_readEveningLine_4 ?_
    refine x_iload_n C0 rfl dX7_readEveningLine_5 ?_
    refine x_iconst (v := -1) C0 rfl dX7_readEveningLine_6 ?_
    refine x_icmp_ne (tgt := 18) C0 (by decide) dX7_readEveningLine_7 (fun hkk => absurd (by decide) hkk) (fun _ => ?_)
    refine x_aload_n C0 rfl dX7_readEveningLine_10 ?_
    refine x_iconst (v := 1) C0 rfl dX7_readEveningLine_11 ?_
    refine x_callV [_] C0 hN rfl (xRf_of hR (by decide) (Nat.zero_le _) (Nat.zero_le _)) mv_X9_refuse wm_X7_78 dX7_readEveningLine_12 (by assumption) rfl rfl (Nat.le_of_ble_eq_true rfl) (c_X9_refuse (c := 1) hS T A (by decide) (by decide) (fun I1 f1 A1 => ?_))
    refine x_goto (tgt := 32) C0 (by decide) dX7_readEveningLine_15 ?_
    refine x_aload_n C0 rfl dX7_readEveningLine_32 ?_
    refine x_callV [] C0 hN rfl (xRf_of hR (by decide) (Nat.zero_le _) (Nat.zero_le _)) mv_X9_step wm_X7_93 dX7_readEveningLine_33 (by assumption) rfl rfl (Nat.le_of_ble_eq_true rfl) (c_stepA (hS.tfr f1) (T.tfr f1) A1 (fun R2 I2 J2 f2 A2 => ?_))
    rw [pNext_ref (by decide)] at A2
    refine x_iconst (v := 0) C0 rfl dX7_readEveningLine_36 ?_
    refine x_istore (L' := [_, _, _, _, _, _]) C0 hN (by decide) rfl dX7_readEveningLine_37 ?_
    refine x_iconst (v := 0) C0 rfl dX7_readEveningLine_39 ?_
    refine x_istore (L' := [_, _, _, _, _, _]) C0 hN (by decide) rfl dX7_readEveningLine_40 ?_
    refine x_iload_n C0 rfl dX7_readEveningLine_42 ?_
    refine x_iconst (v := 1) C0 rfl dX7_readEveningLine_43 ?_
    refine x_icmp_eq (tgt := 52) C0 (by decide) dX7_readEveningLine_44 (fun hkk => absurd hkk (by decide)) (fun _ => ?_)
    refine x_iload_n C0 rfl dX7_readEveningLine_47 ?_
    refine x_iconst (v := 2) C0 rfl dX7_readEveningLine_48 ?_
    refine x_icmp_ne (tgt := 61) C0 (by decide) dX7_readEveningLine_49 (fun _ => ?_) (fun hkk => absurd hkk (by decide))
    refine x_iload_n C0 rfl dX7_readEveningLine_61 ?_
    refine x_iconst (v := 1) C0 rfl dX7_readEveningLine_62 ?_
    refine x_icmp_ne (tgt := 73) C0 (by decide) dX7_readEveningLine_63 (fun _ => ?_) (fun hkk => absurd hkk (by decide))
    refine x_iload_n C0 rfl dX7_readEveningLine_73 ?_
    refine x_iconst (v := 3) C0 rfl dX7_readEveningLine_74 ?_
    refine x_icmp_ne (tgt := 95) C0 (by decide) dX7_readEveningLine_75 (fun _ => ?_) (fun hkk => absurd hkk (by decide))
    refine x_aload_n C0 rfl dX7_readEveningLine_95 ?_
    refine x_bipush (v := 59) C0 rfl dX7_readEveningLine_96 ?_
    refine x_callV [_] C0 hN rfl (xRf_of hR (by decide) (Nat.zero_le _) (Nat.zero_le _)) mv_X9_needSign wm_X7_100 dX7_readEveningLine_98 (by assumption) rfl rfl (Nat.le_of_ble_eq_true rfl) (c_X9_needSign (c := 59) (hS.tfr (f1.trans f2)) (T.tfr (f1.trans f2)) A2 (by decide) (fun R3 I3 J3 f3 A3 => ?_))
    rw [pSign_f (pRef_ne (by decide))] at A3
    refine x_aload_n C0 rfl dX7_readEveningLine_101 ?_
    refine x_getI C0 wf_X7_82 (by assumption) rfl dX7_readEveningLine_102 ?_
    refine x_topi A3.1 ?_
    refine x_if_ne (tgt := 117) C0 (by decide) dX7_readEveningLine_105 (fun _ => ?_) (fun hkk => absurd hkk ((fun z => pRef_ne (q := tTok tp n) (c := 1) (s := s) (by decide) ((nI_eq (b := 0) (by have := A3.2.1; exact Nat.lt_trans this (by decide)) (by decide)).mp z))))
    refine x_vret C0 E (by decide) (by decide) dX7_readEveningLine_117 ?_
    exact hfin R3 I3 J3 ((f1.trans f2).trans f3) A3 (pRef_ne (by decide))
  | some act =>
    have hact := (wHr_is hw).1
    rw [hd1 act hw]
    rcases (show act = 0 ∨ act = 1 ∨ act = 2 ∨ act = 3 ∨ act = 4 by omega) with rfl | rfl | rfl | rfl | rfl
    · have el : eLine (tTok tp n) F s ev = (pSign (tTok tp n) 59 (pFull (tTok tp n) (ev < 40) s), (0, 0, 0, 0)) := by
        unfold eLine
        rw [hw, if_neg (by decide), if_neg (by decide), if_neg (by decide), if_neg (by decide)]; rfl
      rw [el] at hfin hadd
      have h32 : ∀ I1, TFr R I J R I1 J → TAt R I1 J tp n (if ev < 40 then s else pRef (tTok tp n) 5 s) → XX G 0 0 32 [some (.ref 1), some (.ref g), some (.ref h), some (.int (nI 0)), none, none] [] S R I1 J := by
        intro I1 f1 A1
        refine x_aload_n C0 rfl dX7_readEveningLine_32 ?_
        refine x_callV [] C0 hN rfl (xRf_of hR (by decide) (Nat.zero_le _) (Nat.zero_le _)) mv_X9_step wm_X7_93 dX7_readEveningLine_33 (by assumption) rfl rfl (Nat.le_of_ble_eq_true rfl) (c_stepA (hS.tfr f1) (T.tfr f1) A1 (fun R2 I2 J2 f2 A2 => ?_))
        refine x_iconst (v := nI 0) C0 rfl dX7_readEveningLine_36 ?_
        refine x_istore (L' := [_, _, _, _, _, _]) C0 hN (by decide) rfl dX7_readEveningLine_37 ?_
        refine x_iconst (v := nI 0) C0 rfl dX7_readEveningLine_39 ?_
        refine x_istore (L' := [_, _, _, _, _, _]) C0 hN (by decide) rfl dX7_readEveningLine_40 ?_
        refine x_iload_n C0 rfl dX7_readEveningLine_42 ?_
        refine x_iconst (v := nI 1) C0 rfl dX7_readEveningLine_43 ?_
        refine x_icmp_eq (tgt := 52) C0 (by decide) dX7_readEveningLine_44 (fun hkk => absurd hkk (by decide)) (fun _ => ?_)
        refine x_iload_n C0 rfl dX7_readEveningLine_47 ?_
        refine x_iconst (v := nI 2) C0 rfl dX7_readEveningLine_48 ?_
        refine x_icmp_ne (tgt := 61) C0 (by decide) dX7_readEveningLine_49 (fun _ => ?_) (fun hkk => absurd hkk (by decide))
        refine x_iload_n C0 rfl dX7_readEveningLine_61 ?_
        refine x_iconst (v := nI 1) C0 rfl dX7_readEveningLine_62 ?_
        refine x_icmp_ne (tgt := 73) C0 (by decide) dX7_readEveningLine_63 (fun _ => ?_) (fun hkk => absurd hkk (by decide))
        refine x_iload_n C0 rfl dX7_readEveningLine_73 ?_
        refine x_iconst (v := nI 3) C0 rfl dX7_readEveningLine_74 ?_
        refine x_icmp_ne (tgt := 95) C0 (by decide) dX7_readEveningLine_75 (fun _ => ?_) (fun hkk => absurd hkk (by decide))
        refine x_aload_n C0 rfl dX7_readEveningLine_95 ?_
        refine x_bipush (v := nI 59) C0 rfl dX7_readEveningLine_96 ?_
        refine x_callV [_] C0 hN rfl (xRf_of hR (by decide) (Nat.zero_le _) (Nat.zero_le _)) mv_X9_needSign wm_X7_100 dX7_readEveningLine_98 (by assumption) rfl rfl (Nat.le_of_ble_eq_true rfl) (c_X9_needSign (hS.tfr (f1.trans f2)) (T.tfr (f1.trans f2)) A2 (by decide) (fun R6 I6 J6 f6 A6 => ?_))
        refine x_aload_n C0 rfl dX7_readEveningLine_101 ?_
        refine x_getI C0 wf_X7_82 (by assumption) rfl dX7_readEveningLine_102 ?_
        refine x_topi A6.1 ?_
        refine x_if_ne (tgt := 117) C0 (by decide) dX7_readEveningLine_105 (fun g105 => ?_) (fun g105 => ?_)
        · refine x_vret C0 E (by decide) (by decide) dX7_readEveningLine_117 ?_
          exact hfin R6 I6 J6 ((f1.trans f2).trans f6) A6 (fun z => g105 (congrArg nI (show _ = 0 from z)))
        · have z6 : (pSign (tTok tp n) 59 (pFull (tTok tp n) (ev < 40) s), (0, 0, 0, 0)).1.2 = 0 := (nI_eq (b := 0) (by have := A6.2.1; exact Nat.lt_trans this (by decide)) (by decide)).mp g105
          have z5 := pz (f := pSign (tTok tp n) 59) (fun y => pSign_f y) z6
          obtain ⟨hev, z0, e2⟩ := pFull_z (q := (tTok tp n)) (b := ev < 40) z5
          have VV : CEv I6 h F ev ln := V0.congr (fun j _ => (((f1.trans f2).trans f6)).1 _ (by omega))
          have hh6 := fixd.eve (hS.tfr ((f1.trans f2).trans f6)) h25
          refine x_aload_n C0 rfl dX7_readEveningLine_108 ?_
          refine x_iload_n C0 rfl dX7_readEveningLine_109 ?_
          refine x_iload C0 rfl dX7_readEveningLine_110 ?_
          refine x_iload C0 rfl dX7_readEveningLine_112 ?_
          refine x_callV [_, _, _] C0 hN rfl (xRf_of hR (by decide) (Nat.zero_le _) (Nat.zero_le _)) mv_X1_add wm_X7_209 dX7_readEveningLine_114 hh6.1 rfl rfl (Nat.le_of_ble_eq_true rfl) (c_X1_add hh6 VV hev (c := (0, 0, 0, 0)) ⟨by decide, fun y => (by cases y), fun y => (by cases y), fun y => (by cases y)⟩ (fun y => by rcases y with y | y | y <;> cases y) (fun y => (by cases y)) (fun y => (by cases y)) (fun I7 s7 V7 => ?_))
          refine x_vret C0 E (by decide) (by decide) dX7_readEveningLine_117 ?_
          exact hadd R6 I6 J6 I7 _ ((f1.trans f2).trans f6) A6 rfl s7 V7
      refine x_istore_n (L' := [_, _, _, _, _, _]) C0 hN (by decide) rfl dX7_readEveningLine_4 ?_
      refine x_iload_n C0 rfl dX7_readEveningLine_5 ?_
      refine x_iconst (v := -1) C0 rfl dX7_readEveningLine_6 ?_
      refine x_icmp_ne (tgt := 18) C0 (by decide) dX7_readEveningLine_7 (fun _ => ?_) (fun hkk => absurd hkk (by decide))
      refine x_aload_n C0 rfl dX7_readEveningLine_18 ?_
      refine x_getI C0 wf_X7_193 zh rfl dX7_readEveningLine_19 ?_
      refine x_topi q2 ?_
      refine x_bipush (v := nI 40) C0 rfl dX7_readEveningLine_22 ?_
      refine x_icmp_lt (tgt := 32) C0 (by decide) dX7_readEveningLine_24 (fun g24 => ?_) (fun g24 => ?_)
      · exact h32 I TFr.rf (by rw [if_pos ((nI_lt_iff (by omega) (by omega)).mp g24)]; exact A)
      · refine x_aload_n C0 rfl dX7_readEveningLine_27 ?_
        refine x_iconst (v := nI 5) C0 rfl dX7_readEveningLine_28 ?_
        refine x_callV [_] C0 hN rfl (xRf_of hR (by decide) (Nat.zero_le _) (Nat.zero_le _)) mv_X9_refuse wm_X7_78 dX7_readEveningLine_29 (by assumption) rfl rfl (Nat.le_of_ble_eq_true rfl) (c_X9_refuse hS T A (by decide) (by decide) (fun I1 f1 A1 => ?_))
        exact h32 I1 f1 (by rw [if_neg (fun z => g24 ((nI_lt_iff (by omega) (by omega)).mpr z))]; exact A1)
    · have el : eLine (tTok tp n) F s ev = (pSign (tTok tp n) 59 (pClm (tTok tp n) F (pNum (tTok tp n) 0 7 (pFull (tTok tp n) (ev < 40) s))), (1, ((tTok tp n) (s.1 + 1)).2.1, cvT (tTok tp n) F (pNum (tTok tp n) 0 7 (s.1 + 1, 0)), cvB (tTok tp n) F (pNum (tTok tp n) 0 7 (s.1 + 1, 0)))) := by
        unfold eLine
        rw [hw, if_neg (by decide), if_pos rfl]
      rw [el] at hfin hadd
      have h32 : ∀ I1, TFr R I J R I1 J → TAt R I1 J tp n (if ev < 40 then s else pRef (tTok tp n) 5 s) → XX G 0 0 32 [some (.ref 1), some (.ref g), some (.ref h), some (.int (nI 1)), none, none] [] S R I1 J := by
        intro I1 f1 A1
        refine x_aload_n C0 rfl dX7_readEveningLine_32 ?_
        refine x_callV [] C0 hN rfl (xRf_of hR (by decide) (Nat.zero_le _) (Nat.zero_le _)) mv_X9_step wm_X7_93 dX7_readEveningLine_33 (by assumption) rfl rfl (Nat.le_of_ble_eq_true rfl) (c_stepA (hS.tfr f1) (T.tfr f1) A1 (fun R2 I2 J2 f2 A2 => ?_))
        refine x_iconst (v := nI 0) C0 rfl dX7_readEveningLine_36 ?_
        refine x_istore (L' := [_, _, _, _, _, _]) C0 hN (by decide) rfl dX7_readEveningLine_37 ?_
        refine x_iconst (v := nI 0) C0 rfl dX7_readEveningLine_39 ?_
        refine x_istore (L' := [_, _, _, _, _, _]) C0 hN (by decide) rfl dX7_readEveningLine_40 ?_
        refine x_iload_n C0 rfl dX7_readEveningLine_42 ?_
        refine x_iconst (v := nI 1) C0 rfl dX7_readEveningLine_43 ?_
        refine x_icmp_eq (tgt := 52) C0 (by decide) dX7_readEveningLine_44 (fun _ => ?_) (fun hkk => absurd (by decide) hkk)
        refine x_aload_n C0 rfl dX7_readEveningLine_52 ?_
        refine x_iconst (v := nI 0) C0 rfl dX7_readEveningLine_53 ?_
        refine x_bipush (v := nI 7) C0 rfl dX7_readEveningLine_54 ?_
        refine x_callV [_, _] C0 hN rfl (xRf_of hR (by decide) (Nat.zero_le _) (Nat.zero_le _)) mv_X9_number wm_X7_136 dX7_readEveningLine_56 (by assumption) rfl rfl (Nat.le_of_ble_eq_true rfl) (c_X9_number (hS.tfr (f1.trans f2)) (T.tfr (f1.trans f2)) A2 (by decide) (by decide) (fun v3 R3 I3 J3 f3 A3 e3 => ?_))
        refine x_istore (L' := [_, _, _, _, _, _]) C0 hN (by decide) rfl dX7_readEveningLine_59 ?_
        refine x_iload_n C0 rfl dX7_readEveningLine_61 ?_
        refine x_iconst (v := nI 1) C0 rfl dX7_readEveningLine_62 ?_
        refine x_icmp_ne (tgt := 73) C0 (by decide) dX7_readEveningLine_63 (fun hkk => absurd (by decide) hkk) (fun _ => ?_)
        refine x_aload_n C0 rfl dX7_readEveningLine_66 ?_
        refine x_aload_n C0 rfl dX7_readEveningLine_67 ?_
        refine x_callS [_, _] C0 (xRf_of hR (by decide) (Nat.zero_le _) (Nat.zero_le _)) ms_X7_readClaim wm_X7_111 dX7_readEveningLine_68 rfl rfl (Nat.le_of_ble_eq_true rfl) (c_X7_readClaim (hS.tfr ((f1.trans f2).trans f3)) (T.tfr ((f1.trans f2).trans f3)) A3 hg (hF.tfr hg ((f1.trans f2).trans f3)) ok (C.tfr hg ((f1.trans f2).trans f3)) (fun v4 R4 I4 J4 f4 A4 e4 => ?_))
        refine x_istore (L' := [_, _, _, _, _, _]) C0 hN (by decide) rfl dX7_readEveningLine_71 ?_
        refine x_iload_n C0 rfl dX7_readEveningLine_73 ?_
        refine x_iconst (v := nI 3) C0 rfl dX7_readEveningLine_74 ?_
        refine x_icmp_ne (tgt := 95) C0 (by decide) dX7_readEveningLine_75 (fun _ => ?_) (fun hkk => absurd hkk (by decide))
        refine x_aload_n C0 rfl dX7_readEveningLine_95 ?_
        refine x_bipush (v := nI 59) C0 rfl dX7_readEveningLine_96 ?_
        refine x_callV [_] C0 hN rfl (xRf_of hR (by decide) (Nat.zero_le _) (Nat.zero_le _)) mv_X9_needSign wm_X7_100 dX7_readEveningLine_98 (by assumption) rfl rfl (Nat.le_of_ble_eq_true rfl) (c_X9_needSign (hS.tfr (((f1.trans f2).trans f3).trans f4)) (T.tfr (((f1.trans f2).trans f3).trans f4)) A4 (by decide) (fun R6 I6 J6 f6 A6 => ?_))
        refine x_aload_n C0 rfl dX7_readEveningLine_101 ?_
        refine x_getI C0 wf_X7_82 (by assumption) rfl dX7_readEveningLine_102 ?_
        refine x_topi A6.1 ?_
        refine x_if_ne (tgt := 117) C0 (by decide) dX7_readEveningLine_105 (fun g105 => ?_) (fun g105 => ?_)
        · refine x_vret C0 E (by decide) (by decide) dX7_readEveningLine_117 ?_
          exact hfin R6 I6 J6 ((((f1.trans f2).trans f3).trans f4).trans f6) A6 (fun z => g105 (congrArg nI (show _ = 0 from z)))
        · have z6 : (pSign (tTok tp n) 59 (pClm (tTok tp n) F (pNum (tTok tp n) 0 7 (pFull (tTok tp n) (ev < 40) s))), (1, ((tTok tp n) (s.1 + 1)).2.1, cvT (tTok tp n) F (pNum (tTok tp n) 0 7 (s.1 + 1, 0)), cvB (tTok tp n) F (pNum (tTok tp n) 0 7 (s.1 + 1, 0)))).1.2 = 0 := (nI_eq (b := 0) (by have := A6.2.1; exact Nat.lt_trans this (by decide)) (by decide)).mp g105
          have z5 := pz (f := pSign (tTok tp n) 59) (fun y => pSign_f y) z6
          obtain ⟨-, t4, ht4, et4, ev4⟩ := e4 z5
          have z4 := pz (f := pClm (tTok tp n) F) (fun y => pClm_f y) z5
          obtain ⟨-, ev3, -, -, u7⟩ := e3 z4
          have z3 := pz (f := pNum (tTok tp n) 0 7) (fun y => pNum_f y) z4
          obtain ⟨hev, z0, e2⟩ := pFull_z (q := (tTok tp n)) (b := ev < 40) z3
          have e2' : pNext (if ev < 40 then s else pRef (tTok tp n) 5 s) = (s.1 + 1, 0) := e2
          rw [e2'] at et4 ev4 ev3 u7
          have q4 : t4 = cvT (tTok tp n) F (pNum (tTok tp n) 0 7 (s.1 + 1, 0)) := by unfold cvT; rw [et4]; rfl
          have w4 : v4 = nI (2 * cvT (tTok tp n) F (pNum (tTok tp n) 0 7 (s.1 + 1, 0)) + cvB (tTok tp n) F (pNum (tTok tp n) 0 7 (s.1 + 1, 0))) := by rw [ev4, q4]; rfl
          rw [q4] at ht4
          have u8 : ((tTok tp n) (s.1 + 1)).2.1 < 8 := Nat.lt_succ_of_le u7
          have VV : CEv I6 h F ev ln := V0.congr (fun j _ => (((((f1.trans f2).trans f3).trans f4).trans f6)).1 _ (by omega))
          have hh6 := fixd.eve (hS.tfr ((((f1.trans f2).trans f3).trans f4).trans f6)) h25
          refine x_aload_n C0 rfl dX7_readEveningLine_108 ?_
          refine x_iload_n C0 rfl dX7_readEveningLine_109 ?_
          refine x_iload C0 rfl dX7_readEveningLine_110 ?_
          refine x_iload C0 rfl dX7_readEveningLine_112 ?_
          refine x_callV [_, _, _] C0 hN rfl (xRf_of hR (by decide) (Nat.zero_le _) (Nat.zero_le _)) mv_X1_add wm_X7_209 dX7_readEveningLine_114 hh6.1 rfl rfl (Nat.le_of_ble_eq_true rfl) (c_X1_add hh6 VV hev (c := (1, ((tTok tp n) (s.1 + 1)).2.1, cvT (tTok tp n) F (pNum (tTok tp n) 0 7 (s.1 + 1, 0)), cvB (tTok tp n) F (pNum (tTok tp n) 0 7 (s.1 + 1, 0)))) ⟨Nat.lt_of_sub_eq_succ rfl, fun _ => ⟨u8, ht4, cvB_lt⟩, fun y => (by cases y), fun y => (by cases y)⟩ (fun _ => ev3) (fun _ => w4) (fun y => (by cases y)) (fun I7 s7 V7 => ?_))
          refine x_vret C0 E (by decide) (by decide) dX7_readEveningLine_117 ?_
          exact hadd R6 I6 J6 I7 _ ((((f1.trans f2).trans f3).trans f4).trans f6) A6 rfl s7 V7
      refine x_istore_n (L' := [_, _, _, _, _, _]) C0 hN (by decide) rfl dX7_readEveningLine_4 ?_
      refine x_iload_n C0 rfl dX7_readEveningLine_5 ?_
      refine x_iconst (v := -1) C0 rfl dX7_readEveningLine_6 ?_
      refine x_icmp_ne (tgt := 18) C0 (by decide) dX7_readEveningLine_7 (fun _ => ?_) (fun hkk => absurd hkk (by decide))
      refine x_aload_n C0 rfl dX7_readEveningLine_18 ?_
      refine x_getI C0 wf_X7_193 zh rfl dX7_readEveningLine_19 ?_
      refine x_topi q2 ?_
      refine x_bipush (v := nI 40) C0 rfl dX7_readEveningLine_22 ?_
      refine x_icmp_lt (tgt := 32) C0 (by decide) dX7_readEveningLine_24 (fun g24 => ?_) (fun g24 => ?_)
      · exact h32 I TFr.rf (by rw [if_pos ((nI_lt_iff (by omega) (by omega)).mp g24)]; exact A)
      · refine x_aload_n C0 rfl dX7_readEveningLine_27 ?_
        refine x_iconst (v := nI 5) C0 rfl dX7_readEveningLine_28 ?_
        refine x_callV [_] C0 hN rfl (xRf_of hR (by decide) (Nat.zero_le _) (Nat.zero_le _)) mv_X9_refuse wm_X7_78 dX7_readEveningLine_29 (by assumption) rfl rfl (Nat.le_of_ble_eq_true rfl) (c_X9_refuse hS T A (by decide) (by decide) (fun I1 f1 A1 => ?_))
        exact h32 I1 f1 (by rw [if_neg (fun z => g24 ((nI_lt_iff (by omega) (by omega)).mpr z))]; exact A1)
    · have el : eLine (tTok tp n) F s ev = (pSign (tTok tp n) 59 (pNum (tTok tp n) 0 7 (pFull (tTok tp n) (ev < 40) s)), (2, ((tTok tp n) (s.1 + 1)).2.1, 0, 0)) := by
        unfold eLine
        rw [hw, if_neg (by decide), if_neg (by decide), if_pos rfl]
      rw [el] at hfin hadd
      have h32 : ∀ I1, TFr R I J R I1 J → TAt R I1 J tp n (if ev < 40 then s else pRef (tTok tp n) 5 s) → XX G 0 0 32 [some (.ref 1), some (.ref g), some (.ref h), some (.int (nI 2)), none, none] [] S R I1 J := by
        intro I1 f1 A1
        refine x_aload_n C0 rfl dX7_readEveningLine_32 ?_
        refine x_callV [] C0 hN rfl (xRf_of hR (by decide) (Nat.zero_le _) (Nat.zero_le _)) mv_X9_step wm_X7_93 dX7_readEveningLine_33 (by assumption) rfl rfl (Nat.le_of_ble_eq_true rfl) (c_stepA (hS.tfr f1) (T.tfr f1) A1 (fun R2 I2 J2 f2 A2 => ?_))
        refine x_iconst (v := nI 0) C0 rfl dX7_readEveningLine_36 ?_
        refine x_istore (L' := [_, _, _, _, _, _]) C0 hN (by decide) rfl dX7_readEveningLine_37 ?_
        refine x_iconst (v := nI 0) C0 rfl dX7_readEveningLine_39 ?_
        refine x_istore (L' := [_, _, _, _, _, _]) C0 hN (by decide) rfl dX7_readEveningLine_40 ?_
        refine x_iload_n C0 rfl dX7_readEveningLine_42 ?_
        refine x_iconst (v := nI 1) C0 rfl dX7_readEveningLine_43 ?_
        refine x_icmp_eq (tgt := 52) C0 (by decide) dX7_readEveningLine_44 (fun hkk => absurd hkk (by decide)) (fun _ => ?_)
        refine x_iload_n C0 rfl dX7_readEveningLine_47 ?_
        refine x_iconst (v := nI 2) C0 rfl dX7_readEveningLine_48 ?_
        refine x_icmp_ne (tgt := 61) C0 (by decide) dX7_readEveningLine_49 (fun hkk => absurd (by decide) hkk) (fun _ => ?_)
        refine x_aload_n C0 rfl dX7_readEveningLine_52 ?_
        refine x_iconst (v := nI 0) C0 rfl dX7_readEveningLine_53 ?_
        refine x_bipush (v := nI 7) C0 rfl dX7_readEveningLine_54 ?_
        refine x_callV [_, _] C0 hN rfl (xRf_of hR (by decide) (Nat.zero_le _) (Nat.zero_le _)) mv_X9_number wm_X7_136 dX7_readEveningLine_56 (by assumption) rfl rfl (Nat.le_of_ble_eq_true rfl) (c_X9_number (hS.tfr (f1.trans f2)) (T.tfr (f1.trans f2)) A2 (by decide) (by decide) (fun v3 R3 I3 J3 f3 A3 e3 => ?_))
        refine x_istore (L' := [_, _, _, _, _, _]) C0 hN (by decide) rfl dX7_readEveningLine_59 ?_
        refine x_iload_n C0 rfl dX7_readEveningLine_61 ?_
        refine x_iconst (v := nI 1) C0 rfl dX7_readEveningLine_62 ?_
        refine x_icmp_ne (tgt := 73) C0 (by decide) dX7_readEveningLine_63 (fun _ => ?_) (fun hkk => absurd hkk (by decide))
        refine x_iload_n C0 rfl dX7_readEveningLine_73 ?_
        refine x_iconst (v := nI 3) C0 rfl dX7_readEveningLine_74 ?_
        refine x_icmp_ne (tgt := 95) C0 (by decide) dX7_readEveningLine_75 (fun _ => ?_) (fun hkk => absurd hkk (by decide))
        refine x_aload_n C0 rfl dX7_readEveningLine_95 ?_
        refine x_bipush (v := nI 59) C0 rfl dX7_readEveningLine_96 ?_
        refine x_callV [_] C0 hN rfl (xRf_of hR (by decide) (Nat.zero_le _) (Nat.zero_le _)) mv_X9_needSign wm_X7_100 dX7_readEveningLine_98 (by assumption) rfl rfl (Nat.le_of_ble_eq_true rfl) (c_X9_needSign (hS.tfr ((f1.trans f2).trans f3)) (T.tfr ((f1.trans f2).trans f3)) A3 (by decide) (fun R6 I6 J6 f6 A6 => ?_))
        refine x_aload_n C0 rfl dX7_readEveningLine_101 ?_
        refine x_getI C0 wf_X7_82 (by assumption) rfl dX7_readEveningLine_102 ?_
        refine x_topi A6.1 ?_
        refine x_if_ne (tgt := 117) C0 (by decide) dX7_readEveningLine_105 (fun g105 => ?_) (fun g105 => ?_)
        · refine x_vret C0 E (by decide) (by decide) dX7_readEveningLine_117 ?_
          exact hfin R6 I6 J6 (((f1.trans f2).trans f3).trans f6) A6 (fun z => g105 (congrArg nI (show _ = 0 from z)))
        · have z6 : (pSign (tTok tp n) 59 (pNum (tTok tp n) 0 7 (pFull (tTok tp n) (ev < 40) s)), (2, ((tTok tp n) (s.1 + 1)).2.1, 0, 0)).1.2 = 0 := (nI_eq (b := 0) (by have := A6.2.1; exact Nat.lt_trans this (by decide)) (by decide)).mp g105
          have z5 := pz (f := pSign (tTok tp n) 59) (fun y => pSign_f y) z6
          obtain ⟨-, ev3, -, -, u7⟩ := e3 z5
          have z3 := pz (f := pNum (tTok tp n) 0 7) (fun y => pNum_f y) z5
          obtain ⟨hev, z0, e2⟩ := pFull_z (q := (tTok tp n)) (b := ev < 40) z3
          have e2' : pNext (if ev < 40 then s else pRef (tTok tp n) 5 s) = (s.1 + 1, 0) := e2
          rw [e2'] at ev3 u7
          have u8 : ((tTok tp n) (s.1 + 1)).2.1 < 8 := Nat.lt_succ_of_le u7
          have VV : CEv I6 h F ev ln := V0.congr (fun j _ => ((((f1.trans f2).trans f3).trans f6)).1 _ (by omega))
          have hh6 := fixd.eve (hS.tfr (((f1.trans f2).trans f3).trans f6)) h25
          refine x_aload_n C0 rfl dX7_readEveningLine_108 ?_
          refine x_iload_n C0 rfl dX7_readEveningLine_109 ?_
          refine x_iload C0 rfl dX7_readEveningLine_110 ?_
          refine x_iload C0 rfl dX7_readEveningLine_112 ?_
          refine x_callV [_, _, _] C0 hN rfl (xRf_of hR (by decide) (Nat.zero_le _) (Nat.zero_le _)) mv_X1_add wm_X7_209 dX7_readEveningLine_114 hh6.1 rfl rfl (Nat.le_of_ble_eq_true rfl) (c_X1_add hh6 VV hev (c := (2, ((tTok tp n) (s.1 + 1)).2.1, 0, 0)) ⟨Nat.lt_of_sub_eq_succ rfl, fun y => (by cases y), fun _ => u8, fun y => (by cases y)⟩ (fun _ => ev3) (fun y => (by cases y)) (fun y => (by cases y)) (fun I7 s7 V7 => ?_))
          refine x_vret C0 E (by decide) (by decide) dX7_readEveningLine_117 ?_
          exact hadd R6 I6 J6 I7 _ (((f1.trans f2).trans f3).trans f6) A6 rfl s7 V7
      refine x_istore_n (L' := [_, _, _, _, _, _]) C0 hN (by decide) rfl dX7_readEveningLine_4 ?_
      refine x_iload_n C0 rfl dX7_readEveningLine_5 ?_
      refine x_iconst (v := -1) C0 rfl dX7_readEveningLine_6 ?_
      refine x_icmp_ne (tgt := 18) C0 (by decide) dX7_readEveningLine_7 (fun _ => ?_) (fun hkk => absurd hkk (by decide))
      refine x_aload_n C0 rfl dX7_readEveningLine_18 ?_
      refine x_getI C0 wf_X7_193 zh rfl dX7_readEveningLine_19 ?_
      refine x_topi q2 ?_
      refine x_bipush (v := nI 40) C0 rfl dX7_readEveningLine_22 ?_
      refine x_icmp_lt (tgt := 32) C0 (by decide) dX7_readEveningLine_24 (fun g24 => ?_) (fun g24 => ?_)
      · exact h32 I TFr.rf (by rw [if_pos ((nI_lt_iff (by omega) (by omega)).mp g24)]; exact A)
      · refine x_aload_n C0 rfl dX7_readEveningLine_27 ?_
        refine x_iconst (v := nI 5) C0 rfl dX7_readEveningLine_28 ?_
        refine x_callV [_] C0 hN rfl (xRf_of hR (by decide) (Nat.zero_le _) (Nat.zero_le _)) mv_X9_refuse wm_X7_78 dX7_readEveningLine_29 (by assumption) rfl rfl (Nat.le_of_ble_eq_true rfl) (c_X9_refuse hS T A (by decide) (by decide) (fun I1 f1 A1 => ?_))
        exact h32 I1 f1 (by rw [if_neg (fun z => g24 ((nI_lt_iff (by omega) (by omega)).mpr z))]; exact A1)
    · have el : eLine (tTok tp n) F s ev = (pSign (tTok tp n) 59 (pTlk (tTok tp n) F (xIdx F.2.2.1 ((tTok tp n) (pFull (tTok tp n) (ev < 40) s).1).2.1 F.1.2.2.1) (pTlk (tTok tp n) F none (pFull (tTok tp n) (ev < 40) s))), (3, wtN (tTok tp n) F (s.1 + 1, 0), wtN (tTok tp n) F (pTlk (tTok tp n) F none (s.1 + 1, 0)), 0)) := by
        unfold eLine
        rw [hw, if_neg (by decide), if_neg (by decide), if_neg (by decide), if_pos rfl]
      rw [el] at hfin hadd
      have h32 : ∀ I1, TFr R I J R I1 J → TAt R I1 J tp n (if ev < 40 then s else pRef (tTok tp n) 5 s) → XX G 0 0 32 [some (.ref 1), some (.ref g), some (.ref h), some (.int (nI 3)), none, none] [] S R I1 J := by
        intro I1 f1 A1
        refine x_aload_n C0 rfl dX7_readEveningLine_32 ?_
        refine x_callV [] C0 hN rfl (xRf_of hR (by decide) (Nat.zero_le _) (Nat.zero_le _)) mv_X9_step wm_X7_93 dX7_readEveningLine_33 (by assumption) rfl rfl (Nat.le_of_ble_eq_true rfl) (c_stepA (hS.tfr f1) (T.tfr f1) A1 (fun R2 I2 J2 f2 A2 => ?_))
        refine x_iconst (v := nI 0) C0 rfl dX7_readEveningLine_36 ?_
        refine x_istore (L' := [_, _, _, _, _, _]) C0 hN (by decide) rfl dX7_readEveningLine_37 ?_
        refine x_iconst (v := nI 0) C0 rfl dX7_readEveningLine_39 ?_
        refine x_istore (L' := [_, _, _, _, _, _]) C0 hN (by decide) rfl dX7_readEveningLine_40 ?_
        refine x_iload_n C0 rfl dX7_readEveningLine_42 ?_
        refine x_iconst (v := nI 1) C0 rfl dX7_readEveningLine_43 ?_
        refine x_icmp_eq (tgt := 52) C0 (by decide) dX7_readEveningLine_44 (fun hkk => absurd hkk (by decide)) (fun _ => ?_)
        refine x_iload_n C0 rfl dX7_readEveningLine_47 ?_
        refine x_iconst (v := nI 2) C0 rfl dX7_readEveningLine_48 ?_
        refine x_icmp_ne (tgt := 61) C0 (by decide) dX7_readEveningLine_49 (fun _ => ?_) (fun hkk => absurd hkk (by decide))
        refine x_iload_n C0 rfl dX7_readEveningLine_61 ?_
        refine x_iconst (v := nI 1) C0 rfl dX7_readEveningLine_62 ?_
        refine x_icmp_ne (tgt := 73) C0 (by decide) dX7_readEveningLine_63 (fun _ => ?_) (fun hkk => absurd hkk (by decide))
        refine x_iload_n C0 rfl dX7_readEveningLine_73 ?_
        refine x_iconst (v := nI 3) C0 rfl dX7_readEveningLine_74 ?_
        refine x_icmp_ne (tgt := 95) C0 (by decide) dX7_readEveningLine_75 (fun hkk => absurd (by decide) hkk) (fun _ => ?_)
        refine x_aload_n C0 rfl dX7_readEveningLine_78 ?_
        refine x_aload_n C0 rfl dX7_readEveningLine_79 ?_
        refine x_iconst (v := -1) C0 rfl dX7_readEveningLine_80 ?_
        refine x_callS [_, _, _] C0 (xRf_of hR (by decide) (Nat.zero_le _) (Nat.zero_le _)) ms_X7_readTalker wm_X7_205 dX7_readEveningLine_81 rfl rfl (Nat.le_of_ble_eq_true rfl) (c_X7_readTalker (hS.tfr (f1.trans f2)) (T.tfr (f1.trans f2)) A2 hg (hF.tfr hg (f1.trans f2)) ok (C.tfr hg (f1.trans f2)) (o := none) (fun w y => by cases y) (fun _ => rfl) (fun v3 R3 I3 J3 f3 A3 e3 => ?_))
        refine x_istore (L' := [_, _, _, _, _, _]) C0 hN (by decide) rfl dX7_readEveningLine_84 ?_
        refine x_aload_n C0 rfl dX7_readEveningLine_86 ?_
        refine x_aload_n C0 rfl dX7_readEveningLine_87 ?_
        refine x_iload C0 rfl dX7_readEveningLine_88 ?_
        refine x_callS [_, _, _] C0 (xRf_of hR (by decide) (Nat.zero_le _) (Nat.zero_le _)) ms_X7_readTalker wm_X7_205 dX7_readEveningLine_90 rfl rfl (Nat.le_of_ble_eq_true rfl) (c_X7_readTalker (hS.tfr ((f1.trans f2).trans f3)) (T.tfr ((f1.trans f2).trans f3)) A3 hg (hF.tfr hg ((f1.trans f2).trans f3)) ok (C.tfr hg ((f1.trans f2).trans f3)) (o := xIdx F.2.2.1 ((tTok tp n) (pFull (tTok tp n) (ev < 40) s).1).2.1 F.1.2.2.1) (fun w y => by have := (xIdx_some _ y).1; have := ok.2.2.1; omega) (fun z => by obtain ⟨-, w, -, ew, evw, -⟩ := e3 z; rw [evw]; show nI w = oI (xIdx F.2.2.1 ((tTok tp n) (pFull (tTok tp n) (ev < 40) s).1).2.1 F.1.2.2.1); rw [show xIdx F.2.2.1 ((tTok tp n) (pFull (tTok tp n) (ev < 40) s).1).2.1 F.1.2.2.1 = some w from ew]; rfl) (fun v4 R4 I4 J4 f4 A4 e4 => ?_))
        refine x_istore (L' := [_, _, _, _, _, _]) C0 hN (by decide) rfl dX7_readEveningLine_93 ?_
        refine x_aload_n C0 rfl dX7_readEveningLine_95 ?_
        refine x_bipush (v := nI 59) C0 rfl dX7_readEveningLine_96 ?_
        refine x_callV [_] C0 hN rfl (xRf_of hR (by decide) (Nat.zero_le _) (Nat.zero_le _)) mv_X9_needSign wm_X7_100 dX7_readEveningLine_98 (by assumption) rfl rfl (Nat.le_of_ble_eq_true rfl) (c_X9_needSign (hS.tfr (((f1.trans f2).trans f3).trans f4)) (T.tfr (((f1.trans f2).trans f3).trans f4)) A4 (by decide) (fun R6 I6 J6 f6 A6 => ?_))
        refine x_aload_n C0 rfl dX7_readEveningLine_101 ?_
        refine x_getI C0 wf_X7_82 (by assumption) rfl dX7_readEveningLine_102 ?_
        refine x_topi A6.1 ?_
        refine x_if_ne (tgt := 117) C0 (by decide) dX7_readEveningLine_105 (fun g105 => ?_) (fun g105 => ?_)
        · refine x_vret C0 E (by decide) (by decide) dX7_readEveningLine_117 ?_
          exact hfin R6 I6 J6 ((((f1.trans f2).trans f3).trans f4).trans f6) A6 (fun z => g105 (congrArg nI (show _ = 0 from z)))
        · have z6 : (pSign (tTok tp n) 59 (pTlk (tTok tp n) F (xIdx F.2.2.1 ((tTok tp n) (pFull (tTok tp n) (ev < 40) s).1).2.1 F.1.2.2.1) (pTlk (tTok tp n) F none (pFull (tTok tp n) (ev < 40) s))), (3, wtN (tTok tp n) F (s.1 + 1, 0), wtN (tTok tp n) F (pTlk (tTok tp n) F none (s.1 + 1, 0)), 0)).1.2 = 0 := (nI_eq (b := 0) (by have := A6.2.1; exact Nat.lt_trans this (by decide)) (by decide)).mp g105
          have z5 := pz (f := pSign (tTok tp n) 59) (fun y => pSign_f y) z6
          obtain ⟨-, w4, hw4, ew4, ev4, ne4⟩ := e4 z5
          have z4 := pz (f := pTlk (tTok tp n) F _) (fun y => pTlk_f y) z5
          obtain ⟨-, w3, hw3, ew3, ev3, -⟩ := e3 z4
          have z3 := pz (f := pTlk (tTok tp n) F none) (fun y => pTlk_f y) z4
          obtain ⟨hev, z0, e2⟩ := pFull_z (q := (tTok tp n)) (b := ev < 40) z3
          have e2' : pNext (if ev < 40 then s else pRef (tTok tp n) 5 s) = (s.1 + 1, 0) := e2
          rw [e2] at ne4
          rw [e2'] at ew3 ew4
          have q3w : w3 = wtN (tTok tp n) F (s.1 + 1, 0) := by unfold wtN; rw [ew3]; rfl
          have q4w : w4 = wtN (tTok tp n) F (pTlk (tTok tp n) F none (s.1 + 1, 0)) := by unfold wtN; rw [ew4]; rfl
          have hne : w3 ≠ w4 := fun y => ne4 (ew3.trans (by rw [y]))
          have VV : CEv I6 h F ev ln := V0.congr (fun j _ => (((((f1.trans f2).trans f3).trans f4).trans f6)).1 _ (by omega))
          have hh6 := fixd.eve (hS.tfr ((((f1.trans f2).trans f3).trans f4).trans f6)) h25
          refine x_aload_n C0 rfl dX7_readEveningLine_108 ?_
          refine x_iload_n C0 rfl dX7_readEveningLine_109 ?_
          refine x_iload C0 rfl dX7_readEveningLine_110 ?_
          refine x_iload C0 rfl dX7_readEveningLine_112 ?_
          refine x_callV [_, _, _] C0 hN rfl (xRf_of hR (by decide) (Nat.zero_le _) (Nat.zero_le _)) mv_X1_add wm_X7_209 dX7_readEveningLine_114 hh6.1 rfl rfl (Nat.le_of_ble_eq_true rfl) (c_X1_add hh6 VV hev (c := (3, wtN (tTok tp n) F (s.1 + 1, 0), wtN (tTok tp n) F (pTlk (tTok tp n) F none (s.1 + 1, 0)), 0)) ⟨Nat.lt_of_sub_eq_succ rfl, fun y => (by cases y), fun y => (by cases y), fun _ => ⟨by rw [← q3w]; exact hw3, by rw [← q4w]; exact hw4, by rw [← q3w, ← q4w]; exact hne⟩⟩ (fun _ => by rw [← q3w]; exact ev3) (fun y => (by cases y)) (fun _ => by rw [← q4w]; exact ev4) (fun I7 s7 V7 => ?_))
          refine x_vret C0 E (by decide) (by decide) dX7_readEveningLine_117 ?_
          exact hadd R6 I6 J6 I7 _ ((((f1.trans f2).trans f3).trans f4).trans f6) A6 rfl s7 V7
      refine x_istore_n (L' := [_, _, _, _, _, _]) C0 hN (by decide) rfl dX7_readEveningLine_4 ?_
      refine x_iload_n C0 rfl dX7_readEveningLine_5 ?_
      refine x_iconst (v := -1) C0 rfl dX7_readEveningLine_6 ?_
      refine x_icmp_ne (tgt := 18) C0 (by decide) dX7_readEveningLine_7 (fun _ => ?_) (fun hkk => absurd hkk (by decide))
      refine x_aload_n C0 rfl dX7_readEveningLine_18 ?_
      refine x_getI C0 wf_X7_193 zh rfl dX7_readEveningLine_19 ?_
      refine x_topi q2 ?_
      refine x_bipush (v := nI 40) C0 rfl dX7_readEveningLine_22 ?_
      refine x_icmp_lt (tgt := 32) C0 (by decide) dX7_readEveningLine_24 (fun g24 => ?_) (fun g24 => ?_)
      · exact h32 I TFr.rf (by rw [if_pos ((nI_lt_iff (by omega) (by omega)).mp g24)]; exact A)
      · refine x_aload_n C0 rfl dX7_readEveningLine_27 ?_
        refine x_iconst (v := nI 5) C0 rfl dX7_readEveningLine_28 ?_
        refine x_callV [_] C0 hN rfl (xRf_of hR (by decide) (Nat.zero_le _) (Nat.zero_le _)) mv_X9_refuse wm_X7_78 dX7_readEveningLine_29 (by assumption) rfl rfl (Nat.le_of_ble_eq_true rfl) (c_X9_refuse hS T A (by decide) (by decide) (fun I1 f1 A1 => ?_))
        exact h32 I1 f1 (by rw [if_neg (fun z => g24 ((nI_lt_iff (by omega) (by omega)).mpr z))]; exact A1)
    · have el : eLine (tTok tp n) F s ev = (pSign (tTok tp n) 59 (pFull (tTok tp n) (ev < 40) s), (4, 0, 0, 0)) := by
        unfold eLine
        rw [hw, if_neg (by decide), if_neg (by decide), if_neg (by decide), if_neg (by decide)]; rfl
      rw [el] at hfin hadd
      have h32 : ∀ I1, TFr R I J R I1 J → TAt R I1 J tp n (if ev < 40 then s else pRef (tTok tp n) 5 s) → XX G 0 0 32 [some (.ref 1), some (.ref g), some (.ref h), some (.int (nI 4)), none, none] [] S R I1 J := by
        intro I1 f1 A1
        refine x_aload_n C0 rfl dX7_readEveningLine_32 ?_
        refine x_callV [] C0 hN rfl (xRf_of hR (by decide) (Nat.zero_le _) (Nat.zero_le _)) mv_X9_step wm_X7_93 dX7_readEveningLine_33 (by assumption) rfl rfl (Nat.le_of_ble_eq_true rfl) (c_stepA (hS.tfr f1) (T.tfr f1) A1 (fun R2 I2 J2 f2 A2 => ?_))
        refine x_iconst (v := nI 0) C0 rfl dX7_readEveningLine_36 ?_
        refine x_istore (L' := [_, _, _, _, _, _]) C0 hN (by decide) rfl dX7_readEveningLine_37 ?_
        refine x_iconst (v := nI 0) C0 rfl dX7_readEveningLine_39 ?_
        refine x_istore (L' := [_, _, _, _, _, _]) C0 hN (by decide) rfl dX7_readEveningLine_40 ?_
        refine x_iload_n C0 rfl dX7_readEveningLine_42 ?_
        refine x_iconst (v := nI 1) C0 rfl dX7_readEveningLine_43 ?_
        refine x_icmp_eq (tgt := 52) C0 (by decide) dX7_readEveningLine_44 (fun hkk => absurd hkk (by decide)) (fun _ => ?_)
        refine x_iload_n C0 rfl dX7_readEveningLine_47 ?_
        refine x_iconst (v := nI 2) C0 rfl dX7_readEveningLine_48 ?_
        refine x_icmp_ne (tgt := 61) C0 (by decide) dX7_readEveningLine_49 (fun _ => ?_) (fun hkk => absurd hkk (by decide))
        refine x_iload_n C0 rfl dX7_readEveningLine_61 ?_
        refine x_iconst (v := nI 1) C0 rfl dX7_readEveningLine_62 ?_
        refine x_icmp_ne (tgt := 73) C0 (by decide) dX7_readEveningLine_63 (fun _ => ?_) (fun hkk => absurd hkk (by decide))
        refine x_iload_n C0 rfl dX7_readEveningLine_73 ?_
        refine x_iconst (v := nI 3) C0 rfl dX7_readEveningLine_74 ?_
        refine x_icmp_ne (tgt := 95) C0 (by decide) dX7_readEveningLine_75 (fun _ => ?_) (fun hkk => absurd hkk (by decide))
        refine x_aload_n C0 rfl dX7_readEveningLine_95 ?_
        refine x_bipush (v := nI 59) C0 rfl dX7_readEveningLine_96 ?_
        refine x_callV [_] C0 hN rfl (xRf_of hR (by decide) (Nat.zero_le _) (Nat.zero_le _)) mv_X9_needSign wm_X7_100 dX7_readEveningLine_98 (by assumption) rfl rfl (Nat.le_of_ble_eq_true rfl) (c_X9_needSign (hS.tfr (f1.trans f2)) (T.tfr (f1.trans f2)) A2 (by decide) (fun R6 I6 J6 f6 A6 => ?_))
        refine x_aload_n C0 rfl dX7_readEveningLine_101 ?_
        refine x_getI C0 wf_X7_82 (by assumption) rfl dX7_readEveningLine_102 ?_
        refine x_topi A6.1 ?_
        refine x_if_ne (tgt := 117) C0 (by decide) dX7_readEveningLine_105 (fun g105 => ?_) (fun g105 => ?_)
        · refine x_vret C0 E (by decide) (by decide) dX7_readEveningLine_117 ?_
          exact hfin R6 I6 J6 ((f1.trans f2).trans f6) A6 (fun z => g105 (congrArg nI (show _ = 0 from z)))
        · have z6 : (pSign (tTok tp n) 59 (pFull (tTok tp n) (ev < 40) s), (4, 0, 0, 0)).1.2 = 0 := (nI_eq (b := 0) (by have := A6.2.1; exact Nat.lt_trans this (by decide)) (by decide)).mp g105
          have z5 := pz (f := pSign (tTok tp n) 59) (fun y => pSign_f y) z6
          obtain ⟨hev, z0, e2⟩ := pFull_z (q := (tTok tp n)) (b := ev < 40) z5
          have VV : CEv I6 h F ev ln := V0.congr (fun j _ => (((f1.trans f2).trans f6)).1 _ (by omega))
          have hh6 := fixd.eve (hS.tfr ((f1.trans f2).trans f6)) h25
          refine x_aload_n C0 rfl dX7_readEveningLine_108 ?_
          refine x_iload_n C0 rfl dX7_readEveningLine_109 ?_
          refine x_iload C0 rfl dX7_readEveningLine_110 ?_
          refine x_iload C0 rfl dX7_readEveningLine_112 ?_
          refine x_callV [_, _, _] C0 hN rfl (xRf_of hR (by decide) (Nat.zero_le _) (Nat.zero_le _)) mv_X1_add wm_X7_209 dX7_readEveningLine_114 hh6.1 rfl rfl (Nat.le_of_ble_eq_true rfl) (c_X1_add hh6 VV hev (c := (4, 0, 0, 0)) ⟨by decide, fun y => (by cases y), fun y => (by cases y), fun y => (by cases y)⟩ (fun y => by rcases y with y | y | y <;> cases y) (fun y => (by cases y)) (fun y => (by cases y)) (fun I7 s7 V7 => ?_))
          refine x_vret C0 E (by decide) (by decide) dX7_readEveningLine_117 ?_
          exact hadd R6 I6 J6 I7 _ ((f1.trans f2).trans f6) A6 rfl s7 V7
      refine x_istore_n (L' := [_, _, _, _, _, _]) C0 hN (by decide) rfl dX7_readEveningLine_4 ?_
      refine x_iload_n C0 rfl dX7_readEveningLine_5 ?_
      refine x_iconst (v := -1) C0 rfl dX7_readEveningLine_6 ?_
      refine x_icmp_ne (tgt := 18) C0 (by decide) dX7_readEveningLine_7 (fun _ => ?_) (fun hkk => absurd hkk (by decide))
      refine x_aload_n C0 rfl dX7_readEveningLine_18 ?_
      refine x_getI C0 wf_X7_193 zh rfl dX7_readEveningLine_19 ?_
      refine x_topi q2 ?_
      refine x_bipush (v := nI 40) C0 rfl dX7_readEveningLine_22 ?_
      refine x_icmp_lt (tgt := 32) C0 (by decide) dX7_readEveningLine_24 (fun g24 => ?_) (fun g24 => ?_)
      · exact h32 I TFr.rf (by rw [if_pos ((nI_lt_iff (by omega) (by omega)).mp g24)]; exact A)
      · refine x_aload_n C0 rfl dX7_readEveningLine_27 ?_
        refine x_iconst (v := nI 5) C0 rfl dX7_readEveningLine_28 ?_
        refine x_callV [_] C0 hN rfl (xRf_of hR (by decide) (Nat.zero_le _) (Nat.zero_le _)) mv_X9_refuse wm_X7_78 dX7_readEveningLine_29 (by assumption) rfl rfl (Nat.le_of_ble_eq_true rfl) (c_X9_refuse hS T A (by decide) (by decide) (fun I1 f1 A1 => ?_))
        exact h32 I1 f1 (by rw [if_neg (fun z => g24 ((nI_lt_iff (by omega) (by omega)).mpr z))]; exact A1)
