/-! THE LAW OF DOUBT IS READ: parts; the line doubts; the class -/
theorem c_X4_factAt {S : xTS} {R : xTR} {I : xTI} {J : xTJ} {post : xPost} (hS : fixd S R) {tp : Nat → Nat} {n : Nat} (T : CTp I tp n) {s : pS} (A : TAt R I J tp n s) (hp : ∀ v, (∀ f, wHr (tTok tp n) 22 4 s = some f → v = cE (2, f) ∧ ¬ v = 0) → (wHr (tTok tp n) 22 4 s = none → v = 0) → post (some (.int v)) S R I J) : xSpec 2 yX4_factAt cX4_factAt 1 (some .int) 0 0 [.ref 1] S R I J post := by
  refine xSpec_of mt_X4_factAt (Nat.le_of_ble_eq_true rfl) (fun G C0 hN hR E hI hZ => ?_)
  change XX G 0 0 0 [some (.ref 1)] [] S R I J
  have s1 := hS.sTape
  have s2 := hS.sSigns
  have r0 := hS.rSigns
  obtain ⟨t1, t2, t3⟩ := id T
  refine x_aload_n C0 rfl dX4_factAt_0 ?_
  refine x_word 22 C0 (by decide) wg_X4_93 dX4_factAt_1 ?_
  refine x_callV [_] C0 hN rfl (xRf_of hR (by decide) (Nat.zero_le _) (Nat.zero_le _)) mv_X9_isWord wm_X4_38 dX4_factAt_4 (by assumption) rfl rfl (Nat.le_of_ble_eq_true rfl) (c_X9_isWord hS T A (by decide) (fun g4 => ?_) (fun g4 => ?_))
  · refine x_if_eq (tgt := 12) C0 (by decide) dX4_factAt_7 (fun hkk => absurd hkk (by decide)) (fun _ => ?_)
    refine x_iconst (v := -1) C0 rfl dX4_factAt_10 ?_
    refine x_iret C0 E (by decide) (by decide) dX4_factAt_11 ?_
    have e := wHr_some (q := tTok tp n) (fr := 22) (m := 4) (i := 0) (by decide) (by decide) g4
    exact hp _ (fun f hf => by rw [e] at hf; cases hf; exact ⟨rfl, by decide⟩) (fun z => by rw [e] at z; cases z)
  · refine x_if_eq (tgt := 12) C0 (by decide) dX4_factAt_7 (fun _ => ?_) (fun hkk => absurd (by decide) hkk)
    refine x_aload_n C0 rfl dX4_factAt_12 ?_
    refine x_word 23 C0 (by decide) wg_X4_96 dX4_factAt_13 ?_
    refine x_callV [_] C0 hN rfl (xRf_of hR (by decide) (Nat.zero_le _) (Nat.zero_le _)) mv_X9_isWord wm_X4_38 dX4_factAt_16 (by assumption) rfl rfl (Nat.le_of_ble_eq_true rfl) (c_X9_isWord hS T A (by decide) (fun g16 => ?_) (fun g16 => ?_))
    · refine x_if_eq (tgt := 25) C0 (by decide) dX4_factAt_19 (fun hkk => absurd hkk (by decide)) (fun _ => ?_)
      refine x_bipush (v := -2) C0 rfl dX4_factAt_22 ?_
      refine x_iret C0 E (by decide) (by decide) dX4_factAt_24 ?_
      have e := wHr_some (q := tTok tp n) (fr := 22) (m := 4) (i := 1) (by decide) (by decide) g16
      exact hp _ (fun f hf => by rw [e] at hf; cases hf; exact ⟨rfl, by decide⟩) (fun z => by rw [e] at z; cases z)
    · refine x_if_eq (tgt := 25) C0 (by decide) dX4_factAt_19 (fun _ => ?_) (fun hkk => absurd (by decide) hkk)
      refine x_aload_n C0 rfl dX4_factAt_25 ?_
      refine x_word 24 C0 (by decide) wg_X4_99 dX4_factAt_26 ?_
      refine x_callV [_] C0 hN rfl (xRf_of hR (by decide) (Nat.zero_le _) (Nat.zero_le _)) mv_X9_isWord wm_X4_38 dX4_factAt_29 (by assumption) rfl rfl (Nat.le_of_ble_eq_true rfl) (c_X9_isWord hS T A (by decide) (fun g29 => ?_) (fun g29 => ?_))
      · refine x_if_eq (tgt := 38) C0 (by decide) dX4_factAt_32 (fun hkk => absurd hkk (by decide)) (fun _ => ?_)
        refine x_bipush (v := -3) C0 rfl dX4_factAt_35 ?_
        refine x_iret C0 E (by decide) (by decide) dX4_factAt_37 ?_
        have e := wHr_some (q := tTok tp n) (fr := 22) (m := 4) (i := 2) (by decide) (by decide) g29
        exact hp _ (fun f hf => by rw [e] at hf; cases hf; exact ⟨rfl, by decide⟩) (fun z => by rw [e] at z; cases z)
      · refine x_if_eq (tgt := 38) C0 (by decide) dX4_factAt_32 (fun _ => ?_) (fun hkk => absurd (by decide) hkk)
        refine x_aload_n C0 rfl dX4_factAt_38 ?_
        refine x_word 25 C0 (by decide) wg_X4_102 dX4_factAt_39 ?_
        refine x_callV [_] C0 hN rfl (xRf_of hR (by decide) (Nat.zero_le _) (Nat.zero_le _)) mv_X9_isWord wm_X4_38 dX4_factAt_42 (by assumption) rfl rfl (Nat.le_of_ble_eq_true rfl) (c_X9_isWord hS T A (by decide) (fun g42 => ?_) (fun g42 => ?_))
        · refine x_if_eq (tgt := 53) C0 (by decide) dX4_factAt_45 (fun hkk => absurd hkk (by decide)) (fun _ => ?_)
          refine x_bipush (v := -4) C0 rfl dX4_factAt_48 ?_
          refine x_goto (tgt := 54) C0 (by decide) dX4_factAt_50 ?_
          refine x_iret C0 E (by decide) (by decide) dX4_factAt_54 ?_
          have e := wHr_some (q := tTok tp n) (fr := 22) (m := 4) (i := 3) (by decide) (by decide) g42
          exact hp _ (fun f hf => by rw [e] at hf; cases hf; exact ⟨rfl, by decide⟩) (fun z => by rw [e] at z; cases z)
        · refine x_if_eq (tgt := 53) C0 (by decide) dX4_factAt_45 (fun _ => ?_) (fun hkk => absurd (by decide) hkk)
          refine x_iconst (v := 0) C0 rfl dX4_factAt_53 ?_
          refine x_iret C0 E (by decide) (by decide) dX4_factAt_54 ?_
          have e := wHr_none (q := tTok tp n) (fr := 22) (m := 4) (s := s) (fun i hi => by
            rcases (show i = 0 ∨ i = 1 ∨ i = 2 ∨ i = 3 by omega) with rfl | rfl | rfl | rfl <;> assumption)
          exact hp _ (fun f hf => by rw [e] at hf; cases hf) (fun _ => rfl)
theorem pPart_0 {q : xTok} {e : pE} : pPart q 0 e = (pRef q 5 (if pStart q e.1 then e.1 else pRef q 1 e.1), e.2) := rfl
theorem pPart_up {q : xTok} {d : Nat} {e : pE} : pPart q (d + 1) e = if ¬ e.1.2 = 0 then e else if (q e.1.1).1 = 2 then eEm (1, (q e.1.1).2.1) (eS pNext e) else if wHr q 22 4 e.1 ≠ none then eEm (2, (wHr q 22 4 e.1).getD 0) (eS pNext e) else if pIsW q 19 e.1 then eEm (3, 0) (pPart q d (eS pNext e)) else if pIsC q 40 e.1 then eS (pSign q 41) (pAll q (pPart q d) (eS pNext e)) else eS (pRef q 1) e := rfl
theorem pPart_bad {q : xTok} {d : Nat} {e : pE} (h : ¬ pStart q e.1) : pPart q (d + 1) e = (pRef q 1 e.1, e.2) := by
  rw [pPart_up]
  by_cases z : e.1.2 = 0
  · rw [if_neg (fun y => y z), if_neg (fun y => h ⟨z, Or.inl y⟩), if_neg (fun y => h ⟨z, Or.inr (Or.inl y)⟩), if_neg (fun y => h ⟨z, Or.inr (Or.inr (Or.inl y))⟩), if_neg (fun y => h ⟨z, Or.inr (Or.inr (Or.inr y))⟩)]
    rfl
  · rw [if_pos z, pRef_f z]
theorem pStart_k {q : xTok} {s : pS} (h : pStart q s) : (q s.1).1 ≠ 0 := by
  rcases h.2 with h | h | h | h
  · rw [h]; decide
  · cases e : wHr q 22 4 s with
    | none => exact absurd e h
    | some f => rw [(wHr_is e).2.2.1]; decide
  · rw [h.2.1]; decide
  · rw [h.2.1]; decide
theorem EAt.sign {R R' : xTR} {I I' : xTI} {J J' : xTJ} {tp : Nat → Nat} {n c : Nat} {e : pE} (h : EAt R I J tp n e) (f : TFr R I J R' I' J') (A : TAt R' I' J' tp n (pSign (tTok tp n) c e.1)) (_ : True) : EAt R' I' J' tp n (eS (pSign (tTok tp n) c) e) := by
  by_cases g : pIsC (tTok tp n) c e.1
  · have e1 : eS (pSign (tTok tp n) c) e = eS pNext e := by unfold eS pSign; rw [if_pos g]
    rw [e1]
    refine h.next f ?_ (fun _ => by rw [g.2.1]; decide)
    unfold pSign at A
    rw [if_pos g] at A
    exact A
  · have e1 : eS (pSign (tTok tp n) c) e = (pRef (tTok tp n) 1 e.1, e.2) := by unfold eS pSign; rw [if_neg g]
    rw [e1]
    unfold pSign at A
    rw [if_neg g] at A
    exact h.ref f A (Or.inl (pRef_ne (by decide)))
theorem p_readPart0 {S : xTS} {tp : Nat → Nat} {n w : Nat} (hw : w = 5) : CPt S tp n yX4_readPart cX4_readPart 7 w 7 (pPart (tTok tp n) 0) := by
  intro R I J post e hS T E0 hp
  refine xSpec_of mt_X4_readPart (Nat.le_of_ble_eq_true rfl) (fun G C0 hN hR E hI hZ => ?_)
  change XX G 0 0 0 [some (.ref 4), some (.ref 1), some (.int (nI w)), none, none, none, none] [] S R I J
  have s1 := hS.sTape
  have s4 := hS.sLaw
  have s5 := hS.sCode
  have r4 := hS.rCode
  have A0 := E0.1
  have hk5 := kC_lt ((tTok tp n) e.1.1).1
  have kk := kC_is ((tTok tp n) e.1.1).1
  have hval := TAt.val (R := R) (J := J) (s := e.1) T
  have h57 : ∀ v3 vn vt I1, TFr R I J R I1 J → TAt R I1 J tp n (if pStart (tTok tp n) e.1 then e.1 else pRef (tTok tp n) 1 e.1) → (pStart (tTok tp n) e.1 → (¬ vn = 0 ↔ ((tTok tp n) e.1.1).1 = 2) ∧ (¬ vt = 0 ↔ pIsW (tTok tp n) 19 e.1)) → (∀ f, wHr (tTok tp n) 22 4 e.1 = some f → v3 = cE (2, f) ∧ ¬ v3 = 0) → (wHr (tTok tp n) 22 4 e.1 = none → v3 = 0) → XX G 0 0 57 [some (.ref 4), some (.ref 1), some (.int (nI w)), some (.int v3), some (.int vn), some (.int vt), none] [] S R I1 J := by
    intro v3 vn vt I1 f1 A1 hst hf1 hf2
    refine x_iload_n C0 rfl dX4_readPart_57 ?_
    refine x_iconst (v := nI 5) C0 rfl dX4_readPart_58 ?_
    refine x_icmp_lt (tgt := 67) C0 (by decide) dX4_readPart_59 (fun hkk => absurd hkk ((by rw [hw]; decide))) (fun _ => ?_)
    refine x_aload_n C0 rfl dX4_readPart_62 ?_
    refine x_iconst (v := nI 5) C0 rfl dX4_readPart_63 ?_
    refine x_callV [_] C0 hN rfl (xRf_of hR (by omega) (Nat.zero_le _) (Nat.zero_le _)) mv_X9_refuse wm_X4_77 dX4_readPart_64 (by assumption) rfl rfl (Nat.le_of_ble_eq_true rfl) (c_X9_refuse (hS.tfr f1) (T.tfr f1) A1 (by decide) (by decide) (fun I2 f2 A2 => ?_))
    refine x_aload_n C0 rfl dX4_readPart_67 ?_
    refine x_getI C0 wf_X4_80 (by assumption) rfl dX4_readPart_68 ?_
    refine x_topi A2.1 ?_
    refine x_if_eq (tgt := 75) C0 (by decide) dX4_readPart_71 (fun hkk => absurd hkk ((fun z => absurd ((nI_eq (b := 0) (by have := A2.2.1; exact Nat.lt_trans this (by decide)) (by decide)).mp z) (pRef_ne (by decide))))) (fun _ => ?_)
    refine x_vret C0 E (by decide) (by decide) dX4_readPart_74 ?_
    exact hp R I2 J (FrE.tfr (f1.trans f2)) (by rw [pPart_0]; exact E0.ref (f1.trans f2) A2 (Or.inl (pRef_ne (by decide))))
  refine x_aload_n C0 rfl dX4_readPart_0 ?_
  refine x_callS [_] C0 (xRf_of hR (by omega) (Nat.zero_le _) (Nat.zero_le _)) ms_X4_factAt wm_X4_67 dX4_readPart_1 rfl rfl (Nat.le_of_ble_eq_true rfl) (c_X4_factAt hS T A0 (fun v3 hf1 hf2 => ?_))
  refine x_istore_n (L' := [_, _, _, _, _, _, _]) C0 hN (by decide) rfl dX4_readPart_4 ?_
  refine x_aload_n C0 rfl dX4_readPart_5 ?_
  refine x_getI C0 wf_X4_71 (by assumption) rfl dX4_readPart_6 ?_
  refine x_iconst (v := nI 3) C0 rfl dX4_readPart_9 ?_
  refine x_icmp_ne (tgt := 17) C0 (by decide) dX4_readPart_10 (fun g10 => ?_) (fun g10 => ?_)
  · refine x_iconst (v := 0) C0 rfl dX4_readPart_17 ?_
    refine x_istore (L' := [_, _, _, _, _, _, _]) C0 hN (by decide) rfl dX4_readPart_18 ?_
    refine x_aload_n C0 rfl dX4_readPart_20 ?_
    refine x_word 19 C0 (by decide) wg_X4_74 dX4_readPart_21 ?_
    refine x_callV [_] C0 hN rfl (xRf_of hR (by omega) (Nat.zero_le _) (Nat.zero_le _)) mv_X9_isWord wm_X4_38 dX4_readPart_24 (by assumption) rfl rfl (Nat.le_of_ble_eq_true rfl) (c_X9_isWord hS T A0 (by decide) (fun g24 => ?_) (fun g24 => ?_))
    · refine x_istore (L' := [_, _, _, _, _, _, _]) C0 hN (by decide) rfl dX4_readPart_27 ?_
      refine x_iload C0 rfl dX4_readPart_29 ?_
      refine x_if_ne (tgt := 57) C0 (by decide) dX4_readPart_31 (fun hkk => absurd (by decide) hkk) (fun _ => ?_)
      refine x_iload C0 rfl dX4_readPart_34 ?_
      refine x_if_ne (tgt := 57) C0 (by decide) dX4_readPart_36 (fun _ => ?_) (fun hkk => absurd hkk (by decide))
      have hk2 : e.1.2 = 0 → ¬ ((tTok tp n) e.1.1).1 = 2 := fun z0 y => g10 (by rw [(A0.2.2.2 z0).2.2.1, kk.2.1.mpr y])
      refine h57 _ _ _ I TFr.rf ?_ (fun hs => ⟨⟨fun y => absurd rfl y, fun y => absurd y (hk2 hs.1)⟩, ⟨fun _ => g24, fun _ => by decide⟩⟩) hf1 hf2
      by_cases z0 : e.1.2 = 0
      · have hs : pStart (tTok tp n) e.1 := by
          exact ⟨z0, Or.inr (Or.inr (Or.inl g24))⟩
        rw [if_pos hs]; exact A0
      · rw [if_neg (fun y => z0 y.1), pRef_f z0]; exact A0
    · refine x_istore (L' := [_, _, _, _, _, _, _]) C0 hN (by decide) rfl dX4_readPart_27 ?_
      refine x_iload C0 rfl dX4_readPart_29 ?_
      refine x_if_ne (tgt := 57) C0 (by decide) dX4_readPart_31 (fun hkk => absurd (by decide) hkk) (fun _ => ?_)
      refine x_iload C0 rfl dX4_readPart_34 ?_
      refine x_if_ne (tgt := 57) C0 (by decide) dX4_readPart_36 (fun hkk => absurd (by decide) hkk) (fun _ => ?_)
      refine x_iload_n C0 rfl dX4_readPart_39 ?_
      refine x_if_ne (tgt := 57) C0 (by decide) dX4_readPart_40 (fun g40 => ?_) (fun g40 => ?_)
      · have hk2 : e.1.2 = 0 → ¬ ((tTok tp n) e.1.1).1 = 2 := fun z0 y => g10 (by rw [(A0.2.2.2 z0).2.2.1, kk.2.1.mpr y])
        refine h57 _ _ _ I TFr.rf ?_ (fun hs => ⟨⟨fun y => absurd rfl y, fun y => absurd y (hk2 hs.1)⟩, ⟨fun y => absurd rfl y, fun y => absurd y g24⟩⟩) hf1 hf2
        by_cases z0 : e.1.2 = 0
        · have hs : pStart (tTok tp n) e.1 := by
            refine ⟨z0, Or.inr (Or.inl (fun y => g40 (hf2 y)))⟩
          rw [if_pos hs]; exact A0
        · rw [if_neg (fun y => z0 y.1), pRef_f z0]; exact A0
      · refine x_aload_n C0 rfl dX4_readPart_43 ?_
        refine x_bipush (v := nI 40) C0 rfl dX4_readPart_44 ?_
        refine x_callV [_] C0 hN rfl (xRf_of hR (by omega) (Nat.zero_le _) (Nat.zero_le _)) mv_X9_isSign wm_X4_57 dX4_readPart_46 (by assumption) rfl rfl (Nat.le_of_ble_eq_true rfl) (c_X9_isSign hS T A0 (by decide) (fun g46 => ?_) (fun g46 => ?_))
        · refine x_if_ne (tgt := 57) C0 (by decide) dX4_readPart_49 (fun _ => ?_) (fun hkk => absurd hkk (by decide))
          have hk2 : e.1.2 = 0 → ¬ ((tTok tp n) e.1.1).1 = 2 := fun z0 y => g10 (by rw [(A0.2.2.2 z0).2.2.1, kk.2.1.mpr y])
          refine h57 _ _ _ I TFr.rf ?_ (fun hs => ⟨⟨fun y => absurd rfl y, fun y => absurd y (hk2 hs.1)⟩, ⟨fun y => absurd rfl y, fun y => absurd y g24⟩⟩) hf1 hf2
          by_cases z0 : e.1.2 = 0
          · have hs : pStart (tTok tp n) e.1 := by
              exact ⟨z0, Or.inr (Or.inr (Or.inr g46))⟩
            rw [if_pos hs]; exact A0
          · rw [if_neg (fun y => z0 y.1), pRef_f z0]; exact A0
        · refine x_if_ne (tgt := 57) C0 (by decide) dX4_readPart_49 (fun hkk => absurd (by decide) hkk) (fun _ => ?_)
          refine x_aload_n C0 rfl dX4_readPart_52 ?_
          refine x_iconst (v := nI 1) C0 rfl dX4_readPart_53 ?_
          refine x_callV [_] C0 hN rfl (xRf_of hR (by omega) (Nat.zero_le _) (Nat.zero_le _)) mv_X9_refuse wm_X4_77 dX4_readPart_54 (by assumption) rfl rfl (Nat.le_of_ble_eq_true rfl) (c_X9_refuse hS T A0 (by decide) (by decide) (fun I1 f1 A1 => ?_))
          have hk2 : e.1.2 = 0 → ¬ ((tTok tp n) e.1.1).1 = 2 := fun z0 y => g10 (by rw [(A0.2.2.2 z0).2.2.1, kk.2.1.mpr y])
          have hns : ¬ pStart (tTok tp n) e.1 := fun y => by
            rcases y.2 with h | h | h | h
            · exact hk2 y.1 h
            · cases q9 : wHr (tTok tp n) 22 4 e.1 with
              | none => exact h q9
              | some f => exact (hf1 f q9).2 g40
            · exact g24 h
            · exact g46 h
          exact h57 _ _ _ I1 f1 (by rw [if_neg hns]; exact A1) (fun hs => ⟨⟨fun y => absurd rfl y, fun y => absurd y (hk2 hs.1)⟩, ⟨fun y => absurd rfl y, fun y => absurd y g24⟩⟩) hf1 hf2
  · refine x_iconst (v := 1) C0 rfl dX4_readPart_13 ?_
    refine x_goto (tgt := 18) C0 (by decide) dX4_readPart_14 ?_
    refine x_istore (L' := [_, _, _, _, _, _, _]) C0 hN (by decide) rfl dX4_readPart_18 ?_
    refine x_aload_n C0 rfl dX4_readPart_20 ?_
    refine x_word 19 C0 (by decide) wg_X4_74 dX4_readPart_21 ?_
    refine x_callV [_] C0 hN rfl (xRf_of hR (by omega) (Nat.zero_le _) (Nat.zero_le _)) mv_X9_isWord wm_X4_38 dX4_readPart_24 (by assumption) rfl rfl (Nat.le_of_ble_eq_true rfl) (c_X9_isWord hS T A0 (by decide) (fun g24 => ?_) (fun g24 => ?_))
    · refine x_istore (L' := [_, _, _, _, _, _, _]) C0 hN (by decide) rfl dX4_readPart_27 ?_
      refine x_iload C0 rfl dX4_readPart_29 ?_
      refine x_if_ne (tgt := 57) C0 (by decide) dX4_readPart_31 (fun _ => ?_) (fun hkk => absurd hkk (by decide))
      have hk2 : e.1.2 = 0 → ((tTok tp n) e.1.1).1 = 2 := fun z0 => by
        have a4 := (A0.2.2.2 z0).2.2.1
        rw [g10] at a4
        exact kk.2.1.mp ((nI_eq (by omega) (by omega)).mp a4.symm)
      refine h57 _ _ _ I TFr.rf ?_ (fun hs => ⟨⟨fun _ => hk2 hs.1, fun _ => by decide⟩, ⟨fun _ => g24, fun _ => by decide⟩⟩) hf1 hf2
      by_cases z0 : e.1.2 = 0
      · have hs : pStart (tTok tp n) e.1 := by
          exact ⟨z0, Or.inl (hk2 z0)⟩
        rw [if_pos hs]; exact A0
      · rw [if_neg (fun y => z0 y.1), pRef_f z0]; exact A0
    · refine x_istore (L' := [_, _, _, _, _, _, _]) C0 hN (by decide) rfl dX4_readPart_27 ?_
      refine x_iload C0 rfl dX4_readPart_29 ?_
      refine x_if_ne (tgt := 57) C0 (by decide) dX4_readPart_31 (fun _ => ?_) (fun hkk => absurd hkk (by decide))
      have hk2 : e.1.2 = 0 → ((tTok tp n) e.1.1).1 = 2 := fun z0 => by
        have a4 := (A0.2.2.2 z0).2.2.1
        rw [g10] at a4
        exact kk.2.1.mp ((nI_eq (by omega) (by omega)).mp a4.symm)
      refine h57 _ _ _ I TFr.rf ?_ (fun hs => ⟨⟨fun _ => hk2 hs.1, fun _ => by decide⟩, ⟨fun y => absurd rfl y, fun y => absurd y g24⟩⟩) hf1 hf2
      by_cases z0 : e.1.2 = 0
      · have hs : pStart (tTok tp n) e.1 := by
          exact ⟨z0, Or.inl (hk2 z0)⟩
        rw [if_pos hs]; exact A0
      · rw [if_neg (fun y => z0 y.1), pRef_f z0]; exact A0
theorem p_readPartS {S : xTS} {tp : Nat → Nat} {n w d : Nat} (ihP : CPt S tp n yX4_readPart cX4_readPart 7 (w + 1) (7 + 5 * d) (pPart (tTok tp n) d)) (ihA : CPt S tp n yX4_readAll cX4_readAll 5 (w + 1) (7 + 5 * d + 4) (pAll (tTok tp n) (pPart (tTok tp n) d))) (hw : w < 5) : CPt S tp n yX4_readPart cX4_readPart 7 w (7 + 5 * (d + 1)) (pPart (tTok tp n) (d + 1)) := by
  intro R I J post e hS T E0 hp
  refine xSpec_of mt_X4_readPart (Nat.le_of_ble_eq_true rfl) (fun G C0 hN hR E hI hZ => ?_)
  change XX G 0 0 0 [some (.ref 4), some (.ref 1), some (.int (nI w)), none, none, none, none] [] S R I J
  have s1 := hS.sTape
  have s4 := hS.sLaw
  have s5 := hS.sCode
  have r4 := hS.rCode
  have A0 := E0.1
  have hk5 := kC_lt ((tTok tp n) e.1.1).1
  have kk := kC_is ((tTok tp n) e.1.1).1
  have hval := TAt.val (R := R) (J := J) (s := e.1) T
  have h57 : ∀ v3 vn vt I1, TFr R I J R I1 J → TAt R I1 J tp n (if pStart (tTok tp n) e.1 then e.1 else pRef (tTok tp n) 1 e.1) → (pStart (tTok tp n) e.1 → (¬ vn = 0 ↔ ((tTok tp n) e.1.1).1 = 2) ∧ (¬ vt = 0 ↔ pIsW (tTok tp n) 19 e.1)) → (∀ f, wHr (tTok tp n) 22 4 e.1 = some f → v3 = cE (2, f) ∧ ¬ v3 = 0) → (wHr (tTok tp n) 22 4 e.1 = none → v3 = 0) → XX G 0 0 57 [some (.ref 4), some (.ref 1), some (.int (nI w)), some (.int v3), some (.int vn), some (.int vt), none] [] S R I1 J := by
    intro v3 vn vt I1 f1 A1 hst hf1 hf2
    refine x_iload_n C0 rfl dX4_readPart_57 ?_
    refine x_iconst (v := nI 5) C0 rfl dX4_readPart_58 ?_
    refine x_icmp_lt (tgt := 67) C0 (by decide) dX4_readPart_59 (fun _ => ?_) (fun hkk => absurd ((nI_lt hw (by decide))) hkk)
    refine x_aload_n C0 rfl dX4_readPart_67 ?_
    refine x_getI C0 wf_X4_80 (by assumption) rfl dX4_readPart_68 ?_
    refine x_topi A1.1 ?_
    refine x_if_eq (tgt := 75) C0 (by decide) dX4_readPart_71 (fun g71 => ?_) (fun g71 => ?_)
    · have z1 : (if pStart (tTok tp n) e.1 then e.1 else pRef (tTok tp n) 1 e.1).2 = 0 := (nI_eq (b := 0) (by have := A1.2.1; exact Nat.lt_trans this (by decide)) (by decide)).mp g71
      have hs : pStart (tTok tp n) e.1 := Decidable.of_not_not (fun y => by rw [if_neg y] at z1; exact pRef_ne (by decide) z1)
      rw [if_pos hs] at A1
      have z0 := hs.1
      obtain ⟨st1, st2⟩ := hst hs
      have hS1 := hS.tfr f1
      have T1 := T.tfr f1
      have E1 : EAt R I1 J tp n e := E0.ref f1 A1 (Or.inr rfl)
      have up := pPart_up (q := (tTok tp n)) (d := d) (e := e)
      rw [if_neg (fun y => y z0)] at up
      have e8 : (eS pNext e).1.1 = e.1.1 + 1 := by rw [eNext z0]
      have e7 : (eS pNext e).2.length = e.2.length := rfl
      obtain ⟨l9, -, -⟩ := E1.2.2 z0
      refine x_aload_n C0 rfl dX4_readPart_75 ?_
      refine x_getI C0 wf_X4_83 (by assumption) rfl dX4_readPart_76 ?_
      refine x_istore (L' := [_, _, _, _, _, _, _]) C0 hN (by decide) rfl dX4_readPart_79 ?_
      refine x_aload_n C0 rfl dX4_readPart_81 ?_
      refine x_callV [] C0 hN rfl (xRf_of hR (by omega) (Nat.zero_le _) (Nat.zero_le _)) mv_X9_step wm_X4_47 dX4_readPart_82 (by assumption) rfl rfl (Nat.le_of_ble_eq_true rfl) (c_stepA hS1 T1 A1 (fun R2 I2 J2 f2 A2 => ?_))
      have E2 := E1.next f2 A2 (fun _ => pStart_k hs)
      have hS2 := hS1.tfr f2
      have T2 := T1.tfr f2
      have f12 := f1.trans f2
      refine x_iload C0 rfl dX4_readPart_85 ?_
      refine x_if_eq (tgt := 99) C0 (by decide) dX4_readPart_87 (fun g85 => ?_) (fun g85 => ?_)
      · have g2 : ¬ ((tTok tp n) e.1.1).1 = 2 := fun y => st1.mpr y g85
        rw [if_neg g2] at up
        refine x_iload_n C0 rfl dX4_readPart_99 ?_
        refine x_if_eq (tgt := 111) C0 (by decide) dX4_readPart_100 (fun g100 => ?_) (fun g100 => ?_)
        · have e9 : wHr (tTok tp n) 22 4 e.1 = none := by
            cases q9 : wHr (tTok tp n) 22 4 e.1 with
            | none => rfl
            | some f => exact absurd g100 (hf1 f q9).2
          rw [if_neg (fun y => y e9)] at up
          refine x_iload C0 rfl dX4_readPart_111 ?_
          refine x_if_eq (tgt := 133) C0 (by decide) dX4_readPart_113 (fun g113 => ?_) (fun g113 => ?_)
          · have g3 : ¬ pIsW (tTok tp n) 19 e.1 := fun y => st2.mpr y g113
            have g4 : pIsC (tTok tp n) 40 e.1 := by
              rcases hs.2 with h | h | h | h
              · exact absurd h g2
              · exact absurd e9 h
              · exact absurd h g3
              · exact h
            rw [if_neg g3, if_pos g4] at up
            refine x_aload_n C0 rfl dX4_readPart_133 ?_
            refine x_aload_n C0 rfl dX4_readPart_134 ?_
            refine x_iload_n C0 rfl dX4_readPart_135 ?_
            refine x_iconst (v := nI 1) C0 rfl dX4_readPart_136 ?_
            refine x_iaddN C0 dX4_readPart_137 ?_
            refine x_callV [_, _] C0 hN rfl (xRf_of hR (by omega) (Nat.zero_le _) (Nat.zero_le _)) mv_X4_readAll wm_X4_86 dX4_readPart_138 (by assumption) rfl rfl (Nat.le_of_ble_eq_true rfl) (ihA _ _ _ _ _ hS2 T2 E2 (fun R3 I3 J3 f3 E3 => ?_))
            refine x_aload_n C0 rfl dX4_readPart_141 ?_
            refine x_bipush (v := nI 41) C0 rfl dX4_readPart_142 ?_
            refine x_callV [_] C0 hN rfl (xRf_of hR (by omega) (Nat.zero_le _) (Nat.zero_le _)) mv_X9_needSign wm_X4_89 dX4_readPart_144 (by assumption) rfl rfl (Nat.le_of_ble_eq_true rfl) (c_X9_needSign (hS2.fre f3) (T2.fre f3) E3.1 (by decide) (fun R4 I4 J4 f4 A4 => ?_))
            refine x_vret C0 E (by decide) (by decide) dX4_readPart_147 ?_
            refine hp R4 I4 J4 (((FrE.tfr f12).trans f3).trans (FrE.tfr f4)) ?_
            rw [up]
            exact E3.sign f4 A4 trivial
          · have g3 := st2.mp g113
            rw [if_pos g3] at up
            refine x_aload_n C0 rfl dX4_readPart_116 ?_
            refine x_aload_n C0 rfl dX4_readPart_117 ?_
            refine x_iload_n C0 rfl dX4_readPart_118 ?_
            refine x_iconst (v := nI 1) C0 rfl dX4_readPart_119 ?_
            refine x_iaddN C0 dX4_readPart_120 ?_
            refine x_callV [_, _] C0 hN rfl (xRf_of hR (by omega) (Nat.zero_le _) (Nat.zero_le _)) mv_X4_readPart wm_X4_64 dX4_readPart_121 (by assumption) rfl rfl (Nat.le_of_ble_eq_true rfl) (ihP _ _ _ _ _ hS2 T2 E2 (fun R3 I3 J3 f3 E3 => ?_))
            refine x_aload_n C0 rfl dX4_readPart_124 ?_
            refine x_bipush (v := -5) C0 rfl dX4_readPart_125 ?_
            refine x_callV [_] C0 hN rfl (xRf_of hR (by omega) (Nat.zero_le _) (Nat.zero_le _)) mv_X4_emit wm_X4_50 dX4_readPart_127 (by assumption) rfl rfl (Nat.le_of_ble_eq_true rfl) (c_X4_emit (c := (3, 0)) (hS2.fre f3) (T2.fre f3) E3 (show (-5 : Int32) = cE (3, 0) from rfl) (fun y => ?_) (fun I4 f4 E4 => ?_))
            · have g9 := pPart_gr (q := (tTok tp n)) d (eS pNext e) (by rw [eNext z0]) y
              omega
            refine x_goto (tgt := 147) C0 (by decide) dX4_readPart_130 ?_
            refine x_vret C0 E (by decide) (by decide) dX4_readPart_147 ?_
            exact hp R3 I4 J3 (((FrE.tfr f12).trans f3).trans f4) (by rw [up]; exact E4)
        · obtain ⟨f9, ef9⟩ : ∃ f, wHr (tTok tp n) 22 4 e.1 = some f := by
            cases q9 : wHr (tTok tp n) 22 4 e.1 with
            | none => exact absurd (hf2 q9) g100
            | some f => exact ⟨f, rfl⟩
          rw [if_pos (by rw [ef9]; exact fun y => by cases y), ef9] at up
          refine x_aload_n C0 rfl dX4_readPart_103 ?_
          refine x_iload_n C0 rfl dX4_readPart_104 ?_
          refine x_callV [_] C0 hN rfl (xRf_of hR (by omega) (Nat.zero_le _) (Nat.zero_le _)) mv_X4_emit wm_X4_50 dX4_readPart_105 (by assumption) rfl rfl (Nat.le_of_ble_eq_true rfl) (c_X4_emit (c := (2, f9)) hS2 T2 E2 (hf1 f9 ef9).1 (fun _ => by omega) (fun I3 f3 E3 => ?_))
          refine x_goto (tgt := 147) C0 (by decide) dX4_readPart_108 ?_
          refine x_vret C0 E (by decide) (by decide) dX4_readPart_147 ?_
          exact hp R2 I3 J2 ((FrE.tfr f12).trans f3) (by rw [up]; exact E3)
      · have g2 : ((tTok tp n) e.1.1).1 = 2 := st1.mp g85
        have v6 : I1 1 5 = nI ((tTok tp n) e.1.1).2.1 := (A1.2.2.2 z0).2.2.2.2 (Or.inl g2)
        rw [if_pos g2] at up
        refine x_aload_n C0 rfl dX4_readPart_90 ?_
        refine x_iload C0 rfl dX4_readPart_91 ?_
        refine x_callV [_] C0 hN rfl (xRf_of hR (by omega) (Nat.zero_le _) (Nat.zero_le _)) mv_X4_emit wm_X4_50 dX4_readPart_93 (by assumption) rfl rfl (Nat.le_of_ble_eq_true rfl) (c_X4_emit (c := (1, ((tTok tp n) e.1.1).2.1)) hS2 T2 E2 v6 (fun _ => by omega) (fun I3 f3 E3 => ?_))
        refine x_goto (tgt := 147) C0 (by decide) dX4_readPart_96 ?_
        refine x_vret C0 E (by decide) (by decide) dX4_readPart_147 ?_
        exact hp R2 I3 J2 ((FrE.tfr f12).trans f3) (by rw [up]; exact E3)
    · refine x_vret C0 E (by decide) (by decide) dX4_readPart_74 ?_
      have z1 : ¬ (if pStart (tTok tp n) e.1 then e.1 else pRef (tTok tp n) 1 e.1).2 = 0 := fun y => g71 (by rw [y]; rfl)
      refine hp R I1 J (FrE.tfr f1) ?_
      by_cases hs : pStart (tTok tp n) e.1
      · rw [if_pos hs] at z1
        exact absurd hs.1 z1
      · rw [if_neg hs] at A1 z1
        rw [pPart_bad hs]
        exact E0.ref f1 A1 (Or.inl z1)
  refine x_aload_n C0 rfl dX4_readPart_0 ?_
  refine x_callS [_] C0 (xRf_of hR (by omega) (Nat.zero_le _) (Nat.zero_le _)) ms_X4_factAt wm_X4_67 dX4_readPart_1 rfl rfl (Nat.le_of_ble_eq_true rfl) (c_X4_factAt hS T A0 (fun v3 hf1 hf2 => ?_))
  refine x_istore_n (L' := [_, _, _, _, _, _, _]) C0 hN (by decide) rfl dX4_readPart_4 ?_
  refine x_aload_n C0 rfl dX4_readPart_5 ?_
  refine x_getI C0 wf_X4_71 (by assumption) rfl dX4_readPart_6 ?_
  refine x_iconst (v := nI 3) C0 rfl dX4_readPart_9 ?_
  refine x_icmp_ne (tgt := 17) C0 (by decide) dX4_readPart_10 (fun g10 => ?_) (fun g10 => ?_)
  · refine x_iconst (v := 0) C0 rfl dX4_readPart_17 ?_
    refine x_istore (L' := [_, _, _, _, _, _, _]) C0 hN (by decide) rfl dX4_readPart_18 ?_
    refine x_aload_n C0 rfl dX4_readPart_20 ?_
    refine x_word 19 C0 (by decide) wg_X4_74 dX4_readPart_21 ?_
    refine x_callV [_] C0 hN rfl (xRf_of hR (by omega) (Nat.zero_le _) (Nat.zero_le _)) mv_X9_isWord wm_X4_38 dX4_readPart_24 (by assumption) rfl rfl (Nat.le_of_ble_eq_true rfl) (c_X9_isWord hS T A0 (by decide) (fun g24 => ?_) (fun g24 => ?_))
    · refine x_istore (L' := [_, _, _, _, _, _, _]) C0 hN (by decide) rfl dX4_readPart_27 ?_
      refine x_iload C0 rfl dX4_readPart_29 ?_
      refine x_if_ne (tgt := 57) C0 (by decide) dX4_readPart_31 (fun hkk => absurd (by decide) hkk) (fun _ => ?_)
      refine x_iload C0 rfl dX4_readPart_34 ?_
      refine x_if_ne (tgt := 57) C0 (by decide) dX4_readPart_36 (fun _ => ?_) (fun hkk => absurd hkk (by decide))
      have hk2 : e.1.2 = 0 → ¬ ((tTok tp n) e.1.1).1 = 2 := fun z0 y => g10 (by rw [(A0.2.2.2 z0).2.2.1, kk.2.1.mpr y])
      refine h57 _ _ _ I TFr.rf ?_ (fun hs => ⟨⟨fun y => absurd rfl y, fun y => absurd y (hk2 hs.1)⟩, ⟨fun _ => g24, fun _ => by decide⟩⟩) hf1 hf2
      by_cases z0 : e.1.2 = 0
      · have hs : pStart (tTok tp n) e.1 := by
          exact ⟨z0, Or.inr (Or.inr (Or.inl g24))⟩
        rw [if_pos hs]; exact A0
      · rw [if_neg (fun y => z0 y.1), pRef_f z0]; exact A0
    · refine x_istore (L' := [_, _, _, _, _, _, _]) C0 hN (by decide) rfl dX4_readPart_27 ?_
      refine x_iload C0 rfl dX4_readPart_29 ?_
      refine x_if_ne (tgt := 57) C0 (by decide) dX4_readPart_31 (fun hkk => absurd (by decide) hkk) (fun _ => ?_)
      refine x_iload C0 rfl dX4_readPart_34 ?_
      refine x_if_ne (tgt := 57) C0 (by decide) dX4_readPart_36 (fun hkk => absurd (by decide) hkk) (fun _ => ?_)
      refine x_iload_n C0 rfl dX4_readPart_39 ?_
      refine x_if_ne (tgt := 57) C0 (by decide) dX4_readPart_40 (fun g40 => ?_) (fun g40 => ?_)
      · have hk2 : e.1.2 = 0 → ¬ ((tTok tp n) e.1.1).1 = 2 := fun z0 y => g10 (by rw [(A0.2.2.2 z0).2.2.1, kk.2.1.mpr y])
        refine h57 _ _ _ I TFr.rf ?_ (fun hs => ⟨⟨fun y => absurd rfl y, fun y => absurd y (hk2 hs.1)⟩, ⟨fun y => absurd rfl y, fun y => absurd y g24⟩⟩) hf1 hf2
        by_cases z0 : e.1.2 = 0
        · have hs : pStart (tTok tp n) e.1 := by
            refine ⟨z0, Or.inr (Or.inl (fun y => g40 (hf2 y)))⟩
          rw [if_pos hs]; exact A0
        · rw [if_neg (fun y => z0 y.1), pRef_f z0]; exact A0
      · refine x_aload_n C0 rfl dX4_readPart_43 ?_
        refine x_bipush (v := nI 40) C0 rfl dX4_readPart_44 ?_
        refine x_callV [_] C0 hN rfl (xRf_of hR (by omega) (Nat.zero_le _) (Nat.zero_le _)) mv_X9_isSign wm_X4_57 dX4_readPart_46 (by assumption) rfl rfl (Nat.le_of_ble_eq_true rfl) (c_X9_isSign hS T A0 (by decide) (fun g46 => ?_) (fun g46 => ?_))
        · refine x_if_ne (tgt := 57) C0 (by decide) dX4_readPart_49 (fun _ => ?_) (fun hkk => absurd hkk (by decide))
          have hk2 : e.1.2 = 0 → ¬ ((tTok tp n) e.1.1).1 = 2 := fun z0 y => g10 (by rw [(A0.2.2.2 z0).2.2.1, kk.2.1.mpr y])
          refine h57 _ _ _ I TFr.rf ?_ (fun hs => ⟨⟨fun y => absurd rfl y, fun y => absurd y (hk2 hs.1)⟩, ⟨fun y => absurd rfl y, fun y => absurd y g24⟩⟩) hf1 hf2
          by_cases z0 : e.1.2 = 0
          · have hs : pStart (tTok tp n) e.1 := by
              exact ⟨z0, Or.inr (Or.inr (Or.inr g46))⟩
            rw [if_pos hs]; exact A0
          · rw [if_neg (fun y => z0 y.1), pRef_f z0]; exact A0
        · refine x_if_ne (tgt := 57) C0 (by decide) dX4_readPart_49 (fun hkk => absurd (by decide) hkk) (fun _ => ?_)
          refine x_aload_n C0 rfl dX4_readPart_52 ?_
          refine x_iconst (v := nI 1) C0 rfl dX4_readPart_53 ?_
          refine x_callV [_] C0 hN rfl (xRf_of hR (by omega) (Nat.zero_le _) (Nat.zero_le _)) mv_X9_refuse wm_X4_77 dX4_readPart_54 (by assumption) rfl rfl (Nat.le_of_ble_eq_true rfl) (c_X9_refuse hS T A0 (by decide) (by decide) (fun I1 f1 A1 => ?_))
          have hk2 : e.1.2 = 0 → ¬ ((tTok tp n) e.1.1).1 = 2 := fun z0 y => g10 (by rw [(A0.2.2.2 z0).2.2.1, kk.2.1.mpr y])
          have hns : ¬ pStart (tTok tp n) e.1 := fun y => by
            rcases y.2 with h | h | h | h
            · exact hk2 y.1 h
            · cases q9 : wHr (tTok tp n) 22 4 e.1 with
              | none => exact h q9
              | some f => exact (hf1 f q9).2 g40
            · exact g24 h
            · exact g46 h
          exact h57 _ _ _ I1 f1 (by rw [if_neg hns]; exact A1) (fun hs => ⟨⟨fun y => absurd rfl y, fun y => absurd y (hk2 hs.1)⟩, ⟨fun y => absurd rfl y, fun y => absurd y g24⟩⟩) hf1 hf2
  · refine x_iconst (v := 1) C0 rfl dX4_readPart_13 ?_
    refine x_goto (tgt := 18) C0 (by decide) dX4_readPart_14 ?_
    refine x_istore (L' := [_, _, _, _, _, _, _]) C0 hN (by decide) rfl dX4_readPart_18 ?_
    refine x_aload_n C0 rfl dX4_readPart_20 ?_
    refine x_word 19 C0 (by decide) wg_X4_74 dX4_readPart_21 ?_
    refine x_callV [_] C0 hN rfl (xRf_of hR (by omega) (Nat.zero_le _) (Nat.zero_le _)) mv_X9_isWord wm_X4_38 dX4_readPart_24 (by assumption) rfl rfl (Nat.le_of_ble_eq_true rfl) (c_X9_isWord hS T A0 (by decide) (fun g24 => ?_) (fun g24 => ?_))
    · refine x_istore (L' := [_, _, _, _, _, _, _]) C0 hN (by decide) rfl dX4_readPart_27 ?_
      refine x_iload C0 rfl dX4_readPart_29 ?_
      refine x_if_ne (tgt := 57) C0 (by decide) dX4_readPart_31 (fun _ => ?_) (fun hkk => absurd hkk (by decide))
      have hk2 : e.1.2 = 0 → ((tTok tp n) e.1.1).1 = 2 := fun z0 => by
        have a4 := (A0.2.2.2 z0).2.2.1
        rw [g10] at a4
        exact kk.2.1.mp ((nI_eq (by omega) (by omega)).mp a4.symm)
      refine h57 _ _ _ I TFr.rf ?_ (fun hs => ⟨⟨fun _ => hk2 hs.1, fun _ => by decide⟩, ⟨fun _ => g24, fun _ => by decide⟩⟩) hf1 hf2
      by_cases z0 : e.1.2 = 0
      · have hs : pStart (tTok tp n) e.1 := by
          exact ⟨z0, Or.inl (hk2 z0)⟩
        rw [if_pos hs]; exact A0
      · rw [if_neg (fun y => z0 y.1), pRef_f z0]; exact A0
    · refine x_istore (L' := [_, _, _, _, _, _, _]) C0 hN (by decide) rfl dX4_readPart_27 ?_
      refine x_iload C0 rfl dX4_readPart_29 ?_
      refine x_if_ne (tgt := 57) C0 (by decide) dX4_readPart_31 (fun _ => ?_) (fun hkk => absurd hkk (by decide))
      have hk2 : e.1.2 = 0 → ((tTok tp n) e.1.1).1 = 2 := fun z0 => by
        have a4 := (A0.2.2.2 z0).2.2.1
        rw [g10] at a4
        exact kk.2.1.mp ((nI_eq (by omega) (by omega)).mp a4.symm)
      refine h57 _ _ _ I TFr.rf ?_ (fun hs => ⟨⟨fun _ => hk2 hs.1, fun _ => by decide⟩, ⟨fun y => absurd rfl y, fun y => absurd y g24⟩⟩) hf1 hf2
      by_cases z0 : e.1.2 = 0
      · have hs : pStart (tTok tp n) e.1 := by
          exact ⟨z0, Or.inl (hk2 z0)⟩
        rw [if_pos hs]; exact A0
      · rw [if_neg (fun y => z0 y.1), pRef_f z0]; exact A0
theorem p_levels {S : xTS} {tp : Nat → Nat} {n : Nat} : ∀ d, d ≤ 5 → CPt S tp n yX4_readPart cX4_readPart 7 (5 - d) (7 + 5 * d) (pPart (tTok tp n) d) ∧ CPt S tp n yX4_readAll cX4_readAll 5 (5 - d) (7 + 5 * d + 4) (pAll (tTok tp n) (pPart (tTok tp n) d))
  | 0, _ => by
    have h := p_readPart0 (S := S) (tp := tp) (n := n) (w := 5) rfl
    exact ⟨h, p_X4_readAll (pPart_fx 0) (pPart_gr 0) (by decide) (p_X4_readTest (pPart_fx 0) (pPart_gr 0) (by decide) (p_X4_readSum (pPart_fx 0) (pPart_gr 0) (by decide) (p_X4_readProduct (pPart_fx 0) (pPart_gr 0) (by decide) h)))⟩
  | d + 1, hd => by
    obtain ⟨h1, h2⟩ := p_levels (S := S) (tp := tp) (n := n) d (by omega)
    rw [show 5 - d = 5 - (d + 1) + 1 by omega] at h1 h2
    have h := p_readPartS h1 h2 (by omega)
    exact ⟨h, p_X4_readAll (pPart_fx _) (pPart_gr _) (by omega) (p_X4_readTest (pPart_fx _) (pPart_gr _) (by omega) (p_X4_readSum (pPart_fx _) (pPart_gr _) (by omega) (p_X4_readProduct (pPart_fx _) (pPart_gr _) (by omega) h)))⟩
