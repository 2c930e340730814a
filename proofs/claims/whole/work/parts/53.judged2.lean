/-! THE QUESTION judged: walked, the class -/
def aJudged (fl : xRow) (dq : xDq) (T N V : Nat) (ln : Nat → Nat × Nat × Nat × Nat) (ev : Nat) (c : Int32) : Int32 := if 0 ≤ c ∧ c ≤ 2 then (if c = 2 then sBits (jS fl dq T N V ln ev 2) 30 else if c = 0 then jR fl dq T N V ln ev else jL fl dq T N V ln ev) else -2
/-- the class's evening at e holds these lines -/
def eFd (I : xTI) (e T N V ev : Nat) (ln : Nat → Nat × Nat × Nat × Nat) : Prop := (e = 25 ∨ e = 29) ∧ ev ≤ 40 ∧ I e 0 = nI ev ∧ ∀ i, i < ev → dOk T N V (ln i).1 (ln i).2.1 (ln i).2.2.1 (ln i).2.2.2 ∧ I (e + 1) i = nI (ln i).1 ∧ ((ln i).1 = 1 ∨ (ln i).1 = 2 ∨ (ln i).1 = 3 → I (e + 2) i = nI (ln i).2.1) ∧ ((ln i).1 = 1 → I (e + 3) i = nI (2 * (ln i).2.2.1 + (ln i).2.2.2)) ∧ ((ln i).1 = 3 → I (e + 3) i = nI (ln i).2.2.1)
theorem eFd.fq {I I' : xTI} {e T N V ev : Nat} {ln : Nat → Nat × Nat × Nat × Nat} (h : eFd I e T N V ev ln) (q : FQ I I') : eFd I' e T N V ev ln := by
  obtain ⟨he, h40, h0, hl⟩ := h
  have r : ∀ j, j < 4 → I' (e + j) = I (e + j) := fun j hj => q _ (by omega) (by omega) (by omega) (by omega) (by omega)
  have r0 := r 0 (by decide)
  rw [Nat.add_zero] at r0
  refine ⟨he, h40, by rw [r0]; exact h0, fun i hi => ?_⟩
  rw [r 1 (by decide), r 2 (by decide), r 3 (by decide)]
  exact hl i hi
theorem dMask_nI {fl y : xRow} {dq : xDq} {V act : Nat} (hV : V ≤ 6) : ∃ m, m < 64 ∧ dMask fl dq V y act = nI m := by
  unfold dMask
  split
  · obtain ⟨m, hm, em⟩ := sAll_mask (fl := fl) (x := y) (dq := dq) (k := (y 0).toNatClampNeg) (cl := sClN fl y (y 0).toNatClampNeg) V hV
    have := Nat.pow_le_pow_right (n := 2) (by decide) hV
    exact ⟨m, by omega, em⟩
  · exact ⟨0, by decide, rfl⟩
theorem nI_not1 : ∀ m, m < 64 → ¬ nI m = -1 := by decide +kernel
theorem c_X11_judged {S : xTS} {R : xTR} {I : xTI} {J : xTJ} {post : xPost} {f T N V : Nat} {fl x : xRow} {lw : Option (List (Nat × Nat))} (hS : fixd S R) (hf : R 0 2 = some f) (C : FCore I f fl lw T N V x) {e ev : Nat} {ln : Nat → Nat × Nat × Nat × Nat} (he : R 0 4 = some e) (hE9 : eFd I e T N V ev ln) {c : Int32} (hp : ∀ I', FQ I I' → post (some (.int (aJudged fl (sDq fl lw) T N V ln ev c))) S R I' J) : xSpec 6 yX11_judged cX11_judged 6 (some .int) 0 0 [.ref 0, .int c] S R I J post := by
  refine xSpec_of mt_X11_judged (Nat.le_of_ble_eq_true rfl) (fun G C0 hN hR E hI hZ => ?_)
  change XX G 0 0 0 [some (.ref 0), some (.int c), none, none, none, none] [] S R I J
  obtain ⟨hfm, wl, rF, rH, wx⟩ := id C
  have hF := hS.film hfm
  have hH := hS.hall (q := 33) (by decide)
  have hT6 := wl.2.1
  have hN8 := wl.2.2.2.1
  have hV6 := wl.2.2.2.2.2.1
  have eT : I f 0 = nI T := rF.1.trans wl.1
  have eN : I f 1 = nI N := rF.2.1.trans wl.2.2.1
  have eV : I f 2 = nI V := rF.2.2.1.trans wl.2.2.2.2.1
  have hfh : ∀ i j, i < 9 → j < 4 → f + i ≠ 33 + j := fun i j hi hj => hf_apart 33 (by decide) f hfm i hi j hj
  obtain ⟨fs0, fs1, fs2, fs3, fs4, fs5, fs6, fs7, fs8, fr4, fr5, fr6, fr7, fr8, fr9, fr10, fr11⟩ := id hF
  obtain ⟨hs0, hs1, hs2, hs3, hr4, hr5, hr6⟩ := id hH
  unfold aJudged at hp
  have hT := hS.hall (q := 37) (by decide)
  obtain ⟨hq0, hq1, hq2, hq3, hq4, hq5, hq6⟩ := id hT
  have hf37 : ∀ i j, i < 9 → j < 4 → f + i ≠ 37 + j := fun i j hi hj => hf_apart 37 (by decide) f hfm i hi j hj
  have hse := fixd.eve hS hE9.1
  have hz0 := hse.1
  have h40 := hE9.2.1
  have jok := jS_ok (dq := sDq fl lw) wl (fun i hi => (hE9.2.2.2 i hi).1)
  have h30 : (0 ≤ c ∧ c ≤ 2) → ∀ n i I1 v5, i + n = ev → FQ I I1 → RHall I1 37 (jS fl (sDq fl lw) T N V ln i) N → XX G 0 0 30 [some (.ref 0), some (.int c), some (.int (jR fl (sDq fl lw) T N V ln i)), some (.int (jL fl (sDq fl lw) T N V ln i)), some (.int (nI i)), v5] [] S R I1 J := by
    intro hc n
    rw [if_pos hc] at hp
    induction n with
    | zero =>
      intro i I1 v5 hi s1 r1
      have hi8 : i = ev := by omega
      subst hi8
      have e0 := (hE9.fq s1).2.2.1
      obtain ⟨m, hm, em⟩ := (jok i (Nat.le_refl i)).1.2.1
      have hm6 : m < 256 := by have := Nat.pow_le_pow_right (n := 2) (by decide) hV6; omega
      refine x_iload C0 rfl dX11_judged_30 ?_
      refine x_aload_n C0 rfl dX11_judged_32 ?_
      refine x_getR C0 wf_X11_36 (fixd.k0 hS) rfl rfl he dX11_judged_33 ?_
      refine x_getI C0 wf_X11_100 (by assumption) rfl dX11_judged_36 ?_
      refine x_topi e0 ?_
      refine x_icmp_ge (tgt := 83) C0 (by decide) dX11_judged_39 (fun _ => ?_) (fun hkk => absurd ((Int32.le_refl _)) hkk)
      refine x_iload_n C0 rfl dX11_judged_83 ?_
      refine x_iconst (v := 2) C0 rfl dX11_judged_84 ?_
      refine x_icmp_ne (tgt := 99) C0 (by decide) dX11_judged_85 (fun g85 => ?_) (fun g85 => ?_)
      · refine x_iload_n C0 rfl dX11_judged_99 ?_
        refine x_if_ne (tgt := 107) C0 (by decide) dX11_judged_100 (fun g100 => ?_) (fun g100 => ?_)
        · refine x_iload_n C0 rfl dX11_judged_107 ?_
          refine x_iret C0 E (by decide) (by decide) dX11_judged_108 ?_
          rw [if_neg g85, if_neg g100] at hp
          exact hp I1 s1
        · refine x_iload_n C0 rfl dX11_judged_103 ?_
          refine x_goto (tgt := 108) C0 (by decide) dX11_judged_104 ?_
          refine x_iret C0 E (by decide) (by decide) dX11_judged_108 ?_
          rw [if_neg g85, if_pos g100] at hp
          exact hp I1 s1
      · refine x_aload_n C0 rfl dX11_judged_88 ?_
        refine x_getR C0 wf_X11_50 (fixd.k0 hS) rfl rfl (fixd.trial hS) dX11_judged_89 ?_
        refine x_getI C0 wf_X11_219 (by assumption) rfl dX11_judged_92 ?_
        refine x_topi (r1.2.2.1.trans em) ?_
        refine x_callS [_] C0 (xRf_of hR (by decide) (Nat.zero_le _) (Nat.zero_le _)) ms_J6_bitCount_0f7a4 wm_X11_222 dX11_judged_95 rfl rfl (Nat.le_of_ble_eq_true rfl) (c_J6_bitCount_0f7a4 hm6 ?_)
        refine x_iret C0 E (by decide) (by decide) dX11_judged_98 ?_
        rw [if_pos g85, em] at hp
        exact hp I1 s1
    | succ n ih =>
      intro i I1 v5 hi s1 r1
      have E1 := hE9.fq s1
      obtain ⟨k0, l1, m2, m3, m4⟩ := E1.2.2.2 i (by omega)
      obtain ⟨wi, r, hr, er⟩ := jok i (by omega)
      obtain ⟨m, hm, em⟩ := dMask_nI (fl := fl) (y := (jS fl (sDq fl lw) T N V ln i)) (dq := (sDq fl lw)) (act := (ln i).1) hV6
      have hY : ∀ I2, dMay N (jS fl (sDq fl lw) T N V ln i) (ln i).1 (ln i).2.1 (ln i).2.2.1 → FQ I1 I2 → RHall I2 37 (dDo fl (sDq fl lw) T V (jS fl (sDq fl lw) T N V ln i) (ln i).1 (ln i).2.1 (ln i).2.2.1 (ln i).2.2.2) N → XX G 0 0 48 [some (.ref 0), some (.int c), some (.int (jR fl (sDq fl lw) T N V ln i)), some (.int (jL fl (sDq fl lw) T N V ln i)), some (.int (nI i)), v5] [.int (nI m)] S R I2 J := by
        intro I2 may s2 r2
        have eS : (jS fl (sDq fl lw) T N V ln (i + 1)) = dDo fl (sDq fl lw) T V (jS fl (sDq fl lw) T N V ln i) (ln i).1 (ln i).2.1 (ln i).2.2.1 (ln i).2.2.2 := by conv => lhs; unfold jS; rw [if_pos may]
        have eR : (jR fl (sDq fl lw) T N V ln (i + 1)) = (jR fl (sDq fl lw) T N V ln i) := by conv => lhs; unfold jR; rw [if_pos may]
        refine x_istore (L' := [_, _, _, _, _, _]) C0 hN (by decide) rfl dX11_judged_48 ?_
        refine x_iload C0 rfl dX11_judged_50 ?_
        refine x_iconst (v := -1) C0 rfl dX11_judged_52 ?_
        refine x_icmp_ne (tgt := 64) C0 (by decide) dX11_judged_53 (fun _ => ?_) (fun hkk => absurd hkk ((nI_not1 m hm)))
        refine x_iload C0 rfl dX11_judged_64 ?_
        refine x_if_le (tgt := 77) C0 (by decide) dX11_judged_66 (fun g66 => ?_) (fun g66 => ?_)
        · refine x_iinc (v := nI (i + 1)) (L' := [_, _, _, _, _, _]) C0 hN rfl (by decide) (nI_inc i) rfl dX11_judged_77 ?_
          refine x_goto (tgt := 30) C0 (by decide) dX11_judged_80 ?_
          have eL : (jL fl (sDq fl lw) T N V ln (i + 1)) = (jL fl (sDq fl lw) T N V ln (i + 1)) := rfl
          conv at eL => rhs; unfold jL
          rw [em] at eL
          rw [if_neg (fun z => z.2 (by rw [(mask_pos m hm).mp g66]; rfl))] at eL
          have := ih (i + 1) I2 (some (.int (nI m))) (by omega) (s1.trans s2) (by rw [eS]; exact r2)
          rw [eR, eL] at this
          exact this
        · refine x_iload_n C0 rfl dX11_judged_69 ?_
          refine x_iconst (v := -1) C0 rfl dX11_judged_70 ?_
          refine x_icmp_ne (tgt := 77) C0 (by decide) dX11_judged_71 (fun g71 => ?_) (fun g71 => ?_)
          · refine x_iinc (v := nI (i + 1)) (L' := [_, _, _, _, _, _]) C0 hN rfl (by decide) (nI_inc i) rfl dX11_judged_77 ?_
            refine x_goto (tgt := 30) C0 (by decide) dX11_judged_80 ?_
            have eL : (jL fl (sDq fl lw) T N V ln (i + 1)) = (jL fl (sDq fl lw) T N V ln (i + 1)) := rfl
            conv at eL => rhs; unfold jL
            rw [em] at eL
            rw [if_pos ⟨may, fun z => g66 (by rw [z]; decide)⟩, if_neg g71] at eL
            have := ih (i + 1) I2 (some (.int (nI m))) (by omega) (s1.trans s2) (by rw [eS]; exact r2)
            rw [eR, eL] at this
            exact this
          · refine x_iload C0 rfl dX11_judged_74 ?_
            refine x_istore_n (L' := [_, _, _, _, _, _]) C0 hN (by decide) rfl dX11_judged_76 ?_
            refine x_iinc (v := nI (i + 1)) (L' := [_, _, _, _, _, _]) C0 hN rfl (by decide) (nI_inc i) rfl dX11_judged_77 ?_
            refine x_goto (tgt := 30) C0 (by decide) dX11_judged_80 ?_
            have eL : (jL fl (sDq fl lw) T N V ln (i + 1)) = (jL fl (sDq fl lw) T N V ln (i + 1)) := rfl
            conv at eL => rhs; unfold jL
            rw [em] at eL
            rw [if_pos ⟨may, fun z => g66 (by rw [z]; decide)⟩, if_pos g71] at eL
            have := ih (i + 1) I2 (some (.int (nI m))) (by omega) (s1.trans s2) (by rw [eS]; exact r2)
            rw [eR, eL] at this
            exact this
      have hN9 : ∀ I2, ¬ dMay N (jS fl (sDq fl lw) T N V ln i) (ln i).1 (ln i).2.1 (ln i).2.2.1 → FQ I1 I2 → RHall I2 37 (jS fl (sDq fl lw) T N V ln i) N → XX G 0 0 48 [some (.ref 0), some (.int c), some (.int (jR fl (sDq fl lw) T N V ln i)), some (.int (jL fl (sDq fl lw) T N V ln i)), some (.int (nI i)), v5] [.int (-1)] S R I2 J := by
        intro I2 may s2 r2
        have eS : (jS fl (sDq fl lw) T N V ln (i + 1)) = (jS fl (sDq fl lw) T N V ln i) := by conv => lhs; unfold jS; rw [if_neg may]
        have eL : (jL fl (sDq fl lw) T N V ln (i + 1)) = (jL fl (sDq fl lw) T N V ln i) := by conv => lhs; unfold jL; rw [if_neg (fun z => may z.1)]
        refine x_istore (L' := [_, _, _, _, _, _]) C0 hN (by decide) rfl dX11_judged_48 ?_
        refine x_iload C0 rfl dX11_judged_50 ?_
        refine x_iconst (v := -1) C0 rfl dX11_judged_52 ?_
        refine x_icmp_ne (tgt := 64) C0 (by decide) dX11_judged_53 (fun hkk => absurd (rfl) hkk) (fun _ => ?_)
        refine x_iload_n C0 rfl dX11_judged_56 ?_
        refine x_iconst (v := -1) C0 rfl dX11_judged_57 ?_
        refine x_icmp_ne (tgt := 64) C0 (by decide) dX11_judged_58 (fun g58 => ?_) (fun g58 => ?_)
        · refine x_iload C0 rfl dX11_judged_64 ?_
          refine x_if_le (tgt := 77) C0 (by decide) dX11_judged_66 (fun _ => ?_) (fun hkk => absurd ((by decide)) hkk)
          refine x_iinc (v := nI (i + 1)) (L' := [_, _, _, _, _, _]) C0 hN rfl (by decide) (nI_inc i) rfl dX11_judged_77 ?_
          refine x_goto (tgt := 30) C0 (by decide) dX11_judged_80 ?_
          have eR : (jR fl (sDq fl lw) T N V ln (i + 1)) = (jR fl (sDq fl lw) T N V ln (i + 1)) := rfl
          conv at eR => rhs; unfold jR
          rw [if_neg may, if_neg g58] at eR
          have := ih (i + 1) I2 (some (.int (-1))) (by omega) (s1.trans s2) (by rw [eS]; exact r2)
          rw [eR, eL] at this
          exact this
        · refine x_iload C0 rfl dX11_judged_61 ?_
          refine x_istore_n (L' := [_, _, _, _, _, _]) C0 hN (by decide) rfl dX11_judged_63 ?_
          refine x_iload C0 rfl dX11_judged_64 ?_
          refine x_if_le (tgt := 77) C0 (by decide) dX11_judged_66 (fun _ => ?_) (fun hkk => absurd ((by decide)) hkk)
          refine x_iinc (v := nI (i + 1)) (L' := [_, _, _, _, _, _]) C0 hN rfl (by decide) (nI_inc i) rfl dX11_judged_77 ?_
          refine x_goto (tgt := 30) C0 (by decide) dX11_judged_80 ?_
          have eR : (jR fl (sDq fl lw) T N V ln (i + 1)) = (jR fl (sDq fl lw) T N V ln (i + 1)) := rfl
          conv at eR => rhs; unfold jR
          rw [if_neg may, if_pos g58] at eR
          have := ih (i + 1) I2 (some (.int (-1))) (by omega) (s1.trans s2) (by rw [eS]; exact r2)
          rw [eR, eL] at this
          exact this
      refine x_iload C0 rfl dX11_judged_30 ?_
      refine x_aload_n C0 rfl dX11_judged_32 ?_
      refine x_getR C0 wf_X11_36 (fixd.k0 hS) rfl rfl he dX11_judged_33 ?_
      refine x_getI C0 wf_X11_100 (by assumption) rfl dX11_judged_36 ?_
      refine x_topi E1.2.2.1 ?_
      refine x_icmp_ge (tgt := 83) C0 (by decide) dX11_judged_39 (fun hkk => absurd hkk (nI_ge (by omega) (by omega))) (fun _ => ?_)
      refine x_aload_n C0 rfl dX11_judged_42 ?_
      refine x_iload C0 rfl dX11_judged_43 ?_
      refine x_callV [_] C0 hN rfl (xRf_of hR (by decide) (Nat.zero_le _) (Nat.zero_le _)) mv_X11_play wm_X11_216 dX11_judged_45 (fixd.k0 hS) rfl rfl (Nat.le_of_ble_eq_true rfl) (c_X11_play hS hf (C.fq s1) wi r1 he hse (by omega) ⟨r, by omega, er⟩ k0 l1 rfl rfl m2 m3 m4 (fun may I2 s2 r2 => ?_) (fun may I2 s2 r2 => ?_))
      · rw [em]
        exact hY I2 may s2 r2
      · exact hN9 I2 may s2 r2
  refine x_iload_n C0 rfl dX11_judged_0 ?_
  refine x_if_lt (tgt := 9) C0 (by decide) dX11_judged_1 (fun g1 => ?_) (fun g1 => ?_)
  · refine x_bipush (v := -2) C0 rfl dX11_judged_9 ?_
    refine x_iret C0 E (by decide) (by decide) dX11_judged_11 ?_
    rw [if_neg (fun q => absurd q.1 (i_nle.mpr g1))] at hp
    exact hp I FQ.rf
  · refine x_iload_n C0 rfl dX11_judged_4 ?_
    refine x_iconst (v := 2) C0 rfl dX11_judged_5 ?_
    refine x_icmp_le (tgt := 12) C0 (by decide) dX11_judged_6 (fun g6 => ?_) (fun g6 => ?_)
    · refine x_aload_n C0 rfl dX11_judged_12 ?_
      refine x_getR C0 wf_X11_26 (fixd.k0 hS) rfl rfl hf dX11_judged_13 ?_
      refine x_aload_n C0 rfl dX11_judged_16 ?_
      refine x_getR C0 wf_X11_50 (fixd.k0 hS) rfl rfl (fixd.trial hS) dX11_judged_17 ?_
      refine x_callV [_] C0 hN rfl (xRf_of hR (by decide) (Nat.zero_le _) (Nat.zero_le _)) mv_X2_open wm_X11_81 dX11_judged_20 (by assumption) rfl rfl (Nat.le_of_ble_eq_true rfl) (c_X2_open hF hT hf37 ?_)
      refine x_iconst (v := -1) C0 rfl dX11_judged_23 ?_
      refine x_istore_n (L' := [_, _, _, _, _, _]) C0 hN (by decide) rfl dX11_judged_24 ?_
      refine x_iconst (v := -1) C0 rfl dX11_judged_25 ?_
      refine x_istore_n (L' := [_, _, _, _, _, _]) C0 hN (by decide) rfl dX11_judged_26 ?_
      refine x_iconst (v := 0) C0 rfl dX11_judged_27 ?_
      refine x_istore (L' := [_, _, _, _, _, _]) C0 hN (by decide) rfl dX11_judged_28 ?_
      exact h30 ⟨i_nlt.mp g1, g6⟩ ev 0 _ none (by omega) (fun a h1 h2 h3 h4 _ => uopen_row I h1 h2 h3 h4) (uopen_hall hf37 wl rF)
    · refine x_bipush (v := -2) C0 rfl dX11_judged_9 ?_
      refine x_iret C0 E (by decide) (by decide) dX11_judged_11 ?_
      rw [if_neg (fun q => g6 q.2)] at hp
      exact hp I FQ.rf
