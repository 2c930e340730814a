/-! SAYING, WATCHING, SCREENING -/
theorem nI_m1 (e : Nat) : nI e + Int32.ofInt (-1) = nI e - 1 := by
  rw [show Int32.ofInt (-1) = -1 by decide, Int32.sub_eq_add_neg]
theorem nI_0m1 : nI 0 - 1 = -1 := by decide
theorem RHall.wr {I : xTI} {h T N V k : Nat} {x : xRow} (r : RHall I h x N) (wx : WFx x T N V) (hk : k < N) : ∃ t b, t < T ∧ b < 2 ∧ x (4 + k) = nI t ∧ x (12 + k) = nI b ∧ I (h + 1) k = nI (2 * t + b) := by
  obtain ⟨t, b, h1, h2, h3, h4⟩ := wx.2.2.2.1 k hk
  exact ⟨t, b, h1, h2, h3, h4, by rw [r.2.2.2.2.1 k hk, h3, h4, two_nI]⟩
theorem nI_inj8 {a b : Nat} (ha : a < 8) (hb : b < 8) : nI a = nI b ↔ a = b := nI_eq (by omega) (by omega)
theorem c_X2_saying {S : xTS} {R : xTR} {I : xTI} {J : xTJ} {post : xPost} {f h T N V k : Nat} {fl x : xRow} {dq : xDq} (hF : isFilm S R f) (hH : isHall S R h) (wl : WFl fl T N V) (wx : WFx x T N V) (rF : RFilm I f fl dq N V) (rH : RHall I h x N) (hk : k < N) (h1 : xbit (x 3) k → post (some (.int (-1))) S R I J) (h2 : ∀ t b, ¬ xbit (x 3) k → t < T → b < 2 → sThing fl x k = nI t → sIs fl x k = nI b → post (some (.int (nI (2 * t + b)))) S R I J) : xSpec 3 yX2_saying cX2_saying 5 (some .int) 0 0 [.ref f, .ref h, .int (nI k)] S R I J post := by
  refine xSpec_of mt_X2_saying (Nat.le_of_ble_eq_true rfl) (fun G C0 hN hR E hI hZ => ?_)
  change XX G 0 0 0 [some (.ref f), some (.ref h), some (.int (nI k)), none, none] [] S R I J
  obtain ⟨hs0, hs1, hs2, hs3, hr4, hr5, hr6⟩ := id hH
  obtain ⟨fs0, fs1, fs2, fs3, fs4, fs5, fs6, fs7, fs8, fr4, fr5, fr6, fr7, fr8, fr9, fr10, fr11⟩ := id hF
  have hN8 := wl.2.2.2.1
  have hT6 := wl.2.1
  obtain ⟨t0, b0, ht0, hb0, e1, e2⟩ := wl.2.2.2.2.2.2.2.1 k hk
  have et : I (f + 3) k = nI (2 * t0 + b0) := by rw [rF.2.2.2.2.1 k hk, e1, e2, two_nI]
  have e3 : I h 3 = x 3 := rH.2.2.2.1
  have hst : sThing fl x k = if xbit (x 3) k then -1 else nI t0 := by unfold sThing; rw [e1]
  have loop : xbit (x 3) k → False ∨ True := fun _ => Or.inr trivial
  have hloop : ¬ xbit (x 3) k → fl 3 ≤ nI k → ∀ e, e ≤ k → sLast x (nI t0) k (nI b0) = sLast x (nI t0) e (nI b0) → XX G 0 0 34 [some (.ref f), some (.ref h), some (.int (nI k)), some (.int (nI (2 * t0 + b0))), some (.int (nI e - 1))] [] S R I J := by
    intro hc hstar e
    have hs1 : sThing fl x k = nI t0 := by rw [hst, if_neg hc]
    have hs2 : sIs fl x k = sLast x (nI t0) k (nI b0) := by
      unfold sIs
      rw [hs1, if_neg (nI_pos (by omega)), if_pos hstar, e2]
    induction e with
    | zero =>
      intro _ hl
      rw [nI_0m1]
      refine x_iload C0 rfl dX2_saying_34 ?_
      refine x_if_lt (tgt := 68) C0 (by decide) dX2_saying_36 (fun _ => ?_) (fun hkk => absurd (by decide) hkk)
      refine x_iload_n C0 rfl dX2_saying_68 ?_
      refine x_iret C0 E (by decide) (by decide) dX2_saying_69 ?_
      exact h2 t0 b0 hc ht0 hb0 hs1 (by rw [hs2, hl]; rfl)
    | succ e ih =>
      intro he hl
      rw [nI_pred]
      obtain ⟨t1, b1, ht1, hb1, w1, w2, w3⟩ := rH.wr wx (k := e) (by omega)
      refine x_iload C0 rfl dX2_saying_34 ?_
      refine x_if_lt (tgt := 68) C0 (by decide) dX2_saying_36 (fun hkk => absurd hkk (nI_pos (by omega))) (fun _ => ?_)
      refine x_aload_n C0 rfl dX2_saying_39 ?_
      refine x_iload C0 rfl dX2_saying_40 ?_
      refine x_callV [_] C0 hN rfl (xRf_of hR (by decide) (Nat.zero_le _) (Nat.zero_le _)) mv_X3_writing wm_X2_125 dX2_saying_42 (by assumption) rfl rfl (Nat.le_of_ble_eq_true rfl) (c_X3_writing (by assumption) (by omega) ?_)
      refine x_topi w3 ?_
      refine x_callSN [_] C0 (xRf_of hR (by decide) (Nat.zero_le _) (Nat.zero_le _)) ms_X11_thingOf wm_X2_129 dX2_saying_45 rfl rfl (Nat.le_of_ble_eq_true rfl) (c_X11_thingOf  ?_)
      refine x_topi (cThing_nI (by omega) hb1) ?_
      refine x_iload_n C0 rfl dX2_saying_48 ?_
      refine x_callSN [_] C0 (xRf_of hR (by decide) (Nat.zero_le _) (Nat.zero_le _)) ms_X11_thingOf wm_X2_129 dX2_saying_49 rfl rfl (Nat.le_of_ble_eq_true rfl) (c_X11_thingOf  ?_)
      refine x_topi (cThing_nI (by omega) hb0) ?_
      refine x_icmp_ne (tgt := 62) C0 (by decide) dX2_saying_52 (fun g52 => ?_) (fun g52 => ?_)
      · refine x_iinc (v := nI e - 1) (L' := [_, _, _, _, _]) C0 hN rfl (by decide) (nI_m1 e) rfl dX2_saying_62 ?_
        refine x_goto (tgt := 34) C0 (by decide) dX2_saying_65 ?_
        exact ih (by omega) (by rw [hl]; show (if x (4 + e) = nI t0 then x (12 + e) else sLast x (nI t0) e (nI b0)) = _; rw [w1, if_neg g52])
      · refine x_aload_n C0 rfl dX2_saying_55 ?_
        refine x_iload C0 rfl dX2_saying_56 ?_
        refine x_callV [_] C0 hN rfl (xRf_of hR (by decide) (Nat.zero_le _) (Nat.zero_le _)) mv_X3_writing wm_X2_125 dX2_saying_58 (by assumption) rfl rfl (Nat.le_of_ble_eq_true rfl) (c_X3_writing (by assumption) (by omega) ?_)
        refine x_topi w3 ?_
        refine x_iret C0 E (by decide) (by decide) dX2_saying_61 ?_
        have g : t1 = t0 := (nI_inj8 (by omega) (by omega)).mp g52
        subst g
        exact h2 t1 b1 hc ht0 hb1 hs1 (by rw [hs2, hl]; unfold sLast; rw [if_pos w1, w2])
  refine x_aload_n C0 rfl dX2_saying_0 ?_
  refine x_iload_n C0 rfl dX2_saying_1 ?_
  refine x_callV [_] C0 hN rfl (xRf_of hR (by decide) (Nat.zero_le _) (Nat.zero_le _)) mv_X3_isCut wm_X2_122 dX2_saying_2 (by assumption) rfl rfl (Nat.le_of_ble_eq_true rfl) (c_X3_isCut (by assumption) (fun g2 => ?_) (fun g2 => ?_))
  · refine x_if_eq (tgt := 10) C0 (by decide) dX2_saying_5 (fun hkk => absurd hkk (by decide)) (fun _ => ?_)
    refine x_iconst (v := -1) C0 rfl dX2_saying_8 ?_
    refine x_iret C0 E (by decide) (by decide) dX2_saying_9 ?_
    exact h1 (by rw [← e3]; exact g2)
  · refine x_if_eq (tgt := 10) C0 (by decide) dX2_saying_5 (fun _ => ?_) (fun hkk => absurd (by decide) hkk)
    refine x_aload_n C0 rfl dX2_saying_10 ?_
    refine x_getR C0 wf_X2_22 (by assumption) rfl rfl (by assumption) dX2_saying_11 ?_
    refine x_iload_n C0 rfl dX2_saying_14 ?_
    refine x_callS [_, _] C0 (xRf_of hR (by decide) (Nat.zero_le _) (Nat.zero_le _)) ms_X8_get wm_X2_60 dX2_saying_15 rfl rfl (Nat.le_of_ble_eq_true rfl) (c_X8_get (by assumption) (by omega) (by omega) ?_)
    refine x_topi et ?_
    refine x_istore_n (L' := [_, _, _, _, _]) C0 hN (by decide) rfl dX2_saying_18 ?_
    refine x_iload_n C0 rfl dX2_saying_19 ?_
    refine x_aload_n C0 rfl dX2_saying_20 ?_
    refine x_getI C0 wf_X2_9 (by assumption) rfl dX2_saying_21 ?_
    refine x_icmp_ge (tgt := 29) C0 (by decide) dX2_saying_24 (fun g24 => ?_) (fun g24 => ?_)
    · refine x_iload_n C0 rfl dX2_saying_29 ?_
      refine x_iconst (v := 1) C0 rfl dX2_saying_30 ?_
      refine x_isub C0 dX2_saying_31 ?_
      refine x_istore (L' := [_, _, _, _, _]) C0 hN (by decide) rfl dX2_saying_32 ?_
      exact hloop (by rw [← e3]; exact g2) (by rw [← rF.2.2.2.1]; exact g24) k (Nat.le_refl k) rfl
    · refine x_iload_n C0 rfl dX2_saying_27 ?_
      refine x_iret C0 E (by decide) (by decide) dX2_saying_28 ?_
      have hc : ¬ xbit (x 3) k := by rw [← e3]; exact g2
      have hs1 : sThing fl x k = nI t0 := by rw [hst, if_neg hc]
      have g25 : ¬ fl 3 ≤ nI k := by rw [← rF.2.2.2.1]; exact g24
      refine h2 t0 b0 hc ht0 hb0 hs1 ?_
      unfold sIs
      rw [hs1, if_neg (nI_pos (by omega)), if_neg g25, e2]
theorem e_cOdd (th : Int32) (b : Nat) : ∃ o, o < 2 ∧ cOdd th (nI b) = nI o := by unfold cOdd; split; exact ⟨1, by decide, rfl⟩; exact ⟨0, by decide, rfl⟩
theorem c_X2_watch_none {S : xTS} {R : xTR} {I : xTI} {J : xTJ} {post : xPost} {f h w k kd cn : Nat} {hd rd : Int32} (hF : isFilm S R f) (hH : isHall S R h) (hfh : ∀ i j, i < 9 → j < 4 → f + i ≠ h + j) (hw : w < 6) (hk : k < 8) (hcn : cn < 2) (hkd : kd < 4) (hsh : I h 0 = nI k) (ekd : I (f + 5) w = nI kd) (hcl : cClash hd rd = nI cn) {D : Int32} (htk : cTaken (nI kd) (I (f + 6) w) hd rd = -1) (hD : I (h + 3) w + I (f + 8) ((w * 8 + k) * 4 + 2 * cn + 0) = D) (h1 : I (f + 7) w ≤ D → post (some (.int 1)) S R (u2 I (h + 3) w D) J) (h0 : ¬ I (f + 7) w ≤ D → post (some (.int 0)) S R (u2 I (h + 3) w D) J) : xSpec 3 yX2_watch cX2_watch 8 (some .boolean) 0 0 [.ref f, .ref h, .int (nI w), .int hd, .int rd] S R I J post := by
  refine xSpec_of mt_X2_watch (Nat.le_of_ble_eq_true rfl) (fun G C0 hN hR E hI hZ => ?_)
  change XX G 0 0 0 [some (.ref f), some (.ref h), some (.int (nI w)), some (.int hd), some (.int rd), none, none, none] [] S R I J
  obtain ⟨hs0, hs1, hs2, hs3, hr4, hr5, hr6⟩ := id hH
  obtain ⟨fs0, fs1, fs2, fs3, fs4, fs5, fs6, fs7, fs8, fr4, fr5, fr6, fr7, fr8, fr9, fr10, fr11⟩ := id hF
  refine x_aload_n C0 rfl dX2_watch_0 ?_
  refine x_iload_n C0 rfl dX2_watch_1 ?_
  refine x_iload_n C0 rfl dX2_watch_2 ?_
  refine x_iload C0 rfl dX2_watch_3 ?_
  refine x_callV [_, _, _] C0 hN rfl (xRf_of hR (by decide) (Nat.zero_le _) (Nat.zero_le _)) mv_X2_taken wm_X2_149 dX2_watch_5 (by assumption) rfl rfl (Nat.le_of_ble_eq_true rfl) (c_X2_taken (by assumption) hw hkd ekd ?_)
  refine x_topi htk ?_
  refine x_istore (L' := [_, _, _, _, _, _, _, _]) C0 hN (by decide) rfl dX2_watch_8 ?_
  refine x_iload_n C0 rfl dX2_watch_10 ?_
  refine x_aload_n C0 rfl dX2_watch_11 ?_
  refine x_getI C0 wf_X2_89 (by assumption) rfl dX2_watch_12 ?_
  refine x_topi hsh ?_
  refine x_iload_n C0 rfl dX2_watch_15 ?_
  refine x_iload C0 rfl dX2_watch_16 ?_
  refine x_callS [_, _] C0 (xRf_of hR (by decide) (Nat.zero_le _) (Nat.zero_le _)) ms_X2_clash wm_X2_152 dX2_watch_18 rfl rfl (Nat.le_of_ble_eq_true rfl) (c_X2_clash  ?_)
  refine x_topi hcl ?_
  refine x_aload_n C0 rfl dX2_watch_21 ?_
  refine x_iload_n C0 rfl dX2_watch_22 ?_
  refine x_iload C0 rfl dX2_watch_23 ?_
  refine x_callS [_, _, _] C0 (xRf_of hR (by decide) (Nat.zero_le _) (Nat.zero_le _)) ms_X2_odd wm_X2_155 dX2_watch_25 rfl rfl (Nat.le_of_ble_eq_true rfl) (c_X2_odd_none hH ?_)
  refine x_topi (v := nI 0) rfl ?_
  refine x_callS [_, _, _, _] C0 (xRf_of hR (by decide) (Nat.zero_le _) (Nat.zero_le _)) ms_X2_doubtAt wm_X2_70 dX2_watch_28 rfl rfl (Nat.le_of_ble_eq_true rfl) (c_X2_doubtAt  ?_)
  refine x_istore (L' := [_, _, _, _, _, _, _, _]) C0 hN (by decide) rfl dX2_watch_31 ?_
  refine x_aload_n C0 rfl dX2_watch_33 ?_
  refine x_getR C0 wf_X2_119 (by assumption) rfl rfl (by assumption) dX2_watch_34 ?_
  refine x_iload_n C0 rfl dX2_watch_37 ?_
  refine x_callS [_, _] C0 (xRf_of hR (by decide) (Nat.zero_le _) (Nat.zero_le _)) ms_X8_get wm_X2_60 dX2_watch_38 rfl rfl (Nat.le_of_ble_eq_true rfl) (c_X8_get hs3 hw (by decide) ?_)
  refine x_aload_n C0 rfl dX2_watch_41 ?_
  refine x_getR C0 wf_X2_38 (by assumption) rfl rfl (by assumption) dX2_watch_42 ?_
  refine x_iload C0 rfl dX2_watch_45 ?_
  refine x_callS [_, _] C0 (xRf_of hR (by decide) (Nat.zero_le _) (Nat.zero_le _)) ms_X8_get wm_X2_60 dX2_watch_47 rfl rfl (Nat.le_of_ble_eq_true rfl) (c_X8_get fs8 (by omega) (by decide) ?_)
  refine x_iadd C0 dX2_watch_50 ?_
  refine x_topi hD ?_
  refine x_istore (L' := [_, _, _, _, _, _, _, _]) C0 hN (by decide) rfl dX2_watch_51 ?_
  refine x_aload_n C0 rfl dX2_watch_53 ?_
  refine x_getR C0 wf_X2_119 (by assumption) rfl rfl (by assumption) dX2_watch_54 ?_
  refine x_iload_n C0 rfl dX2_watch_57 ?_
  refine x_iload C0 rfl dX2_watch_58 ?_
  refine x_callS [_, _, _] C0 (xRf_of hR (by decide) (Nat.zero_le _) (Nat.zero_le _)) ms_X8_set wm_X2_50 dX2_watch_60 rfl rfl (Nat.le_of_ble_eq_true rfl) (c_X8_set hs3 hw (by decide) ?_)
  refine x_iload C0 rfl dX2_watch_63 ?_
  refine x_iconst (v := -1) C0 rfl dX2_watch_65 ?_
  refine x_icmp_eq (tgt := 84) C0 (by decide) dX2_watch_66 (fun _ => ?_) (fun hkk => absurd (rfl) hkk)
  refine x_iload C0 rfl dX2_watch_84 ?_
  refine x_aload_n C0 rfl dX2_watch_86 ?_
  refine x_getR C0 wf_X2_35 (by assumption) rfl rfl (by assumption) dX2_watch_87 ?_
  refine x_iload_n C0 rfl dX2_watch_90 ?_
  refine x_callS [_, _] C0 (xRf_of hR (by decide) (Nat.zero_le _) (Nat.zero_le _)) ms_X8_get wm_X2_60 dX2_watch_91 rfl rfl (Nat.le_of_ble_eq_true rfl) (c_X8_get fs7 hw (by decide) ?_)
  refine x_topi (v := I (f + 7) w) (by rw [u2_row _ _ _ (hfh 7 3 (by decide) (by decide))]) ?_
  refine x_icmp_lt (tgt := 101) C0 (by decide) dX2_watch_94 (fun g94 => ?_) (fun g94 => ?_)
  · refine x_iconst (v := 0) C0 rfl dX2_watch_101 ?_
    refine x_zret C0 E (by decide) (by decide) rfl dX2_watch_102 ?_
    exact h0 (fun q => i_nle.mpr g94 q)
  · refine x_iconst (v := 1) C0 rfl dX2_watch_97 ?_
    refine x_goto (tgt := 102) C0 (by decide) dX2_watch_98 ?_
    refine x_zret C0 E (by decide) (by decide) rfl dX2_watch_102 ?_
    exact h1 (i_nlt.mp g94)
theorem c_X2_watch_some {S : xTS} {R : xTR} {I : xTI} {J : xTJ} {post : xPost} {f h w k kd cn : Nat} {hd rd : Int32} (hF : isFilm S R f) (hH : isHall S R h) (hfh : ∀ i j, i < 9 → j < 4 → f + i ≠ h + j) (hw : w < 6) (hk : k < 8) (hcn : cn < 2) (hkd : kd < 4) (hsh : I h 0 = nI k) (ekd : I (f + 5) w = nI kd) (hcl : cClash hd rd = nI cn) {t b on : Nat} {D : Int32} (ht : t < 6) (hb : b < 2) (hon : on < 2) (htk : cTaken (nI kd) (I (f + 6) w) hd rd = nI (2 * t + b)) (hod : cOdd (I (h + 2) (6 * w + t)) (nI b) = nI on) (hD : I (h + 3) w + I (f + 8) ((w * 8 + k) * 4 + 2 * cn + on) = D) (h1 : I (f + 7) w ≤ D → post (some (.int 1)) S R (u2 (u2 I (h + 3) w D) (h + 2) (6 * w + t) (nI b)) J) (h0 : ¬ I (f + 7) w ≤ D → post (some (.int 0)) S R (u2 (u2 I (h + 3) w D) (h + 2) (6 * w + t) (nI b)) J) : xSpec 3 yX2_watch cX2_watch 8 (some .boolean) 0 0 [.ref f, .ref h, .int (nI w), .int hd, .int rd] S R I J post := by
  refine xSpec_of mt_X2_watch (Nat.le_of_ble_eq_true rfl) (fun G C0 hN hR E hI hZ => ?_)
  change XX G 0 0 0 [some (.ref f), some (.ref h), some (.int (nI w)), some (.int hd), some (.int rd), none, none, none] [] S R I J
  obtain ⟨hs0, hs1, hs2, hs3, hr4, hr5, hr6⟩ := id hH
  obtain ⟨fs0, fs1, fs2, fs3, fs4, fs5, fs6, fs7, fs8, fr4, fr5, fr6, fr7, fr8, fr9, fr10, fr11⟩ := id hF
  refine x_aload_n C0 rfl dX2_watch_0 ?_
  refine x_iload_n C0 rfl dX2_watch_1 ?_
  refine x_iload_n C0 rfl dX2_watch_2 ?_
  refine x_iload C0 rfl dX2_watch_3 ?_
  refine x_callV [_, _, _] C0 hN rfl (xRf_of hR (by decide) (Nat.zero_le _) (Nat.zero_le _)) mv_X2_taken wm_X2_149 dX2_watch_5 (by assumption) rfl rfl (Nat.le_of_ble_eq_true rfl) (c_X2_taken (by assumption) hw hkd ekd ?_)
  refine x_topi htk ?_
  refine x_istore (L' := [_, _, _, _, _, _, _, _]) C0 hN (by decide) rfl dX2_watch_8 ?_
  refine x_iload_n C0 rfl dX2_watch_10 ?_
  refine x_aload_n C0 rfl dX2_watch_11 ?_
  refine x_getI C0 wf_X2_89 (by assumption) rfl dX2_watch_12 ?_
  refine x_topi hsh ?_
  refine x_iload_n C0 rfl dX2_watch_15 ?_
  refine x_iload C0 rfl dX2_watch_16 ?_
  refine x_callS [_, _] C0 (xRf_of hR (by decide) (Nat.zero_le _) (Nat.zero_le _)) ms_X2_clash wm_X2_152 dX2_watch_18 rfl rfl (Nat.le_of_ble_eq_true rfl) (c_X2_clash  ?_)
  refine x_topi hcl ?_
  refine x_aload_n C0 rfl dX2_watch_21 ?_
  refine x_iload_n C0 rfl dX2_watch_22 ?_
  refine x_iload C0 rfl dX2_watch_23 ?_
  refine x_callS [_, _, _] C0 (xRf_of hR (by decide) (Nat.zero_le _) (Nat.zero_le _)) ms_X2_odd wm_X2_155 dX2_watch_25 rfl rfl (Nat.le_of_ble_eq_true rfl) (c_X2_odd_some hH hw ht hb ?_)
  refine x_topi hod ?_
  refine x_callS [_, _, _, _] C0 (xRf_of hR (by decide) (Nat.zero_le _) (Nat.zero_le _)) ms_X2_doubtAt wm_X2_70 dX2_watch_28 rfl rfl (Nat.le_of_ble_eq_true rfl) (c_X2_doubtAt  ?_)
  refine x_istore (L' := [_, _, _, _, _, _, _, _]) C0 hN (by decide) rfl dX2_watch_31 ?_
  refine x_aload_n C0 rfl dX2_watch_33 ?_
  refine x_getR C0 wf_X2_119 (by assumption) rfl rfl (by assumption) dX2_watch_34 ?_
  refine x_iload_n C0 rfl dX2_watch_37 ?_
  refine x_callS [_, _] C0 (xRf_of hR (by decide) (Nat.zero_le _) (Nat.zero_le _)) ms_X8_get wm_X2_60 dX2_watch_38 rfl rfl (Nat.le_of_ble_eq_true rfl) (c_X8_get hs3 hw (by decide) ?_)
  refine x_aload_n C0 rfl dX2_watch_41 ?_
  refine x_getR C0 wf_X2_38 (by assumption) rfl rfl (by assumption) dX2_watch_42 ?_
  refine x_iload C0 rfl dX2_watch_45 ?_
  refine x_callS [_, _] C0 (xRf_of hR (by decide) (Nat.zero_le _) (Nat.zero_le _)) ms_X8_get wm_X2_60 dX2_watch_47 rfl rfl (Nat.le_of_ble_eq_true rfl) (c_X8_get fs8 (by omega) (by decide) ?_)
  refine x_iadd C0 dX2_watch_50 ?_
  refine x_topi hD ?_
  refine x_istore (L' := [_, _, _, _, _, _, _, _]) C0 hN (by decide) rfl dX2_watch_51 ?_
  refine x_aload_n C0 rfl dX2_watch_53 ?_
  refine x_getR C0 wf_X2_119 (by assumption) rfl rfl (by assumption) dX2_watch_54 ?_
  refine x_iload_n C0 rfl dX2_watch_57 ?_
  refine x_iload C0 rfl dX2_watch_58 ?_
  refine x_callS [_, _, _] C0 (xRf_of hR (by decide) (Nat.zero_le _) (Nat.zero_le _)) ms_X8_set wm_X2_50 dX2_watch_60 rfl rfl (Nat.le_of_ble_eq_true rfl) (c_X8_set hs3 hw (by decide) ?_)
  refine x_iload C0 rfl dX2_watch_63 ?_
  refine x_iconst (v := -1) C0 rfl dX2_watch_65 ?_
  refine x_icmp_eq (tgt := 84) C0 (by decide) dX2_watch_66 (fun hkk => absurd hkk (nI_ne_m1 (by omega))) (fun _ => ?_)
  refine x_aload_n C0 rfl dX2_watch_69 ?_
  refine x_iload_n C0 rfl dX2_watch_70 ?_
  refine x_iload C0 rfl dX2_watch_71 ?_
  refine x_callSN [_] C0 (xRf_of hR (by decide) (Nat.zero_le _) (Nat.zero_le _)) ms_X11_thingOf wm_X2_129 dX2_watch_73 rfl rfl (Nat.le_of_ble_eq_true rfl) (c_X11_thingOf  ?_)
  refine x_topi (cThing_nI (by omega) hb) ?_
  refine x_iload C0 rfl dX2_watch_76 ?_
  refine x_callSN [_] C0 (xRf_of hR (by decide) (Nat.zero_le _) (Nat.zero_le _)) ms_X11_isOf wm_X2_135 dX2_watch_78 rfl rfl (Nat.le_of_ble_eq_true rfl) (c_X11_isOf  ?_)
  refine x_topi (cIs_nI (by omega) hb) ?_
  refine x_callV [_, _, _] C0 hN rfl (xRf_of hR (by decide) (Nat.zero_le _) (Nat.zero_le _)) mv_X3_think wm_X2_159 dX2_watch_81 (by assumption) rfl rfl (Nat.le_of_ble_eq_true rfl) (c_X3_think hH hw ht ?_)
  refine x_iload C0 rfl dX2_watch_84 ?_
  refine x_aload_n C0 rfl dX2_watch_86 ?_
  refine x_getR C0 wf_X2_35 (by assumption) rfl rfl (by assumption) dX2_watch_87 ?_
  refine x_iload_n C0 rfl dX2_watch_90 ?_
  refine x_callS [_, _] C0 (xRf_of hR (by decide) (Nat.zero_le _) (Nat.zero_le _)) ms_X8_get wm_X2_60 dX2_watch_91 rfl rfl (Nat.le_of_ble_eq_true rfl) (c_X8_get fs7 hw (by decide) ?_)
  refine x_topi (v := I (f + 7) w) (by rw [u2_row _ _ _ (hfh 7 2 (by decide) (by decide)), u2_row _ _ _ (hfh 7 3 (by decide) (by decide))]) ?_
  refine x_icmp_lt (tgt := 101) C0 (by decide) dX2_watch_94 (fun g94 => ?_) (fun g94 => ?_)
  · refine x_iconst (v := 0) C0 rfl dX2_watch_101 ?_
    refine x_zret C0 E (by decide) (by decide) rfl dX2_watch_102 ?_
    exact h0 (fun q => i_nle.mpr g94 q)
  · refine x_iconst (v := 1) C0 rfl dX2_watch_97 ?_
    refine x_goto (tgt := 102) C0 (by decide) dX2_watch_98 ?_
    refine x_zret C0 E (by decide) (by decide) rfl dX2_watch_102 ?_
    exact h1 (i_nlt.mp g94)
