/-! THE QUESTIONS: years, a year of the class -/
def sDb (x : xRow) : Nat → Int32
  | 0 => 0
  | w + 1 => sDb x w + x (56 + w)
theorem c_X11_doubtOfAll {S : xTS} {R : xTR} {I : xTI} {J : xTJ} {post : xPost} {f T N V : Nat} {fl x : xRow} {lw : Option (List (Nat × Nat))} (hS : fixd S R) (hf : R 0 2 = some f) (C : FCore I f fl lw T N V x) {h : Nat} {y : xRow} (hY : isHall S R h) (rY : RHall I h y N) (hp : post (some (.int (sDb y V))) S R I J) : xSpec 2 yX11_doubtOfAll cX11_doubtOfAll 4 (some .int) 0 0 [.ref 0, .ref h] S R I J post := by
  refine xSpec_of mt_X11_doubtOfAll (Nat.le_of_ble_eq_true rfl) (fun G C0 hN hR E hI hZ => ?_)
  change XX G 0 0 0 [some (.ref 0), some (.ref h), none, none] [] S R I J
  obtain ⟨hfm, wl, rF, rH, wx⟩ := id C
  have hF := hS.film hfm
  have hH := hS.hall (q := 33) (by decide)
  have hT6 := wl.2.1
  have hN8 := wl.2.2.2.1
  have hV6 := wl.2.2.2.2.2.1
  have eT : I f 0 = nI T := rF.1.trans wl.1
  have eN : I f 1 = nI N := rF.2.1.trans wl.2.2.1
  have eV : I f 2 = nI V := rF.2.2.1.trans wl.2.2.2.2.1
  have hfh : ∀ i j, i < 9 → j < 4 → f + i ≠ 33 + j := fun i j hi hj => hf_apart 33 (by decide) f hfm i hi j hj
  obtain ⟨fs0, fs1, fs2, fs3, fs4, fs5, fs6, fs7, fs8, fr4, fr5, fr6, fr7, fr8, fr9, fr10, fr11⟩ := id hF
  obtain ⟨hs0, hs1, hs2, hs3, hr4, hr5, hr6⟩ := id hH
  obtain ⟨hq0, hq1, hq2, hq3, hq4, hq5, hq6⟩ := id hY
  have hloop : ∀ n w, w + n = V → XX G 0 0 4 [some (.ref 0), some (.ref h), some (.int (sDb y w)), some (.int (nI w))] [] S R I J := by
    intro n
    induction n with
    | zero =>
      intro w hn9
      have hn8 : w = V := by omega
      subst hn8
      refine x_iload_n C0 rfl dX11_doubtOfAll_4 ?_
      refine x_aload_n C0 rfl dX11_doubtOfAll_5 ?_
      refine x_getR C0 wf_X11_26 (fixd.k0 hS) rfl rfl hf dX11_doubtOfAll_6 ?_
      refine x_getI C0 wf_X11_289 (by assumption) rfl dX11_doubtOfAll_9 ?_
      refine x_topi eV ?_
      refine x_icmp_ge (tgt := 32) C0 (by decide) dX11_doubtOfAll_12 (fun _ => ?_) (fun hkk => absurd ((Int32.le_refl _)) hkk)
      refine x_iload_n C0 rfl dX11_doubtOfAll_32 ?_
      refine x_iret C0 E (by decide) (by decide) dX11_doubtOfAll_33 ?_
      exact hp
    | succ n ih =>
      intro w hn9
      refine x_iload_n C0 rfl dX11_doubtOfAll_4 ?_
      refine x_aload_n C0 rfl dX11_doubtOfAll_5 ?_
      refine x_getR C0 wf_X11_26 (fixd.k0 hS) rfl rfl hf dX11_doubtOfAll_6 ?_
      refine x_getI C0 wf_X11_289 (by assumption) rfl dX11_doubtOfAll_9 ?_
      refine x_topi eV ?_
      refine x_icmp_ge (tgt := 32) C0 (by decide) dX11_doubtOfAll_12 (fun hkk => absurd hkk (nI_ge (by omega) (by omega))) (fun _ => ?_)
      refine x_iload_n C0 rfl dX11_doubtOfAll_15 ?_
      refine x_aload_n C0 rfl dX11_doubtOfAll_16 ?_
      refine x_getR C0 wf_X11_162 (by assumption) rfl rfl hq6 dX11_doubtOfAll_17 ?_
      refine x_iload_n C0 rfl dX11_doubtOfAll_20 ?_
      refine x_callS [_, _] C0 (xRf_of hR (by decide) (Nat.zero_le _) (Nat.zero_le _)) ms_X8_get wm_X11_150 dX11_doubtOfAll_21 rfl rfl (Nat.le_of_ble_eq_true rfl) (c_X8_get hq3 (by omega) (by decide) ?_)
      refine x_topi (rY.2.2.2.2.2.2 w (by omega)) ?_
      refine x_iadd C0 dX11_doubtOfAll_24 ?_
      refine x_istore_n (L' := [_, _, _, _]) C0 hN (by decide) rfl dX11_doubtOfAll_25 ?_
      refine x_iinc (v := nI (w + 1)) (L' := [_, _, _, _]) C0 hN rfl (by decide) (nI_inc w) rfl dX11_doubtOfAll_26 ?_
      refine x_goto (tgt := 4) C0 (by decide) dX11_doubtOfAll_29 ?_
      exact ih (w + 1) (by omega)
  refine x_iconst (v := 0) C0 rfl dX11_doubtOfAll_0 ?_
  refine x_istore_n (L' := [_, _, _, _]) C0 hN (by decide) rfl dX11_doubtOfAll_1 ?_
  refine x_iconst (v := 0) C0 rfl dX11_doubtOfAll_2 ?_
  refine x_istore_n (L' := [_, _, _, _]) C0 hN (by decide) rfl dX11_doubtOfAll_3 ?_
  exact hloop V 0 (by omega)
theorem c_X12_doubtsOf {S : xTS} {R : xTR} {I : xTI} {J : xTJ} {post : xPost} {T N V : Nat} {fl x : xRow} {lw : Option (List (Nat × Nat))} (hM : isModel S R) (C : MCore I fl lw T N V x) {b : Nat} {y : xRow} (hb : b ≤ 2192) (rY : MHall I b y) (hp : post (some (.int (sDb y V))) S R I J) : xSpec 2 yX12_doubtsOf cX12_doubtsOf 4 (some .int) 0 0 [.ref 135, .int (nI b)] S R I J post := by
  refine xSpec_of mt_X12_doubtsOf (Nat.le_of_ble_eq_true rfl) (fun G C0 hN hR E hI hZ => ?_)
  change XX G 0 0 0 [some (.ref 135), some (.int (nI b)), none, none] [] S R I J
  obtain ⟨wl, mF, mL, mH, wx⟩ := id C
  have hT6 := wl.2.1
  have hN8 := wl.2.2.2.1
  have hV6 := wl.2.2.2.2.2.1
  have eT : I 141 0 = nI T := (mF 0 (by decide)).trans wl.1
  have eN : I 141 1 = nI N := (mF 1 (by decide)).trans wl.2.2.1
  have eV : I 141 2 = nI V := (mF 2 (by decide)).trans wl.2.2.2.2.1
  have hb0 : 0 ≤ 2192 := by decide
  have hloop : ∀ n w, w + n = V → XX G 0 0 4 [some (.ref 135), some (.int (nI b)), some (.int (sDb y w)), some (.int (nI w))] [] S R I J := by
    intro n
    induction n with
    | zero =>
      intro w hn9
      have hn8 : w = V := by omega
      subst hn8
      refine x_iload_n C0 rfl dX12_doubtsOf_4 ?_
      refine x_aload_n C0 rfl dX12_doubtsOf_5 ?_
      refine x_callV [] C0 hN rfl (xRf_of hR (by decide) (Nat.zero_le _) (Nat.zero_le _)) mv_X12_watchers wm_X12_282 dX12_doubtsOf_6 (isModel.k0 hM) rfl rfl (Nat.le_of_ble_eq_true rfl) (c_X12_watchers hM ?_)
      refine x_topi eV ?_
      refine x_icmp_ge (tgt := 32) C0 (by decide) dX12_doubtsOf_9 (fun _ => ?_) (fun hkk => absurd ((Int32.le_refl _)) hkk)
      refine x_iload_n C0 rfl dX12_doubtsOf_32 ?_
      refine x_iret C0 E (by decide) (by decide) dX12_doubtsOf_33 ?_
      exact hp
    | succ n ih =>
      intro w hn9
      refine x_iload_n C0 rfl dX12_doubtsOf_4 ?_
      refine x_aload_n C0 rfl dX12_doubtsOf_5 ?_
      refine x_callV [] C0 hN rfl (xRf_of hR (by decide) (Nat.zero_le _) (Nat.zero_le _)) mv_X12_watchers wm_X12_282 dX12_doubtsOf_6 (isModel.k0 hM) rfl rfl (Nat.le_of_ble_eq_true rfl) (c_X12_watchers hM ?_)
      refine x_topi eV ?_
      refine x_icmp_ge (tgt := 32) C0 (by decide) dX12_doubtsOf_9 (fun hkk => absurd hkk (nI_ge (by omega) (by omega))) (fun _ => ?_)
      refine x_iload_n C0 rfl dX12_doubtsOf_12 ?_
      refine x_aload_n C0 rfl dX12_doubtsOf_13 ?_
      refine x_getR C0 wf_X12_119 (isModel.k0 hM) rfl rfl (isModel.r24 hM) dX12_doubtsOf_14 ?_
      refine x_iload_n C0 rfl dX12_doubtsOf_17 ?_
      refine x_bipush (v := nI 56) C0 rfl dX12_doubtsOf_18 ?_
      refine x_iaddN C0 dX12_doubtsOf_20 ?_
      refine x_iload_n C0 rfl dX12_doubtsOf_21 ?_
      refine x_iaddN C0 dX12_doubtsOf_22 ?_
      refine x_ialoadN C0 (isModel.s24 hM) (by omega) (by omega) dX12_doubtsOf_23 ?_
      refine x_topi (rY.at (i := 56 + w) (by omega) (by omega)) ?_
      refine x_iadd C0 dX12_doubtsOf_24 ?_
      refine x_istore_n (L' := [_, _, _, _]) C0 hN (by decide) rfl dX12_doubtsOf_25 ?_
      refine x_iinc (v := nI (w + 1)) (L' := [_, _, _, _]) C0 hN rfl (by decide) (nI_inc w) rfl dX12_doubtsOf_26 ?_
      refine x_goto (tgt := 4) C0 (by decide) dX12_doubtsOf_29 ?_
      exact ih (w + 1) (by omega)
  refine x_iconst (v := nI 0) C0 rfl dX12_doubtsOf_0 ?_
  refine x_istore_n (L' := [_, _, _, _]) C0 hN (by decide) rfl dX12_doubtsOf_1 ?_
  refine x_iconst (v := nI 0) C0 rfl dX12_doubtsOf_2 ?_
  refine x_istore_n (L' := [_, _, _, _]) C0 hN (by decide) rfl dX12_doubtsOf_3 ?_
  exact hloop V 0 (by omega)
def sYes (x : xRow) : Nat → Nat
  | 0 => 0
  | i + 1 => if x (20 + i) = 1 then sYes x i + 1 else sYes x i
theorem sYes_yes {x : xRow} {i : Nat} (h : x (20 + i) = 1) : sYes x (i + 1) = sYes x i + 1 := by conv => lhs; unfold sYes; rw [if_pos h]
theorem sYes_no {x : xRow} {i : Nat} (h : ¬ x (20 + i) = 1) : sYes x (i + 1) = sYes x i := by conv => lhs; unfold sYes; rw [if_neg h]
theorem sYes_skip {x : xRow} {i : Nat} : ∀ n, (∀ j, i ≤ j → j < i + n → ¬ x (20 + j) = 1) → sYes x (i + n) = sYes x i
  | 0, _ => rfl
  | n + 1, h => by
    rw [← Nat.add_assoc, sYes_no (h (i + n) (by omega) (by omega))]
    exact sYes_skip n (fun j h1 h2 => h j h1 (by omega))
theorem th_out {y : xRow} {T N V w t : Nat} (wy : WFx y T N V) (hw : w < 6) (ht : t < 6) (h : ¬ (w < V ∧ t < T)) : ¬ y (20 + (6 * w + t)) = 1 := by
  rcases wy.2.2.2.2 w t hw ht with e | e
  · rw [show 20 + (6 * w + t) = 20 + 6 * w + t by omega, e]; decide
  · exact absurd ⟨e.1, e.2.1⟩ h
theorem c_X11_yesOfAll {S : xTS} {R : xTR} {I : xTI} {J : xTJ} {post : xPost} {f T N V : Nat} {fl x : xRow} {lw : Option (List (Nat × Nat))} (hS : fixd S R) (hf : R 0 2 = some f) (C : FCore I f fl lw T N V x) {y : xRow} (wy : WFx y T N V) (rY : RHall I 37 y N) (hp : post (some (.int (nI (sYes y 36)))) S R I J) : xSpec 2 yX11_yesOfAll cX11_yesOfAll 4 (some .int) 0 0 [.ref 0] S R I J post := by
  refine xSpec_of mt_X11_yesOfAll (Nat.le_of_ble_eq_true rfl) (fun G C0 hN hR E hI hZ => ?_)
  change XX G 0 0 0 [some (.ref 0), none, none, none] [] S R I J
  obtain ⟨hfm, wl, rF, rH, wx⟩ := id C
  have hF := hS.film hfm
  have hH := hS.hall (q := 33) (by decide)
  have hT6 := wl.2.1
  have hN8 := wl.2.2.2.1
  have hV6 := wl.2.2.2.2.2.1
  have eT : I f 0 = nI T := rF.1.trans wl.1
  have eN : I f 1 = nI N := rF.2.1.trans wl.2.2.1
  have eV : I f 2 = nI V := rF.2.2.1.trans wl.2.2.2.2.1
  have hfh : ∀ i j, i < 9 → j < 4 → f + i ≠ 33 + j := fun i j hi hj => hf_apart 33 (by decide) f hfm i hi j hj
  obtain ⟨fs0, fs1, fs2, fs3, fs4, fs5, fs6, fs7, fs8, fr4, fr5, fr6, fr7, fr8, fr9, fr10, fr11⟩ := id hF
  obtain ⟨hs0, hs1, hs2, hs3, hr4, hr5, hr6⟩ := id hH
  have hT := hS.hall (q := 37) (by decide)
  obtain ⟨hq0, hq1, hq2, hq3, -⟩ := id hT
  have hout : ∀ n w v3, w + n = V → XX G 0 0 4 [some (.ref 0), some (.int (nI (sYes y (6 * w)))), some (.int (nI w)), v3] [] S R I J := by
    intro n
    induction n with
    | zero =>
      intro w v3 hn9
      have hn8 : w = V := by omega
      have e : sYes y (6 * w + (36 - 6 * w)) = sYes y (6 * w) := sYes_skip _ (fun j h1 h2 => by
        have := th_out wy (w := j / 6) (t := j % 6) (by omega) (by omega) (by omega)
        rw [show 6 * (j / 6) + j % 6 = j by omega] at this
        exact this)
      rw [show 6 * w + (36 - 6 * w) = 36 by omega] at e
      refine x_iload_n C0 rfl dX11_yesOfAll_4 ?_
      refine x_aload_n C0 rfl dX11_yesOfAll_5 ?_
      refine x_getR C0 wf_X11_26 (fixd.k0 hS) rfl rfl hf dX11_yesOfAll_6 ?_
      refine x_getI C0 wf_X11_289 (by assumption) rfl dX11_yesOfAll_9 ?_
      refine x_topi eV ?_
      refine x_icmp_ge (tgt := 61) C0 (by decide) dX11_yesOfAll_12 (fun _ => ?_) (fun hkk => absurd ((by rw [hn8]; exact Int32.le_refl _)) hkk)
      refine x_iload_n C0 rfl dX11_yesOfAll_61 ?_
      refine x_iret C0 E (by decide) (by decide) dX11_yesOfAll_62 ?_
      rw [← e]
      exact hp
    | succ n ih =>
      intro w v3 hn9
      have hin : ∀ p t, t + p = T → XX G 0 0 17 [some (.ref 0), some (.int (nI (sYes y (6 * w + t)))), some (.int (nI w)), some (.int (nI t))] [] S R I J := by
        intro p
        induction p with
        | zero =>
          intro t hm9
          have hm8 : t = T := by omega
          have e : sYes y (6 * w + t + (6 - t)) = sYes y (6 * w + t) := sYes_skip _ (fun j h1 h2 => by
            have := th_out wy (w := w) (t := j - 6 * w) (by omega) (by omega) (by omega)
            rw [show 6 * w + (j - 6 * w) = j by omega] at this
            exact this)
          rw [show 6 * w + t + (6 - t) = 6 * (w + 1) by omega] at e
          refine x_iload_n C0 rfl dX11_yesOfAll_17 ?_
          refine x_aload_n C0 rfl dX11_yesOfAll_18 ?_
          refine x_getR C0 wf_X11_26 (fixd.k0 hS) rfl rfl hf dX11_yesOfAll_19 ?_
          refine x_getI C0 wf_X11_280 (by assumption) rfl dX11_yesOfAll_22 ?_
          refine x_topi eT ?_
          refine x_icmp_ge (tgt := 55) C0 (by decide) dX11_yesOfAll_25 (fun _ => ?_) (fun hkk => absurd ((by rw [hm8]; exact Int32.le_refl _)) hkk)
          refine x_iinc (v := nI (w + 1)) (L' := [_, _, _, _]) C0 hN rfl (by decide) (nI_inc w) rfl dX11_yesOfAll_55 ?_
          refine x_goto (tgt := 4) C0 (by decide) dX11_yesOfAll_58 ?_
          have := ih (w + 1) (some (.int (nI t))) (by omega)
          rw [e] at this
          exact this
        | succ p ihp =>
          intro t hm9
          have e20 : 20 + 6 * w + t = 20 + (6 * w + t) := by omega
          refine x_iload_n C0 rfl dX11_yesOfAll_17 ?_
          refine x_aload_n C0 rfl dX11_yesOfAll_18 ?_
          refine x_getR C0 wf_X11_26 (fixd.k0 hS) rfl rfl hf dX11_yesOfAll_19 ?_
          refine x_getI C0 wf_X11_280 (by assumption) rfl dX11_yesOfAll_22 ?_
          refine x_topi eT ?_
          refine x_icmp_ge (tgt := 55) C0 (by decide) dX11_yesOfAll_25 (fun hkk => absurd hkk (nI_ge (by omega) (by omega))) (fun _ => ?_)
          refine x_iload_n C0 rfl dX11_yesOfAll_28 ?_
          refine x_aload_n C0 rfl dX11_yesOfAll_29 ?_
          refine x_getR C0 wf_X11_50 (fixd.k0 hS) rfl rfl (fixd.trial hS) dX11_yesOfAll_30 ?_
          refine x_iload_n C0 rfl dX11_yesOfAll_33 ?_
          refine x_iload_n C0 rfl dX11_yesOfAll_34 ?_
          refine x_callV [_, _] C0 hN rfl (xRf_of hR (by decide) (Nat.zero_le _) (Nat.zero_le _)) mv_X3_thought wm_X11_172 dX11_yesOfAll_35 (by assumption) rfl rfl (Nat.le_of_ble_eq_true rfl) (c_X3_thought hT (by omega) (by omega) ?_)
          refine x_topi (th_at rY (by omega) (by omega)) ?_
          refine x_iconst (v := 1) C0 rfl dX11_yesOfAll_38 ?_
          refine x_icmp_ne (tgt := 46) C0 (by decide) dX11_yesOfAll_39 (fun g39 => ?_) (fun g39 => ?_)
          · refine x_iconst (v := 0) C0 rfl dX11_yesOfAll_46 ?_
            refine x_iadd C0 dX11_yesOfAll_47 ?_
            refine x_istore_n (L' := [_, _, _, _]) C0 hN (by decide) rfl dX11_yesOfAll_48 ?_
            refine x_iinc (v := nI (t + 1)) (L' := [_, _, _, _]) C0 hN rfl (by decide) (nI_inc t) rfl dX11_yesOfAll_49 ?_
            refine x_goto (tgt := 17) C0 (by decide) dX11_yesOfAll_52 ?_
            have := ihp (t + 1) (by omega)
            rw [← Nat.add_assoc, sYes_no (by rw [← e20]; exact g39)] at this
            rw [Int32.add_zero]
            exact this
          · refine x_iconst (v := 1) C0 rfl dX11_yesOfAll_42 ?_
            refine x_goto (tgt := 47) C0 (by decide) dX11_yesOfAll_43 ?_
            refine x_iadd C0 dX11_yesOfAll_47 ?_
            refine x_istore_n (L' := [_, _, _, _]) C0 hN (by decide) rfl dX11_yesOfAll_48 ?_
            refine x_iinc (v := nI (t + 1)) (L' := [_, _, _, _]) C0 hN rfl (by decide) (nI_inc t) rfl dX11_yesOfAll_49 ?_
            refine x_goto (tgt := 17) C0 (by decide) dX11_yesOfAll_52 ?_
            have := ihp (t + 1) (by omega)
            rw [← Nat.add_assoc, sYes_yes (by rw [← e20]; exact g39), nI_succ] at this
            exact this
      refine x_iload_n C0 rfl dX11_yesOfAll_4 ?_
      refine x_aload_n C0 rfl dX11_yesOfAll_5 ?_
      refine x_getR C0 wf_X11_26 (fixd.k0 hS) rfl rfl hf dX11_yesOfAll_6 ?_
      refine x_getI C0 wf_X11_289 (by assumption) rfl dX11_yesOfAll_9 ?_
      refine x_topi eV ?_
      refine x_icmp_ge (tgt := 61) C0 (by decide) dX11_yesOfAll_12 (fun hkk => absurd hkk (nI_ge (by omega) (by omega))) (fun _ => ?_)
      refine x_iconst (v := 0) C0 rfl dX11_yesOfAll_15 ?_
      refine x_istore_n (L' := [_, _, _, _]) C0 hN (by decide) rfl dX11_yesOfAll_16 ?_
      exact hin T 0 (by omega)
  refine x_iconst (v := 0) C0 rfl dX11_yesOfAll_0 ?_
  refine x_istore_n (L' := [_, _, _, _]) C0 hN (by decide) rfl dX11_yesOfAll_1 ?_
  refine x_iconst (v := 0) C0 rfl dX11_yesOfAll_2 ?_
  refine x_istore_n (L' := [_, _, _, _]) C0 hN (by decide) rfl dX11_yesOfAll_3 ?_
  exact hout V 0 none (by omega)
def sAgain (x : xRow) : xRow := upd (upd x 0 0) 1 (x 1 + 1)
theorem WFx_again {x : xRow} {T N V : Nat} (h : WFx x T N V) : WFx (sAgain x) T N V := by
  obtain ⟨-, ⟨m, hm, em⟩, ⟨c, hc, ec⟩, h4, h5⟩ := h
  unfold sAgain
  refine ⟨⟨0, by omega, by rw [upd_ne (by omega), upd_eq]; rfl⟩, ⟨m, hm, by rw [upd_ne (by omega), upd_ne (by omega)]; exact em⟩, ⟨c, hc, by rw [upd_ne (by omega), upd_ne (by omega)]; exact ec⟩, fun k hk => ?_, fun w t hw ht => ?_⟩
  · rw [upd_ne (by omega), upd_ne (by omega), upd_ne (by omega), upd_ne (by omega)]
    exact h4 k hk
  · rw [upd_ne (by omega), upd_ne (by omega)]
    exact h5 w t hw ht
def yrA (fl : xRow) (dq : xDq) (N V : Nat) (y : xRow) : xRow := if y 0 = nI N then sAgain y else (sShowK fl dq (y 0).toNatClampNeg V y).1
def yrB (fl : xRow) (T V : Nat) (s : xRow × Nat) : xRow × Nat := if 0 < V then (if (drD s.2 V ≠ drD (drG s.2) V ∧ xbit (s.1 2) (drD s.2 V) ∧ xbit (s.1 2) (drD (drG s.2) V)) then sTalk fl s.1 (drD s.2 V) (drD (drG s.2) V) T else s.1, drG (drG s.2)) else s
def yrC (T N : Nat) (s : xRow × Nat) : xRow × Nat := if 0 < N ∧ 0 < T then (if drD s.2 9 = 0 then (if s.1 0 ≤ nI (drD (drG s.2) N) then sWr s.1 (drD (drG s.2) N) (drD (drG (drG s.2)) T) (drD (drG (drG (drG s.2))) 2) else s.1, drG (drG (drG (drG s.2)))) else (s.1, drG s.2)) else s
def yr (fl : xRow) (dq : xDq) (T N V : Nat) (s : xRow × Nat) : xRow × Nat := yrC T N (yrB fl T V (yrA fl dq N V s.1, s.2))
theorem yrA_WFx {fl y : xRow} {dq : xDq} {T N V : Nat} (wl : WFl fl T N V) (wy : WFx y T N V) : WFx (yrA fl dq N V y) T N V := by
  have hN := wl.2.2.2.1
  unfold yrA
  split
  · exact WFx_again wy
  · rename_i h
    obtain ⟨k, hk, ek⟩ := wy.1
    have : k ≠ N := fun q => h (by rw [ek, q])
    rw [ek, nI_clamp (by omega)]
    exact sShowK_WFx wl wy (by omega)
theorem yrB_WFx {fl : xRow} {T N V : Nat} {s : xRow × Nat} (wl : WFl fl T N V) (wy : WFx s.1 T N V) : WFx (yrB fl T V s).1 T N V := by
  unfold yrB
  split
  · dsimp only
    split
    · exact sTalk_WFx wl wy (drD_lt (by assumption)) (drD_lt (by assumption)) T (Nat.le_refl T)
    · exact wy
  · exact wy
theorem yrC_WFx {T N V : Nat} {s : xRow × Nat} (hN : N ≤ 8) (wy : WFx s.1 T N V) : WFx (yrC T N s).1 T N V := by
  unfold yrC
  split
  · rename_i h
    split
    · dsimp only
      split
      · exact WFx_wr wy (by have := drD_lt (g := drG s.2) h.1; omega) hN (drD_lt h.2) (drD_lt (by decide))
      · exact wy
    · exact wy
  · exact wy
theorem yr_lt {fl : xRow} {dq : xDq} {T N V : Nat} {s : xRow × Nat} (h : s.2 < 2 ^ 31) : (yr fl dq T N V s).2 < 2 ^ 31 := by
  have hB : (yrB fl T V (yrA fl dq N V s.1, s.2)).2 < 2 ^ 31 := by
    unfold yrB
    split
    · exact drG_lt _
    · exact h
  unfold yr yrC
  split
  · split
    · exact drG_lt _
    · exact drG_lt _
  · exact hB
