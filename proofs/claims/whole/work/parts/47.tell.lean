/-! tell; the QUESTION count -/
abbrev tellOk (fl : xRow) (i j c : Int32) : Prop := ((0 ≤ i ∧ i < fl 2) ∧ (0 ≤ j ∧ j < fl 0)) ∧ (-1 ≤ c ∧ c ≤ 1)
theorem hTd_tell {td : xRow} {k : Nat} {c : Int32} (h : hTd td) (hc : -1 ≤ c ∧ c ≤ 1) : hTd (upd td k c) := by
  intro i hi
  by_cases e : i = k
  · rw [e, upd_eq]
    have h1 := hc.1
    have h2 := hc.2
    rw [Int32.le_iff_toInt_le, show (-1 : Int32).toInt = -1 from rfl] at h1
    rw [Int32.le_iff_toInt_le, show (1 : Int32).toInt = 1 from rfl] at h2
    rcases (show c.toInt = -1 ∨ c.toInt = 0 ∨ c.toInt = 1 by omega) with q | q | q
    · exact Or.inr (Or.inl (Int32.toInt_inj.mp q))
    · exact Or.inr (Or.inr (Or.inl (Int32.toInt_inj.mp q)))
    · exact Or.inr (Or.inr (Or.inr (Int32.toInt_inj.mp q)))
  · rw [upd_ne e]; exact h i hi
theorem tFd_tell {I : xTI} {td : xRow} {k : Nat} {c : Int32} (h : tFd I td) : tFd (u2 I 108 k (c + 2)) (upd td k c) := by
  intro i hi
  by_cases e : i = k
  · rw [e, upd_eq, u2_same]
  · rw [upd_ne e, u2_off _ _ e]; exact h i hi
theorem tMd_tell {I : xTI} {td : xRow} {k : Nat} {c : Int32} (h : tMd I td) : tMd (u2 I 151 (62 + k) c) (upd td k c) := by
  intro i hi
  by_cases e : i = k
  · rw [e, upd_eq, u2_same]
  · rw [upd_ne e, u2_off _ _ (by omega)]; exact h i hi
theorem c_X11_tell {S : xTS} {R : xTR} {I : xTI} {J : xTJ} {post : xPost} {f T N V : Nat} {fl x : xRow} {lw : Option (List (Nat × Nat))} (hS : fixd S R) (hf : R 0 2 = some f) (C : FCore I f fl lw T N V x) {i j c : Int32} (h1 : ∀ a b, a < V → b < T → i = nI a → j = nI b → tellOk fl i j c → post (some (.int 1)) S R (u2 I 108 (6 * a + b) (c + 2)) J) (h0 : ¬ tellOk fl i j c → post (some (.int 0)) S R I J) : xSpec 3 yX11_tell cX11_tell 4 (some .boolean) 0 0 [.ref 0, .int i, .int j, .int c] S R I J post := by
  refine xSpec_of mt_X11_tell (Nat.le_of_ble_eq_true rfl) (fun G C0 hN hR E hI hZ => ?_)
  change XX G 0 0 0 [some (.ref 0), some (.int i), some (.int j), some (.int c)] [] S R I J
  obtain ⟨hfm, wl, rF, rH, wx⟩ := id C
  have hF := hS.film hfm
  have hH := hS.hall (q := 33) (by decide)
  have hT6 := wl.2.1
  have hN8 := wl.2.2.2.1
  have hV6 := wl.2.2.2.2.2.1
  have eT : I f 0 = nI T := rF.1.trans wl.1
  have eN : I f 1 = nI N := rF.2.1.trans wl.2.2.1
  have eV : I f 2 = nI V := rF.2.2.1.trans wl.2.2.2.2.1
  have hfh : ∀ i j, i < 9 → j < 4 → f + i ≠ 33 + j := fun i j hi hj => hf_apart 33 (by decide) f hfm i hi j hj
  obtain ⟨fs0, fs1, fs2, fs3, fs4, fs5, fs6, fs7, fs8, fr4, fr5, fr6, fr7, fr8, fr9, fr10, fr11⟩ := id hF
  obtain ⟨hs0, hs1, hs2, hs3, hr4, hr5, hr6⟩ := id hH
  unfold tellOk at h1 h0
  rw [← rF.2.2.1, ← rF.1] at h1 h0
  have h108 := fixd.s108 hS
  refine x_aload_n C0 rfl dX11_tell_0 ?_
  refine x_getR C0 wf_X11_26 (fixd.k0 hS) rfl rfl hf dX11_tell_1 ?_
  refine x_iload_n C0 rfl dX11_tell_4 ?_
  refine x_iload_n C0 rfl dX11_tell_5 ?_
  refine x_callV [_, _] C0 hN rfl (xRf_of hR (by decide) (Nat.zero_le _) (Nat.zero_le _)) mv_X2_hasView wm_X11_168 dX11_tell_6 (by assumption) rfl rfl (Nat.le_of_ble_eq_true rfl) (c_X2_hasView (by assumption) (fun g6 => ?_) (fun g6 => ?_))
  · refine x_if_eq (tgt := 22) C0 (by decide) dX11_tell_9 (fun hkk => absurd hkk (by decide)) (fun _ => ?_)
    refine x_iload_n C0 rfl dX11_tell_12 ?_
    refine x_iconst (v := -1) C0 rfl dX11_tell_13 ?_
    refine x_icmp_lt (tgt := 22) C0 (by decide) dX11_tell_14 (fun g14 => ?_) (fun g14 => ?_)
    · refine x_iconst (v := 0) C0 rfl dX11_tell_22 ?_
      refine x_zret C0 E (by decide) (by decide) rfl dX11_tell_23 ?_
      exact h0 (fun q => absurd q.2.1 (by first | exact i_nle.mpr g14 | exact g14))
    · refine x_iload_n C0 rfl dX11_tell_17 ?_
      refine x_iconst (v := 1) C0 rfl dX11_tell_18 ?_
      refine x_icmp_le (tgt := 24) C0 (by decide) dX11_tell_19 (fun g19 => ?_) (fun g19 => ?_)
      · obtain ⟨a, ha, ea⟩ := nI_ofi' eV (by omega) g6.1
        obtain ⟨b, hb, eb⟩ := nI_ofi' eT (by omega) g6.2
        have h2 := h1 a b ha hb ea eb ⟨g6, i_nlt.mp g14, g19⟩
        subst ea
        subst eb
        refine x_aload_n C0 rfl dX11_tell_24 ?_
        refine x_getR C0 wf_X11_66 (fixd.k0 hS) rfl rfl (fixd.told hS) dX11_tell_25 ?_
        refine x_iload_n C0 rfl dX11_tell_28 ?_
        refine x_bipush (v := 6) C0 rfl dX11_tell_29 ?_
        refine x_imul C0 dX11_tell_31 ?_
        refine x_iload_n C0 rfl dX11_tell_32 ?_
        refine x_iadd C0 dX11_tell_33 ?_
        refine x_topi (show nI a * 6 + nI b = nI (6 * a + b) by rw [show (6 : Int32) = nI 6 from rfl, nI_mul, nI_add, Nat.mul_comm]) ?_
        refine x_iload_n C0 rfl dX11_tell_34 ?_
        refine x_iconst (v := 2) C0 rfl dX11_tell_35 ?_
        refine x_iadd C0 dX11_tell_36 ?_
        refine x_callS [_, _, _] C0 (xRf_of hR (by decide) (Nat.zero_le _) (Nat.zero_le _)) ms_X8_set wm_X11_259 dX11_tell_37 rfl rfl (Nat.le_of_ble_eq_true rfl) (c_X8_set h108 (by omega) (by decide) ?_)
        refine x_iconst (v := 1) C0 rfl dX11_tell_40 ?_
        refine x_zret C0 E (by decide) (by decide) rfl dX11_tell_41 ?_
        exact h2
      · refine x_iconst (v := 0) C0 rfl dX11_tell_22 ?_
        refine x_zret C0 E (by decide) (by decide) rfl dX11_tell_23 ?_
        exact h0 (fun q => absurd q.2.2 (by first | exact i_nle.mpr g19 | exact g19))
  · refine x_if_eq (tgt := 22) C0 (by decide) dX11_tell_9 (fun _ => ?_) (fun hkk => absurd (by decide) hkk)
    refine x_iconst (v := 0) C0 rfl dX11_tell_22 ?_
    refine x_zret C0 E (by decide) (by decide) rfl dX11_tell_23 ?_
    exact h0 (fun q => g6 q.1)
theorem c_X12_tell {S : xTS} {R : xTR} {I : xTI} {J : xTJ} {post : xPost} {T N V : Nat} {fl x : xRow} {lw : Option (List (Nat × Nat))} (hM : isModel S R) (C : MCore I fl lw T N V x) {i j c : Int32} (h1 : ∀ a b I', MQs I I' → a < V → b < T → i = nI a → j = nI b → tellOk fl i j c → post (some (.int 1)) S R (u2 I' 151 (62 + (6 * a + b)) c) J) (h0 : ∀ I', MQs I I' → ¬ tellOk fl i j c → post (some (.int 0)) S R I' J) : xSpec 3 yX12_tell cX12_tell 4 (some .boolean) 0 0 [.ref 135, .int i, .int j, .int c] S R I J post := by
  refine xSpec_of mt_X12_tell (Nat.le_of_ble_eq_true rfl) (fun G C0 hN hR E hI hZ => ?_)
  change XX G 0 0 0 [some (.ref 135), some (.int i), some (.int j), some (.int c)] [] S R I J
  refine x_aload_n C0 rfl dX12_tell_0 ?_
  refine x_iconst (v := nI 0) C0 rfl dX12_tell_1 ?_
  refine x_putI C0 wf_X12_1 (isModel.k0 hM) rfl dX12_tell_2 ?_
  have q1 := MQs.thrown (I := I) (v := nI 0)
  have C := C.mq q1
  generalize u2 I 135 0 (nI 0) = I1 at q1 C ⊢
  obtain ⟨wl, mF, mL, mH, wx⟩ := id C
  have hT6 := wl.2.1
  have hN8 := wl.2.2.2.1
  have hV6 := wl.2.2.2.2.2.1
  have eT : I1 141 0 = nI T := (mF 0 (by decide)).trans wl.1
  have eN : I1 141 1 = nI N := (mF 1 (by decide)).trans wl.2.2.1
  have eV : I1 141 2 = nI V := (mF 2 (by decide)).trans wl.2.2.2.2.1
  have hb0 : 0 ≤ 2192 := by decide
  have h1 := fun a b => h1 a b I1 q1
  have h0 := h0 I1 q1
  unfold tellOk at h1 h0
  rw [← mF 2 (by decide), ← mF 0 (by decide)] at h1 h0
  refine x_aload_n C0 rfl dX12_tell_5 ?_
  refine x_iload_n C0 rfl dX12_tell_6 ?_
  refine x_callV [_] C0 hN rfl (xRf_of hR (by decide) (Nat.zero_le _) (Nat.zero_le _)) mv_X12_isWatcher wm_X12_344 dX12_tell_7 (isModel.k0 hM) rfl rfl (Nat.le_of_ble_eq_true rfl) (c_X12_isWatcher hM (fun g7 => ?_) (fun g7 => ?_))
  · refine x_if_eq (tgt := 30) C0 (by decide) dX12_tell_10 (fun hkk => absurd hkk (by decide)) (fun _ => ?_)
    refine x_aload_n C0 rfl dX12_tell_13 ?_
    refine x_iload_n C0 rfl dX12_tell_14 ?_
    refine x_callV [_] C0 hN rfl (xRf_of hR (by decide) (Nat.zero_le _) (Nat.zero_le _)) mv_X12_isThing wm_X12_347 dX12_tell_15 (isModel.k0 hM) rfl rfl (Nat.le_of_ble_eq_true rfl) (c_X12_isThing hM (fun g15 => ?_) (fun g15 => ?_))
    · refine x_if_eq (tgt := 30) C0 (by decide) dX12_tell_18 (fun hkk => absurd hkk (by decide)) (fun _ => ?_)
      refine x_iload_n C0 rfl dX12_tell_21 ?_
      refine x_iconst (v := -1) C0 rfl dX12_tell_22 ?_
      refine x_iconst (v := 1) C0 rfl dX12_tell_23 ?_
      refine x_callS [_, _, _] C0 (xRf_of hR (by decide) (Nat.zero_le _) (Nat.zero_le _)) ms_X12_within wm_X12_207 dX12_tell_24 rfl rfl (Nat.le_of_ble_eq_true rfl) (c_X12_within  (fun g24 => ?_) (fun g24 => ?_))
      · refine x_if_ne (tgt := 32) C0 (by decide) dX12_tell_27 (fun _ => ?_) (fun hkk => absurd hkk (by decide))
        obtain ⟨a, ha, ea⟩ := nI_ofi' eV (by omega) g7
        obtain ⟨b, hb, eb⟩ := nI_ofi' eT (by omega) g15
        have h2 := h1 a b ha hb ea eb ⟨⟨g7, g15⟩, g24⟩
        subst ea
        subst eb
        refine x_aload_n C0 rfl dX12_tell_32 ?_
        refine x_getR C0 wf_X12_119 (isModel.k0 hM) rfl rfl (isModel.r24 hM) dX12_tell_33 ?_
        refine x_bipush (v := nI 62) C0 rfl dX12_tell_36 ?_
        refine x_bipush (v := nI 6) C0 rfl dX12_tell_38 ?_
        refine x_iload_n C0 rfl dX12_tell_40 ?_
        refine x_imulN C0 dX12_tell_41 ?_
        refine x_iaddN C0 dX12_tell_42 ?_
        refine x_iload_n C0 rfl dX12_tell_43 ?_
        refine x_iaddN C0 dX12_tell_44 ?_
        refine x_iload_n C0 rfl dX12_tell_45 ?_
        refine x_iastoreN C0 (isModel.s24 hM) (by omega) (by omega) dX12_tell_46 ?_
        refine x_iconst (v := nI 1) C0 rfl dX12_tell_47 ?_
        refine x_zret C0 E (by decide) (by decide) rfl dX12_tell_48 ?_
        rw [show 62 + 6 * a + b = 62 + (6 * a + b) by omega]
        exact h2
      · refine x_if_ne (tgt := 32) C0 (by decide) dX12_tell_27 (fun hkk => absurd (by decide) hkk) (fun _ => ?_)
        refine x_iconst (v := nI 0) C0 rfl dX12_tell_30 ?_
        refine x_zret C0 E (by decide) (by decide) rfl dX12_tell_31 ?_
        exact h0 (fun q => g24 q.2)
    · refine x_if_eq (tgt := 30) C0 (by decide) dX12_tell_18 (fun _ => ?_) (fun hkk => absurd (by decide) hkk)
      refine x_iconst (v := nI 0) C0 rfl dX12_tell_30 ?_
      refine x_zret C0 E (by decide) (by decide) rfl dX12_tell_31 ?_
      exact h0 (fun q => g15 q.1.2)
  · refine x_if_eq (tgt := 30) C0 (by decide) dX12_tell_10 (fun _ => ?_) (fun hkk => absurd (by decide) hkk)
    refine x_iconst (v := nI 0) C0 rfl dX12_tell_30 ?_
    refine x_zret C0 E (by decide) (by decide) rfl dX12_tell_31 ?_
    exact h0 (fun q => g7 q.1.1)
