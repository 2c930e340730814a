/-! A DEED OF THE EVENING: whether it may be, the reference -/
theorem c_X12_may {S : xTS} {R : xTR} {I : xTI} {J : xTJ} {post : xPost} {T N V : Nat} {fl x : xRow} {lw : Option (List (Nat × Nat))} (hM : isModel S R) (C : MCore I fl lw T N V x) {y : xRow} {act a v b : Nat} {w1 w2 : Int32} (wy : WFx y T N V) (rY : MHall I 2058 y) (ok : dOk T N V act a v b) (m2 : act = 1 ∨ act = 2 ∨ act = 3 → w1 = nI a) (m3 : act = 1 ∨ act = 3 → w2 = nI v) (h1 : dMay N y act a v → post (some (.int 1)) S R I J) (h0 : ¬ dMay N y act a v → post (some (.int 0)) S R I J) : xSpec 4 yX12_may cX12_may 4 (some .boolean) 0 0 [.ref 135, .int (nI act), .int w1, .int w2] S R I J post := by
  refine xSpec_of mt_X12_may (Nat.le_of_ble_eq_true rfl) (fun G C0 hN hR E hI hZ => ?_)
  change XX G 0 0 0 [some (.ref 135), some (.int (nI act)), some (.int w1), some (.int w2)] [] S R I J
  obtain ⟨wl, mF, mL, mH, wx⟩ := id C
  have hT6 := wl.2.1
  have hN8 := wl.2.2.2.1
  have hV6 := wl.2.2.2.2.2.1
  have eT : I 141 0 = nI T := (mF 0 (by decide)).trans wl.1
  have eN : I 141 1 = nI N := (mF 1 (by decide)).trans wl.2.2.1
  have eV : I 141 2 = nI V := (mF 2 (by decide)).trans wl.2.2.2.2.1
  have hb0 : 0 ≤ 2192 := by decide
  obtain ⟨o5, o1, o2, o3⟩ := ok
  obtain ⟨j0, hj0, ej⟩ := wy.1
  have y0 : I 151 2058 = nI j0 := (rY 0 (by decide)).trans ej
  have y3 : I 151 2061 = y 3 := rY 3 (by decide)
  have hX : ∀ a2, a2 < 8 → ((0 ≤ nI a2 ∧ nI a2 < I 141 1) ∧ I 151 (2058 + 0) ≤ nI a2 ↔ a2 < N ∧ y 0 ≤ nI a2) := fun a2 h => by
    rw [rY 0 (by decide), eN]
    exact ⟨fun q => ⟨(nI_lt_iff (by omega) (by omega)).mp q.1.2, q.2⟩, fun q => ⟨⟨nI_pos' (by omega), nI_lt q.1 (by omega)⟩, q.2⟩⟩
  have hEN : y 0 = nI N ↔ j0 = N := by rw [ej]; exact nI_eq (by omega) (by omega)
  unfold dMay at h1 h0
  rcases (show act = 0 ∨ act = 1 ∨ act = 2 ∨ act = 3 ∨ act = 4 by omega) with rfl | rfl | rfl | rfl | rfl
  · refine x_iload_n C0 rfl dX12_may_0 ?_
    refine x_if_eq (tgt := 9) C0 (by decide) dX12_may_1 (fun _ => ?_) (fun hkk => absurd (by decide) hkk)
    refine x_iload_n C0 rfl dX12_may_9 ?_
    refine x_if_ne (tgt := 17) C0 (by decide) dX12_may_10 (fun hkk => absurd (by decide) hkk) (fun _ => ?_)
    refine x_iconst (v := 1) C0 rfl dX12_may_13 ?_
    refine x_goto (tgt := 18) C0 (by decide) dX12_may_14 ?_
    refine x_aload_n C0 rfl dX12_may_18 ?_
    refine x_getR C0 wf_X12_119 (isModel.k0 hM) rfl rfl (isModel.r24 hM) dX12_may_19 ?_
    refine x_sipush (v := nI 2058) C0 rfl dX12_may_22 ?_
    refine x_ialoadN C0 (isModel.s24 hM) (by omega) (by omega) dX12_may_25 ?_
    refine x_topi y0 ?_
    refine x_aload_n C0 rfl dX12_may_26 ?_
    refine x_callV [] C0 hN rfl (xRf_of hR (by decide) (Nat.zero_le _) (Nat.zero_le _)) mv_X12_scenes wm_X12_285 dX12_may_27 (isModel.k0 hM) rfl rfl (Nat.le_of_ble_eq_true rfl) (c_X12_scenes hM ?_)
    refine x_topi eN ?_
    refine x_icmp_ge (tgt := 37) C0 (by decide) dX12_may_30 (fun g30 => ?_) (fun g30 => ?_)
    · refine x_iconst (v := 0) C0 rfl dX12_may_37 ?_
      refine x_icmp_ne (tgt := 45) C0 (by decide) dX12_may_38 (fun _ => ?_) (fun hkk => absurd hkk (by decide))
      refine x_iconst (v := 0) C0 rfl dX12_may_45 ?_
      refine x_zret C0 E (by decide) (by decide) rfl dX12_may_46 ?_
      exact h0 (fun z => by
        rcases z with z | z | z | z | z
        · exact z.2 (hEN.mpr (by have := ((nI_le_iff (a := N) (b := j0) (by omega) (by omega)).mp g30); omega))
        · exact absurd z.1 (by decide)
        · exact absurd z.1 (by decide)
        · exact absurd z.1 (by decide)
        · exact absurd z.1 (by decide))
    · refine x_iconst (v := 1) C0 rfl dX12_may_33 ?_
      refine x_goto (tgt := 38) C0 (by decide) dX12_may_34 ?_
      refine x_icmp_ne (tgt := 45) C0 (by decide) dX12_may_38 (fun hkk => absurd (by decide) hkk) (fun _ => ?_)
      refine x_iconst (v := 1) C0 rfl dX12_may_41 ?_
      refine x_goto (tgt := 46) C0 (by decide) dX12_may_42 ?_
      refine x_zret C0 E (by decide) (by decide) rfl dX12_may_46 ?_
      exact h1 (Or.inl ⟨rfl, fun q => by have := hEN.mp q; have := ((nI_lt_iff (a := j0) (b := N) (by omega) (by omega)).mp (by first | exact i_nle.mp g30 | exact g30)); omega⟩)
  · refine x_iload_n C0 rfl dX12_may_0 ?_
    refine x_if_eq (tgt := 9) C0 (by decide) dX12_may_1 (fun hkk => absurd hkk (by decide)) (fun _ => ?_)
    refine x_iload_n C0 rfl dX12_may_4 ?_
    refine x_iconst (v := nI 4) C0 rfl dX12_may_5 ?_
    refine x_icmp_ne (tgt := 47) C0 (by decide) dX12_may_6 (fun _ => ?_) (fun hkk => absurd hkk (by decide))
    refine x_iload_n C0 rfl dX12_may_47 ?_
    refine x_iconst (v := nI 3) C0 rfl dX12_may_48 ?_
    refine x_icmp_ne (tgt := 82) C0 (by decide) dX12_may_49 (fun _ => ?_) (fun hkk => absurd hkk (by decide))
    have e1 := m2 (Or.inl rfl)
    have o9 := o1 rfl
    subst e1
    refine x_aload_n C0 rfl dX12_may_82 ?_
    refine x_sipush (v := nI 2058) C0 rfl dX12_may_83 ?_
    refine x_iload_n C0 rfl dX12_may_86 ?_
    refine x_callV [_, _] C0 hN rfl (xRf_of hR (by decide) (Nat.zero_le _) (Nat.zero_le _)) mv_X12_isToCome wm_X12_353 dX12_may_87 (isModel.k0 hM) rfl rfl (Nat.le_of_ble_eq_true rfl) (c_X12_isToCome hM (by decide) (fun g87 => ?_) (fun g87 => ?_))
    · refine x_if_eq (tgt := 113) C0 (by decide) dX12_may_90 (fun hkk => absurd hkk (by decide)) (fun _ => ?_)
      refine x_iload_n C0 rfl dX12_may_93 ?_
      refine x_iconst (v := nI 1) C0 rfl dX12_may_94 ?_
      refine x_icmp_eq (tgt := 109) C0 (by decide) dX12_may_95 (fun _ => ?_) (fun hkk => absurd (by decide) hkk)
      refine x_iconst (v := 1) C0 rfl dX12_may_109 ?_
      refine x_goto (tgt := 114) C0 (by decide) dX12_may_110 ?_
      refine x_zret C0 E (by decide) (by decide) rfl dX12_may_114 ?_
      exact h1 (Or.inr (Or.inl ⟨rfl, (hX a o9.1).mp g87⟩))
    · refine x_if_eq (tgt := 113) C0 (by decide) dX12_may_90 (fun _ => ?_) (fun hkk => absurd (by decide) hkk)
      refine x_iconst (v := 0) C0 rfl dX12_may_113 ?_
      refine x_zret C0 E (by decide) (by decide) rfl dX12_may_114 ?_
      exact h0 (fun z => by
        rcases z with z | z | z | z | z
        · exact absurd z.1 (by decide)
        · exact g87 ((hX a o9.1).mpr z.2)
        · exact absurd z.1 (by decide)
        · exact absurd z.1 (by decide)
        · exact absurd z.1 (by decide))
  · refine x_iload_n C0 rfl dX12_may_0 ?_
    refine x_if_eq (tgt := 9) C0 (by decide) dX12_may_1 (fun hkk => absurd hkk (by decide)) (fun _ => ?_)
    refine x_iload_n C0 rfl dX12_may_4 ?_
    refine x_iconst (v := nI 4) C0 rfl dX12_may_5 ?_
    refine x_icmp_ne (tgt := 47) C0 (by decide) dX12_may_6 (fun _ => ?_) (fun hkk => absurd hkk (by decide))
    refine x_iload_n C0 rfl dX12_may_47 ?_
    refine x_iconst (v := nI 3) C0 rfl dX12_may_48 ?_
    refine x_icmp_ne (tgt := 82) C0 (by decide) dX12_may_49 (fun _ => ?_) (fun hkk => absurd hkk (by decide))
    have e1 := m2 (Or.inr (Or.inl rfl))
    have o9 := o2 rfl
    subst e1
    refine x_aload_n C0 rfl dX12_may_82 ?_
    refine x_sipush (v := nI 2058) C0 rfl dX12_may_83 ?_
    refine x_iload_n C0 rfl dX12_may_86 ?_
    refine x_callV [_, _] C0 hN rfl (xRf_of hR (by decide) (Nat.zero_le _) (Nat.zero_le _)) mv_X12_isToCome wm_X12_353 dX12_may_87 (isModel.k0 hM) rfl rfl (Nat.le_of_ble_eq_true rfl) (c_X12_isToCome hM (by decide) (fun g87 => ?_) (fun g87 => ?_))
    · refine x_if_eq (tgt := 113) C0 (by decide) dX12_may_90 (fun hkk => absurd hkk (by decide)) (fun _ => ?_)
      refine x_iload_n C0 rfl dX12_may_93 ?_
      refine x_iconst (v := nI 1) C0 rfl dX12_may_94 ?_
      refine x_icmp_eq (tgt := 109) C0 (by decide) dX12_may_95 (fun hkk => absurd hkk (by decide)) (fun _ => ?_)
      refine x_aload_n C0 rfl dX12_may_98 ?_
      refine x_sipush (v := nI 2058) C0 rfl dX12_may_99 ?_
      refine x_iload_n C0 rfl dX12_may_102 ?_
      refine x_callV [_, _] C0 hN rfl (xRf_of hR (by decide) (Nat.zero_le _) (Nat.zero_le _)) mv_X12_isCut wm_X12_300 dX12_may_103 (isModel.k0 hM) rfl rfl (Nat.le_of_ble_eq_true rfl) (c_X12_isCut hM (by decide) (fun g103 => ?_) (fun g103 => ?_))
      · refine x_if_ne (tgt := 113) C0 (by decide) dX12_may_106 (fun _ => ?_) (fun hkk => absurd hkk (by decide))
        refine x_iconst (v := 0) C0 rfl dX12_may_113 ?_
        refine x_zret C0 E (by decide) (by decide) rfl dX12_may_114 ?_
        exact h0 (fun z => by
          rcases z with z | z | z | z | z
          · exact absurd z.1 (by decide)
          · exact absurd z.1 (by decide)
          · exact z.2.2.2 (by rw [← y3]; exact g103)
          · exact absurd z.1 (by decide)
          · exact absurd z.1 (by decide))
      · refine x_if_ne (tgt := 113) C0 (by decide) dX12_may_106 (fun hkk => absurd (by decide) hkk) (fun _ => ?_)
        refine x_iconst (v := 1) C0 rfl dX12_may_109 ?_
        refine x_goto (tgt := 114) C0 (by decide) dX12_may_110 ?_
        refine x_zret C0 E (by decide) (by decide) rfl dX12_may_114 ?_
        exact h1 (Or.inr (Or.inr (Or.inl ⟨rfl, ((hX a o9).mp g87).1, ((hX a o9).mp g87).2, by rw [← y3]; exact g103⟩)))
    · refine x_if_eq (tgt := 113) C0 (by decide) dX12_may_90 (fun _ => ?_) (fun hkk => absurd (by decide) hkk)
      refine x_iconst (v := 0) C0 rfl dX12_may_113 ?_
      refine x_zret C0 E (by decide) (by decide) rfl dX12_may_114 ?_
      exact h0 (fun z => by
        rcases z with z | z | z | z | z
        · exact absurd z.1 (by decide)
        · exact absurd z.1 (by decide)
        · exact g87 ((hX a o9).mpr ⟨z.2.1, z.2.2.1⟩)
        · exact absurd z.1 (by decide)
        · exact absurd z.1 (by decide))
  · refine x_iload_n C0 rfl dX12_may_0 ?_
    refine x_if_eq (tgt := 9) C0 (by decide) dX12_may_1 (fun hkk => absurd hkk (by decide)) (fun _ => ?_)
    refine x_iload_n C0 rfl dX12_may_4 ?_
    refine x_iconst (v := nI 4) C0 rfl dX12_may_5 ?_
    refine x_icmp_ne (tgt := 47) C0 (by decide) dX12_may_6 (fun _ => ?_) (fun hkk => absurd hkk (by decide))
    refine x_iload_n C0 rfl dX12_may_47 ?_
    refine x_iconst (v := nI 3) C0 rfl dX12_may_48 ?_
    refine x_icmp_ne (tgt := 82) C0 (by decide) dX12_may_49 (fun hkk => absurd (by decide) hkk) (fun _ => ?_)
    have e1 := m2 (Or.inr (Or.inr rfl))
    have e2 := m3 (Or.inr rfl)
    subst e1
    subst e2
    refine x_aload_n C0 rfl dX12_may_52 ?_
    refine x_sipush (v := nI 2058) C0 rfl dX12_may_53 ?_
    refine x_iload_n C0 rfl dX12_may_56 ?_
    refine x_callV [_, _] C0 hN rfl (xRf_of hR (by decide) (Nat.zero_le _) (Nat.zero_le _)) mv_X12_isIn wm_X12_319 dX12_may_57 (isModel.k0 hM) rfl rfl (Nat.le_of_ble_eq_true rfl) (c_X12_isIn hM (by decide) (fun g57 => ?_) (fun g57 => ?_))
    · refine x_if_eq (tgt := 78) C0 (by decide) dX12_may_60 (fun hkk => absurd hkk (by decide)) (fun _ => ?_)
      refine x_aload_n C0 rfl dX12_may_63 ?_
      refine x_sipush (v := nI 2058) C0 rfl dX12_may_64 ?_
      refine x_iload_n C0 rfl dX12_may_67 ?_
      refine x_callV [_, _] C0 hN rfl (xRf_of hR (by decide) (Nat.zero_le _) (Nat.zero_le _)) mv_X12_isIn wm_X12_319 dX12_may_68 (isModel.k0 hM) rfl rfl (Nat.le_of_ble_eq_true rfl) (c_X12_isIn hM (by decide) (fun g68 => ?_) (fun g68 => ?_))
      · refine x_if_eq (tgt := 78) C0 (by decide) dX12_may_71 (fun hkk => absurd hkk (by decide)) (fun _ => ?_)
        refine x_iconst (v := 1) C0 rfl dX12_may_74 ?_
        refine x_goto (tgt := 114) C0 (by decide) dX12_may_75 ?_
        refine x_zret C0 E (by decide) (by decide) rfl dX12_may_114 ?_
        exact h1 (Or.inr (Or.inr (Or.inr (Or.inl ⟨rfl, by rw [← rY 2 (by decide)]; exact g57, by rw [← rY 2 (by decide)]; exact g68⟩))))
      · refine x_if_eq (tgt := 78) C0 (by decide) dX12_may_71 (fun _ => ?_) (fun hkk => absurd (by decide) hkk)
        refine x_iconst (v := 0) C0 rfl dX12_may_78 ?_
        refine x_goto (tgt := 114) C0 (by decide) dX12_may_79 ?_
        refine x_zret C0 E (by decide) (by decide) rfl dX12_may_114 ?_
        exact h0 (fun z => by
          rcases z with z | z | z | z | z
          · exact absurd z.1 (by decide)
          · exact absurd z.1 (by decide)
          · exact absurd z.1 (by decide)
          · exact g68 (by rw [rY 2 (by decide)]; exact z.2.2)
          · exact absurd z.1 (by decide))
    · refine x_if_eq (tgt := 78) C0 (by decide) dX12_may_60 (fun _ => ?_) (fun hkk => absurd (by decide) hkk)
      refine x_iconst (v := 0) C0 rfl dX12_may_78 ?_
      refine x_goto (tgt := 114) C0 (by decide) dX12_may_79 ?_
      refine x_zret C0 E (by decide) (by decide) rfl dX12_may_114 ?_
      exact h0 (fun z => by
        rcases z with z | z | z | z | z
        · exact absurd z.1 (by decide)
        · exact absurd z.1 (by decide)
        · exact absurd z.1 (by decide)
        · exact g57 (by rw [rY 2 (by decide)]; exact z.2.1)
        · exact absurd z.1 (by decide))
  · refine x_iload_n C0 rfl dX12_may_0 ?_
    refine x_if_eq (tgt := 9) C0 (by decide) dX12_may_1 (fun hkk => absurd hkk (by decide)) (fun _ => ?_)
    refine x_iload_n C0 rfl dX12_may_4 ?_
    refine x_iconst (v := nI 4) C0 rfl dX12_may_5 ?_
    refine x_icmp_ne (tgt := 47) C0 (by decide) dX12_may_6 (fun hkk => absurd (by decide) hkk) (fun _ => ?_)
    refine x_iload_n C0 rfl dX12_may_9 ?_
    refine x_if_ne (tgt := 17) C0 (by decide) dX12_may_10 (fun _ => ?_) (fun hkk => absurd hkk (by decide))
    refine x_iconst (v := 0) C0 rfl dX12_may_17 ?_
    refine x_aload_n C0 rfl dX12_may_18 ?_
    refine x_getR C0 wf_X12_119 (isModel.k0 hM) rfl rfl (isModel.r24 hM) dX12_may_19 ?_
    refine x_sipush (v := nI 2058) C0 rfl dX12_may_22 ?_
    refine x_ialoadN C0 (isModel.s24 hM) (by omega) (by omega) dX12_may_25 ?_
    refine x_topi y0 ?_
    refine x_aload_n C0 rfl dX12_may_26 ?_
    refine x_callV [] C0 hN rfl (xRf_of hR (by decide) (Nat.zero_le _) (Nat.zero_le _)) mv_X12_scenes wm_X12_285 dX12_may_27 (isModel.k0 hM) rfl rfl (Nat.le_of_ble_eq_true rfl) (c_X12_scenes hM ?_)
    refine x_topi eN ?_
    refine x_icmp_ge (tgt := 37) C0 (by decide) dX12_may_30 (fun g30 => ?_) (fun g30 => ?_)
    · refine x_iconst (v := 0) C0 rfl dX12_may_37 ?_
      refine x_icmp_ne (tgt := 45) C0 (by decide) dX12_may_38 (fun hkk => absurd (by decide) hkk) (fun _ => ?_)
      refine x_iconst (v := 1) C0 rfl dX12_may_41 ?_
      refine x_goto (tgt := 46) C0 (by decide) dX12_may_42 ?_
      refine x_zret C0 E (by decide) (by decide) rfl dX12_may_46 ?_
      exact h1 (Or.inr (Or.inr (Or.inr (Or.inr ⟨rfl, hEN.mpr (by have := ((nI_le_iff (a := N) (b := j0) (by omega) (by omega)).mp g30); omega)⟩))))
    · refine x_iconst (v := 1) C0 rfl dX12_may_33 ?_
      refine x_goto (tgt := 38) C0 (by decide) dX12_may_34 ?_
      refine x_icmp_ne (tgt := 45) C0 (by decide) dX12_may_38 (fun _ => ?_) (fun hkk => absurd hkk (by decide))
      refine x_iconst (v := 0) C0 rfl dX12_may_45 ?_
      refine x_zret C0 E (by decide) (by decide) rfl dX12_may_46 ?_
      exact h0 (fun z => by
        rcases z with z | z | z | z | z
        · exact absurd z.1 (by decide)
        · exact absurd z.1 (by decide)
        · exact absurd z.1 (by decide)
        · exact absurd z.1 (by decide)
        · exact absurd (hEN.mp z.2) (by have := ((nI_lt_iff (a := j0) (b := N) (by omega) (by omega)).mp (by first | exact i_nle.mp g30 | exact g30)); omega))
