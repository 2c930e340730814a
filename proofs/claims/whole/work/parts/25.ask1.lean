/-! THE FIRST QUESTIONS: scene, watcher, thinks, takes, blank -/
theorem sw_out {c : Int32} {n : Nat} (hn : n < 2 ^ 31) (h : ∀ j, j ≤ n → ¬ c = nI j) : c.toInt < 0 ∨ (n : Int) < c.toInt := by
  by_cases h0 : c.toInt < 0
  · exact Or.inl h0
  · refine Or.inr ?_
    rcases Nat.lt_or_ge n c.toInt.toNat with g | g
    · omega
    · exfalso
      refine h c.toInt.toNat g ?_
      rw [← Int32.toInt_inj, nI_toInt (by omega)]
      omega
def aThinks (fl x : xRow) (i j : Int32) : Int32 := if (0 ≤ i ∧ i < fl 2) ∧ (0 ≤ j ∧ j < fl 0) then x (20 + 6 * i.toNatClampNeg + j.toNatClampNeg) else -2
theorem c_X11_thinks {S : xTS} {R : xTR} {I : xTI} {J : xTJ} {post : xPost} {f T N V : Nat} {fl x : xRow} {lw : Option (List (Nat × Nat))} (hS : fixd S R) (hf : R 0 2 = some f) (C : FCore I f fl lw T N V x) {i j : Int32} (hp : ∀ I', FQ I I' → post (some (.int (aThinks fl x i j))) S R I' J) : xSpec 3 yX11_thinks cX11_thinks 3 (some .int) 0 0 [.ref 0, .int i, .int j] S R I J post := by
  refine xSpec_of mt_X11_thinks (Nat.le_of_ble_eq_true rfl) (fun G C0 hN hR E hI hZ => ?_)
  change XX G 0 0 0 [some (.ref 0), some (.int i), some (.int j)] [] S R I J
  obtain ⟨hfm, wl, rF, rH, wx⟩ := id C
  have hF := hS.film hfm
  have hH := hS.hall (q := 33) (by decide)
  have hT6 := wl.2.1
  have hN8 := wl.2.2.2.1
  have hV6 := wl.2.2.2.2.2.1
  have eT : I f 0 = nI T := rF.1.trans wl.1
  have eN : I f 1 = nI N := rF.2.1.trans wl.2.2.1
  have eV : I f 2 = nI V := rF.2.2.1.trans wl.2.2.2.2.1
  have hfh : ∀ i j, i < 9 → j < 4 → f + i ≠ 33 + j := fun i j hi hj => hf_apart 33 (by decide) f hfm i hi j hj
  obtain ⟨fs0, fs1, fs2, fs3, fs4, fs5, fs6, fs7, fs8, fr4, fr5, fr6, fr7, fr8, fr9, fr10, fr11⟩ := id hF
  obtain ⟨hs0, hs1, hs2, hs3, hr4, hr5, hr6⟩ := id hH
  unfold aThinks at hp
  rw [← rF.1, ← rF.2.2.1] at hp
  refine x_aload_n C0 rfl dX11_thinks_0 ?_
  refine x_getR C0 wf_X11_26 (fixd.k0 hS) rfl rfl hf dX11_thinks_1 ?_
  refine x_iload_n C0 rfl dX11_thinks_4 ?_
  refine x_iload_n C0 rfl dX11_thinks_5 ?_
  refine x_callV [_, _] C0 hN rfl (xRf_of hR (by decide) (Nat.zero_le _) (Nat.zero_le _)) mv_X2_hasView wm_X11_168 dX11_thinks_6 (by assumption) rfl rfl (Nat.le_of_ble_eq_true rfl) (c_X2_hasView (by assumption) (fun g6 => ?_) (fun g6 => ?_))
  · refine x_if_eq (tgt := 24) C0 (by decide) dX11_thinks_9 (fun hkk => absurd hkk (by decide)) (fun _ => ?_)
    refine x_aload_n C0 rfl dX11_thinks_12 ?_
    refine x_getR C0 wf_X11_46 (fixd.k0 hS) rfl rfl (fixd.now hS) dX11_thinks_13 ?_
    refine x_iload_n C0 rfl dX11_thinks_16 ?_
    refine x_iload_n C0 rfl dX11_thinks_17 ?_
    obtain ⟨a, ha, ea⟩ := nI_ofi' eV (by omega) g6.1
    obtain ⟨b, hb, eb⟩ := nI_ofi' eT (by omega) g6.2
    rw [if_pos g6] at hp
    subst ea
    subst eb
    rw [nI_clamp (by omega), nI_clamp (by omega)] at hp
    refine x_callV [_, _] C0 hN rfl (xRf_of hR (by decide) (Nat.zero_le _) (Nat.zero_le _)) mv_X3_thought wm_X11_172 dX11_thinks_18 (by assumption) rfl rfl (Nat.le_of_ble_eq_true rfl) (c_X3_thought hH (by omega) (by omega) ?_)
    refine x_goto (tgt := 26) C0 (by decide) dX11_thinks_21 ?_
    refine x_iret C0 E (by decide) (by decide) dX11_thinks_26 ?_
    have := hp I FQ.rf
    rw [Nat.add_assoc, ← rH.2.2.2.2.2.1 (6 * a + b) (by omega)] at this
    exact this
  · refine x_if_eq (tgt := 24) C0 (by decide) dX11_thinks_9 (fun _ => ?_) (fun hkk => absurd (by decide) hkk)
    refine x_bipush (v := -2) C0 rfl dX11_thinks_24 ?_
    refine x_iret C0 E (by decide) (by decide) dX11_thinks_26 ?_
    rw [if_neg g6] at hp
    exact hp I FQ.rf
theorem c_X12_thinks {S : xTS} {R : xTR} {I : xTI} {J : xTJ} {post : xPost} {T N V : Nat} {fl x : xRow} {lw : Option (List (Nat × Nat))} (hM : isModel S R) (C : MCore I fl lw T N V x) {i j : Int32} (hp : ∀ I', MQs I I' → post (some (.int (aThinks fl x i j))) S R I' J) : xSpec 3 yX12_thinks cX12_thinks 3 (some .int) 0 0 [.ref 135, .int i, .int j] S R I J post := by
  refine xSpec_of mt_X12_thinks (Nat.le_of_ble_eq_true rfl) (fun G C0 hN hR E hI hZ => ?_)
  change XX G 0 0 0 [some (.ref 135), some (.int i), some (.int j)] [] S R I J
  refine x_aload_n C0 rfl dX12_thinks_0 ?_
  refine x_iconst (v := nI 0) C0 rfl dX12_thinks_1 ?_
  refine x_putI C0 wf_X12_1 (isModel.k0 hM) rfl dX12_thinks_2 ?_
  have q1 := MQs.thrown (I := I) (v := nI 0)
  have C := C.mq q1
  generalize u2 I 135 0 (nI 0) = I1 at q1 C ⊢
  obtain ⟨wl, mF, mL, mH, wx⟩ := id C
  have hT6 := wl.2.1
  have hN8 := wl.2.2.2.1
  have hV6 := wl.2.2.2.2.2.1
  have eT : I1 141 0 = nI T := (mF 0 (by decide)).trans wl.1
  have eN : I1 141 1 = nI N := (mF 1 (by decide)).trans wl.2.2.1
  have eV : I1 141 2 = nI V := (mF 2 (by decide)).trans wl.2.2.2.2.1
  have hb0 : 0 ≤ 2192 := by decide
  unfold aThinks at hp
  rw [← mF 0 (by decide), ← mF 2 (by decide)] at hp
  refine x_aload_n C0 rfl dX12_thinks_5 ?_
  refine x_iload_n C0 rfl dX12_thinks_6 ?_
  refine x_callV [_] C0 hN rfl (xRf_of hR (by decide) (Nat.zero_le _) (Nat.zero_le _)) mv_X12_isWatcher wm_X12_344 dX12_thinks_7 (isModel.k0 hM) rfl rfl (Nat.le_of_ble_eq_true rfl) (c_X12_isWatcher hM (fun g7 => ?_) (fun g7 => ?_))
  · refine x_if_eq (tgt := 31) C0 (by decide) dX12_thinks_10 (fun hkk => absurd hkk (by decide)) (fun _ => ?_)
    refine x_aload_n C0 rfl dX12_thinks_13 ?_
    refine x_iload_n C0 rfl dX12_thinks_14 ?_
    refine x_callV [_] C0 hN rfl (xRf_of hR (by decide) (Nat.zero_le _) (Nat.zero_le _)) mv_X12_isThing wm_X12_347 dX12_thinks_15 (isModel.k0 hM) rfl rfl (Nat.le_of_ble_eq_true rfl) (c_X12_isThing hM (fun g15 => ?_) (fun g15 => ?_))
    · refine x_if_eq (tgt := 31) C0 (by decide) dX12_thinks_18 (fun hkk => absurd hkk (by decide)) (fun _ => ?_)
      refine x_aload_n C0 rfl dX12_thinks_21 ?_
      refine x_iconst (v := nI 0) C0 rfl dX12_thinks_22 ?_
      refine x_iload_n C0 rfl dX12_thinks_23 ?_
      refine x_iload_n C0 rfl dX12_thinks_24 ?_
      obtain ⟨a, ha, ea⟩ := nI_ofi' eV (by omega) g7
      obtain ⟨b, hb, eb⟩ := nI_ofi' eT (by omega) g15
      rw [if_pos ⟨g7, g15⟩] at hp
      subst ea
      subst eb
      rw [nI_clamp (by omega), nI_clamp (by omega)] at hp
      refine x_callV [_, _, _] C0 hN rfl (xRf_of hR (by decide) (Nat.zero_le _) (Nat.zero_le _)) mv_X12_thoughtOf wm_X12_325 dX12_thinks_25 (isModel.k0 hM) rfl rfl (Nat.le_of_ble_eq_true rfl) (c_X12_thoughtOf hM hb0 (by omega) (by omega) ?_)
      refine x_goto (tgt := 33) C0 (by decide) dX12_thinks_28 ?_
      refine x_iret C0 E (by decide) (by decide) dX12_thinks_33 ?_
      have := hp I1 q1
      rw [← mH.at (i := 20 + 6 * a + b) (j := 0 + 20 + 6 * a + b) (by omega) (by omega)] at this
      exact this
    · refine x_if_eq (tgt := 31) C0 (by decide) dX12_thinks_18 (fun _ => ?_) (fun hkk => absurd (by decide) hkk)
      refine x_bipush (v := -2) C0 rfl dX12_thinks_31 ?_
      refine x_iret C0 E (by decide) (by decide) dX12_thinks_33 ?_
      rw [if_neg (fun q => g15 q.2)] at hp
      exact hp I1 q1
  · refine x_if_eq (tgt := 31) C0 (by decide) dX12_thinks_10 (fun _ => ?_) (fun hkk => absurd (by decide) hkk)
    refine x_bipush (v := -2) C0 rfl dX12_thinks_31 ?_
    refine x_iret C0 E (by decide) (by decide) dX12_thinks_33 ?_
    rw [if_neg (fun q => g7 q.1)] at hp
    exact hp I1 q1
def aWatcher (fl x : xRow) (i c : Int32) : Int32 := if 0 ≤ i ∧ i < fl 2 then (if c = 0 then fl (37 + 3 * i.toNatClampNeg) else if c = 1 then fl (38 + 3 * i.toNatClampNeg) else if c = 2 then fl (39 + 3 * i.toNatClampNeg) else if c = 3 then x (56 + i.toNatClampNeg) else if c = 4 then (if xbit (x 2) i.toNatClampNeg then 1 else 0) else -1) else -1
theorem c_X11_watcher {S : xTS} {R : xTR} {I : xTI} {J : xTJ} {post : xPost} {f T N V : Nat} {fl x : xRow} {lw : Option (List (Nat × Nat))} (hS : fixd S R) (hf : R 0 2 = some f) (C : FCore I f fl lw T N V x) {i c : Int32} (hp : ∀ I', FQ I I' → post (some (.int (aWatcher fl x i c))) S R I' J) : xSpec 2 yX11_watcher cX11_watcher 3 (some .int) 0 0 [.ref 0, .int i, .int c] S R I J post := by
  refine xSpec_of mt_X11_watcher (Nat.le_of_ble_eq_true rfl) (fun G C0 hN hR E hI hZ => ?_)
  change XX G 0 0 0 [some (.ref 0), some (.int i), some (.int c)] [] S R I J
  obtain ⟨hfm, wl, rF, rH, wx⟩ := id C
  have hF := hS.film hfm
  have hH := hS.hall (q := 33) (by decide)
  have hT6 := wl.2.1
  have hN8 := wl.2.2.2.1
  have hV6 := wl.2.2.2.2.2.1
  have eT : I f 0 = nI T := rF.1.trans wl.1
  have eN : I f 1 = nI N := rF.2.1.trans wl.2.2.1
  have eV : I f 2 = nI V := rF.2.2.1.trans wl.2.2.2.2.1
  have hfh : ∀ i j, i < 9 → j < 4 → f + i ≠ 33 + j := fun i j hi hj => hf_apart 33 (by decide) f hfm i hi j hj
  obtain ⟨fs0, fs1, fs2, fs3, fs4, fs5, fs6, fs7, fs8, fr4, fr5, fr6, fr7, fr8, fr9, fr10, fr11⟩ := id hF
  obtain ⟨hs0, hs1, hs2, hs3, hr4, hr5, hr6⟩ := id hH
  unfold aWatcher at hp
  rw [← rF.2.2.1] at hp
  refine x_aload_n C0 rfl dX11_watcher_0 ?_
  refine x_getR C0 wf_X11_26 (fixd.k0 hS) rfl rfl hf dX11_watcher_1 ?_
  refine x_iload_n C0 rfl dX11_watcher_4 ?_
  refine x_callV [_] C0 hN rfl (xRf_of hR (by decide) (Nat.zero_le _) (Nat.zero_le _)) mv_X2_hasWatcher wm_X11_144 dX11_watcher_5 (by assumption) rfl rfl (Nat.le_of_ble_eq_true rfl) (c_X2_hasWatcher (by assumption) (fun g5 => ?_) (fun g5 => ?_))
  · refine x_if_ne (tgt := 13) C0 (by decide) dX11_watcher_8 (fun _ => ?_) (fun hkk => absurd hkk (by decide))
    obtain ⟨a, ha, ea⟩ := nI_ofi' eV (by omega) g5
    rw [if_pos g5] at hp
    subst ea
    rw [nI_clamp (by omega)] at hp
    have hw := rF.2.2.2.2.2.2.1 a ha
    refine x_iload_n C0 rfl dX11_watcher_13 ?_
    by_cases g0 : c = 0
    · refine x_tabIn (tgt := 48) C0 (by rw [g0]; decide) (by rw [g0]; decide) (by rw [g0]; rfl) (by decide) dX11_watcher_14 ?_
      refine x_aload_n C0 rfl dX11_watcher_48 ?_
      refine x_getR C0 wf_X11_26 (fixd.k0 hS) rfl rfl hf dX11_watcher_49 ?_
      refine x_getR C0 wf_X11_147 (by assumption) rfl rfl (by assumption) dX11_watcher_52 ?_
      refine x_iload_n C0 rfl dX11_watcher_55 ?_
      refine x_callS [_, _] C0 (xRf_of hR (by decide) (Nat.zero_le _) (Nat.zero_le _)) ms_X8_get wm_X11_150 dX11_watcher_56 rfl rfl (Nat.le_of_ble_eq_true rfl) (c_X8_get (by assumption) (by omega) (by decide) ?_)
      refine x_iret C0 E (by decide) (by decide) dX11_watcher_59 ?_
      rw [g0, if_pos rfl] at hp
      rw [hw.1]
      exact hp I FQ.rf
    by_cases g1 : c = 1
    · refine x_tabIn (tgt := 60) C0 (by rw [g1]; decide) (by rw [g1]; decide) (by rw [g1]; rfl) (by decide) dX11_watcher_14 ?_
      refine x_aload_n C0 rfl dX11_watcher_60 ?_
      refine x_getR C0 wf_X11_26 (fixd.k0 hS) rfl rfl hf dX11_watcher_61 ?_
      refine x_getR C0 wf_X11_156 (by assumption) rfl rfl (by assumption) dX11_watcher_64 ?_
      refine x_iload_n C0 rfl dX11_watcher_67 ?_
      refine x_callS [_, _] C0 (xRf_of hR (by decide) (Nat.zero_le _) (Nat.zero_le _)) ms_X8_get wm_X11_150 dX11_watcher_68 rfl rfl (Nat.le_of_ble_eq_true rfl) (c_X8_get (by assumption) (by omega) (by decide) ?_)
      refine x_iret C0 E (by decide) (by decide) dX11_watcher_71 ?_
      rw [g1, if_neg (by decide), if_pos rfl] at hp
      rw [hw.2.1]
      exact hp I FQ.rf
    by_cases g2 : c = 2
    · refine x_tabIn (tgt := 72) C0 (by rw [g2]; decide) (by rw [g2]; decide) (by rw [g2]; rfl) (by decide) dX11_watcher_14 ?_
      refine x_aload_n C0 rfl dX11_watcher_72 ?_
      refine x_getR C0 wf_X11_26 (fixd.k0 hS) rfl rfl hf dX11_watcher_73 ?_
      refine x_getR C0 wf_X11_159 (by assumption) rfl rfl (by assumption) dX11_watcher_76 ?_
      refine x_iload_n C0 rfl dX11_watcher_79 ?_
      refine x_callS [_, _] C0 (xRf_of hR (by decide) (Nat.zero_le _) (Nat.zero_le _)) ms_X8_get wm_X11_150 dX11_watcher_80 rfl rfl (Nat.le_of_ble_eq_true rfl) (c_X8_get (by assumption) (by omega) (by decide) ?_)
      refine x_iret C0 E (by decide) (by decide) dX11_watcher_83 ?_
      rw [g2, if_neg (by decide), if_neg (by decide), if_pos rfl] at hp
      rw [hw.2.2]
      exact hp I FQ.rf
    by_cases g3 : c = 3
    · refine x_tabIn (tgt := 84) C0 (by rw [g3]; decide) (by rw [g3]; decide) (by rw [g3]; rfl) (by decide) dX11_watcher_14 ?_
      refine x_aload_n C0 rfl dX11_watcher_84 ?_
      refine x_getR C0 wf_X11_46 (fixd.k0 hS) rfl rfl (fixd.now hS) dX11_watcher_85 ?_
      refine x_getR C0 wf_X11_162 (by assumption) rfl rfl (by assumption) dX11_watcher_88 ?_
      refine x_iload_n C0 rfl dX11_watcher_91 ?_
      refine x_callS [_, _] C0 (xRf_of hR (by decide) (Nat.zero_le _) (Nat.zero_le _)) ms_X8_get wm_X11_150 dX11_watcher_92 rfl rfl (Nat.le_of_ble_eq_true rfl) (c_X8_get (by assumption) (by omega) (by decide) ?_)
      refine x_iret C0 E (by decide) (by decide) dX11_watcher_95 ?_
      rw [g3, if_neg (by decide), if_neg (by decide), if_neg (by decide), if_pos rfl] at hp
      rw [rH.2.2.2.2.2.2 a (by omega)]
      exact hp I FQ.rf
    by_cases g4 : c = 4
    · refine x_tabIn (tgt := 96) C0 (by rw [g4]; decide) (by rw [g4]; decide) (by rw [g4]; rfl) (by decide) dX11_watcher_14 ?_
      refine x_aload_n C0 rfl dX11_watcher_96 ?_
      refine x_getR C0 wf_X11_46 (fixd.k0 hS) rfl rfl (fixd.now hS) dX11_watcher_97 ?_
      refine x_iload_n C0 rfl dX11_watcher_100 ?_
      refine x_callV [_] C0 hN rfl (xRf_of hR (by decide) (Nat.zero_le _) (Nat.zero_le _)) mv_X3_isIn wm_X11_165 dX11_watcher_101 (by assumption) rfl rfl (Nat.le_of_ble_eq_true rfl) (c_X3_isIn (by assumption) (fun g101 => ?_) (fun g101 => ?_))
      · refine x_if_eq (tgt := 111) C0 (by decide) dX11_watcher_104 (fun hkk => absurd hkk (by decide)) (fun _ => ?_)
        refine x_iconst (v := 1) C0 rfl dX11_watcher_107 ?_
        refine x_goto (tgt := 112) C0 (by decide) dX11_watcher_108 ?_
        refine x_iret C0 E (by decide) (by decide) dX11_watcher_112 ?_
        rw [g4, if_neg (by decide), if_neg (by decide), if_neg (by decide), if_neg (by decide), if_pos rfl, if_pos (by rw [← rH.2.2.1]; exact g101)] at hp
        exact hp I FQ.rf
      · refine x_if_eq (tgt := 111) C0 (by decide) dX11_watcher_104 (fun _ => ?_) (fun hkk => absurd (by decide) hkk)
        refine x_iconst (v := 0) C0 rfl dX11_watcher_111 ?_
        refine x_iret C0 E (by decide) (by decide) dX11_watcher_112 ?_
        rw [g4, if_neg (by decide), if_neg (by decide), if_neg (by decide), if_neg (by decide), if_pos rfl, if_neg (by rw [← rH.2.2.1]; exact g101)] at hp
        exact hp I FQ.rf
    refine x_tabOut (tgt := 113) C0 (sw_out (n := 4) (by decide) (fun j hj => by rcases (show j = 0 ∨ j = 1 ∨ j = 2 ∨ j = 3 ∨ j = 4 by omega) with rfl | rfl | rfl | rfl | rfl <;> assumption)) (by decide) dX11_watcher_14 ?_
    refine x_iconst (v := -1) C0 rfl dX11_watcher_113 ?_
    refine x_iret C0 E (by decide) (by decide) dX11_watcher_114 ?_
    rw [if_neg g0, if_neg g1, if_neg g2, if_neg g3, if_neg g4] at hp
    exact hp I FQ.rf
  · refine x_if_ne (tgt := 13) C0 (by decide) dX11_watcher_8 (fun hkk => absurd (by decide) hkk) (fun _ => ?_)
    refine x_iconst (v := -1) C0 rfl dX11_watcher_11 ?_
    refine x_iret C0 E (by decide) (by decide) dX11_watcher_12 ?_
    rw [if_neg g5] at hp
    exact hp I FQ.rf
theorem c_X12_watcher {S : xTS} {R : xTR} {I : xTI} {J : xTJ} {post : xPost} {T N V : Nat} {fl x : xRow} {lw : Option (List (Nat × Nat))} (hM : isModel S R) (C : MCore I fl lw T N V x) {i c : Int32} (hp : ∀ I', MQs I I' → post (some (.int (aWatcher fl x i c))) S R I' J) : xSpec 3 yX12_watcher cX12_watcher 3 (some .int) 0 0 [.ref 135, .int i, .int c] S R I J post := by
  refine xSpec_of mt_X12_watcher (Nat.le_of_ble_eq_true rfl) (fun G C0 hN hR E hI hZ => ?_)
  change XX G 0 0 0 [some (.ref 135), some (.int i), some (.int c)] [] S R I J
  refine x_aload_n C0 rfl dX12_watcher_0 ?_
  refine x_iconst (v := nI 0) C0 rfl dX12_watcher_1 ?_
  refine x_putI C0 wf_X12_1 (isModel.k0 hM) rfl dX12_watcher_2 ?_
  have q1 := MQs.thrown (I := I) (v := nI 0)
  have C := C.mq q1
  generalize u2 I 135 0 (nI 0) = I1 at q1 C ⊢
  obtain ⟨wl, mF, mL, mH, wx⟩ := id C
  have hT6 := wl.2.1
  have hN8 := wl.2.2.2.1
  have hV6 := wl.2.2.2.2.2.1
  have eT : I1 141 0 = nI T := (mF 0 (by decide)).trans wl.1
  have eN : I1 141 1 = nI N := (mF 1 (by decide)).trans wl.2.2.1
  have eV : I1 141 2 = nI V := (mF 2 (by decide)).trans wl.2.2.2.2.1
  have hb0 : 0 ≤ 2192 := by decide
  unfold aWatcher at hp
  rw [← mF 2 (by decide)] at hp
  have hcase : 0 ≤ c ∧ c ≤ nI 4 → c = nI 0 ∨ c = nI 1 ∨ c = nI 2 ∨ c = nI 3 ∨ c = nI 4 := fun h => by
    obtain ⟨k, hk, rfl⟩ := nI_ofi (n := 5) (by decide) h.1 (by have := h.2; rw [Int32.le_iff_toInt_le, show (nI 4).toInt = 4 from rfl] at this; rw [Int32.lt_iff_toInt_lt, show (nI 5).toInt = 5 from rfl]; omega)
    rcases (show k = 0 ∨ k = 1 ∨ k = 2 ∨ k = 3 ∨ k = 4 by omega) with rfl | rfl | rfl | rfl | rfl <;> simp
  have h24 : ∀ a, a < V → i = nI a → (0 ≤ c ∧ c ≤ nI 4) → XX G 0 0 24 [some (.ref 135), some (.int i), some (.int c)] [] S R I1 J := by
    intro a ha ea g16
    subst ea
    rw [if_pos (nI_val eV ha (by omega)), nI_clamp (by omega)] at hp
    rcases hcase g16 with rfl | rfl | rfl | rfl | rfl
    · refine x_iload_n C0 rfl dX12_watcher_24 ?_
      refine x_iconst (v := nI 3) C0 rfl dX12_watcher_25 ?_
      refine x_icmp_ge (tgt := 38) C0 (by decide) dX12_watcher_26 (fun hkk => absurd hkk ((by decide))) (fun _ => ?_)
      refine x_aload_n C0 rfl dX12_watcher_29 ?_
      refine x_iload_n C0 rfl dX12_watcher_30 ?_
      refine x_iload_n C0 rfl dX12_watcher_31 ?_
      refine x_callV [_, _] C0 hN rfl (xRf_of hR (by decide) (Nat.zero_le _) (Nat.zero_le _)) mv_X12_watcherOf wm_X12_310 dX12_watcher_32 (isModel.k0 hM) rfl rfl (Nat.le_of_ble_eq_true rfl) (c_X12_watcherOf hM (by omega) (by decide) ?_)
      refine x_goto (tgt := 69) C0 (by decide) dX12_watcher_35 ?_
      refine x_iret C0 E (by decide) (by decide) dX12_watcher_69 ?_
      rw [if_pos (by decide)] at hp
      rw [mF _ (by omega)]
      exact hp I1 q1
    · refine x_iload_n C0 rfl dX12_watcher_24 ?_
      refine x_iconst (v := nI 3) C0 rfl dX12_watcher_25 ?_
      refine x_icmp_ge (tgt := 38) C0 (by decide) dX12_watcher_26 (fun hkk => absurd hkk ((by decide))) (fun _ => ?_)
      refine x_aload_n C0 rfl dX12_watcher_29 ?_
      refine x_iload_n C0 rfl dX12_watcher_30 ?_
      refine x_iload_n C0 rfl dX12_watcher_31 ?_
      refine x_callV [_, _] C0 hN rfl (xRf_of hR (by decide) (Nat.zero_le _) (Nat.zero_le _)) mv_X12_watcherOf wm_X12_310 dX12_watcher_32 (isModel.k0 hM) rfl rfl (Nat.le_of_ble_eq_true rfl) (c_X12_watcherOf hM (by omega) (by decide) ?_)
      refine x_goto (tgt := 69) C0 (by decide) dX12_watcher_35 ?_
      refine x_iret C0 E (by decide) (by decide) dX12_watcher_69 ?_
      rw [if_neg (by decide), if_pos (by decide), show 38 + 3 * a = 37 + 3 * a + 1 by omega, ← mF _ (by omega)] at hp
      exact hp I1 q1
    · refine x_iload_n C0 rfl dX12_watcher_24 ?_
      refine x_iconst (v := nI 3) C0 rfl dX12_watcher_25 ?_
      refine x_icmp_ge (tgt := 38) C0 (by decide) dX12_watcher_26 (fun hkk => absurd hkk ((by decide))) (fun _ => ?_)
      refine x_aload_n C0 rfl dX12_watcher_29 ?_
      refine x_iload_n C0 rfl dX12_watcher_30 ?_
      refine x_iload_n C0 rfl dX12_watcher_31 ?_
      refine x_callV [_, _] C0 hN rfl (xRf_of hR (by decide) (Nat.zero_le _) (Nat.zero_le _)) mv_X12_watcherOf wm_X12_310 dX12_watcher_32 (isModel.k0 hM) rfl rfl (Nat.le_of_ble_eq_true rfl) (c_X12_watcherOf hM (by omega) (by decide) ?_)
      refine x_goto (tgt := 69) C0 (by decide) dX12_watcher_35 ?_
      refine x_iret C0 E (by decide) (by decide) dX12_watcher_69 ?_
      rw [if_neg (by decide), if_neg (by decide), if_pos (by decide), show 39 + 3 * a = 37 + 3 * a + 2 by omega, ← mF _ (by omega)] at hp
      exact hp I1 q1
    · refine x_iload_n C0 rfl dX12_watcher_24 ?_
      refine x_iconst (v := nI 3) C0 rfl dX12_watcher_25 ?_
      refine x_icmp_ge (tgt := 38) C0 (by decide) dX12_watcher_26 (fun _ => ?_) (fun hkk => absurd ((by decide)) hkk)
      refine x_iload_n C0 rfl dX12_watcher_38 ?_
      refine x_iconst (v := nI 3) C0 rfl dX12_watcher_39 ?_
      refine x_icmp_ne (tgt := 55) C0 (by decide) dX12_watcher_40 (fun hkk => absurd (rfl) hkk) (fun _ => ?_)
      refine x_aload_n C0 rfl dX12_watcher_43 ?_
      refine x_getR C0 wf_X12_119 (isModel.k0 hM) rfl rfl (isModel.r24 hM) dX12_watcher_44 ?_
      refine x_bipush (v := nI 56) C0 rfl dX12_watcher_47 ?_
      refine x_iload_n C0 rfl dX12_watcher_49 ?_
      refine x_iaddN C0 dX12_watcher_50 ?_
      refine x_ialoadN C0 (isModel.s24 hM) (by omega) (by omega) dX12_watcher_51 ?_
      refine x_goto (tgt := 69) C0 (by decide) dX12_watcher_52 ?_
      refine x_iret C0 E (by decide) (by decide) dX12_watcher_69 ?_
      rw [if_neg (by decide), if_neg (by decide), if_neg (by decide), if_pos (by decide), ← mH.at (i := 56 + a) (j := 56 + a) (by omega) (by omega)] at hp
      exact hp I1 q1
    · refine x_iload_n C0 rfl dX12_watcher_24 ?_
      refine x_iconst (v := nI 3) C0 rfl dX12_watcher_25 ?_
      refine x_icmp_ge (tgt := 38) C0 (by decide) dX12_watcher_26 (fun _ => ?_) (fun hkk => absurd ((by decide)) hkk)
      refine x_iload_n C0 rfl dX12_watcher_38 ?_
      refine x_iconst (v := nI 3) C0 rfl dX12_watcher_39 ?_
      refine x_icmp_ne (tgt := 55) C0 (by decide) dX12_watcher_40 (fun _ => ?_) (fun hkk => absurd hkk ((by decide)))
      refine x_aload_n C0 rfl dX12_watcher_55 ?_
      refine x_iconst (v := nI 0) C0 rfl dX12_watcher_56 ?_
      refine x_iload_n C0 rfl dX12_watcher_57 ?_
      refine x_callV [_, _] C0 hN rfl (xRf_of hR (by decide) (Nat.zero_le _) (Nat.zero_le _)) mv_X12_isIn wm_X12_319 dX12_watcher_58 (isModel.k0 hM) rfl rfl (Nat.le_of_ble_eq_true rfl) (c_X12_isIn hM hb0 (fun g58 => ?_) (fun g58 => ?_))
      · refine x_if_eq (tgt := 68) C0 (by decide) dX12_watcher_61 (fun hkk => absurd hkk (by decide)) (fun _ => ?_)
        refine x_iconst (v := nI 1) C0 rfl dX12_watcher_64 ?_
        refine x_goto (tgt := 69) C0 (by decide) dX12_watcher_65 ?_
        refine x_iret C0 E (by decide) (by decide) dX12_watcher_69 ?_
        rw [if_neg (by decide), if_neg (by decide), if_neg (by decide), if_neg (by decide), if_pos (by decide), if_pos (by rw [← mH 2 (by decide)]; exact g58)] at hp
        exact hp I1 q1
      · refine x_if_eq (tgt := 68) C0 (by decide) dX12_watcher_61 (fun _ => ?_) (fun hkk => absurd (by decide) hkk)
        refine x_iconst (v := nI 0) C0 rfl dX12_watcher_68 ?_
        refine x_iret C0 E (by decide) (by decide) dX12_watcher_69 ?_
        rw [if_neg (by decide), if_neg (by decide), if_neg (by decide), if_neg (by decide), if_pos (by decide), if_neg (by rw [← mH 2 (by decide)]; exact g58)] at hp
        exact hp I1 q1
  refine x_aload_n C0 rfl dX12_watcher_5 ?_
  refine x_iload_n C0 rfl dX12_watcher_6 ?_
  refine x_callV [_] C0 hN rfl (xRf_of hR (by decide) (Nat.zero_le _) (Nat.zero_le _)) mv_X12_isWatcher wm_X12_344 dX12_watcher_7 (isModel.k0 hM) rfl rfl (Nat.le_of_ble_eq_true rfl) (c_X12_isWatcher hM (fun g7 => ?_) (fun g7 => ?_))
  · refine x_if_eq (tgt := 22) C0 (by decide) dX12_watcher_10 (fun hkk => absurd hkk (by decide)) (fun _ => ?_)
    refine x_iload_n C0 rfl dX12_watcher_13 ?_
    refine x_iconst (v := nI 0) C0 rfl dX12_watcher_14 ?_
    refine x_iconst (v := nI 4) C0 rfl dX12_watcher_15 ?_
    refine x_callS [_, _, _] C0 (xRf_of hR (by decide) (Nat.zero_le _) (Nat.zero_le _)) ms_X12_within wm_X12_207 dX12_watcher_16 rfl rfl (Nat.le_of_ble_eq_true rfl) (c_X12_within  (fun g16 => ?_) (fun g16 => ?_))
    · refine x_if_ne (tgt := 24) C0 (by decide) dX12_watcher_19 (fun _ => ?_) (fun hkk => absurd hkk (by decide))
      obtain ⟨a, ha, ea⟩ := nI_ofi' eV (by omega) g7
      exact h24 a ha ea g16
    · refine x_if_ne (tgt := 24) C0 (by decide) dX12_watcher_19 (fun hkk => absurd (by decide) hkk) (fun _ => ?_)
      refine x_iconst (v := -1) C0 rfl dX12_watcher_22 ?_
      refine x_iret C0 E (by decide) (by decide) dX12_watcher_23 ?_
      rw [if_pos g7] at hp
      rw [if_neg (fun q => g16 (by rw [q]; decide)), if_neg (fun q => g16 (by rw [q]; decide)), if_neg (fun q => g16 (by rw [q]; decide)), if_neg (fun q => g16 (by rw [q]; decide)), if_neg (fun q => g16 (by rw [q]; decide))] at hp
      exact hp I1 q1
  · refine x_if_eq (tgt := 22) C0 (by decide) dX12_watcher_10 (fun _ => ?_) (fun hkk => absurd (by decide) hkk)
    refine x_iconst (v := -1) C0 rfl dX12_watcher_22 ?_
    refine x_iret C0 E (by decide) (by decide) dX12_watcher_23 ?_
    rw [if_neg g7] at hp
    exact hp I1 q1
