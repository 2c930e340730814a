/-! THE QUESTIONS: scene, takes, lone, fooled -/
def aScene (fl x : xRow) (i c : Int32) : Int32 := if 0 ≤ i ∧ i < fl 1 then (if c = 0 then sThing fl x i.toNatClampNeg else if c = 1 then sIs fl x i.toNatClampNeg else if c = 2 then x (4 + i.toNatClampNeg) else if c = 3 then x (12 + i.toNatClampNeg) else if c = 4 then (if xbit (x 3) i.toNatClampNeg then 1 else 0) else if c = 5 then (if i < x 0 then 1 else 0) else -2) else -2
theorem cl0 {fl x : xRow} {T N V k : Nat} (wl : WFl fl T N V) (wx : WFx x T N V) (hk : k < N) : cThing (sClaim fl x k) = sThing fl x k ∧ cIs (sClaim fl x k) = sIs fl x k := tOf_cl wl wx hk 0
theorem cl1 {fl x : xRow} {T N V k : Nat} (wl : WFl fl T N V) (wx : WFx x T N V) (hk : k < N) : cThing (2 * x (4 + k) + x (12 + k)) = x (4 + k) ∧ cIs (2 * x (4 + k) + x (12 + k)) = x (12 + k) := tOf_cl wl wx hk 1
theorem c_X11_scene {S : xTS} {R : xTR} {I : xTI} {J : xTJ} {post : xPost} {f T N V : Nat} {fl x : xRow} {lw : Option (List (Nat × Nat))} (hS : fixd S R) (hf : R 0 2 = some f) (C : FCore I f fl lw T N V x) {i c : Int32} (hp : ∀ I', FQ I I' → post (some (.int (aScene fl x i c))) S R I' J) : xSpec 4 yX11_scene cX11_scene 3 (some .int) 0 0 [.ref 0, .int i, .int c] S R I J post := by
  refine xSpec_of mt_X11_scene (Nat.le_of_ble_eq_true rfl) (fun G C0 hN hR E hI hZ => ?_)
  change XX G 0 0 0 [some (.ref 0), some (.int i), some (.int c)] [] S R I J
  obtain ⟨hfm, wl, rF, rH, wx⟩ := id C
  have hF := hS.film hfm
  have hH := hS.hall (q := 33) (by decide)
  have hT6 := wl.2.1
  have hN8 := wl.2.2.2.1
  have hV6 := wl.2.2.2.2.2.1
  have eT : I f 0 = nI T := rF.1.trans wl.1
  have eN : I f 1 = nI N := rF.2.1.trans wl.2.2.1
  have eV : I f 2 = nI V := rF.2.2.1.trans wl.2.2.2.2.1
  have hfh : ∀ i j, i < 9 → j < 4 → f + i ≠ 33 + j := fun i j hi hj => hf_apart 33 (by decide) f hfm i hi j hj
  obtain ⟨fs0, fs1, fs2, fs3, fs4, fs5, fs6, fs7, fs8, fr4, fr5, fr6, fr7, fr8, fr9, fr10, fr11⟩ := id hF
  obtain ⟨hs0, hs1, hs2, hs3, hr4, hr5, hr6⟩ := id hH
  unfold aScene at hp
  rw [← rF.2.1] at hp
  refine x_aload_n C0 rfl dX11_scene_0 ?_
  refine x_getR C0 wf_X11_26 (fixd.k0 hS) rfl rfl hf dX11_scene_1 ?_
  refine x_iload_n C0 rfl dX11_scene_4 ?_
  refine x_callV [_] C0 hN rfl (xRf_of hR (by decide) (Nat.zero_le _) (Nat.zero_le _)) mv_X2_hasScene wm_X11_120 dX11_scene_5 (by assumption) rfl rfl (Nat.le_of_ble_eq_true rfl) (c_X2_hasScene (by assumption) (fun g5 => ?_) (fun g5 => ?_))
  · refine x_if_ne (tgt := 14) C0 (by decide) dX11_scene_8 (fun _ => ?_) (fun hkk => absurd hkk (by decide))
    obtain ⟨a, ha, ea⟩ := nI_ofi' eN (by omega) g5
    rw [if_pos g5] at hp
    subst ea
    rw [nI_clamp (by omega)] at hp
    have gok := g5
    clear g5
    refine x_iload_n C0 rfl dX11_scene_14 ?_
    by_cases g0 : c = 0
    · refine x_tabIn (tgt := 52) C0 (by rw [g0]; decide) (by rw [g0]; decide) (by rw [g0]; rfl) (by decide) dX11_scene_15 ?_
      refine x_aload_n C0 rfl dX11_scene_52 ?_
      refine x_getR C0 wf_X11_26 (fixd.k0 hS) rfl rfl hf dX11_scene_53 ?_
      refine x_aload_n C0 rfl dX11_scene_56 ?_
      refine x_getR C0 wf_X11_46 (fixd.k0 hS) rfl rfl (fixd.now hS) dX11_scene_57 ?_
      refine x_iload_n C0 rfl dX11_scene_60 ?_
      refine x_callV [_, _] C0 hN rfl (xRf_of hR (by decide) (Nat.zero_le _) (Nat.zero_le _)) mv_X2_saying wm_X11_124 dX11_scene_61 (by assumption) rfl rfl (Nat.le_of_ble_eq_true rfl) (c_sayV hF hH wl wx rF rH (by omega) ?_)
      refine x_callS [_] C0 (xRf_of hR (by decide) (Nat.zero_le _) (Nat.zero_le _)) ms_X11_thingOf wm_X11_128 dX11_scene_64 rfl rfl (Nat.le_of_ble_eq_true rfl) (c_X11_thingOf  ?_)
      refine x_iret C0 E (by decide) (by decide) dX11_scene_67 ?_
      rw [g0, if_pos (by decide)] at hp
      rw [(cl0 wl wx ha).1]
      exact hp I FQ.rf
    by_cases g1 : c = 1
    · refine x_tabIn (tgt := 68) C0 (by rw [g1]; decide) (by rw [g1]; decide) (by rw [g1]; rfl) (by decide) dX11_scene_15 ?_
      refine x_aload_n C0 rfl dX11_scene_68 ?_
      refine x_getR C0 wf_X11_26 (fixd.k0 hS) rfl rfl hf dX11_scene_69 ?_
      refine x_aload_n C0 rfl dX11_scene_72 ?_
      refine x_getR C0 wf_X11_46 (fixd.k0 hS) rfl rfl (fixd.now hS) dX11_scene_73 ?_
      refine x_iload_n C0 rfl dX11_scene_76 ?_
      refine x_callV [_, _] C0 hN rfl (xRf_of hR (by decide) (Nat.zero_le _) (Nat.zero_le _)) mv_X2_saying wm_X11_124 dX11_scene_77 (by assumption) rfl rfl (Nat.le_of_ble_eq_true rfl) (c_sayV hF hH wl wx rF rH (by omega) ?_)
      refine x_callS [_] C0 (xRf_of hR (by decide) (Nat.zero_le _) (Nat.zero_le _)) ms_X11_isOf wm_X11_132 dX11_scene_80 rfl rfl (Nat.le_of_ble_eq_true rfl) (c_X11_isOf  ?_)
      refine x_iret C0 E (by decide) (by decide) dX11_scene_83 ?_
      rw [g1, if_neg (by decide), if_pos (by decide)] at hp
      rw [(cl0 wl wx ha).2]
      exact hp I FQ.rf
    by_cases g2 : c = 2
    · refine x_tabIn (tgt := 84) C0 (by rw [g2]; decide) (by rw [g2]; decide) (by rw [g2]; rfl) (by decide) dX11_scene_15 ?_
      refine x_aload_n C0 rfl dX11_scene_84 ?_
      refine x_getR C0 wf_X11_46 (fixd.k0 hS) rfl rfl (fixd.now hS) dX11_scene_85 ?_
      refine x_iload_n C0 rfl dX11_scene_88 ?_
      refine x_callV [_] C0 hN rfl (xRf_of hR (by decide) (Nat.zero_le _) (Nat.zero_le _)) mv_X3_writing wm_X11_135 dX11_scene_89 (by assumption) rfl rfl (Nat.le_of_ble_eq_true rfl) (c_X3_writing hH (by omega) ?_)
      refine x_callS [_] C0 (xRf_of hR (by decide) (Nat.zero_le _) (Nat.zero_le _)) ms_X11_thingOf wm_X11_128 dX11_scene_92 rfl rfl (Nat.le_of_ble_eq_true rfl) (c_X11_thingOf  ?_)
      refine x_iret C0 E (by decide) (by decide) dX11_scene_95 ?_
      rw [g2, if_neg (by decide), if_neg (by decide), if_pos (by decide)] at hp
      rw [rH.2.2.2.2.1 a ha, (cl1 wl wx ha).1]
      exact hp I FQ.rf
    by_cases g3 : c = 3
    · refine x_tabIn (tgt := 96) C0 (by rw [g3]; decide) (by rw [g3]; decide) (by rw [g3]; rfl) (by decide) dX11_scene_15 ?_
      refine x_aload_n C0 rfl dX11_scene_96 ?_
      refine x_getR C0 wf_X11_46 (fixd.k0 hS) rfl rfl (fixd.now hS) dX11_scene_97 ?_
      refine x_iload_n C0 rfl dX11_scene_100 ?_
      refine x_callV [_] C0 hN rfl (xRf_of hR (by decide) (Nat.zero_le _) (Nat.zero_le _)) mv_X3_writing wm_X11_135 dX11_scene_101 (by assumption) rfl rfl (Nat.le_of_ble_eq_true rfl) (c_X3_writing hH (by omega) ?_)
      refine x_callS [_] C0 (xRf_of hR (by decide) (Nat.zero_le _) (Nat.zero_le _)) ms_X11_isOf wm_X11_132 dX11_scene_104 rfl rfl (Nat.le_of_ble_eq_true rfl) (c_X11_isOf  ?_)
      refine x_iret C0 E (by decide) (by decide) dX11_scene_107 ?_
      rw [g3, if_neg (by decide), if_neg (by decide), if_neg (by decide), if_pos (by decide)] at hp
      rw [rH.2.2.2.2.1 a ha, (cl1 wl wx ha).2]
      exact hp I FQ.rf
    by_cases g4 : c = 4
    · refine x_tabIn (tgt := 108) C0 (by rw [g4]; decide) (by rw [g4]; decide) (by rw [g4]; rfl) (by decide) dX11_scene_15 ?_
      refine x_aload_n C0 rfl dX11_scene_108 ?_
      refine x_getR C0 wf_X11_46 (fixd.k0 hS) rfl rfl (fixd.now hS) dX11_scene_109 ?_
      refine x_iload_n C0 rfl dX11_scene_112 ?_
      refine x_callV [_] C0 hN rfl (xRf_of hR (by decide) (Nat.zero_le _) (Nat.zero_le _)) mv_X3_isCut wm_X11_138 dX11_scene_113 (by assumption) rfl rfl (Nat.le_of_ble_eq_true rfl) (c_X3_isCut hH (fun g113 => ?_) (fun g113 => ?_))
      · refine x_if_eq (tgt := 123) C0 (by decide) dX11_scene_116 (fun hkk => absurd hkk (by decide)) (fun _ => ?_)
        refine x_iconst (v := 1) C0 rfl dX11_scene_119 ?_
        refine x_goto (tgt := 124) C0 (by decide) dX11_scene_120 ?_
        refine x_iret C0 E (by decide) (by decide) dX11_scene_124 ?_
        rw [g4, if_neg (by decide), if_neg (by decide), if_neg (by decide), if_neg (by decide), if_pos (by decide)] at hp
        rw [if_pos (by rw [← rH.2.2.2.1]; exact g113)] at hp
        exact hp I FQ.rf
      · refine x_if_eq (tgt := 123) C0 (by decide) dX11_scene_116 (fun _ => ?_) (fun hkk => absurd (by decide) hkk)
        refine x_iconst (v := 0) C0 rfl dX11_scene_123 ?_
        refine x_iret C0 E (by decide) (by decide) dX11_scene_124 ?_
        rw [g4, if_neg (by decide), if_neg (by decide), if_neg (by decide), if_neg (by decide), if_pos (by decide)] at hp
        rw [if_neg (by rw [← rH.2.2.2.1]; exact g113)] at hp
        exact hp I FQ.rf
    by_cases g5 : c = 5
    · refine x_tabIn (tgt := 125) C0 (by rw [g5]; decide) (by rw [g5]; decide) (by rw [g5]; rfl) (by decide) dX11_scene_15 ?_
      refine x_iload_n C0 rfl dX11_scene_125 ?_
      refine x_aload_n C0 rfl dX11_scene_126 ?_
      refine x_getR C0 wf_X11_46 (fixd.k0 hS) rfl rfl (fixd.now hS) dX11_scene_127 ?_
      refine x_getI C0 wf_X11_141 (by assumption) rfl dX11_scene_130 ?_
      refine x_icmp_ge (tgt := 140) C0 (by decide) dX11_scene_133 (fun g133 => ?_) (fun g133 => ?_)
      · refine x_iconst (v := 0) C0 rfl dX11_scene_140 ?_
        refine x_iret C0 E (by decide) (by decide) dX11_scene_141 ?_
        rw [g5, if_neg (by decide), if_neg (by decide), if_neg (by decide), if_neg (by decide), if_neg (by decide), if_pos (by decide)] at hp
        rw [if_neg (by rw [← rH.1]; exact i_nlt.mpr g133)] at hp
        exact hp I FQ.rf
      · refine x_iconst (v := 1) C0 rfl dX11_scene_136 ?_
        refine x_goto (tgt := 141) C0 (by decide) dX11_scene_137 ?_
        refine x_iret C0 E (by decide) (by decide) dX11_scene_141 ?_
        rw [g5, if_neg (by decide), if_neg (by decide), if_neg (by decide), if_neg (by decide), if_neg (by decide), if_pos (by decide)] at hp
        rw [if_pos (by rw [← rH.1]; exact (by first | exact g133 | exact i_nle.mp g133))] at hp
        exact hp I FQ.rf
    refine x_tabOut (tgt := 142) C0 (sw_out (n := 5) (by decide) (fun j hj => by rcases (show j = 0 ∨ j = 1 ∨ j = 2 ∨ j = 3 ∨ j = 4 ∨ j = 5 by omega) with rfl | rfl | rfl | rfl | rfl | rfl <;> assumption)) (by decide) dX11_scene_15 ?_
    refine x_bipush (v := -2) C0 rfl dX11_scene_142 ?_
    refine x_iret C0 E (by decide) (by decide) dX11_scene_144 ?_
    rw [if_neg g0, if_neg g1, if_neg g2, if_neg g3, if_neg g4, if_neg g5] at hp
    exact hp I FQ.rf
  · refine x_if_ne (tgt := 14) C0 (by decide) dX11_scene_8 (fun hkk => absurd (by decide) hkk) (fun _ => ?_)
    refine x_bipush (v := -2) C0 rfl dX11_scene_11 ?_
    refine x_iret C0 E (by decide) (by decide) dX11_scene_13 ?_
    rw [if_neg g5] at hp
    exact hp I FQ.rf
theorem c_X12_scene {S : xTS} {R : xTR} {I : xTI} {J : xTJ} {post : xPost} {T N V : Nat} {fl x : xRow} {lw : Option (List (Nat × Nat))} (hM : isModel S R) (C : MCore I fl lw T N V x) {i c : Int32} (hp : ∀ I', MQs I I' → post (some (.int (aScene fl x i c))) S R I' J) : xSpec 4 yX12_scene cX12_scene 3 (some .int) 0 0 [.ref 135, .int i, .int c] S R I J post := by
  refine xSpec_of mt_X12_scene (Nat.le_of_ble_eq_true rfl) (fun G C0 hN hR E hI hZ => ?_)
  change XX G 0 0 0 [some (.ref 135), some (.int i), some (.int c)] [] S R I J
  refine x_aload_n C0 rfl dX12_scene_0 ?_
  refine x_iconst (v := nI 0) C0 rfl dX12_scene_1 ?_
  refine x_putI C0 wf_X12_1 (isModel.k0 hM) rfl dX12_scene_2 ?_
  have q1 := MQs.thrown (I := I) (v := nI 0)
  have C := C.mq q1
  generalize u2 I 135 0 (nI 0) = I1 at q1 C ⊢
  obtain ⟨wl, mF, mL, mH, wx⟩ := id C
  have hT6 := wl.2.1
  have hN8 := wl.2.2.2.1
  have hV6 := wl.2.2.2.2.2.1
  have eT : I1 141 0 = nI T := (mF 0 (by decide)).trans wl.1
  have eN : I1 141 1 = nI N := (mF 1 (by decide)).trans wl.2.2.1
  have eV : I1 141 2 = nI V := (mF 2 (by decide)).trans wl.2.2.2.2.1
  have hb0 : 0 ≤ 2192 := by decide
  unfold aScene at hp
  rw [← mF 1 (by decide)] at hp
  have hcase : 0 ≤ c ∧ c ≤ nI 5 → ¬ c = nI 0 → ¬ c = nI 1 → ¬ c = nI 2 → ¬ c = nI 3 → ¬ c = nI 4 → c = nI 5 := fun h g0 g1 g2 g3 g4 => by
    obtain ⟨k, hk, rfl⟩ := nI_ofi (n := 6) (by decide) h.1 (by have := h.2; rw [Int32.le_iff_toInt_le, show (nI 5).toInt = 5 from rfl] at this; rw [Int32.lt_iff_toInt_lt, show (nI 6).toInt = 6 from rfl]; omega)
    rcases (show k = 0 ∨ k = 1 ∨ k = 2 ∨ k = 3 ∨ k = 4 ∨ k = 5 by omega) with rfl | rfl | rfl | rfl | rfl | rfl <;> first | rfl | contradiction
  refine x_aload_n C0 rfl dX12_scene_5 ?_
  refine x_iload_n C0 rfl dX12_scene_6 ?_
  refine x_callV [_] C0 hN rfl (xRf_of hR (by decide) (Nat.zero_le _) (Nat.zero_le _)) mv_X12_isScene wm_X12_341 dX12_scene_7 (isModel.k0 hM) rfl rfl (Nat.le_of_ble_eq_true rfl) (c_X12_isScene hM (fun g7 => ?_) (fun g7 => ?_))
  · refine x_if_eq (tgt := 22) C0 (by decide) dX12_scene_10 (fun hkk => absurd hkk (by decide)) (fun _ => ?_)
    refine x_iload_n C0 rfl dX12_scene_13 ?_
    refine x_iconst (v := nI 0) C0 rfl dX12_scene_14 ?_
    refine x_iconst (v := nI 5) C0 rfl dX12_scene_15 ?_
    refine x_callS [_, _, _] C0 (xRf_of hR (by decide) (Nat.zero_le _) (Nat.zero_le _)) ms_X12_within wm_X12_207 dX12_scene_16 rfl rfl (Nat.le_of_ble_eq_true rfl) (c_X12_within  (fun g16 => ?_) (fun g16 => ?_))
    · refine x_if_ne (tgt := 25) C0 (by decide) dX12_scene_19 (fun _ => ?_) (fun hkk => absurd hkk (by decide))
      obtain ⟨a, ha, ea⟩ := nI_ofi' eN (by omega) g7
      rw [if_pos g7] at hp
      subst ea
      rw [nI_clamp (by omega)] at hp
      refine x_iload_n C0 rfl dX12_scene_25 ?_
      by_cases g0 : c = 0
      · refine x_tabIn (tgt := 60) C0 (by rw [g0]; decide) (by rw [g0]; decide) (by rw [g0]; rfl) (by decide) dX12_scene_26 ?_
        refine x_aload_n C0 rfl dX12_scene_60 ?_
        refine x_iconst (v := nI 0) C0 rfl dX12_scene_61 ?_
        refine x_iload_n C0 rfl dX12_scene_62 ?_
        refine x_callV [_, _] C0 hN rfl (xRf_of hR (by decide) (Nat.zero_le _) (Nat.zero_le _)) mv_X12_saidThing wm_X12_304 dX12_scene_63 (isModel.k0 hM) rfl rfl (Nat.le_of_ble_eq_true rfl) (c_X12_saidThing hM hb0 (by omega) mF mH ?_)
        refine x_iret C0 E (by decide) (by decide) dX12_scene_66 ?_
        rw [g0, if_pos (by decide)] at hp
        exact hp I1 q1
      by_cases g1 : c = 1
      · refine x_tabIn (tgt := 67) C0 (by rw [g1]; decide) (by rw [g1]; decide) (by rw [g1]; rfl) (by decide) dX12_scene_26 ?_
        refine x_aload_n C0 rfl dX12_scene_67 ?_
        refine x_iconst (v := nI 0) C0 rfl dX12_scene_68 ?_
        refine x_iload_n C0 rfl dX12_scene_69 ?_
        refine x_callV [_, _] C0 hN rfl (xRf_of hR (by decide) (Nat.zero_le _) (Nat.zero_le _)) mv_X12_saidIs wm_X12_307 dX12_scene_70 (isModel.k0 hM) rfl rfl (Nat.le_of_ble_eq_true rfl) (c_X12_saidIs hM hb0 (by omega) mF mH ?_)
        refine x_iret C0 E (by decide) (by decide) dX12_scene_73 ?_
        rw [g1, if_neg (by decide), if_pos (by decide)] at hp
        exact hp I1 q1
      by_cases g2 : c = 2
      · refine x_tabIn (tgt := 74) C0 (by rw [g2]; decide) (by rw [g2]; decide) (by rw [g2]; rfl) (by decide) dX12_scene_26 ?_
        refine x_aload_n C0 rfl dX12_scene_74 ?_
        refine x_getR C0 wf_X12_119 (isModel.k0 hM) rfl rfl (isModel.r24 hM) dX12_scene_75 ?_
        refine x_iconst (v := nI 4) C0 rfl dX12_scene_78 ?_
        refine x_iload_n C0 rfl dX12_scene_79 ?_
        refine x_iaddN C0 dX12_scene_80 ?_
        refine x_ialoadN C0 (isModel.s24 hM) (by omega) (by omega) dX12_scene_81 ?_
        refine x_iret C0 E (by decide) (by decide) dX12_scene_82 ?_
        rw [g2, if_neg (by decide), if_neg (by decide), if_pos (by decide)] at hp
        rw [mH.at (i := 4 + a) (by omega) (by omega)]
        exact hp I1 q1
      by_cases g3 : c = 3
      · refine x_tabIn (tgt := 83) C0 (by rw [g3]; decide) (by rw [g3]; decide) (by rw [g3]; rfl) (by decide) dX12_scene_26 ?_
        refine x_aload_n C0 rfl dX12_scene_83 ?_
        refine x_getR C0 wf_X12_119 (isModel.k0 hM) rfl rfl (isModel.r24 hM) dX12_scene_84 ?_
        refine x_bipush (v := nI 12) C0 rfl dX12_scene_87 ?_
        refine x_iload_n C0 rfl dX12_scene_89 ?_
        refine x_iaddN C0 dX12_scene_90 ?_
        refine x_ialoadN C0 (isModel.s24 hM) (by omega) (by omega) dX12_scene_91 ?_
        refine x_iret C0 E (by decide) (by decide) dX12_scene_92 ?_
        rw [g3, if_neg (by decide), if_neg (by decide), if_neg (by decide), if_pos (by decide)] at hp
        rw [mH.at (i := 12 + a) (by omega) (by omega)]
        exact hp I1 q1
      by_cases g4 : c = 4
      · refine x_tabIn (tgt := 93) C0 (by rw [g4]; decide) (by rw [g4]; decide) (by rw [g4]; rfl) (by decide) dX12_scene_26 ?_
        refine x_aload_n C0 rfl dX12_scene_93 ?_
        refine x_iconst (v := nI 0) C0 rfl dX12_scene_94 ?_
        refine x_iload_n C0 rfl dX12_scene_95 ?_
        refine x_callV [_, _] C0 hN rfl (xRf_of hR (by decide) (Nat.zero_le _) (Nat.zero_le _)) mv_X12_isCut wm_X12_300 dX12_scene_96 (isModel.k0 hM) rfl rfl (Nat.le_of_ble_eq_true rfl) (c_X12_isCut hM hb0 (fun g96 => ?_) (fun g96 => ?_))
        · refine x_if_eq (tgt := 106) C0 (by decide) dX12_scene_99 (fun hkk => absurd hkk (by decide)) (fun _ => ?_)
          refine x_iconst (v := nI 1) C0 rfl dX12_scene_102 ?_
          refine x_goto (tgt := 107) C0 (by decide) dX12_scene_103 ?_
          refine x_iret C0 E (by decide) (by decide) dX12_scene_107 ?_
          rw [g4, if_neg (by decide), if_neg (by decide), if_neg (by decide), if_neg (by decide), if_pos (by decide)] at hp
          rw [if_pos (by rw [← mH 3 (by decide)]; exact g96)] at hp
          exact hp I1 q1
        · refine x_if_eq (tgt := 106) C0 (by decide) dX12_scene_99 (fun _ => ?_) (fun hkk => absurd (by decide) hkk)
          refine x_iconst (v := nI 0) C0 rfl dX12_scene_106 ?_
          refine x_iret C0 E (by decide) (by decide) dX12_scene_107 ?_
          rw [g4, if_neg (by decide), if_neg (by decide), if_neg (by decide), if_neg (by decide), if_pos (by decide)] at hp
          rw [if_neg (by rw [← mH 3 (by decide)]; exact g96)] at hp
          exact hp I1 q1
      refine x_tabOut (tgt := 108) C0 (sw_out (n := 4) (by decide) (fun j hj => by rcases (show j = 0 ∨ j = 1 ∨ j = 2 ∨ j = 3 ∨ j = 4 by omega) with rfl | rfl | rfl | rfl | rfl <;> assumption)) (by decide) dX12_scene_26 ?_
      refine x_iload_n C0 rfl dX12_scene_108 ?_
      refine x_aload_n C0 rfl dX12_scene_109 ?_
      refine x_getR C0 wf_X12_119 (isModel.k0 hM) rfl rfl (isModel.r24 hM) dX12_scene_110 ?_
      refine x_iconst (v := nI 0) C0 rfl dX12_scene_113 ?_
      refine x_ialoadN C0 (isModel.s24 hM) (by omega) (by omega) dX12_scene_114 ?_
      refine x_icmp_ge (tgt := 122) C0 (by decide) dX12_scene_115 (fun g115 => ?_) (fun g115 => ?_)
      · refine x_iconst (v := nI 0) C0 rfl dX12_scene_122 ?_
        refine x_iret C0 E (by decide) (by decide) dX12_scene_123 ?_
        have e5 := hcase g16 g0 g1 g2 g3 g4
        rw [e5, if_neg (by decide), if_neg (by decide), if_neg (by decide), if_neg (by decide), if_neg (by decide), if_pos (by decide), if_neg (by rw [← mH 0 (by decide)]; exact i_nlt.mpr g115)] at hp
        exact hp I1 q1
      · refine x_iconst (v := nI 1) C0 rfl dX12_scene_118 ?_
        refine x_goto (tgt := 123) C0 (by decide) dX12_scene_119 ?_
        refine x_iret C0 E (by decide) (by decide) dX12_scene_123 ?_
        have e5 := hcase g16 g0 g1 g2 g3 g4
        rw [e5, if_neg (by decide), if_neg (by decide), if_neg (by decide), if_neg (by decide), if_neg (by decide), if_pos (by decide), if_pos (by rw [← mH 0 (by decide)]; exact (by first | exact g115 | exact i_nle.mp g115))] at hp
        exact hp I1 q1
    · refine x_if_ne (tgt := 25) C0 (by decide) dX12_scene_19 (fun hkk => absurd (by decide) hkk) (fun _ => ?_)
      refine x_bipush (v := -2) C0 rfl dX12_scene_22 ?_
      refine x_iret C0 E (by decide) (by decide) dX12_scene_24 ?_
      rw [if_pos g7] at hp
      rw [if_neg (fun q => g16 (by rw [q]; decide)), if_neg (fun q => g16 (by rw [q]; decide)), if_neg (fun q => g16 (by rw [q]; decide)), if_neg (fun q => g16 (by rw [q]; decide)), if_neg (fun q => g16 (by rw [q]; decide)), if_neg (fun q => g16 (by rw [q]; decide))] at hp
      exact hp I1 q1
  · refine x_if_eq (tgt := 22) C0 (by decide) dX12_scene_10 (fun _ => ?_) (fun hkk => absurd (by decide) hkk)
    refine x_bipush (v := -2) C0 rfl dX12_scene_22 ?_
    refine x_iret C0 E (by decide) (by decide) dX12_scene_24 ?_
    rw [if_neg g7] at hp
    exact hp I1 q1
def aTakes (fl x : xRow) (i j : Int32) : Int32 := if (0 ≤ i ∧ i < fl 2) ∧ (0 ≤ j ∧ j < fl 1) then (if sTakes fl x i.toNatClampNeg j.toNatClampNeg then 2 * sT fl x i.toNatClampNeg j.toNatClampNeg + sB fl x i.toNatClampNeg j.toNatClampNeg else -1) else -2
theorem hd_of {fl x : xRow} {T N V k : Nat} (wl : WFl fl T N V) (wx : WFx x T N V) (hk : k < N) : (xbit (x 3) k ∧ sClaim fl x k = -1) ∨ (¬ xbit (x 3) k ∧ ∃ t b, t < T ∧ b < 2 ∧ sThing fl x k = nI t ∧ sIs fl x k = nI b ∧ sClaim fl x k = nI (2 * t + b)) := by
  by_cases h : xbit (x 3) k
  · exact Or.inl ⟨h, by unfold sClaim; rw [if_pos h]⟩
  · obtain ⟨t2, b2, ht2, hb2, e3, e4⟩ := sIs_two wl wx hk h
    exact Or.inr ⟨h, t2, b2, ht2, hb2, e3, e4, by unfold sClaim; rw [if_neg h, e3, e4, two_nI']⟩
theorem c_taken {fl x : xRow} {T N V k w : Nat} (wl : WFl fl T N V) (wx : WFx x T N V) (hk : k < N) (hw : w < V) : (sTakes fl x w k → ∃ t b, t < T ∧ b < 2 ∧ sT fl x w k = nI t ∧ sB fl x w k = nI b ∧ cTaken (fl (37 + 3 * w)) (fl (38 + 3 * w)) (sClaim fl x k) (2 * x (4 + k) + x (12 + k)) = nI (2 * t + b)) ∧ (¬ sTakes fl x w k → cTaken (fl (37 + 3 * w)) (fl (38 + 3 * w)) (sClaim fl x k) (2 * x (4 + k) + x (12 + k)) = -1) := by
  obtain ⟨t, b, ht, hb, e1, e2⟩ := wx.2.2.2.1 k hk
  exact taken_spec wl wx hk hw (hd_of wl wx hk) ht hb e1 e2 (by rw [e1, e2, two_nI'])
theorem c_takenV {S : xTS} {R : xTR} {I : xTI} {J : xTJ} {post : xPost} {f T N V w k : Nat} {fl x : xRow} {dq : xDq} {rd : Int32} (hF : isFilm S R f) (wl : WFl fl T N V) (wx : WFx x T N V) (rF : RFilm I f fl dq N V) (hk : k < N) (hw : w < V) (hrd : rd = 2 * x (4 + k) + x (12 + k))
    (h1 : ∀ t b, sTakes fl x w k → t < T → b < 2 → sT fl x w k = nI t → sB fl x w k = nI b → post (some (.int (nI (2 * t + b)))) S R I J) (h0 : ¬ sTakes fl x w k → post (some (.int (-1))) S R I J) : xSpec 2 yX2_taken cX2_taken 4 (some .int) 0 0 [.ref f, .int (nI w), .int (sClaim fl x k), .int rd] S R I J post := by
  have hV6 := wl.2.2.2.2.2.1
  obtain ⟨kd, tw, wk, hkd, -, -, f1, -, -⟩ := wl.2.2.2.2.2.2.2.2.2 w hw
  have hq := rF.2.2.2.2.2.2.1 w hw
  refine c_X2_taken hF (by omega) hkd (hq.1.trans f1) ?_
  rw [hq.2.1, ← f1, hrd]
  have ct := c_taken wl wx hk hw
  by_cases h : sTakes fl x w k
  · obtain ⟨t, b, ht, hb, e1, e2, e3⟩ := ct.1 h
    rw [e3]
    exact h1 t b h ht hb e1 e2
  · rw [ct.2 h]
    exact h0 h
theorem c_X11_takes {S : xTS} {R : xTR} {I : xTI} {J : xTJ} {post : xPost} {f T N V : Nat} {fl x : xRow} {lw : Option (List (Nat × Nat))} (hS : fixd S R) (hf : R 0 2 = some f) (C : FCore I f fl lw T N V x) {i j : Int32} (hp : ∀ I', FQ I I' → post (some (.int (aTakes fl x i j))) S R I' J) : xSpec 4 yX11_takes cX11_takes 3 (some .int) 0 0 [.ref 0, .int i, .int j] S R I J post := by
  refine xSpec_of mt_X11_takes (Nat.le_of_ble_eq_true rfl) (fun G C0 hN hR E hI hZ => ?_)
  change XX G 0 0 0 [some (.ref 0), some (.int i), some (.int j)] [] S R I J
  obtain ⟨hfm, wl, rF, rH, wx⟩ := id C
  have hF := hS.film hfm
  have hH := hS.hall (q := 33) (by decide)
  have hT6 := wl.2.1
  have hN8 := wl.2.2.2.1
  have hV6 := wl.2.2.2.2.2.1
  have eT : I f 0 = nI T := rF.1.trans wl.1
  have eN : I f 1 = nI N := rF.2.1.trans wl.2.2.1
  have eV : I f 2 = nI V := rF.2.2.1.trans wl.2.2.2.2.1
  have hfh : ∀ i j, i < 9 → j < 4 → f + i ≠ 33 + j := fun i j hi hj => hf_apart 33 (by decide) f hfm i hi j hj
  obtain ⟨fs0, fs1, fs2, fs3, fs4, fs5, fs6, fs7, fs8, fr4, fr5, fr6, fr7, fr8, fr9, fr10, fr11⟩ := id hF
  obtain ⟨hs0, hs1, hs2, hs3, hr4, hr5, hr6⟩ := id hH
  unfold aTakes at hp
  rw [← rF.2.2.1, ← rF.2.1] at hp
  refine x_aload_n C0 rfl dX11_takes_0 ?_
  refine x_getR C0 wf_X11_26 (fixd.k0 hS) rfl rfl hf dX11_takes_1 ?_
  refine x_iload_n C0 rfl dX11_takes_4 ?_
  refine x_callV [_] C0 hN rfl (xRf_of hR (by decide) (Nat.zero_le _) (Nat.zero_le _)) mv_X2_hasWatcher wm_X11_144 dX11_takes_5 (by assumption) rfl rfl (Nat.le_of_ble_eq_true rfl) (c_X2_hasWatcher (by assumption) (fun g5 => ?_) (fun g5 => ?_))
  · refine x_if_eq (tgt := 22) C0 (by decide) dX11_takes_8 (fun hkk => absurd hkk (by decide)) (fun _ => ?_)
    refine x_aload_n C0 rfl dX11_takes_11 ?_
    refine x_getR C0 wf_X11_26 (fixd.k0 hS) rfl rfl hf dX11_takes_12 ?_
    refine x_iload_n C0 rfl dX11_takes_15 ?_
    refine x_callV [_] C0 hN rfl (xRf_of hR (by decide) (Nat.zero_le _) (Nat.zero_le _)) mv_X2_hasScene wm_X11_120 dX11_takes_16 (by assumption) rfl rfl (Nat.le_of_ble_eq_true rfl) (c_X2_hasScene (by assumption) (fun g16 => ?_) (fun g16 => ?_))
    · refine x_if_ne (tgt := 25) C0 (by decide) dX11_takes_19 (fun _ => ?_) (fun hkk => absurd hkk (by decide))
      obtain ⟨a, ha, ea⟩ := nI_ofi' eV (by omega) g5
      obtain ⟨b, hb, eb⟩ := nI_ofi' eN (by omega) g16
      rw [if_pos ⟨g5, g16⟩] at hp
      subst ea
      subst eb
      rw [nI_clamp (by omega), nI_clamp (by omega)] at hp
      refine x_aload_n C0 rfl dX11_takes_25 ?_
      refine x_getR C0 wf_X11_26 (fixd.k0 hS) rfl rfl hf dX11_takes_26 ?_
      refine x_iload_n C0 rfl dX11_takes_29 ?_
      refine x_aload_n C0 rfl dX11_takes_30 ?_
      refine x_getR C0 wf_X11_26 (fixd.k0 hS) rfl rfl hf dX11_takes_31 ?_
      refine x_aload_n C0 rfl dX11_takes_34 ?_
      refine x_getR C0 wf_X11_46 (fixd.k0 hS) rfl rfl (fixd.now hS) dX11_takes_35 ?_
      refine x_iload_n C0 rfl dX11_takes_38 ?_
      refine x_callV [_, _] C0 hN rfl (xRf_of hR (by decide) (Nat.zero_le _) (Nat.zero_le _)) mv_X2_saying wm_X11_124 dX11_takes_39 (by assumption) rfl rfl (Nat.le_of_ble_eq_true rfl) (c_sayV hF hH wl wx rF rH hb ?_)
      refine x_aload_n C0 rfl dX11_takes_42 ?_
      refine x_getR C0 wf_X11_46 (fixd.k0 hS) rfl rfl (fixd.now hS) dX11_takes_43 ?_
      refine x_iload_n C0 rfl dX11_takes_46 ?_
      refine x_callV [_] C0 hN rfl (xRf_of hR (by decide) (Nat.zero_le _) (Nat.zero_le _)) mv_X3_writing wm_X11_135 dX11_takes_47 (by assumption) rfl rfl (Nat.le_of_ble_eq_true rfl) (c_X3_writing hH (by omega) ?_)
      refine x_callV [_, _, _] C0 hN rfl (xRf_of hR (by decide) (Nat.zero_le _) (Nat.zero_le _)) mv_X2_taken wm_X11_276 dX11_takes_50 (by assumption) rfl rfl (Nat.le_of_ble_eq_true rfl) (c_takenV hF wl wx rF hb ha (rH.2.2.2.2.1 b hb) (fun t c hk ht hc e1 e2 => ?_) (fun hk => ?_))
      · refine x_iret C0 E (by decide) (by decide) dX11_takes_53 ?_
        rw [if_pos hk, e1, e2, two_nI'] at hp
        exact hp I FQ.rf
      · refine x_iret C0 E (by decide) (by decide) dX11_takes_53 ?_
        rw [if_neg hk] at hp
        exact hp I FQ.rf
    · refine x_if_ne (tgt := 25) C0 (by decide) dX11_takes_19 (fun hkk => absurd (by decide) hkk) (fun _ => ?_)
      refine x_bipush (v := -2) C0 rfl dX11_takes_22 ?_
      refine x_iret C0 E (by decide) (by decide) dX11_takes_24 ?_
      rw [if_neg (fun q => g16 q.2)] at hp
      exact hp I FQ.rf
  · refine x_if_eq (tgt := 22) C0 (by decide) dX11_takes_8 (fun _ => ?_) (fun hkk => absurd (by decide) hkk)
    refine x_bipush (v := -2) C0 rfl dX11_takes_22 ?_
    refine x_iret C0 E (by decide) (by decide) dX11_takes_24 ?_
    rw [if_neg (fun q => g5 q.1)] at hp
    exact hp I FQ.rf
theorem c_X12_takes {S : xTS} {R : xTR} {I : xTI} {J : xTJ} {post : xPost} {T N V : Nat} {fl x : xRow} {lw : Option (List (Nat × Nat))} (hM : isModel S R) (C : MCore I fl lw T N V x) {i j : Int32} (hp : ∀ I', MQs I I' → post (some (.int (aTakes fl x i j))) S R I' J) : xSpec 5 yX12_takes cX12_takes 6 (some .int) 0 0 [.ref 135, .int i, .int j] S R I J post := by
  refine xSpec_of mt_X12_takes (Nat.le_of_ble_eq_true rfl) (fun G C0 hN hR E hI hZ => ?_)
  change XX G 0 0 0 [some (.ref 135), some (.int i), some (.int j), none, none, none] [] S R I J
  refine x_aload_n C0 rfl dX12_takes_0 ?_
  refine x_iconst (v := nI 0) C0 rfl dX12_takes_1 ?_
  refine x_putI C0 wf_X12_1 (isModel.k0 hM) rfl dX12_takes_2 ?_
  have q1 := MQs.thrown (I := I) (v := nI 0)
  have C := C.mq q1
  generalize u2 I 135 0 (nI 0) = I1 at q1 C ⊢
  obtain ⟨wl, mF, mL, mH, wx⟩ := id C
  have hT6 := wl.2.1
  have hN8 := wl.2.2.2.1
  have hV6 := wl.2.2.2.2.2.1
  have eT : I1 141 0 = nI T := (mF 0 (by decide)).trans wl.1
  have eN : I1 141 1 = nI N := (mF 1 (by decide)).trans wl.2.2.1
  have eV : I1 141 2 = nI V := (mF 2 (by decide)).trans wl.2.2.2.2.1
  have hb0 : 0 ≤ 2192 := by decide
  unfold aTakes at hp
  rw [← mF 2 (by decide), ← mF 1 (by decide)] at hp
  refine x_aload_n C0 rfl dX12_takes_5 ?_
  refine x_iload_n C0 rfl dX12_takes_6 ?_
  refine x_callV [_] C0 hN rfl (xRf_of hR (by decide) (Nat.zero_le _) (Nat.zero_le _)) mv_X12_isWatcher wm_X12_344 dX12_takes_7 (isModel.k0 hM) rfl rfl (Nat.le_of_ble_eq_true rfl) (c_X12_isWatcher hM (fun g5 => ?_) (fun g5 => ?_))
  · refine x_if_eq (tgt := 21) C0 (by decide) dX12_takes_10 (fun hkk => absurd hkk (by decide)) (fun _ => ?_)
    refine x_aload_n C0 rfl dX12_takes_13 ?_
    refine x_iload_n C0 rfl dX12_takes_14 ?_
    refine x_callV [_] C0 hN rfl (xRf_of hR (by decide) (Nat.zero_le _) (Nat.zero_le _)) mv_X12_isScene wm_X12_341 dX12_takes_15 (isModel.k0 hM) rfl rfl (Nat.le_of_ble_eq_true rfl) (c_X12_isScene hM (fun g16 => ?_) (fun g16 => ?_))
    · refine x_if_ne (tgt := 24) C0 (by decide) dX12_takes_18 (fun _ => ?_) (fun hkk => absurd hkk (by decide))
      obtain ⟨a, ha, ea⟩ := nI_ofi' eV (by omega) g5
      obtain ⟨b, hb, eb⟩ := nI_ofi' eN (by omega) g16
      rw [if_pos ⟨g5, g16⟩] at hp
      subst ea
      subst eb
      rw [nI_clamp (by omega), nI_clamp (by omega)] at hp
      refine x_aload_n C0 rfl dX12_takes_24 ?_
      refine x_iconst (v := nI 0) C0 rfl dX12_takes_25 ?_
      refine x_iload_n C0 rfl dX12_takes_26 ?_
      refine x_iload_n C0 rfl dX12_takes_27 ?_
      refine x_callV [_, _, _] C0 hN rfl (xRf_of hR (by decide) (Nat.zero_le _) (Nat.zero_le _)) mv_X12_doesRead wm_X12_313 dX12_takes_28 (isModel.k0 hM) rfl rfl (Nat.le_of_ble_eq_true rfl) (c_X12_doesRead hM hb0 (by omega) (by omega) mF mH (fun g28 => ?_) (fun g28 => ?_))
      · refine x_istore_n (L' := [_, _, _, _, _, _]) C0 hN (by decide) rfl dX12_takes_31 ?_
        refine x_iload_n C0 rfl dX12_takes_32 ?_
        refine x_if_eq (tgt := 47) C0 (by decide) dX12_takes_33 (fun hkk => absurd hkk (by decide)) (fun _ => ?_)
        refine x_aload_n C0 rfl dX12_takes_36 ?_
        refine x_getR C0 wf_X12_119 (isModel.k0 hM) rfl rfl (isModel.r24 hM) dX12_takes_37 ?_
        refine x_iconst (v := nI 4) C0 rfl dX12_takes_40 ?_
        refine x_iload_n C0 rfl dX12_takes_41 ?_
        refine x_iaddN C0 dX12_takes_42 ?_
        refine x_ialoadN C0 (isModel.s24 hM) (by omega) (by omega) dX12_takes_43 ?_
        refine x_goto (tgt := 53) C0 (by decide) dX12_takes_44 ?_
        refine x_istore (L' := [_, _, _, _, _, _]) C0 hN (by decide) rfl dX12_takes_53 ?_
        refine x_iload_n C0 rfl dX12_takes_55 ?_
        refine x_if_eq (tgt := 71) C0 (by decide) dX12_takes_56 (fun hkk => absurd hkk (by decide)) (fun _ => ?_)
        refine x_aload_n C0 rfl dX12_takes_59 ?_
        refine x_getR C0 wf_X12_119 (isModel.k0 hM) rfl rfl (isModel.r24 hM) dX12_takes_60 ?_
        refine x_bipush (v := nI 12) C0 rfl dX12_takes_63 ?_
        refine x_iload_n C0 rfl dX12_takes_65 ?_
        refine x_iaddN C0 dX12_takes_66 ?_
        refine x_ialoadN C0 (isModel.s24 hM) (by omega) (by omega) dX12_takes_67 ?_
        refine x_goto (tgt := 77) C0 (by decide) dX12_takes_68 ?_
        refine x_istore (L' := [_, _, _, _, _, _]) C0 hN (by decide) rfl dX12_takes_77 ?_
        refine x_aload_n C0 rfl dX12_takes_79 ?_
        refine x_iconst (v := nI 0) C0 rfl dX12_takes_80 ?_
        refine x_iload_n C0 rfl dX12_takes_81 ?_
        refine x_iload_n C0 rfl dX12_takes_82 ?_
        refine x_callV [_, _, _] C0 hN rfl (xRf_of hR (by decide) (Nat.zero_le _) (Nat.zero_le _)) mv_X12_doesTake wm_X12_322 dX12_takes_83 (isModel.k0 hM) rfl rfl (Nat.le_of_ble_eq_true rfl) (c_X12_doesTake hM hb0 (by omega) (by omega) mF mH (fun g83 => ?_) (fun g83 => ?_))
        · refine x_if_eq (tgt := 99) C0 (by decide) dX12_takes_86 (fun hkk => absurd hkk (by decide)) (fun _ => ?_)
          refine x_iconst (v := 2) C0 rfl dX12_takes_89 ?_
          refine x_iload C0 rfl dX12_takes_90 ?_
          refine x_imul C0 dX12_takes_92 ?_
          refine x_iload C0 rfl dX12_takes_93 ?_
          refine x_iadd C0 dX12_takes_95 ?_
          refine x_goto (tgt := 100) C0 (by decide) dX12_takes_96 ?_
          refine x_iret C0 E (by decide) (by decide) dX12_takes_100 ?_
          have e1 : sT fl x a b = x (4 + b) := by unfold sT; rw [if_pos g28]
          have e2 : sB fl x a b = x (12 + b) := by unfold sB; rw [if_pos g28]
          rw [if_pos g83, e1, e2] at hp
          rw [mH.at (i := 4 + b) (by omega) (by omega), mH.at (i := 12 + b) (by omega) (by omega)]
          exact hp I1 q1
        · refine x_if_eq (tgt := 99) C0 (by decide) dX12_takes_86 (fun _ => ?_) (fun hkk => absurd (by decide) hkk)
          refine x_iconst (v := -1) C0 rfl dX12_takes_99 ?_
          refine x_iret C0 E (by decide) (by decide) dX12_takes_100 ?_
          rw [if_neg g83] at hp
          exact hp I1 q1
      · refine x_istore_n (L' := [_, _, _, _, _, _]) C0 hN (by decide) rfl dX12_takes_31 ?_
        refine x_iload_n C0 rfl dX12_takes_32 ?_
        refine x_if_eq (tgt := 47) C0 (by decide) dX12_takes_33 (fun _ => ?_) (fun hkk => absurd (by decide) hkk)
        refine x_aload_n C0 rfl dX12_takes_47 ?_
        refine x_iconst (v := nI 0) C0 rfl dX12_takes_48 ?_
        refine x_iload_n C0 rfl dX12_takes_49 ?_
        refine x_callV [_, _] C0 hN rfl (xRf_of hR (by decide) (Nat.zero_le _) (Nat.zero_le _)) mv_X12_saidThing wm_X12_304 dX12_takes_50 (isModel.k0 hM) rfl rfl (Nat.le_of_ble_eq_true rfl) (c_X12_saidThing hM hb0 (by omega) mF mH ?_)
        refine x_istore (L' := [_, _, _, _, _, _]) C0 hN (by decide) rfl dX12_takes_53 ?_
        refine x_iload_n C0 rfl dX12_takes_55 ?_
        refine x_if_eq (tgt := 71) C0 (by decide) dX12_takes_56 (fun _ => ?_) (fun hkk => absurd (by decide) hkk)
        refine x_aload_n C0 rfl dX12_takes_71 ?_
        refine x_iconst (v := nI 0) C0 rfl dX12_takes_72 ?_
        refine x_iload_n C0 rfl dX12_takes_73 ?_
        refine x_callV [_, _] C0 hN rfl (xRf_of hR (by decide) (Nat.zero_le _) (Nat.zero_le _)) mv_X12_saidIs wm_X12_307 dX12_takes_74 (isModel.k0 hM) rfl rfl (Nat.le_of_ble_eq_true rfl) (c_X12_saidIs hM hb0 (by omega) mF mH ?_)
        refine x_istore (L' := [_, _, _, _, _, _]) C0 hN (by decide) rfl dX12_takes_77 ?_
        refine x_aload_n C0 rfl dX12_takes_79 ?_
        refine x_iconst (v := nI 0) C0 rfl dX12_takes_80 ?_
        refine x_iload_n C0 rfl dX12_takes_81 ?_
        refine x_iload_n C0 rfl dX12_takes_82 ?_
        refine x_callV [_, _, _] C0 hN rfl (xRf_of hR (by decide) (Nat.zero_le _) (Nat.zero_le _)) mv_X12_doesTake wm_X12_322 dX12_takes_83 (isModel.k0 hM) rfl rfl (Nat.le_of_ble_eq_true rfl) (c_X12_doesTake hM hb0 (by omega) (by omega) mF mH (fun g83 => ?_) (fun g83 => ?_))
        · refine x_if_eq (tgt := 99) C0 (by decide) dX12_takes_86 (fun hkk => absurd hkk (by decide)) (fun _ => ?_)
          refine x_iconst (v := 2) C0 rfl dX12_takes_89 ?_
          refine x_iload C0 rfl dX12_takes_90 ?_
          refine x_imul C0 dX12_takes_92 ?_
          refine x_iload C0 rfl dX12_takes_93 ?_
          refine x_iadd C0 dX12_takes_95 ?_
          refine x_goto (tgt := 100) C0 (by decide) dX12_takes_96 ?_
          refine x_iret C0 E (by decide) (by decide) dX12_takes_100 ?_
          have e1 : sT fl x a b = sThing fl x b := by unfold sT; rw [if_neg g28]
          have e2 : sB fl x a b = sIs fl x b := by unfold sB; rw [if_neg g28]
          rw [if_pos g83, e1, e2] at hp
          exact hp I1 q1
        · refine x_if_eq (tgt := 99) C0 (by decide) dX12_takes_86 (fun _ => ?_) (fun hkk => absurd (by decide) hkk)
          refine x_iconst (v := -1) C0 rfl dX12_takes_99 ?_
          refine x_iret C0 E (by decide) (by decide) dX12_takes_100 ?_
          rw [if_neg g83] at hp
          exact hp I1 q1
    · refine x_if_ne (tgt := 24) C0 (by decide) dX12_takes_18 (fun hkk => absurd (by decide) hkk) (fun _ => ?_)
      refine x_bipush (v := -2) C0 rfl dX12_takes_21 ?_
      refine x_iret C0 E (by decide) (by decide) dX12_takes_23 ?_
      rw [if_neg (fun q => g16 q.2)] at hp
      exact hp I1 q1
  · refine x_if_eq (tgt := 21) C0 (by decide) dX12_takes_10 (fun _ => ?_) (fun hkk => absurd (by decide) hkk)
    refine x_bipush (v := -2) C0 rfl dX12_takes_21 ?_
    refine x_iret C0 E (by decide) (by decide) dX12_takes_23 ?_
    rw [if_neg (fun q => g5 q.1)] at hp
    exact hp I1 q1
def aFooled (fl x : xRow) (V N : Nat) (i : Int32) : Int32 := if 0 ≤ i ∧ i < fl 0 then sSet (fun w => ¬ sLs fl x 0 i N = -1 ∧ xbit (x 2) w ∧ ¬ x (20 + 6 * w + i.toNatClampNeg) = -1 ∧ ¬ x (20 + 6 * w + i.toNatClampNeg) = sLs fl x 0 i N) V else -1
theorem three_other {a b : Int32} (ha : a = -1 ∨ a = 0 ∨ a = 1) (hb : b = -1 ∨ b = 0 ∨ b = 1) (h : ¬ b = -1) : a = 1 - b ↔ ¬ a = -1 ∧ ¬ a = b := by
  rcases ha with rfl | rfl | rfl <;> rcases hb with rfl | rfl | rfl <;> first | exact absurd rfl h | decide
theorem c_X11_fooled {S : xTS} {R : xTR} {I : xTI} {J : xTJ} {post : xPost} {f T N V : Nat} {fl x : xRow} {lw : Option (List (Nat × Nat))} (hS : fixd S R) (hf : R 0 2 = some f) (C : FCore I f fl lw T N V x) {i : Int32} (hp : ∀ I', FQ I I' → post (some (.int (aFooled fl x V N i))) S R I' J) : xSpec 6 yX11_fooled cX11_fooled 6 (some .int) 0 0 [.ref 0, .int i] S R I J post := by
  refine xSpec_of mt_X11_fooled (Nat.le_of_ble_eq_true rfl) (fun G C0 hN hR E hI hZ => ?_)
  change XX G 0 0 0 [some (.ref 0), some (.int i), none, none, none, none] [] S R I J
  obtain ⟨hfm, wl, rF, rH, wx⟩ := id C
  have hF := hS.film hfm
  have hH := hS.hall (q := 33) (by decide)
  have hT6 := wl.2.1
  have hN8 := wl.2.2.2.1
  have hV6 := wl.2.2.2.2.2.1
  have eT : I f 0 = nI T := rF.1.trans wl.1
  have eN : I f 1 = nI N := rF.2.1.trans wl.2.2.1
  have eV : I f 2 = nI V := rF.2.2.1.trans wl.2.2.2.2.1
  have hfh : ∀ i j, i < 9 → j < 4 → f + i ≠ 33 + j := fun i j hi hj => hf_apart 33 (by decide) f hfm i hi j hj
  obtain ⟨fs0, fs1, fs2, fs3, fs4, fs5, fs6, fs7, fs8, fr4, fr5, fr6, fr7, fr8, fr9, fr10, fr11⟩ := id hF
  obtain ⟨hs0, hs1, hs2, hs3, hr4, hr5, hr6⟩ := id hH
  unfold aFooled at hp
  rw [← rF.1] at hp
  have h32 : ∀ a, a < T → ¬ sLs fl x 0 (nI a) N = -1 → (∀ I', FQ I I' → post (some (.int (sSet (fun w => ¬ sLs fl x 0 (nI a) N = -1 ∧ xbit (x 2) w ∧ ¬ x (20 + 6 * w + a) = -1 ∧ ¬ x (20 + 6 * w + a) = sLs fl x 0 (nI a) N) V))) S R I' J) → XX G 0 0 32 [some (.ref 0), some (.int (nI a)), some (.int (sLs fl x 0 (nI a) N)), some (.int 0), some (.int 0), none] [] S R I J := by
    intro a ha hL hp
    have hloop : ∀ n t v5, t + n = V → XX G 0 0 32 [some (.ref 0), some (.int (nI a)), some (.int (sLs fl x 0 (nI a) N)), some (.int (sSet (fun w => ¬ sLs fl x 0 (nI a) N = -1 ∧ xbit (x 2) w ∧ ¬ x (20 + 6 * w + a) = -1 ∧ ¬ x (20 + 6 * w + a) = sLs fl x 0 (nI a) N) t)), some (.int (nI t)), v5] [] S R I J := by
      intro n
      induction n with
      | zero =>
        intro t v5 hn9
        have hn8 : t = V := by omega
        refine x_iload C0 rfl dX11_fooled_32 ?_
        refine x_aload_n C0 rfl dX11_fooled_34 ?_
        refine x_getR C0 wf_X11_26 (fixd.k0 hS) rfl rfl hf dX11_fooled_35 ?_
        refine x_getI C0 wf_X11_289 (by assumption) rfl dX11_fooled_38 ?_
        refine x_topi eV ?_
        refine x_icmp_ge (tgt := 93) C0 (by decide) dX11_fooled_41 (fun _ => ?_) (fun hkk => absurd ((by rw [hn8]; exact Int32.le_refl _)) hkk)
        refine x_iload_n C0 rfl dX11_fooled_93 ?_
        refine x_iret C0 E (by decide) (by decide) dX11_fooled_94 ?_
        subst hn8
        exact hp I FQ.rf
      | succ n ih =>
        intro t v5 hn9
        refine x_iload C0 rfl dX11_fooled_32 ?_
        refine x_aload_n C0 rfl dX11_fooled_34 ?_
        refine x_getR C0 wf_X11_26 (fixd.k0 hS) rfl rfl hf dX11_fooled_35 ?_
        refine x_getI C0 wf_X11_289 (by assumption) rfl dX11_fooled_38 ?_
        refine x_topi eV ?_
        refine x_icmp_ge (tgt := 93) C0 (by decide) dX11_fooled_41 (fun hkk => absurd hkk (nI_ge (by omega) (by omega))) (fun _ => ?_)
        refine x_aload_n C0 rfl dX11_fooled_44 ?_
        refine x_getR C0 wf_X11_46 (fixd.k0 hS) rfl rfl (fixd.now hS) dX11_fooled_45 ?_
        refine x_iload C0 rfl dX11_fooled_48 ?_
        refine x_iload_n C0 rfl dX11_fooled_50 ?_
        refine x_callV [_, _] C0 hN rfl (xRf_of hR (by decide) (Nat.zero_le _) (Nat.zero_le _)) mv_X3_thought wm_X11_172 dX11_fooled_51 (by assumption) rfl rfl (Nat.le_of_ble_eq_true rfl) (c_X3_thought hH (by omega) (by omega) ?_)
        refine x_topi (th_at rH (by omega) (by omega)) ?_
        refine x_istore (L' := [_, _, _, _, _, _]) C0 hN (by decide) rfl dX11_fooled_54 ?_
        refine x_aload_n C0 rfl dX11_fooled_56 ?_
        refine x_getR C0 wf_X11_46 (fixd.k0 hS) rfl rfl (fixd.now hS) dX11_fooled_57 ?_
        refine x_iload C0 rfl dX11_fooled_60 ?_
        refine x_callV [_] C0 hN rfl (xRf_of hR (by decide) (Nat.zero_le _) (Nat.zero_le _)) mv_X3_isIn wm_X11_165 dX11_fooled_62 (by assumption) rfl rfl (Nat.le_of_ble_eq_true rfl) (c_X3_isIn hH (fun g62 => ?_) (fun g62 => ?_))
        · refine x_if_eq (tgt := 87) C0 (by decide) dX11_fooled_65 (fun hkk => absurd hkk (by decide)) (fun _ => ?_)
          refine x_iload C0 rfl dX11_fooled_68 ?_
          refine x_iconst (v := -1) C0 rfl dX11_fooled_70 ?_
          refine x_icmp_eq (tgt := 87) C0 (by decide) dX11_fooled_71 (fun g71 => ?_) (fun g71 => ?_)
          · refine x_iinc (v := nI (t + 1)) (L' := [_, _, _, _, _, _]) C0 hN rfl (by decide) (nI_inc t) rfl dX11_fooled_87 ?_
            refine x_goto (tgt := 32) C0 (by decide) dX11_fooled_90 ?_
            have := fun v5 => ih (t + 1) v5 (by omega)
            rw [sSet_no (fun q => q.2.2.1 g71)] at this
            exact this _
          · refine x_iload C0 rfl dX11_fooled_74 ?_
            refine x_iload_n C0 rfl dX11_fooled_76 ?_
            refine x_icmp_eq (tgt := 87) C0 (by decide) dX11_fooled_77 (fun g77 => ?_) (fun g77 => ?_)
            · refine x_iinc (v := nI (t + 1)) (L' := [_, _, _, _, _, _]) C0 hN rfl (by decide) (nI_inc t) rfl dX11_fooled_87 ?_
              refine x_goto (tgt := 32) C0 (by decide) dX11_fooled_90 ?_
              have := fun v5 => ih (t + 1) v5 (by omega)
              rw [sSet_no (fun q => q.2.2.2 g77)] at this
              exact this _
            · refine x_iload_n C0 rfl dX11_fooled_80 ?_
              refine x_iconst (v := 1) C0 rfl dX11_fooled_81 ?_
              refine x_iload C0 rfl dX11_fooled_82 ?_
              refine x_ishl C0 dX11_fooled_84 ?_
              refine x_ior C0 dX11_fooled_85 ?_
              refine x_istore_n (L' := [_, _, _, _, _, _]) C0 hN (by decide) rfl dX11_fooled_86 ?_
              refine x_iinc (v := nI (t + 1)) (L' := [_, _, _, _, _, _]) C0 hN rfl (by decide) (nI_inc t) rfl dX11_fooled_87 ?_
              refine x_goto (tgt := 32) C0 (by decide) dX11_fooled_90 ?_
              have := fun v5 => ih (t + 1) v5 (by omega)
              rw [sSet_yes (And.intro hL (And.intro (by rw [← rH.2.2.1]; exact g62) (And.intro g71 g77)))] at this
              exact this _
        · refine x_if_eq (tgt := 87) C0 (by decide) dX11_fooled_65 (fun _ => ?_) (fun hkk => absurd (by decide) hkk)
          refine x_iinc (v := nI (t + 1)) (L' := [_, _, _, _, _, _]) C0 hN rfl (by decide) (nI_inc t) rfl dX11_fooled_87 ?_
          refine x_goto (tgt := 32) C0 (by decide) dX11_fooled_90 ?_
          have := fun v5 => ih (t + 1) v5 (by omega)
          rw [sSet_no (fun q => g62 (by rw [rH.2.2.1]; exact q.2.1))] at this
          exact this _
    exact hloop V 0 none (by omega)
  refine x_aload_n C0 rfl dX11_fooled_0 ?_
  refine x_getR C0 wf_X11_26 (fixd.k0 hS) rfl rfl hf dX11_fooled_1 ?_
  refine x_iload_n C0 rfl dX11_fooled_4 ?_
  refine x_callV [_] C0 hN rfl (xRf_of hR (by decide) (Nat.zero_le _) (Nat.zero_le _)) mv_X2_hasThing wm_X11_187 dX11_fooled_5 (by assumption) rfl rfl (Nat.le_of_ble_eq_true rfl) (c_X2_hasThing (by assumption) (fun g0 => ?_) (fun g0 => ?_))
  · refine x_if_ne (tgt := 13) C0 (by decide) dX11_fooled_8 (fun _ => ?_) (fun hkk => absurd hkk (by decide))
    obtain ⟨a, ha, ea⟩ := nI_ofi' eT (by omega) g0
    rw [if_pos g0] at hp
    subst ea
    rw [nI_clamp (by omega)] at hp
    refine x_aload_n C0 rfl dX11_fooled_13 ?_
    refine x_iload_n C0 rfl dX11_fooled_14 ?_
    refine x_iconst (v := 0) C0 rfl dX11_fooled_15 ?_
    refine x_callV [_, _] C0 hN rfl (xRf_of hR (by decide) (Nat.zero_le _) (Nat.zero_le _)) mv_X11_last wm_X11_286 dX11_fooled_16 (fixd.k0 hS) rfl rfl (Nat.le_of_ble_eq_true rfl) (c_X11_last hS hf C ?_)
    refine x_istore_n (L' := [_, _, _, _, _, _]) C0 hN (by decide) rfl dX11_fooled_19 ?_
    refine x_iload_n C0 rfl dX11_fooled_20 ?_
    refine x_iconst (v := -1) C0 rfl dX11_fooled_21 ?_
    refine x_icmp_ne (tgt := 27) C0 (by decide) dX11_fooled_22 (fun g22 => ?_) (fun g22 => ?_)
    · refine x_iconst (v := 0) C0 rfl dX11_fooled_27 ?_
      refine x_istore_n (L' := [_, _, _, _, _, _]) C0 hN (by decide) rfl dX11_fooled_28 ?_
      refine x_iconst (v := 0) C0 rfl dX11_fooled_29 ?_
      refine x_istore (L' := [_, _, _, _, _, _]) C0 hN (by decide) rfl dX11_fooled_30 ?_
      exact h32 a ha g22 hp
    · refine x_iconst (v := 0) C0 rfl dX11_fooled_25 ?_
      refine x_iret C0 E (by decide) (by decide) dX11_fooled_26 ?_
      rw [sSet_none V (fun k _ q => q.1 (by first | exact g22 | exact Classical.not_not.mp g22))] at hp
      exact hp I FQ.rf
  · refine x_if_ne (tgt := 13) C0 (by decide) dX11_fooled_8 (fun hkk => absurd (by decide) hkk) (fun _ => ?_)
    refine x_iconst (v := -1) C0 rfl dX11_fooled_11 ?_
    refine x_iret C0 E (by decide) (by decide) dX11_fooled_12 ?_
    rw [if_neg g0] at hp
    exact hp I FQ.rf
theorem c_X12_fooled {S : xTS} {R : xTR} {I : xTI} {J : xTJ} {post : xPost} {T N V : Nat} {fl x : xRow} {lw : Option (List (Nat × Nat))} (hM : isModel S R) (C : MCore I fl lw T N V x) {i : Int32} (hp : ∀ I', MQs I I' → post (some (.int (aFooled fl x V N i))) S R I' J) : xSpec 5 yX12_fooled cX12_fooled 5 (some .int) 0 0 [.ref 135, .int i] S R I J post := by
  refine xSpec_of mt_X12_fooled (Nat.le_of_ble_eq_true rfl) (fun G C0 hN hR E hI hZ => ?_)
  change XX G 0 0 0 [some (.ref 135), some (.int i), none, none, none] [] S R I J
  refine x_aload_n C0 rfl dX12_fooled_0 ?_
  refine x_iconst (v := nI 0) C0 rfl dX12_fooled_1 ?_
  refine x_putI C0 wf_X12_1 (isModel.k0 hM) rfl dX12_fooled_2 ?_
  have q1 := MQs.thrown (I := I) (v := nI 0)
  have C := C.mq q1
  generalize u2 I 135 0 (nI 0) = I1 at q1 C ⊢
  obtain ⟨wl, mF, mL, mH, wx⟩ := id C
  have hT6 := wl.2.1
  have hN8 := wl.2.2.2.1
  have hV6 := wl.2.2.2.2.2.1
  have eT : I1 141 0 = nI T := (mF 0 (by decide)).trans wl.1
  have eN : I1 141 1 = nI N := (mF 1 (by decide)).trans wl.2.2.1
  have eV : I1 141 2 = nI V := (mF 2 (by decide)).trans wl.2.2.2.2.1
  have hb0 : 0 ≤ 2192 := by decide
  unfold aFooled at hp
  rw [← mF 0 (by decide)] at hp
  have h26 : ∀ a, a < T → (∀ I', MQs I I' → post (some (.int (sSet (fun w => ¬ sLs fl x 0 (nI a) N = -1 ∧ xbit (x 2) w ∧ ¬ x (20 + 6 * w + a) = -1 ∧ ¬ x (20 + 6 * w + a) = sLs fl x 0 (nI a) N) V))) S R I' J) → XX G 0 0 26 [some (.ref 135), some (.int (nI a)), some (.int (sLs fl x 0 (nI a) N)), some (.int (nI 0)), some (.int (nI 0))] [] S R I1 J := by
    intro a ha hp
    have h3 := sLs_three wl wx (c := 0) ha N (Nat.le_refl N)
    have hloop : ∀ n t, t + n = V → XX G 0 0 26 [some (.ref 135), some (.int (nI a)), some (.int (sLs fl x 0 (nI a) N)), some (.int (sSet (fun w => ¬ sLs fl x 0 (nI a) N = -1 ∧ xbit (x 2) w ∧ ¬ x (20 + 6 * w + a) = -1 ∧ ¬ x (20 + 6 * w + a) = sLs fl x 0 (nI a) N) t)), some (.int (nI t))] [] S R I1 J := by
      intro n
      induction n with
      | zero =>
        intro t hn9
        have hn8 : t = V := by omega
        refine x_iload C0 rfl dX12_fooled_26 ?_
        refine x_aload_n C0 rfl dX12_fooled_28 ?_
        refine x_callV [] C0 hN rfl (xRf_of hR (by decide) (Nat.zero_le _) (Nat.zero_le _)) mv_X12_watchers wm_X12_282 dX12_fooled_29 (isModel.k0 hM) rfl rfl (Nat.le_of_ble_eq_true rfl) (c_X12_watchers hM ?_)
        refine x_topi eV ?_
        refine x_icmp_ge (tgt := 80) C0 (by decide) dX12_fooled_32 (fun _ => ?_) (fun hkk => absurd ((by rw [hn8]; exact Int32.le_refl _)) hkk)
        refine x_iload_n C0 rfl dX12_fooled_80 ?_
        refine x_iret C0 E (by decide) (by decide) dX12_fooled_81 ?_
        subst hn8
        exact hp I1 q1
      | succ n ih =>
        intro t hn9
        refine x_iload C0 rfl dX12_fooled_26 ?_
        refine x_aload_n C0 rfl dX12_fooled_28 ?_
        refine x_callV [] C0 hN rfl (xRf_of hR (by decide) (Nat.zero_le _) (Nat.zero_le _)) mv_X12_watchers wm_X12_282 dX12_fooled_29 (isModel.k0 hM) rfl rfl (Nat.le_of_ble_eq_true rfl) (c_X12_watchers hM ?_)
        refine x_topi eV ?_
        refine x_icmp_ge (tgt := 80) C0 (by decide) dX12_fooled_32 (fun hkk => absurd hkk (nI_ge (by omega) (by omega))) (fun _ => ?_)
        refine x_iload_n C0 rfl dX12_fooled_35 ?_
        refine x_iload_n C0 rfl dX12_fooled_36 ?_
        refine x_if_lt (tgt := 71) C0 (by decide) dX12_fooled_37 (fun g37 => ?_) (fun g37 => ?_)
        · refine x_iconst (v := 0) C0 rfl dX12_fooled_71 ?_
          refine x_ior C0 dX12_fooled_72 ?_
          refine x_istore_n (L' := [_, _, _, _, _]) C0 hN (by decide) rfl dX12_fooled_73 ?_
          refine x_iinc (v := nI (t + 1)) (L' := [_, _, _, _, _]) C0 hN rfl (by decide) (nI_inc t) rfl dX12_fooled_74 ?_
          refine x_goto (tgt := 26) C0 (by decide) dX12_fooled_77 ?_
          have := ih (t + 1) (by omega)
          rw [sSet_no (fun q => q.1 ((three_lt h3).mp g37))] at this
          rw [Int32.or_zero]
          exact this
        · refine x_aload_n C0 rfl dX12_fooled_40 ?_
          refine x_iconst (v := nI 0) C0 rfl dX12_fooled_41 ?_
          refine x_iload C0 rfl dX12_fooled_42 ?_
          refine x_callV [_, _] C0 hN rfl (xRf_of hR (by decide) (Nat.zero_le _) (Nat.zero_le _)) mv_X12_isIn wm_X12_319 dX12_fooled_44 (isModel.k0 hM) rfl rfl (Nat.le_of_ble_eq_true rfl) (c_X12_isIn hM hb0 (fun g44 => ?_) (fun g44 => ?_))
          · refine x_if_eq (tgt := 71) C0 (by decide) dX12_fooled_47 (fun hkk => absurd hkk (by decide)) (fun _ => ?_)
            refine x_aload_n C0 rfl dX12_fooled_50 ?_
            refine x_iconst (v := nI 0) C0 rfl dX12_fooled_51 ?_
            refine x_iload C0 rfl dX12_fooled_52 ?_
            refine x_iload_n C0 rfl dX12_fooled_54 ?_
            refine x_callV [_, _, _] C0 hN rfl (xRf_of hR (by decide) (Nat.zero_le _) (Nat.zero_le _)) mv_X12_thoughtOf wm_X12_325 dX12_fooled_55 (isModel.k0 hM) rfl rfl (Nat.le_of_ble_eq_true rfl) (c_X12_thoughtOf hM hb0 (by omega) (by omega) ?_)
            refine x_topi (mth_at mH (by omega) (by omega)) ?_
            refine x_iconst (v := 1) C0 rfl dX12_fooled_58 ?_
            refine x_iload_n C0 rfl dX12_fooled_59 ?_
            refine x_isub C0 dX12_fooled_60 ?_
            refine x_icmp_ne (tgt := 71) C0 (by decide) dX12_fooled_61 (fun g61 => ?_) (fun g61 => ?_)
            · refine x_iconst (v := 0) C0 rfl dX12_fooled_71 ?_
              refine x_ior C0 dX12_fooled_72 ?_
              refine x_istore_n (L' := [_, _, _, _, _]) C0 hN (by decide) rfl dX12_fooled_73 ?_
              refine x_iinc (v := nI (t + 1)) (L' := [_, _, _, _, _]) C0 hN rfl (by decide) (nI_inc t) rfl dX12_fooled_74 ?_
              refine x_goto (tgt := 26) C0 (by decide) dX12_fooled_77 ?_
              have := ih (t + 1) (by omega)
              rw [sSet_no (fun q => g61 ((three_other (th_three wx (w := t) (t := a) (by omega) (by omega)) h3 (three_ge h3 |>.mp (i_nlt.mp g37))).mpr q.2.2))] at this
              rw [Int32.or_zero]
              exact this
            · refine x_iconst (v := 1) C0 rfl dX12_fooled_64 ?_
              refine x_iload C0 rfl dX12_fooled_65 ?_
              refine x_ishl C0 dX12_fooled_67 ?_
              refine x_goto (tgt := 72) C0 (by decide) dX12_fooled_68 ?_
              refine x_ior C0 dX12_fooled_72 ?_
              refine x_istore_n (L' := [_, _, _, _, _]) C0 hN (by decide) rfl dX12_fooled_73 ?_
              refine x_iinc (v := nI (t + 1)) (L' := [_, _, _, _, _]) C0 hN rfl (by decide) (nI_inc t) rfl dX12_fooled_74 ?_
              refine x_goto (tgt := 26) C0 (by decide) dX12_fooled_77 ?_
              have := ih (t + 1) (by omega)
              rw [sSet_yes (And.intro (three_ge h3 |>.mp (i_nlt.mp g37)) (And.intro (by rw [← mH 2 (by decide)]; exact g44) ((three_other (th_three wx (w := t) (t := a) (by omega) (by omega)) h3 (three_ge h3 |>.mp (i_nlt.mp g37))).mp g61)))] at this
              exact this
          · refine x_if_eq (tgt := 71) C0 (by decide) dX12_fooled_47 (fun _ => ?_) (fun hkk => absurd (by decide) hkk)
            refine x_iconst (v := 0) C0 rfl dX12_fooled_71 ?_
            refine x_ior C0 dX12_fooled_72 ?_
            refine x_istore_n (L' := [_, _, _, _, _]) C0 hN (by decide) rfl dX12_fooled_73 ?_
            refine x_iinc (v := nI (t + 1)) (L' := [_, _, _, _, _]) C0 hN rfl (by decide) (nI_inc t) rfl dX12_fooled_74 ?_
            refine x_goto (tgt := 26) C0 (by decide) dX12_fooled_77 ?_
            have := ih (t + 1) (by omega)
            rw [sSet_no (fun q => g44 (by rw [mH 2 (by decide)]; exact q.2.1))] at this
            rw [Int32.or_zero]
            exact this
    exact hloop V 0 (by omega)
  refine x_aload_n C0 rfl dX12_fooled_5 ?_
  refine x_iload_n C0 rfl dX12_fooled_6 ?_
  refine x_callV [_] C0 hN rfl (xRf_of hR (by decide) (Nat.zero_le _) (Nat.zero_le _)) mv_X12_isThing wm_X12_347 dX12_fooled_7 (isModel.k0 hM) rfl rfl (Nat.le_of_ble_eq_true rfl) (c_X12_isThing hM (fun g0 => ?_) (fun g0 => ?_))
  · refine x_if_ne (tgt := 15) C0 (by decide) dX12_fooled_10 (fun _ => ?_) (fun hkk => absurd hkk (by decide))
    obtain ⟨a, ha, ea⟩ := nI_ofi' eT (by omega) g0
    rw [if_pos g0] at hp
    subst ea
    rw [nI_clamp (by omega)] at hp
    refine x_aload_n C0 rfl dX12_fooled_15 ?_
    refine x_iload_n C0 rfl dX12_fooled_16 ?_
    refine x_callV [_] C0 hN rfl (xRf_of hR (by decide) (Nat.zero_le _) (Nat.zero_le _)) mv_X12_lastSaid wm_X12_381 dX12_fooled_17 (isModel.k0 hM) rfl rfl (Nat.le_of_ble_eq_true rfl) (c_X12_lastSaid hM C ?_)
    refine x_istore_n (L' := [_, _, _, _, _]) C0 hN (by decide) rfl dX12_fooled_20 ?_
    refine x_iconst (v := nI 0) C0 rfl dX12_fooled_21 ?_
    refine x_istore_n (L' := [_, _, _, _, _]) C0 hN (by decide) rfl dX12_fooled_22 ?_
    refine x_iconst (v := nI 0) C0 rfl dX12_fooled_23 ?_
    refine x_istore (L' := [_, _, _, _, _]) C0 hN (by decide) rfl dX12_fooled_24 ?_
    exact h26 a ha hp
  · refine x_if_ne (tgt := 15) C0 (by decide) dX12_fooled_10 (fun hkk => absurd (by decide) hkk) (fun _ => ?_)
    refine x_iconst (v := -1) C0 rfl dX12_fooled_13 ?_
    refine x_iret C0 E (by decide) (by decide) dX12_fooled_14 ?_
    rw [if_neg g0] at hp
    exact hp I1 q1
