/-! The QUESTION count -/
def tdN (td : xRow) : Nat → Nat
  | 0 => 0
  | i + 1 => if td i = -2 then tdN td i else tdN td i + 1
theorem tdN_no {td : xRow} {i : Nat} (h : td i = -2) : tdN td (i + 1) = tdN td i := by conv => lhs; unfold tdN; rw [if_pos h]
theorem tdN_yes {td : xRow} {i : Nat} (h : ¬ td i = -2) : tdN td (i + 1) = tdN td i + 1 := by conv => lhs; unfold tdN; rw [if_neg h]
def aCount (fl x td : xRow) (V ev un tp : Nat) (c : Int32) : Int32 := if c = 0 then fl 0 else if c = 1 then fl 1 else if c = 2 then fl 2 else if c = 3 then x 0 else if c = 4 then x 1 else if c = 5 then x 2 else if c = 6 then x 3 else if c = 7 then sDb x V else if c = 8 then fl 3 else if c = 9 then nI ev else if c = 10 then nI (tdN td 36) else if c = 11 then nI un else if c = 12 then nI tp else -1
theorem c_X11_toldCount {S : xTS} {R : xTR} {I : xTI} {J : xTJ} {post : xPost} (hS : fixd S R) {td : xRow} (htd : hTd td) (tF : tFd I td) (hp : post (some (.int (nI (tdN td 36)))) S R I J) : xSpec 1 yX11_toldCount cX11_toldCount 3 (some .int) 0 0 [.ref 0] S R I J post := by
  refine xSpec_of mt_X11_toldCount (Nat.le_of_ble_eq_true rfl) (fun G C0 hN hR E hI hZ => ?_)
  change XX G 0 0 0 [some (.ref 0), none, none] [] S R I J
  have h108 := fixd.s108 hS
  have hloop : ∀ n i, i + n = 36 → XX G 0 0 4 [some (.ref 0), some (.int (nI (tdN td i))), some (.int (nI i))] [] S R I J := by
    intro n
    induction n with
    | zero =>
      intro i hi
      have hi8 : i = 36 := by omega
      subst hi8
      refine x_iload_n C0 rfl dX11_toldCount_4 ?_
      refine x_aload_n C0 rfl dX11_toldCount_5 ?_
      refine x_getR C0 wf_X11_66 (fixd.k0 hS) rfl rfl (fixd.told hS) dX11_toldCount_6 ?_
      refine x_alen C0 h108 (by decide) (by decide) rfl dX11_toldCount_9 ?_
      refine x_icmp_ge (tgt := 36) C0 (by decide) dX11_toldCount_10 (fun _ => ?_) (fun hkk => absurd ((by decide)) hkk)
      refine x_iload_n C0 rfl dX11_toldCount_36 ?_
      refine x_iret C0 E (by decide) (by decide) dX11_toldCount_37 ?_
      exact hp
    | succ n ih =>
      intro i hi
      refine x_iload_n C0 rfl dX11_toldCount_4 ?_
      refine x_aload_n C0 rfl dX11_toldCount_5 ?_
      refine x_getR C0 wf_X11_66 (fixd.k0 hS) rfl rfl (fixd.told hS) dX11_toldCount_6 ?_
      refine x_alen C0 h108 (by decide) (by decide) rfl dX11_toldCount_9 ?_
      refine x_icmp_ge (tgt := 36) C0 (by decide) dX11_toldCount_10 (fun hkk => absurd hkk ((nI_ge (b := 36) (by omega) (by omega)))) (fun _ => ?_)
      refine x_iload_n C0 rfl dX11_toldCount_13 ?_
      refine x_aload_n C0 rfl dX11_toldCount_14 ?_
      refine x_getR C0 wf_X11_66 (fixd.k0 hS) rfl rfl (fixd.told hS) dX11_toldCount_15 ?_
      refine x_iload_n C0 rfl dX11_toldCount_18 ?_
      refine x_ialoadN C0 h108 (by omega) (by omega) dX11_toldCount_19 ?_
      refine x_topi (tF i (by omega)) ?_
      refine x_if_le (tgt := 27) C0 (by decide) dX11_toldCount_20 (fun g20 => ?_) (fun g20 => ?_)
      · refine x_iconst (v := nI 0) C0 rfl dX11_toldCount_27 ?_
        refine x_iaddN C0 dX11_toldCount_28 ?_
        refine x_istore_n (L' := [_, _, _]) C0 hN (by decide) rfl dX11_toldCount_29 ?_
        refine x_iinc (v := nI (i + 1)) (L' := [_, _, _]) C0 hN rfl (by decide) (nI_inc i) rfl dX11_toldCount_30 ?_
        refine x_goto (tgt := 4) C0 (by decide) dX11_toldCount_33 ?_
        have := ih (i + 1) (by omega)
        rw [tdN_no ((td_pos (htd i (by omega))).mp g20)] at this
        exact this
      · refine x_iconst (v := nI 1) C0 rfl dX11_toldCount_23 ?_
        refine x_goto (tgt := 28) C0 (by decide) dX11_toldCount_24 ?_
        refine x_iaddN C0 dX11_toldCount_28 ?_
        refine x_istore_n (L' := [_, _, _]) C0 hN (by decide) rfl dX11_toldCount_29 ?_
        refine x_iinc (v := nI (i + 1)) (L' := [_, _, _]) C0 hN rfl (by decide) (nI_inc i) rfl dX11_toldCount_30 ?_
        refine x_goto (tgt := 4) C0 (by decide) dX11_toldCount_33 ?_
        have := ih (i + 1) (by omega)
        rw [tdN_yes (fun q => g20 ((td_pos (htd i (by omega))).mpr q))] at this
        exact this
  refine x_iconst (v := nI 0) C0 rfl dX11_toldCount_0 ?_
  refine x_istore_n (L' := [_, _, _]) C0 hN (by decide) rfl dX11_toldCount_1 ?_
  refine x_iconst (v := nI 0) C0 rfl dX11_toldCount_2 ?_
  refine x_istore_n (L' := [_, _, _]) C0 hN (by decide) rfl dX11_toldCount_3 ?_
  exact hloop 36 0 (by omega)
theorem c_X12_toldMany {S : xTS} {R : xTR} {I : xTI} {J : xTJ} {post : xPost} (hM : isModel S R) {td : xRow} (tM : tMd I td) (hp : post (some (.int (nI (tdN td 36)))) S R I J) : xSpec 1 yX12_toldMany cX12_toldMany 3 (some .int) 0 0 [.ref 135] S R I J post := by
  refine xSpec_of mt_X12_toldMany (Nat.le_of_ble_eq_true rfl) (fun G C0 hN hR E hI hZ => ?_)
  change XX G 0 0 0 [some (.ref 135), none, none] [] S R I J
  have hloop : ∀ n i, i + n = 36 → XX G 0 0 4 [some (.ref 135), some (.int (nI (tdN td i))), some (.int (nI i))] [] S R I J := by
    intro n
    induction n with
    | zero =>
      intro i hi
      have hi8 : i = 36 := by omega
      subst hi8
      refine x_iload_n C0 rfl dX12_toldMany_4 ?_
      refine x_bipush (v := nI 36) C0 rfl dX12_toldMany_5 ?_
      refine x_icmp_ge (tgt := 38) C0 (by decide) dX12_toldMany_7 (fun _ => ?_) (fun hkk => absurd ((Int32.le_refl _)) hkk)
      refine x_iload_n C0 rfl dX12_toldMany_38 ?_
      refine x_iret C0 E (by decide) (by decide) dX12_toldMany_39 ?_
      exact hp
    | succ n ih =>
      intro i hi
      refine x_iload_n C0 rfl dX12_toldMany_4 ?_
      refine x_bipush (v := nI 36) C0 rfl dX12_toldMany_5 ?_
      refine x_icmp_ge (tgt := 38) C0 (by decide) dX12_toldMany_7 (fun hkk => absurd hkk ((nI_ge (b := 36) (by omega) (by omega)))) (fun _ => ?_)
      refine x_iload_n C0 rfl dX12_toldMany_10 ?_
      refine x_aload_n C0 rfl dX12_toldMany_11 ?_
      refine x_getR C0 wf_X12_119 (isModel.k0 hM) rfl rfl (isModel.r24 hM) dX12_toldMany_12 ?_
      refine x_bipush (v := nI 62) C0 rfl dX12_toldMany_15 ?_
      refine x_iload_n C0 rfl dX12_toldMany_17 ?_
      refine x_iaddN C0 dX12_toldMany_18 ?_
      refine x_ialoadN C0 (isModel.s24 hM) (by omega) (by omega) dX12_toldMany_19 ?_
      refine x_topi (tM i (by omega)) ?_
      refine x_bipush (v := -2) C0 rfl dX12_toldMany_20 ?_
      refine x_icmp_eq (tgt := 29) C0 (by decide) dX12_toldMany_22 (fun g22 => ?_) (fun g22 => ?_)
      · refine x_iconst (v := nI 0) C0 rfl dX12_toldMany_29 ?_
        refine x_iaddN C0 dX12_toldMany_30 ?_
        refine x_istore_n (L' := [_, _, _]) C0 hN (by decide) rfl dX12_toldMany_31 ?_
        refine x_iinc (v := nI (i + 1)) (L' := [_, _, _]) C0 hN rfl (by decide) (nI_inc i) rfl dX12_toldMany_32 ?_
        refine x_goto (tgt := 4) C0 (by decide) dX12_toldMany_35 ?_
        have := ih (i + 1) (by omega)
        rw [tdN_no g22] at this
        exact this
      · refine x_iconst (v := nI 1) C0 rfl dX12_toldMany_25 ?_
        refine x_goto (tgt := 30) C0 (by decide) dX12_toldMany_26 ?_
        refine x_iaddN C0 dX12_toldMany_30 ?_
        refine x_istore_n (L' := [_, _, _]) C0 hN (by decide) rfl dX12_toldMany_31 ?_
        refine x_iinc (v := nI (i + 1)) (L' := [_, _, _]) C0 hN rfl (by decide) (nI_inc i) rfl dX12_toldMany_32 ?_
        refine x_goto (tgt := 4) C0 (by decide) dX12_toldMany_35 ?_
        have := ih (i + 1) (by omega)
        rw [tdN_yes g22] at this
        exact this
  refine x_iconst (v := nI 0) C0 rfl dX12_toldMany_0 ?_
  refine x_istore_n (L' := [_, _, _]) C0 hN (by decide) rfl dX12_toldMany_1 ?_
  refine x_iconst (v := nI 0) C0 rfl dX12_toldMany_2 ?_
  refine x_istore_n (L' := [_, _, _]) C0 hN (by decide) rfl dX12_toldMany_3 ?_
  exact hloop 36 0 (by omega)
theorem c_X11_count {S : xTS} {R : xTR} {I : xTI} {J : xTJ} {post : xPost} {f T N V : Nat} {fl x : xRow} {lw : Option (List (Nat × Nat))} (hS : fixd S R) (hf : R 0 2 = some f) (C : FCore I f fl lw T N V x) {td : xRow} (htd : hTd td) (tF : tFd I td) {e ev un tp : Nat} (he : R 0 4 = some e) (hse : S[e]? = some (1, 4)) (hev : I e 0 = nI ev) (hun : I 41 2 = nI un) (htp : I 1 1 = nI tp) {c : Int32} (hp : ∀ I', FQ I I' → post (some (.int (aCount fl x td V ev un tp c))) S R I' J) : xSpec 3 yX11_count cX11_count 2 (some .int) 0 0 [.ref 0, .int c] S R I J post := by
  refine xSpec_of mt_X11_count (Nat.le_of_ble_eq_true rfl) (fun G C0 hN hR E hI hZ => ?_)
  change XX G 0 0 0 [some (.ref 0), some (.int c)] [] S R I J
  obtain ⟨hfm, wl, rF, rH, wx⟩ := id C
  have hF := hS.film hfm
  have hH := hS.hall (q := 33) (by decide)
  have hT6 := wl.2.1
  have hN8 := wl.2.2.2.1
  have hV6 := wl.2.2.2.2.2.1
  have eT : I f 0 = nI T := rF.1.trans wl.1
  have eN : I f 1 = nI N := rF.2.1.trans wl.2.2.1
  have eV : I f 2 = nI V := rF.2.2.1.trans wl.2.2.2.2.1
  have hfh : ∀ i j, i < 9 → j < 4 → f + i ≠ 33 + j := fun i j hi hj => hf_apart 33 (by decide) f hfm i hi j hj
  obtain ⟨fs0, fs1, fs2, fs3, fs4, fs5, fs6, fs7, fs8, fr4, fr5, fr6, fr7, fr8, fr9, fr10, fr11⟩ := id hF
  obtain ⟨hs0, hs1, hs2, hs3, hr4, hr5, hr6⟩ := id hH
  unfold aCount at hp
  have h41 := fixd.sPast hS
  have h1t := fixd.sTape hS
  refine x_iload_n C0 rfl dX11_count_0 ?_
  by_cases g0 : c = 0
  · refine x_tabIn (tgt := 68) C0 (by rw [g0]; decide) (by rw [g0]; decide) (by rw [g0]; rfl) (by decide) dX11_count_1 ?_
    refine x_aload_n C0 rfl dX11_count_68 ?_
    refine x_getR C0 wf_X11_26 (fixd.k0 hS) rfl rfl hf dX11_count_69 ?_
    refine x_getI C0 wf_X11_280 (by assumption) rfl dX11_count_72 ?_
    refine x_iret C0 E (by decide) (by decide) dX11_count_75 ?_
    rw [g0, if_pos (by decide)] at hp
    rw [rF.1]
    exact hp I FQ.rf
  by_cases g1 : c = 1
  · refine x_tabIn (tgt := 76) C0 (by rw [g1]; decide) (by rw [g1]; decide) (by rw [g1]; rfl) (by decide) dX11_count_1 ?_
    refine x_aload_n C0 rfl dX11_count_76 ?_
    refine x_getR C0 wf_X11_26 (fixd.k0 hS) rfl rfl hf dX11_count_77 ?_
    refine x_getI C0 wf_X11_239 (by assumption) rfl dX11_count_80 ?_
    refine x_iret C0 E (by decide) (by decide) dX11_count_83 ?_
    rw [g1, if_neg (by decide), if_pos (by decide)] at hp
    rw [rF.2.1]
    exact hp I FQ.rf
  by_cases g2 : c = 2
  · refine x_tabIn (tgt := 84) C0 (by rw [g2]; decide) (by rw [g2]; decide) (by rw [g2]; rfl) (by decide) dX11_count_1 ?_
    refine x_aload_n C0 rfl dX11_count_84 ?_
    refine x_getR C0 wf_X11_26 (fixd.k0 hS) rfl rfl hf dX11_count_85 ?_
    refine x_getI C0 wf_X11_289 (by assumption) rfl dX11_count_88 ?_
    refine x_iret C0 E (by decide) (by decide) dX11_count_91 ?_
    rw [g2, if_neg (by decide), if_neg (by decide), if_pos (by decide)] at hp
    rw [rF.2.2.1]
    exact hp I FQ.rf
  by_cases g3 : c = 3
  · refine x_tabIn (tgt := 92) C0 (by rw [g3]; decide) (by rw [g3]; decide) (by rw [g3]; rfl) (by decide) dX11_count_1 ?_
    refine x_aload_n C0 rfl dX11_count_92 ?_
    refine x_getR C0 wf_X11_46 (fixd.k0 hS) rfl rfl (fixd.now hS) dX11_count_93 ?_
    refine x_getI C0 wf_X11_141 (by assumption) rfl dX11_count_96 ?_
    refine x_iret C0 E (by decide) (by decide) dX11_count_99 ?_
    rw [g3, if_neg (by decide), if_neg (by decide), if_neg (by decide), if_pos (by decide)] at hp
    rw [rH.1]
    exact hp I FQ.rf
  by_cases g4 : c = 4
  · refine x_tabIn (tgt := 100) C0 (by rw [g4]; decide) (by rw [g4]; decide) (by rw [g4]; rfl) (by decide) dX11_count_1 ?_
    refine x_aload_n C0 rfl dX11_count_100 ?_
    refine x_getR C0 wf_X11_46 (fixd.k0 hS) rfl rfl (fixd.now hS) dX11_count_101 ?_
    refine x_getI C0 wf_X11_378 (by assumption) rfl dX11_count_104 ?_
    refine x_iret C0 E (by decide) (by decide) dX11_count_107 ?_
    rw [g4, if_neg (by decide), if_neg (by decide), if_neg (by decide), if_neg (by decide), if_pos (by decide)] at hp
    rw [rH.2.1]
    exact hp I FQ.rf
  by_cases g5 : c = 5
  · refine x_tabIn (tgt := 108) C0 (by rw [g5]; decide) (by rw [g5]; decide) (by rw [g5]; rfl) (by decide) dX11_count_1 ?_
    refine x_aload_n C0 rfl dX11_count_108 ?_
    refine x_getR C0 wf_X11_46 (fixd.k0 hS) rfl rfl (fixd.now hS) dX11_count_109 ?_
    refine x_getI C0 wf_X11_219 (by assumption) rfl dX11_count_112 ?_
    refine x_iret C0 E (by decide) (by decide) dX11_count_115 ?_
    rw [g5, if_neg (by decide), if_neg (by decide), if_neg (by decide), if_neg (by decide), if_neg (by decide), if_pos (by decide)] at hp
    rw [rH.2.2.1]
    exact hp I FQ.rf
  by_cases g6 : c = 6
  · refine x_tabIn (tgt := 116) C0 (by rw [g6]; decide) (by rw [g6]; decide) (by rw [g6]; rfl) (by decide) dX11_count_1 ?_
    refine x_aload_n C0 rfl dX11_count_116 ?_
    refine x_getR C0 wf_X11_46 (fixd.k0 hS) rfl rfl (fixd.now hS) dX11_count_117 ?_
    refine x_getI C0 wf_X11_263 (by assumption) rfl dX11_count_120 ?_
    refine x_iret C0 E (by decide) (by decide) dX11_count_123 ?_
    rw [g6, if_neg (by decide), if_neg (by decide), if_neg (by decide), if_neg (by decide), if_neg (by decide), if_neg (by decide), if_pos (by decide)] at hp
    rw [rH.2.2.2.1]
    exact hp I FQ.rf
  by_cases g7 : c = 7
  · refine x_tabIn (tgt := 124) C0 (by rw [g7]; decide) (by rw [g7]; decide) (by rw [g7]; rfl) (by decide) dX11_count_1 ?_
    refine x_aload_n C0 rfl dX11_count_124 ?_
    refine x_aload_n C0 rfl dX11_count_125 ?_
    refine x_getR C0 wf_X11_46 (fixd.k0 hS) rfl rfl (fixd.now hS) dX11_count_126 ?_
    refine x_callV [_] C0 hN rfl (xRf_of hR (by decide) (Nat.zero_le _) (Nat.zero_le _)) mv_X11_doubtOfAll wm_X11_363 dX11_count_129 (fixd.k0 hS) rfl rfl (Nat.le_of_ble_eq_true rfl) (c_X11_doubtOfAll hS hf C hH rH ?_)
    refine x_iret C0 E (by decide) (by decide) dX11_count_132 ?_
    rw [g7, if_neg (by decide), if_neg (by decide), if_neg (by decide), if_neg (by decide), if_neg (by decide), if_neg (by decide), if_neg (by decide), if_pos (by decide)] at hp
    exact hp I FQ.rf
  by_cases g8 : c = 8
  · refine x_tabIn (tgt := 133) C0 (by rw [g8]; decide) (by rw [g8]; decide) (by rw [g8]; rfl) (by decide) dX11_count_1 ?_
    refine x_aload_n C0 rfl dX11_count_133 ?_
    refine x_getR C0 wf_X11_26 (fixd.k0 hS) rfl rfl hf dX11_count_134 ?_
    refine x_getI C0 wf_X11_381 (by assumption) rfl dX11_count_137 ?_
    refine x_iret C0 E (by decide) (by decide) dX11_count_140 ?_
    rw [g8, if_neg (by decide), if_neg (by decide), if_neg (by decide), if_neg (by decide), if_neg (by decide), if_neg (by decide), if_neg (by decide), if_neg (by decide), if_pos (by decide)] at hp
    rw [rF.2.2.2.1]
    exact hp I FQ.rf
  by_cases g9 : c = 9
  · refine x_tabIn (tgt := 141) C0 (by rw [g9]; decide) (by rw [g9]; decide) (by rw [g9]; rfl) (by decide) dX11_count_1 ?_
    refine x_aload_n C0 rfl dX11_count_141 ?_
    refine x_getR C0 wf_X11_36 (fixd.k0 hS) rfl rfl he dX11_count_142 ?_
    refine x_getI C0 wf_X11_100 (by assumption) rfl dX11_count_145 ?_
    refine x_iret C0 E (by decide) (by decide) dX11_count_148 ?_
    rw [g9, if_neg (by decide), if_neg (by decide), if_neg (by decide), if_neg (by decide), if_neg (by decide), if_neg (by decide), if_neg (by decide), if_neg (by decide), if_neg (by decide), if_pos (by decide)] at hp
    rw [hev]
    exact hp I FQ.rf
  by_cases g10 : c = 10
  · refine x_tabIn (tgt := 149) C0 (by rw [g10]; decide) (by rw [g10]; decide) (by rw [g10]; rfl) (by decide) dX11_count_1 ?_
    refine x_aload_n C0 rfl dX11_count_149 ?_
    refine x_callV [] C0 hN rfl (xRf_of hR (by decide) (Nat.zero_le _) (Nat.zero_le _)) mv_X11_toldCount wm_X11_384 dX11_count_150 (fixd.k0 hS) rfl rfl (Nat.le_of_ble_eq_true rfl) (c_X11_toldCount hS htd tF ?_)
    refine x_iret C0 E (by decide) (by decide) dX11_count_153 ?_
    rw [g10, if_neg (by decide), if_neg (by decide), if_neg (by decide), if_neg (by decide), if_neg (by decide), if_neg (by decide), if_neg (by decide), if_neg (by decide), if_neg (by decide), if_neg (by decide), if_pos (by decide)] at hp
    exact hp I FQ.rf
  by_cases g11 : c = 11
  · refine x_tabIn (tgt := 154) C0 (by rw [g11]; decide) (by rw [g11]; decide) (by rw [g11]; rfl) (by decide) dX11_count_1 ?_
    refine x_aload_n C0 rfl dX11_count_154 ?_
    refine x_getR C0 wf_X11_56 (fixd.k0 hS) rfl rfl (fixd.past hS) dX11_count_155 ?_
    refine x_getI C0 wf_X11_103 (by assumption) rfl dX11_count_158 ?_
    refine x_iret C0 E (by decide) (by decide) dX11_count_161 ?_
    rw [g11, if_neg (by decide), if_neg (by decide), if_neg (by decide), if_neg (by decide), if_neg (by decide), if_neg (by decide), if_neg (by decide), if_neg (by decide), if_neg (by decide), if_neg (by decide), if_neg (by decide), if_pos (by decide)] at hp
    rw [hun]
    exact hp I FQ.rf
  by_cases g12 : c = 12
  · refine x_tabIn (tgt := 162) C0 (by rw [g12]; decide) (by rw [g12]; decide) (by rw [g12]; rfl) (by decide) dX11_count_1 ?_
    refine x_aload_n C0 rfl dX11_count_162 ?_
    refine x_getR C0 wf_X11_12 (fixd.k0 hS) rfl rfl (fixd.tape hS) dX11_count_163 ?_
    refine x_getI C0 wf_X11_89 (by assumption) rfl dX11_count_166 ?_
    refine x_iret C0 E (by decide) (by decide) dX11_count_169 ?_
    rw [g12, if_neg (by decide), if_neg (by decide), if_neg (by decide), if_neg (by decide), if_neg (by decide), if_neg (by decide), if_neg (by decide), if_neg (by decide), if_neg (by decide), if_neg (by decide), if_neg (by decide), if_neg (by decide), if_pos (by decide)] at hp
    rw [htp]
    exact hp I FQ.rf
  refine x_tabOut (tgt := 170) C0 (sw_out (n := 12) (by decide) (fun j hj => by rcases (show j = 0 ∨ j = 1 ∨ j = 2 ∨ j = 3 ∨ j = 4 ∨ j = 5 ∨ j = 6 ∨ j = 7 ∨ j = 8 ∨ j = 9 ∨ j = 10 ∨ j = 11 ∨ j = 12 by omega) with rfl | rfl | rfl | rfl | rfl | rfl | rfl | rfl | rfl | rfl | rfl | rfl | rfl <;> assumption)) (by decide) dX11_count_1 ?_
  refine x_iconst (v := -1) C0 rfl dX11_count_170 ?_
  refine x_iret C0 E (by decide) (by decide) dX11_count_171 ?_
  rw [if_neg g0, if_neg g1, if_neg g2, if_neg g3, if_neg g4, if_neg g5, if_neg g6, if_neg g7, if_neg g8, if_neg g9, if_neg g10, if_neg g11, if_neg g12] at hp
  exact hp I FQ.rf
theorem c_X12_count {S : xTS} {R : xTR} {I : xTI} {J : xTJ} {post : xPost} {T N V : Nat} {fl x : xRow} {lw : Option (List (Nat × Nat))} (hM : isModel S R) (C : MCore I fl lw T N V x) {td : xRow} (tM : tMd I td) {ev un tp : Nat} (hev : I 148 0 = nI ev) (hun : I 135 25 = nI un) (htp : I 135 2 = nI tp) {c : Int32} (hp : ∀ I', MQs I I' → post (some (.int (aCount fl x td V ev un tp c))) S R I' J) : xSpec 3 yX12_count cX12_count 2 (some .int) 0 0 [.ref 135, .int c] S R I J post := by
  refine xSpec_of mt_X12_count (Nat.le_of_ble_eq_true rfl) (fun G C0 hN hR E hI hZ => ?_)
  change XX G 0 0 0 [some (.ref 135), some (.int c)] [] S R I J
  refine x_aload_n C0 rfl dX12_count_0 ?_
  refine x_iconst (v := nI 0) C0 rfl dX12_count_1 ?_
  refine x_putI C0 wf_X12_1 (isModel.k0 hM) rfl dX12_count_2 ?_
  have q1 := MQs.thrown (I := I) (v := nI 0)
  have C := C.mq q1
  generalize u2 I 135 0 (nI 0) = I1 at q1 C ⊢
  obtain ⟨wl, mF, mL, mH, wx⟩ := id C
  have hT6 := wl.2.1
  have hN8 := wl.2.2.2.1
  have hV6 := wl.2.2.2.2.2.1
  have eT : I1 141 0 = nI T := (mF 0 (by decide)).trans wl.1
  have eN : I1 141 1 = nI N := (mF 1 (by decide)).trans wl.2.2.1
  have eV : I1 141 2 = nI V := (mF 2 (by decide)).trans wl.2.2.2.2.1
  have hb0 : 0 ≤ 2192 := by decide
  unfold aCount at hp
  have tM := tM.mq q1
  have hev := (congrFun (q1.1 148 (by decide) (by decide) (by decide) (by decide) (by decide) (by decide)) 0).trans hev
  have hun := (q1.2.1 25 (by decide)).trans hun
  have htp := (q1.2.1 2 (by decide)).trans htp
  have h72 : ∀ k, k < 3 → c = nI k → post (some (.int (fl k))) S R I1 J → XX G 0 0 72 [some (.ref 135), some (.int c)] [] S R I1 J := by
    intro k hk hc h
    subst hc
    refine x_aload_n C0 rfl dX12_count_72 ?_
    refine x_getR C0 wf_X12_89 (isModel.k0 hM) rfl rfl (isModel.r10 hM) dX12_count_73 ?_
    refine x_iload_n C0 rfl dX12_count_76 ?_
    refine x_ialoadN C0 (isModel.s10 hM) (by omega) (by omega) dX12_count_77 ?_
    refine x_iret C0 E (by decide) (by decide) dX12_count_78 ?_
    rw [mF k (by omega)]
    exact h
  refine x_iload_n C0 rfl dX12_count_5 ?_
  by_cases g0 : c = 0
  · refine x_tabIn (tgt := 72) C0 (by rw [g0]; decide) (by rw [g0]; decide) (by rw [g0]; rfl) (by decide) dX12_count_6 ?_
    refine h72 0 (by decide) g0 ?_
    rw [g0, if_pos (by decide)] at hp
    exact hp I1 q1
  by_cases g1 : c = 1
  · refine x_tabIn (tgt := 72) C0 (by rw [g1]; decide) (by rw [g1]; decide) (by rw [g1]; rfl) (by decide) dX12_count_6 ?_
    refine h72 1 (by decide) g1 ?_
    rw [g1, if_neg (by decide), if_pos (by decide)] at hp
    exact hp I1 q1
  by_cases g2 : c = 2
  · refine x_tabIn (tgt := 72) C0 (by rw [g2]; decide) (by rw [g2]; decide) (by rw [g2]; rfl) (by decide) dX12_count_6 ?_
    refine h72 2 (by decide) g2 ?_
    rw [g2, if_neg (by decide), if_neg (by decide), if_pos (by decide)] at hp
    exact hp I1 q1
  by_cases g3 : c = 3
  · refine x_tabIn (tgt := 79) C0 (by rw [g3]; decide) (by rw [g3]; decide) (by rw [g3]; rfl) (by decide) dX12_count_6 ?_
    refine x_aload_n C0 rfl dX12_count_79 ?_
    refine x_getR C0 wf_X12_119 (isModel.k0 hM) rfl rfl (isModel.r24 hM) dX12_count_80 ?_
    refine x_iconst (v := nI 0) C0 rfl dX12_count_83 ?_
    refine x_ialoadN C0 (isModel.s24 hM) (by omega) (by omega) dX12_count_84 ?_
    refine x_iret C0 E (by decide) (by decide) dX12_count_85 ?_
    rw [g3, if_neg (by decide), if_neg (by decide), if_neg (by decide), if_pos (by decide)] at hp
    rw [show I1 151 0 = x 0 from mH 0 (by decide)]
    exact hp I1 q1
  by_cases g4 : c = 4
  · refine x_tabIn (tgt := 86) C0 (by rw [g4]; decide) (by rw [g4]; decide) (by rw [g4]; rfl) (by decide) dX12_count_6 ?_
    refine x_aload_n C0 rfl dX12_count_86 ?_
    refine x_getR C0 wf_X12_119 (isModel.k0 hM) rfl rfl (isModel.r24 hM) dX12_count_87 ?_
    refine x_iconst (v := nI 1) C0 rfl dX12_count_90 ?_
    refine x_ialoadN C0 (isModel.s24 hM) (by omega) (by omega) dX12_count_91 ?_
    refine x_iret C0 E (by decide) (by decide) dX12_count_92 ?_
    rw [g4, if_neg (by decide), if_neg (by decide), if_neg (by decide), if_neg (by decide), if_pos (by decide)] at hp
    rw [show I1 151 1 = x 1 from mH 1 (by decide)]
    exact hp I1 q1
  by_cases g5 : c = 5
  · refine x_tabIn (tgt := 93) C0 (by rw [g5]; decide) (by rw [g5]; decide) (by rw [g5]; rfl) (by decide) dX12_count_6 ?_
    refine x_aload_n C0 rfl dX12_count_93 ?_
    refine x_getR C0 wf_X12_119 (isModel.k0 hM) rfl rfl (isModel.r24 hM) dX12_count_94 ?_
    refine x_iconst (v := nI 2) C0 rfl dX12_count_97 ?_
    refine x_ialoadN C0 (isModel.s24 hM) (by omega) (by omega) dX12_count_98 ?_
    refine x_iret C0 E (by decide) (by decide) dX12_count_99 ?_
    rw [g5, if_neg (by decide), if_neg (by decide), if_neg (by decide), if_neg (by decide), if_neg (by decide), if_pos (by decide)] at hp
    rw [show I1 151 2 = x 2 from mH 2 (by decide)]
    exact hp I1 q1
  by_cases g6 : c = 6
  · refine x_tabIn (tgt := 100) C0 (by rw [g6]; decide) (by rw [g6]; decide) (by rw [g6]; rfl) (by decide) dX12_count_6 ?_
    refine x_aload_n C0 rfl dX12_count_100 ?_
    refine x_getR C0 wf_X12_119 (isModel.k0 hM) rfl rfl (isModel.r24 hM) dX12_count_101 ?_
    refine x_iconst (v := nI 3) C0 rfl dX12_count_104 ?_
    refine x_ialoadN C0 (isModel.s24 hM) (by omega) (by omega) dX12_count_105 ?_
    refine x_iret C0 E (by decide) (by decide) dX12_count_106 ?_
    rw [g6, if_neg (by decide), if_neg (by decide), if_neg (by decide), if_neg (by decide), if_neg (by decide), if_neg (by decide), if_pos (by decide)] at hp
    rw [show I1 151 3 = x 3 from mH 3 (by decide)]
    exact hp I1 q1
  by_cases g7 : c = 7
  · refine x_tabIn (tgt := 107) C0 (by rw [g7]; decide) (by rw [g7]; decide) (by rw [g7]; rfl) (by decide) dX12_count_6 ?_
    refine x_aload_n C0 rfl dX12_count_107 ?_
    refine x_iconst (v := nI 0) C0 rfl dX12_count_108 ?_
    refine x_callV [_] C0 hN rfl (xRf_of hR (by decide) (Nat.zero_le _) (Nat.zero_le _)) mv_X12_doubtsOf wm_X12_423 dX12_count_109 (isModel.k0 hM) rfl rfl (Nat.le_of_ble_eq_true rfl) (c_X12_doubtsOf hM C hb0 mH ?_)
    refine x_iret C0 E (by decide) (by decide) dX12_count_112 ?_
    rw [g7, if_neg (by decide), if_neg (by decide), if_neg (by decide), if_neg (by decide), if_neg (by decide), if_neg (by decide), if_neg (by decide), if_pos (by decide)] at hp
    exact hp I1 q1
  by_cases g8 : c = 8
  · refine x_tabIn (tgt := 113) C0 (by rw [g8]; decide) (by rw [g8]; decide) (by rw [g8]; rfl) (by decide) dX12_count_6 ?_
    refine x_aload_n C0 rfl dX12_count_113 ?_
    refine x_getR C0 wf_X12_89 (isModel.k0 hM) rfl rfl (isModel.r10 hM) dX12_count_114 ?_
    refine x_iconst (v := nI 3) C0 rfl dX12_count_117 ?_
    refine x_ialoadN C0 (isModel.s10 hM) (by omega) (by omega) dX12_count_118 ?_
    refine x_iret C0 E (by decide) (by decide) dX12_count_119 ?_
    rw [g8, if_neg (by decide), if_neg (by decide), if_neg (by decide), if_neg (by decide), if_neg (by decide), if_neg (by decide), if_neg (by decide), if_neg (by decide), if_pos (by decide)] at hp
    rw [mF 3 (by decide)]
    exact hp I1 q1
  by_cases g9 : c = 9
  · refine x_tabIn (tgt := 120) C0 (by rw [g9]; decide) (by rw [g9]; decide) (by rw [g9]; rfl) (by decide) dX12_count_6 ?_
    refine x_aload_n C0 rfl dX12_count_120 ?_
    refine x_getR C0 wf_X12_110 (isModel.k0 hM) rfl rfl (isModel.r21 hM) dX12_count_121 ?_
    refine x_iconst (v := nI 0) C0 rfl dX12_count_124 ?_
    refine x_ialoadN C0 (isModel.s21 hM) (by omega) (by omega) dX12_count_125 ?_
    refine x_iret C0 E (by decide) (by decide) dX12_count_126 ?_
    rw [g9, if_neg (by decide), if_neg (by decide), if_neg (by decide), if_neg (by decide), if_neg (by decide), if_neg (by decide), if_neg (by decide), if_neg (by decide), if_neg (by decide), if_pos (by decide)] at hp
    rw [hev]
    exact hp I1 q1
  by_cases g10 : c = 10
  · refine x_tabIn (tgt := 127) C0 (by rw [g10]; decide) (by rw [g10]; decide) (by rw [g10]; rfl) (by decide) dX12_count_6 ?_
    refine x_aload_n C0 rfl dX12_count_127 ?_
    refine x_callV [] C0 hN rfl (xRf_of hR (by decide) (Nat.zero_le _) (Nat.zero_le _)) mv_X12_toldMany wm_X12_426 dX12_count_128 (isModel.k0 hM) rfl rfl (Nat.le_of_ble_eq_true rfl) (c_X12_toldMany hM tM ?_)
    refine x_iret C0 E (by decide) (by decide) dX12_count_131 ?_
    rw [g10, if_neg (by decide), if_neg (by decide), if_neg (by decide), if_neg (by decide), if_neg (by decide), if_neg (by decide), if_neg (by decide), if_neg (by decide), if_neg (by decide), if_neg (by decide), if_pos (by decide)] at hp
    exact hp I1 q1
  by_cases g11 : c = 11
  · refine x_tabIn (tgt := 132) C0 (by rw [g11]; decide) (by rw [g11]; decide) (by rw [g11]; rfl) (by decide) dX12_count_6 ?_
    refine x_aload_n C0 rfl dX12_count_132 ?_
    refine x_getI C0 wf_X12_291 (isModel.k0 hM) rfl dX12_count_133 ?_
    refine x_iret C0 E (by decide) (by decide) dX12_count_136 ?_
    rw [g11, if_neg (by decide), if_neg (by decide), if_neg (by decide), if_neg (by decide), if_neg (by decide), if_neg (by decide), if_neg (by decide), if_neg (by decide), if_neg (by decide), if_neg (by decide), if_neg (by decide), if_pos (by decide)] at hp
    rw [hun]
    exact hp I1 q1
  by_cases g12 : c = 12
  · refine x_tabIn (tgt := 137) C0 (by rw [g12]; decide) (by rw [g12]; decide) (by rw [g12]; rfl) (by decide) dX12_count_6 ?_
    refine x_aload_n C0 rfl dX12_count_137 ?_
    refine x_getI C0 wf_X12_11 (isModel.k0 hM) rfl dX12_count_138 ?_
    refine x_iret C0 E (by decide) (by decide) dX12_count_141 ?_
    rw [g12, if_neg (by decide), if_neg (by decide), if_neg (by decide), if_neg (by decide), if_neg (by decide), if_neg (by decide), if_neg (by decide), if_neg (by decide), if_neg (by decide), if_neg (by decide), if_neg (by decide), if_neg (by decide), if_pos (by decide)] at hp
    rw [htp]
    exact hp I1 q1
  refine x_tabOut (tgt := 142) C0 (sw_out (n := 12) (by decide) (fun j hj => by rcases (show j = 0 ∨ j = 1 ∨ j = 2 ∨ j = 3 ∨ j = 4 ∨ j = 5 ∨ j = 6 ∨ j = 7 ∨ j = 8 ∨ j = 9 ∨ j = 10 ∨ j = 11 ∨ j = 12 by omega) with rfl | rfl | rfl | rfl | rfl | rfl | rfl | rfl | rfl | rfl | rfl | rfl | rfl <;> assumption)) (by decide) dX12_count_6 ?_
  refine x_iconst (v := -1) C0 rfl dX12_count_142 ?_
  refine x_iret C0 E (by decide) (by decide) dX12_count_143 ?_
  rw [if_neg g0, if_neg g1, if_neg g2, if_neg g3, if_neg g4, if_neg g5, if_neg g6, if_neg g7, if_neg g8, if_neg g9, if_neg g10, if_neg g11, if_neg g12] at hp
  exact hp I1 q1
