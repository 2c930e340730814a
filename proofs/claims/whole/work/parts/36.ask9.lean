/-! THE QUESTIONS: ask, both sides -/
theorem c_X11_ask {S : xTS} {R : xTR} {I : xTI} {J : xTJ} {post : xPost} {f T N V : Nat} {fl x : xRow} {lw : Option (List (Nat × Nat))} (hS : fixd S R) (hf : R 0 2 = some f) (C : FCore I f fl lw T N V x) {td : xRow} (htd : hTd td) (tF : tFd I td) (hp : ∀ I', FQ I I' → post (some (.int (aAsk fl (sDq fl lw) x td T N V))) S R I' J) : xSpec 7 yX11_ask cX11_ask 7 (some .int) 0 0 [.ref 0] S R I J post := by
  refine xSpec_of mt_X11_ask (Nat.le_of_ble_eq_true rfl) (fun G C0 hN hR E hI hZ => ?_)
  change XX G 0 0 0 [some (.ref 0), none, none, none, none, none, none] [] S R I J
  obtain ⟨hfm, wl, rF, rH, wx⟩ := id C
  have hF := hS.film hfm
  have hH := hS.hall (q := 33) (by decide)
  have hT6 := wl.2.1
  have hN8 := wl.2.2.2.1
  have hV6 := wl.2.2.2.2.2.1
  have eT : I f 0 = nI T := rF.1.trans wl.1
  have eN : I f 1 = nI N := rF.2.1.trans wl.2.2.1
  have eV : I f 2 = nI V := rF.2.2.1.trans wl.2.2.2.2.1
  have hfh : ∀ i j, i < 9 → j < 4 → f + i ≠ 33 + j := fun i j hi hj => hf_apart 33 (by decide) f hfm i hi j hj
  obtain ⟨fs0, fs1, fs2, fs3, fs4, fs5, fs6, fs7, fs8, fr4, fr5, fr6, fr7, fr8, fr9, fr10, fr11⟩ := id hF
  obtain ⟨hs0, hs1, hs2, hs3, hr4, hr5, hr6⟩ := id hH
  unfold aAsk at hp
  have h256 := shl_le hN8
  have hf9 : f ≠ 109 := by rcases List.mem_cons.mp hfm with rfl | h; decide; rcases List.mem_cons.mp h with rfl | h; decide; cases h
  have htN : ∀ i j, talN fl (sDq fl lw) x td T N V i j (2 ^ N) ≤ 2 ^ N := fun i j => talN_le i j _
  have hsN := seN_le (fl := fl) (dq := sDq fl lw) (x := x) (td := td) (T := T) (N := N) (V := V) (2 ^ N)
  have hout : ∀ I1, FQ I I1 → tlF I1 (fun i j => talN fl (sDq fl lw) x td T N V i j (2 ^ N)) T V → ∀ n w v5 v6, w + n = V → XX G 0 0 62 [some (.ref 0), some (.int (sCuttable x N)), some (.int (nI (akA td (fun i => mx3 (fun j => talN fl (sDq fl lw) x td T N V i j (2 ^ N))) T (seN fl (sDq fl lw) x td T N V (2 ^ N)) w).1)), some (.int (akA td (fun i => mx3 (fun j => talN fl (sDq fl lw) x td T N V i j (2 ^ N))) T (seN fl (sDq fl lw) x td T N V (2 ^ N)) w).2), some (.int (nI w)), v5, v6] [] S R I1 J := by
    intro I1 s1 t1 n
    have CC := C.fq s1
    have eT1 : I1 f 0 = nI T := by rw [CC.2.2.1.1, wl.1]
    have eV1 : I1 f 2 = nI V := by rw [CC.2.2.1.2.2.1, wl.2.2.2.2.1]
    have tF1 := tF.fq s1
    induction n with
    | zero =>
      intro w v5 v6 hn9
      have hn8 : w = V := by omega
      subst hn8
      refine x_iload C0 rfl dX11_ask_62 ?_
      refine x_aload_n C0 rfl dX11_ask_64 ?_
      refine x_getR C0 wf_X11_26 (fixd.k0 hS) rfl rfl hf dX11_ask_65 ?_
      refine x_getI C0 wf_X11_289 (by assumption) rfl dX11_ask_68 ?_
      refine x_topi eV1 ?_
      refine x_icmp_ge (tgt := 144) C0 (by decide) dX11_ask_71 (fun _ => ?_) (fun hkk => absurd ((Int32.le_refl _)) hkk)
      refine x_iload_n C0 rfl dX11_ask_144 ?_
      refine x_iret C0 E (by decide) (by decide) dX11_ask_145 ?_
      exact hp I1 s1
    | succ n ih =>
      intro w v5 v6 hn9
      have hin : ∀ p t v6, t + p = T → XX G 0 0 77 [some (.ref 0), some (.int (sCuttable x N)), some (.int (nI (akB td (fun i => mx3 (fun j => talN fl (sDq fl lw) x td T N V i j (2 ^ N))) w (akA td (fun i => mx3 (fun j => talN fl (sDq fl lw) x td T N V i j (2 ^ N))) T (seN fl (sDq fl lw) x td T N V (2 ^ N)) w) t).1)), some (.int (akB td (fun i => mx3 (fun j => talN fl (sDq fl lw) x td T N V i j (2 ^ N))) w (akA td (fun i => mx3 (fun j => talN fl (sDq fl lw) x td T N V i j (2 ^ N))) T (seN fl (sDq fl lw) x td T N V (2 ^ N)) w) t).2), some (.int (nI w)), some (.int (nI t)), v6] [] S R I1 J := by
        intro p
        induction p with
        | zero =>
          intro t v6 hm9
          have hm8 : t = T := by omega
          subst hm8
          refine x_iload C0 rfl dX11_ask_77 ?_
          refine x_aload_n C0 rfl dX11_ask_79 ?_
          refine x_getR C0 wf_X11_26 (fixd.k0 hS) rfl rfl hf dX11_ask_80 ?_
          refine x_getI C0 wf_X11_280 (by assumption) rfl dX11_ask_83 ?_
          refine x_topi eT1 ?_
          refine x_icmp_ge (tgt := 138) C0 (by decide) dX11_ask_86 (fun _ => ?_) (fun hkk => absurd ((Int32.le_refl _)) hkk)
          refine x_iinc (v := nI (w + 1)) (L' := [_, _, _, _, _, _, _]) C0 hN rfl (by decide) (nI_inc w) rfl dX11_ask_138 ?_
          refine x_goto (tgt := 62) C0 (by decide) dX11_ask_141 ?_
          exact ih (w + 1) _ _ (by omega)
        | succ p ihp =>
          intro t v6 hm9
          have e6 : w * 6 + t = 6 * w + t := by rw [Nat.mul_comm]
          have hb1 : (akB td (fun i => mx3 (fun j => talN fl (sDq fl lw) x td T N V i j (2 ^ N))) w (akA td (fun i => mx3 (fun j => talN fl (sDq fl lw) x td T N V i j (2 ^ N))) T (seN fl (sDq fl lw) x td T N V (2 ^ N)) w) t).1 ≤ seN fl (sDq fl lw) x td T N V (2 ^ N) := akB_le (akA_le w) t
          have hmx : mx3 (fun j => talN fl (sDq fl lw) x td T N V (6 * w + t) j (2 ^ N)) < 2 ^ 31 := by
            exact Nat.lt_of_le_of_lt (Nat.max_le.mpr ⟨htN _ 0, Nat.max_le.mpr ⟨htN _ 1, htN _ 2⟩⟩) (by omega)
          refine x_iload C0 rfl dX11_ask_77 ?_
          refine x_aload_n C0 rfl dX11_ask_79 ?_
          refine x_getR C0 wf_X11_26 (fixd.k0 hS) rfl rfl hf dX11_ask_80 ?_
          refine x_getI C0 wf_X11_280 (by assumption) rfl dX11_ask_83 ?_
          refine x_topi eT1 ?_
          refine x_icmp_ge (tgt := 138) C0 (by decide) dX11_ask_86 (fun hkk => absurd hkk (nI_ge (by omega) (by omega))) (fun _ => ?_)
          refine x_aload_n C0 rfl dX11_ask_89 ?_
          refine x_iload C0 rfl dX11_ask_90 ?_
          refine x_bipush (v := nI 6) C0 rfl dX11_ask_92 ?_
          refine x_imulN C0 dX11_ask_94 ?_
          refine x_iload C0 rfl dX11_ask_95 ?_
          refine x_iaddN C0 dX11_ask_97 ?_
          rw [e6]
          refine x_callV [_] C0 hN rfl (xRf_of hR (by decide) (Nat.zero_le _) (Nat.zero_le _)) mv_X11_greatestTally wm_X11_314 dX11_ask_98 (fixd.k0 hS) rfl rfl (Nat.le_of_ble_eq_true rfl) (c_X11_greatestTally (m := fun j => talN fl (sDq fl lw) x td T N V (6 * w + t) j (2 ^ N)) hS (by omega) (fun j _ => by have := htN (6 * w + t) j; omega) (fun j hj => t1 w t j (by omega) (by omega) hj) ?_)
          refine x_istore (L' := [_, _, _, _, _, _, _]) C0 hN (by decide) rfl dX11_ask_101 ?_
          refine x_aload_n C0 rfl dX11_ask_103 ?_
          refine x_iload C0 rfl dX11_ask_104 ?_
          refine x_iload C0 rfl dX11_ask_106 ?_
          refine x_callV [_, _] C0 hN rfl (xRf_of hR (by decide) (Nat.zero_le _) (Nat.zero_le _)) mv_X11_isTold wm_X11_308 dX11_ask_108 (fixd.k0 hS) rfl rfl (Nat.le_of_ble_eq_true rfl) (c_X11_isTold hS hf CC htd tF1 (by omega) (by omega) (fun g108 => ?_) (fun g108 => ?_))
          · refine x_if_ne (tgt := 132) C0 (by decide) dX11_ask_111 (fun _ => ?_) (fun hkk => absurd hkk (by decide))
            refine x_iinc (v := nI (t + 1)) (L' := [_, _, _, _, _, _, _]) C0 hN rfl (by decide) (nI_inc t) rfl dX11_ask_132 ?_
            refine x_goto (tgt := 77) C0 (by decide) dX11_ask_135 ?_
            have := ihp (t + 1) (some (.int (nI (mx3 (fun j => talN fl (sDq fl lw) x td T N V (6 * w + t) j (2 ^ N)))))) (by omega)
            rw [akB_no (fun z => g108 z.1)] at this
            exact this
          · refine x_if_ne (tgt := 132) C0 (by decide) dX11_ask_111 (fun hkk => absurd (by decide) hkk) (fun _ => ?_)
            refine x_iload C0 rfl dX11_ask_114 ?_
            refine x_iload_n C0 rfl dX11_ask_116 ?_
            refine x_icmp_ge (tgt := 132) C0 (by decide) dX11_ask_117 (fun g117 => ?_) (fun g117 => ?_)
            · refine x_iinc (v := nI (t + 1)) (L' := [_, _, _, _, _, _, _]) C0 hN rfl (by decide) (nI_inc t) rfl dX11_ask_132 ?_
              refine x_goto (tgt := 77) C0 (by decide) dX11_ask_135 ?_
              have := ihp (t + 1) (some (.int (nI (mx3 (fun j => talN fl (sDq fl lw) x td T N V (6 * w + t) j (2 ^ N)))))) (by omega)
              rw [akB_no (fun z => absurd z.2 (Nat.not_lt.mpr ((nI_le_iff (by omega) hmx).mp g117)))] at this
              exact this
            · refine x_iload C0 rfl dX11_ask_120 ?_
              refine x_istore_n (L' := [_, _, _, _, _, _, _]) C0 hN (by decide) rfl dX11_ask_122 ?_
              refine x_bipush (v := nI 8) C0 rfl dX11_ask_123 ?_
              refine x_iload C0 rfl dX11_ask_125 ?_
              refine x_imulN C0 dX11_ask_127 ?_
              refine x_iload C0 rfl dX11_ask_128 ?_
              refine x_iaddN C0 dX11_ask_130 ?_
              refine x_istore_n (L' := [_, _, _, _, _, _, _]) C0 hN (by decide) rfl dX11_ask_131 ?_
              refine x_iinc (v := nI (t + 1)) (L' := [_, _, _, _, _, _, _]) C0 hN rfl (by decide) (nI_inc t) rfl dX11_ask_132 ?_
              refine x_goto (tgt := 77) C0 (by decide) dX11_ask_135 ?_
              have := ihp (t + 1) (some (.int (nI (mx3 (fun j => talN fl (sDq fl lw) x td T N V (6 * w + t) j (2 ^ N)))))) (by omega)
              rw [akB_yes ⟨g108, Nat.lt_of_not_le (fun z => g117 ((nI_le_iff (by omega) hmx).mpr z))⟩] at this
              exact this
      refine x_iload C0 rfl dX11_ask_62 ?_
      refine x_aload_n C0 rfl dX11_ask_64 ?_
      refine x_getR C0 wf_X11_26 (fixd.k0 hS) rfl rfl hf dX11_ask_65 ?_
      refine x_getI C0 wf_X11_289 (by assumption) rfl dX11_ask_68 ?_
      refine x_topi eV1 ?_
      refine x_icmp_ge (tgt := 144) C0 (by decide) dX11_ask_71 (fun hkk => absurd hkk (nI_ge (by omega) (by omega))) (fun _ => ?_)
      refine x_iconst (v := 0) C0 rfl dX11_ask_74 ?_
      refine x_istore (L' := [_, _, _, _, _, _, _]) C0 hN (by decide) rfl dX11_ask_75 ?_
      exact hin T 0 v6 (by omega)
  have h17 : ∀ n s I1, s + n = 256 → FQ I I1 → tlF I1 (fun i j => talN fl (sDq fl lw) x td T N V i j s) T V → XX G 0 0 17 [some (.ref 0), some (.int (sCuttable x N)), some (.int (nI (seN fl (sDq fl lw) x td T N V s))), some (.int (nI s)), none, none, none] [] S R I1 J := by
    intro n
    induction n with
    | zero =>
      intro s I1 hn9 s1 t1
      have hn8 : s = 256 := by omega
      refine x_iload_n C0 rfl dX11_ask_17 ?_
      refine x_sipush (v := 256) C0 rfl dX11_ask_18 ?_
      refine x_icmp_ge (tgt := 57) C0 (by decide) dX11_ask_21 (fun _ => ?_) (fun hkk => absurd ((by rw [hn8]; decide)) hkk)
      refine x_iconst (v := -1) C0 rfl dX11_ask_57 ?_
      refine x_istore_n (L' := [_, _, _, _, _, _, _]) C0 hN (by decide) rfl dX11_ask_58 ?_
      refine x_iconst (v := 0) C0 rfl dX11_ask_59 ?_
      refine x_istore (L' := [_, _, _, _, _, _, _]) C0 hN (by decide) rfl dX11_ask_60 ?_
      subst hn8
      have e := se_end (fl := fl) (dq := sDq fl lw) (td := td) (V := V) (T := T) (l0 := 0) wx hN8 (256 - 2 ^ N) (by omega)
      have e9 : ∀ i j, talN fl (sDq fl lw) x td T N V i j 256 = talN fl (sDq fl lw) x td T N V i j (2 ^ N) := fun i j => by
        have := talN_end (fl := fl) (dq := sDq fl lw) (td := td) (T := T) (i := i) (j := j) wx hN8 (256 - 2 ^ N) (by omega)
        rw [show 2 ^ N + (256 - 2 ^ N) = 256 by omega] at this
        exact this
      rw [show 2 ^ N + (256 - 2 ^ N) = 256 by omega] at e
      rw [e.1]
      exact hout I1 s1 (fun w t j h1 h2 h3 => by rw [t1 w t j h1 h2 h3]; exact congrArg nI (e9 _ _)) V 0 none none (by omega)
    | succ n ih =>
      intro s I1 hn9 s1 t1
      have CC := C.fq s1
      refine x_iload_n C0 rfl dX11_ask_17 ?_
      refine x_sipush (v := 256) C0 rfl dX11_ask_18 ?_
      refine x_icmp_ge (tgt := 57) C0 (by decide) dX11_ask_21 (fun hkk => absurd hkk ((nI_ge (b := 256) (by omega) (by omega)))) (fun _ => ?_)
      refine x_iload_n C0 rfl dX11_ask_24 ?_
      refine x_iload_n C0 rfl dX11_ask_25 ?_
      refine x_iconst (v := -1) C0 rfl dX11_ask_26 ?_
      refine x_ixor C0 dX11_ask_27 ?_
      refine x_iand C0 dX11_ask_28 ?_
      refine x_if_ne (tgt := 51) C0 (by decide) dX11_ask_29 (fun g29 => ?_) (fun g29 => ?_)
      · refine x_iinc (v := nI (s + 1)) (L' := [_, _, _, _, _, _, _]) C0 hN rfl (by decide) (nI_inc s) rfl dX11_ask_51 ?_
        refine x_goto (tgt := 17) C0 (by decide) dX11_ask_54 ?_
        have := ih (s + 1) I1 (by omega) s1 (fun w t j h1 h2 h3 => by rw [t1 w t j h1 h2 h3]; exact congrArg nI (talN_no (fun z => g29 z.1)).symm)
        rw [(se_no (l0 := 0) (fun z => g29 z.1)).1] at this
        exact this
      · have hs2 := cut_in wx hN8 (by omega) g29
        refine x_aload_n C0 rfl dX11_ask_32 ?_
        refine x_iload_n C0 rfl dX11_ask_33 ?_
        refine x_callV [_] C0 hN rfl (xRf_of hR (by decide) (Nat.zero_le _) (Nat.zero_le _)) mv_X11_finishCut wm_X11_272 dX11_ask_34 (fixd.k0 hS) rfl rfl (Nat.le_of_ble_eq_true rfl) (c_X11_finishCut hS hf CC hs2 (fun I2 s2 e109 r2 => ?_))
        have t2 : tlF I2 (fun i j => talN fl (sDq fl lw) x td T N V i j s) T V := fun w t j h1 h2 h3 => by rw [e109]; exact t1 w t j h1 h2 h3
        have wE : WFx (sEndCut fl (sDq fl lw) x V N s) T N V := by
          obtain ⟨k, hk, ek⟩ := wx.1
          unfold sEndCut
          exact sEnd_WFx wl _ _ _ (WFx_cut wx hN8 hs2) (by rw [ek, nI_clamp (by omega)]; omega)
        refine x_aload_n C0 rfl dX11_ask_37 ?_
        refine x_callV [] C0 hN rfl (xRf_of hR (by decide) (Nat.zero_le _) (Nat.zero_le _)) mv_X11_isAsTold wm_X11_304 dX11_ask_38 (fixd.k0 hS) rfl rfl (Nat.le_of_ble_eq_true rfl) (c_X11_isAsTold hS hf (CC.fq s2) htd (tF.fq (s1.trans s2)) r2 (fun g38 => ?_) (fun g38 => ?_))
        · refine x_if_eq (tgt := 51) C0 (by decide) dX11_ask_41 (fun hkk => absurd hkk (by decide)) (fun _ => ?_)
          refine x_iinc (v := nI (seN fl (sDq fl lw) x td T N V s + 1)) (L' := [_, _, _, _, _, _, _]) C0 hN rfl (by decide) (nI_inc _) rfl dX11_ask_44 ?_
          refine x_aload_n C0 rfl dX11_ask_47 ?_
          refine x_callV [] C0 hN rfl (xRf_of hR (by decide) (Nat.zero_le _) (Nat.zero_le _)) mv_X11_tallyEnd wm_X11_311 dX11_ask_48 (fixd.k0 hS) rfl rfl (Nat.le_of_ble_eq_true rfl) (c_X11_tallyEnd (c := (fun i j => talN fl (sDq fl lw) x td T N V i j s)) hS hf (CC.fq s2) r2 (fun w t hw ht => th_three wE hw ht) t2 (fun I3 s3 t3 => ?_))
          refine x_iinc (v := nI (s + 1)) (L' := [_, _, _, _, _, _, _]) C0 hN rfl (by decide) (nI_inc s) rfl dX11_ask_51 ?_
          refine x_goto (tgt := 17) C0 (by decide) dX11_ask_54 ?_
          have := ih (s + 1) I3 (by omega) ((s1.trans s2).trans (fun a _ _ _ _ h => s3 a h)) (fun w t j h1 h2 h3 => by rw [t3 w t j h1 h2 h3]; exact congrArg nI (talN_yes ⟨g29, g38⟩).symm)
          rw [(se_yes (l0 := 0) ⟨g29, g38⟩).1] at this
          exact this
        · refine x_if_eq (tgt := 51) C0 (by decide) dX11_ask_41 (fun _ => ?_) (fun hkk => absurd (by decide) hkk)
          refine x_iinc (v := nI (s + 1)) (L' := [_, _, _, _, _, _, _]) C0 hN rfl (by decide) (nI_inc s) rfl dX11_ask_51 ?_
          refine x_goto (tgt := 17) C0 (by decide) dX11_ask_54 ?_
          have := ih (s + 1) I2 (by omega) (s1.trans s2) (fun w t j h1 h2 h3 => by rw [t2 w t j h1 h2 h3]; exact congrArg nI (talN_no (fun z => g38 z.2)).symm)
          rw [(se_no (l0 := 0) (fun z => g38 z.2)).1] at this
          exact this
  refine x_aload_n C0 rfl dX11_ask_0 ?_
  refine x_callV [] C0 hN rfl (xRf_of hR (by decide) (Nat.zero_le _) (Nat.zero_le _)) mv_X11_cuttable wm_X11_269 dX11_ask_1 (fixd.k0 hS) rfl rfl (Nat.le_of_ble_eq_true rfl) (c_X11_cuttable hS hf C ?_)
  refine x_istore_n (L' := [_, _, _, _, _, _, _]) C0 hN (by decide) rfl dX11_ask_4 ?_
  refine x_iconst (v := 0) C0 rfl dX11_ask_5 ?_
  refine x_istore_n (L' := [_, _, _, _, _, _, _]) C0 hN (by decide) rfl dX11_ask_6 ?_
  refine x_aload_n C0 rfl dX11_ask_7 ?_
  refine x_getR C0 wf_X11_70 (fixd.k0 hS) rfl rfl (fixd.tally hS) dX11_ask_8 ?_
  refine x_iconst (v := 0) C0 rfl dX11_ask_11 ?_
  refine x_callS [_, _] C0 (xRf_of hR (by decide) (Nat.zero_le _) (Nat.zero_le _)) ms_J7_fill_53178 wm_X11_106 dX11_ask_12 rfl rfl (Nat.le_of_ble_eq_true rfl) (c_J7_fill_53178 (fixd.s109 hS) (by decide) ?_)
  refine x_iconst (v := 0) C0 rfl dX11_ask_15 ?_
  refine x_istore_n (L' := [_, _, _, _, _, _, _]) C0 hN (by decide) rfl dX11_ask_16 ?_
  exact h17 256 0 _ (by omega) (fun a _ _ _ _ h => ufill_row I 108 0 h) (fun w t j h1 h2 h3 => ufill_in I 0 (by omega))
