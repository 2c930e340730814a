/-! SETS OF SCENES TO CUT: what is to come, the end when a set is cut, spare -/
theorem pow_shl : ∀ N, N ≤ 8 → (1 : Int32) <<< (nI N &&& 31) = nI (2 ^ N) := by decide +kernel
def sToCome (x : xRow) (N : Nat) : Int32 := ((1 : Int32) <<< (nI N &&& 31)) - ((1 : Int32) <<< (x 0 &&& 31))
theorem come_bits : ∀ N, N ≤ 8 → ∀ s, s ≤ N → ((1 : Int32) <<< (nI N &&& 31)) - ((1 : Int32) <<< (nI s &&& 31)) = nI (2 ^ N - 2 ^ s) ∧ (((1 : Int32) <<< (nI N &&& 31)) - 1) &&& ((((1 : Int32) <<< (nI s &&& 31)) - 1) ^^^ (-1)) = nI (2 ^ N - 2 ^ s) := by decide +kernel
def sCuttable (x : xRow) (N : Nat) : Int32 := sToCome x N &&& (x 3 ^^^ (-1))
theorem come_nI {x : xRow} {T N V : Nat} (wx : WFx x T N V) (hN : N ≤ 8) : ∃ c, c < 2 ^ N ∧ sToCome x N = nI c := by
  obtain ⟨s, hs, e⟩ := wx.1
  refine ⟨2 ^ N - 2 ^ s, ?_, ?_⟩
  · have := Nat.two_pow_pos N
    have := Nat.two_pow_pos s
    omega
  · unfold sToCome
    rw [e]
    exact (come_bits N hN s hs).1
theorem cuttable_nI {x : xRow} {T N V : Nat} (wx : WFx x T N V) (hN : N ≤ 8) : ∃ c, c < 2 ^ N ∧ sCuttable x N = nI c := by
  obtain ⟨c, hc, e⟩ := come_nI wx hN
  unfold sCuttable
  rw [e]
  exact nI_and _ hc
theorem nI_tn {m : Nat} (h : m < 2 ^ 31) : (nI m).toBitVec.toNat = m := by
  show (BitVec.ofNat 32 m).toNat = m
  rw [BitVec.toNat_ofNat]
  exact Nat.mod_eq_of_lt (by omega)
theorem nI_or {a b V : Nat} (hV : V ≤ 30) (ha : a < 2 ^ V) (hb : b < 2 ^ V) : ∃ m, m < 2 ^ V ∧ nI a ||| nI b = nI m := by
  have h30 : 2 ^ V ≤ 2 ^ 30 := Nat.pow_le_pow_right (by decide) hV
  refine ⟨a ||| b, Nat.or_lt_two_pow ha hb, ?_⟩
  apply Int32.toBitVec_inj.mp
  show (nI a).toBitVec ||| (nI b).toBitVec = BitVec.ofNat 32 _
  apply BitVec.eq_of_toNat_eq
  rw [BitVec.toNat_or, nI_tn (by omega), nI_tn (by omega), BitVec.toNat_ofNat, Nat.mod_eq_of_lt]
  have := Nat.or_lt_two_pow ha hb
  omega
/-- a set within another is no greater -/
theorem sub_le {s c : Nat} (hs : s < 2 ^ 31) (hc : c < 2 ^ 31) (h : nI s &&& (nI c ^^^ (-1)) = 0) : s ≤ c := by
  have h1 : (nI s).toBitVec &&& ((nI c).toBitVec ^^^ (-1 : Int32).toBitVec) = 0#32 := by
    rw [← Int32.toBitVec_xor, ← Int32.toBitVec_and, h]; rfl
  have h2 : (nI s).toBitVec &&& (nI c).toBitVec = (nI s).toBitVec := by
    rw [show (-1 : Int32).toBitVec = BitVec.allOnes 32 from rfl, BitVec.xor_allOnes] at h1
    ext i hi
    have := congrArg (fun z : BitVec 32 => z[i]) h1
    simp at this ⊢
    cases h3 : (nI s).toBitVec[i] <;> simp_all
  have h4 := congrArg BitVec.toNat h2
  rw [BitVec.toNat_and, nI_tn hs, nI_tn hc] at h4
  exact h4 ▸ Nat.and_le_right
def sCutX (x : xRow) (s : Nat) : xRow := upd x 3 (x 3 ||| nI s)
theorem WFx_cut {x : xRow} {T N V s : Nat} (h : WFx x T N V) (hN : N ≤ 8) (hs : s < 2 ^ N) : WFx (sCutX x s) T N V := by
  obtain ⟨⟨a, ha, ea⟩, ⟨m, hm, em⟩, ⟨c, hc, ec⟩, h4, h5⟩ := h
  unfold sCutX
  refine ⟨⟨a, ha, by rw [upd_ne (by omega)]; exact ea⟩, ⟨m, hm, by rw [upd_ne (by omega)]; exact em⟩, ?_, fun k hk => ?_, fun w t hw ht => ?_⟩
  · rw [upd_eq, ec]
    exact nI_or (by omega) hc hs
  · rw [upd_ne (by omega), upd_ne (by omega)]
    exact h4 k hk
  · rw [upd_ne (by omega)]
    exact h5 w t hw ht
/-- the end when the scenes of set s are cut as well -/
def sEndCut (fl : xRow) (dq : xDq) (x : xRow) (V N s : Nat) : xRow := sEnd fl dq V (N - (x 0).toNatClampNeg) (x 0).toNatClampNeg (sCutX x s)
theorem sCutX_0 {x : xRow} {s : Nat} : sCutX x s 0 = x 0 := upd_ne (by omega)
theorem FQ.u37 {I : xTI} {j : Nat} {v : Int32} : FQ I (u2 I 37 j v) := fun a h1 _ _ _ _ => u2_row _ _ _ h1
theorem MQs.st {I : xTI} {j : Nat} {v : Int32} (h : 2058 ≤ j) : MQs I (u2 I 151 j v) := ⟨fun a _ _ _ h4 _ _ => u2_row _ _ _ h4, fun k _ => by rw [u2_row _ _ _ (by decide)], fun i hi => u2_off _ _ (by omega)⟩
theorem c_X11_notShown {S : xTS} {R : xTR} {I : xTI} {J : xTJ} {post : xPost} {f T N V : Nat} {fl x : xRow} {lw : Option (List (Nat × Nat))} (hS : fixd S R) (hf : R 0 2 = some f) (C : FCore I f fl lw T N V x) (hp : post (some (.int (sToCome x N))) S R I J) : xSpec 2 yX11_notShown cX11_notShown 1 (some .int) 0 0 [.ref 0] S R I J post := by
  refine xSpec_of mt_X11_notShown (Nat.le_of_ble_eq_true rfl) (fun G C0 hN hR E hI hZ => ?_)
  change XX G 0 0 0 [some (.ref 0)] [] S R I J
  obtain ⟨hfm, wl, rF, rH, wx⟩ := id C
  have hF := hS.film hfm
  have hH := hS.hall (q := 33) (by decide)
  have hT6 := wl.2.1
  have hN8 := wl.2.2.2.1
  have hV6 := wl.2.2.2.2.2.1
  have eT : I f 0 = nI T := rF.1.trans wl.1
  have eN : I f 1 = nI N := rF.2.1.trans wl.2.2.1
  have eV : I f 2 = nI V := rF.2.2.1.trans wl.2.2.2.2.1
  have hfh : ∀ i j, i < 9 → j < 4 → f + i ≠ 33 + j := fun i j hi hj => hf_apart 33 (by decide) f hfm i hi j hj
  obtain ⟨fs0, fs1, fs2, fs3, fs4, fs5, fs6, fs7, fs8, fr4, fr5, fr6, fr7, fr8, fr9, fr10, fr11⟩ := id hF
  obtain ⟨hs0, hs1, hs2, hs3, hr4, hr5, hr6⟩ := id hH
  obtain ⟨s, hs, e0⟩ := wx.1
  have cb := come_bits N hN8 s hs
  unfold sToCome at hp
  rw [e0, cb.1, ← cb.2, ← e0, ← rH.1, ← eN] at hp
  refine x_aload_n C0 rfl dX11_notShown_0 ?_
  refine x_getR C0 wf_X11_26 (fixd.k0 hS) rfl rfl hf dX11_notShown_1 ?_
  refine x_callV [] C0 hN rfl (xRf_of hR (by decide) (Nat.zero_le _) (Nat.zero_le _)) mv_X2_allScenes wm_X11_266 dX11_notShown_4 (by assumption) rfl rfl (Nat.le_of_ble_eq_true rfl) (c_X2_allScenes hF ?_)
  refine x_iconst (v := 1) C0 rfl dX11_notShown_7 ?_
  refine x_aload_n C0 rfl dX11_notShown_8 ?_
  refine x_getR C0 wf_X11_46 (fixd.k0 hS) rfl rfl (fixd.now hS) dX11_notShown_9 ?_
  refine x_getI C0 wf_X11_141 (by assumption) rfl dX11_notShown_12 ?_
  refine x_ishl C0 dX11_notShown_15 ?_
  refine x_iconst (v := 1) C0 rfl dX11_notShown_16 ?_
  refine x_isub C0 dX11_notShown_17 ?_
  refine x_iconst (v := -1) C0 rfl dX11_notShown_18 ?_
  refine x_ixor C0 dX11_notShown_19 ?_
  refine x_iand C0 dX11_notShown_20 ?_
  refine x_iret C0 E (by decide) (by decide) dX11_notShown_21 ?_
  exact hp
theorem c_X11_cuttable {S : xTS} {R : xTR} {I : xTI} {J : xTJ} {post : xPost} {f T N V : Nat} {fl x : xRow} {lw : Option (List (Nat × Nat))} (hS : fixd S R) (hf : R 0 2 = some f) (C : FCore I f fl lw T N V x) (hp : post (some (.int (sCuttable x N))) S R I J) : xSpec 3 yX11_cuttable cX11_cuttable 1 (some .int) 0 0 [.ref 0] S R I J post := by
  refine xSpec_of mt_X11_cuttable (Nat.le_of_ble_eq_true rfl) (fun G C0 hN hR E hI hZ => ?_)
  change XX G 0 0 0 [some (.ref 0)] [] S R I J
  obtain ⟨hfm, wl, rF, rH, wx⟩ := id C
  have hF := hS.film hfm
  have hH := hS.hall (q := 33) (by decide)
  have hT6 := wl.2.1
  have hN8 := wl.2.2.2.1
  have hV6 := wl.2.2.2.2.2.1
  have eT : I f 0 = nI T := rF.1.trans wl.1
  have eN : I f 1 = nI N := rF.2.1.trans wl.2.2.1
  have eV : I f 2 = nI V := rF.2.2.1.trans wl.2.2.2.2.1
  have hfh : ∀ i j, i < 9 → j < 4 → f + i ≠ 33 + j := fun i j hi hj => hf_apart 33 (by decide) f hfm i hi j hj
  obtain ⟨fs0, fs1, fs2, fs3, fs4, fs5, fs6, fs7, fs8, fr4, fr5, fr6, fr7, fr8, fr9, fr10, fr11⟩ := id hF
  obtain ⟨hs0, hs1, hs2, hs3, hr4, hr5, hr6⟩ := id hH
  unfold sCuttable at hp
  rw [← rH.2.2.2.1] at hp
  refine x_aload_n C0 rfl dX11_cuttable_0 ?_
  refine x_callV [] C0 hN rfl (xRf_of hR (by decide) (Nat.zero_le _) (Nat.zero_le _)) mv_X11_notShown wm_X11_245 dX11_cuttable_1 (fixd.k0 hS) rfl rfl (Nat.le_of_ble_eq_true rfl) (c_X11_notShown hS hf C ?_)
  refine x_aload_n C0 rfl dX11_cuttable_4 ?_
  refine x_getR C0 wf_X11_46 (fixd.k0 hS) rfl rfl (fixd.now hS) dX11_cuttable_5 ?_
  refine x_getI C0 wf_X11_263 (by assumption) rfl dX11_cuttable_8 ?_
  refine x_iconst (v := -1) C0 rfl dX11_cuttable_11 ?_
  refine x_ixor C0 dX11_cuttable_12 ?_
  refine x_iand C0 dX11_cuttable_13 ?_
  refine x_iret C0 E (by decide) (by decide) dX11_cuttable_14 ?_
  exact hp
theorem c_X12_toCome {S : xTS} {R : xTR} {I : xTI} {J : xTJ} {post : xPost} {T N V : Nat} {fl x : xRow} {lw : Option (List (Nat × Nat))} (hM : isModel S R) (C : MCore I fl lw T N V x) (hp : post (some (.int (sToCome x N))) S R I J) : xSpec 2 yX12_toCome cX12_toCome 1 (some .int) 0 0 [.ref 135] S R I J post := by
  refine xSpec_of mt_X12_toCome (Nat.le_of_ble_eq_true rfl) (fun G C0 hN hR E hI hZ => ?_)
  change XX G 0 0 0 [some (.ref 135)] [] S R I J
  obtain ⟨wl, mF, mL, mH, wx⟩ := id C
  have hT6 := wl.2.1
  have hN8 := wl.2.2.2.1
  have hV6 := wl.2.2.2.2.2.1
  have eT : I 141 0 = nI T := (mF 0 (by decide)).trans wl.1
  have eN : I 141 1 = nI N := (mF 1 (by decide)).trans wl.2.2.1
  have eV : I 141 2 = nI V := (mF 2 (by decide)).trans wl.2.2.2.2.1
  have hb0 : 0 ≤ 2192 := by decide
  refine x_iconst (v := 1) C0 rfl dX12_toCome_0 ?_
  refine x_aload_n C0 rfl dX12_toCome_1 ?_
  refine x_callV [] C0 hN rfl (xRf_of hR (by decide) (Nat.zero_le _) (Nat.zero_le _)) mv_X12_scenes wm_X12_285 dX12_toCome_2 (isModel.k0 hM) rfl rfl (Nat.le_of_ble_eq_true rfl) (c_X12_scenes hM ?_)
  refine x_topi eN ?_
  refine x_ishl C0 dX12_toCome_5 ?_
  refine x_iconst (v := 1) C0 rfl dX12_toCome_6 ?_
  refine x_aload_n C0 rfl dX12_toCome_7 ?_
  refine x_getR C0 wf_X12_119 (isModel.k0 hM) rfl rfl (isModel.r24 hM) dX12_toCome_8 ?_
  refine x_iconst (v := nI 0) C0 rfl dX12_toCome_11 ?_
  refine x_ialoadN C0 (isModel.s24 hM) (by omega) (by omega) dX12_toCome_12 ?_
  refine x_topi (mH 0 (by decide)) ?_
  refine x_ishl C0 dX12_toCome_13 ?_
  refine x_isub C0 dX12_toCome_14 ?_
  refine x_iret C0 E (by decide) (by decide) dX12_toCome_15 ?_
  exact hp
theorem c_X11_finishCut {S : xTS} {R : xTR} {I : xTI} {J : xTJ} {post : xPost} {f T N V : Nat} {fl x : xRow} {lw : Option (List (Nat × Nat))} (hS : fixd S R) (hf : R 0 2 = some f) (C : FCore I f fl lw T N V x) {s : Nat} (hs : s < 2 ^ N) (hp : ∀ I', FQ I I' → I' 109 = I 109 → RHall I' 37 (sEndCut fl (sDq fl lw) x V N s) N → post none S R I' J) : xSpec 6 yX11_finishCut cX11_finishCut 2 none 0 0 [.ref 0, .int (nI s)] S R I J post := by
  refine xSpec_of mt_X11_finishCut (Nat.le_of_ble_eq_true rfl) (fun G C0 hN hR E hI hZ => ?_)
  change XX G 0 0 0 [some (.ref 0), some (.int (nI s))] [] S R I J
  obtain ⟨hfm, wl, rF, rH, wx⟩ := id C
  have hF := hS.film hfm
  have hH := hS.hall (q := 33) (by decide)
  have hT6 := wl.2.1
  have hN8 := wl.2.2.2.1
  have hV6 := wl.2.2.2.2.2.1
  have eT : I f 0 = nI T := rF.1.trans wl.1
  have eN : I f 1 = nI N := rF.2.1.trans wl.2.2.1
  have eV : I f 2 = nI V := rF.2.2.1.trans wl.2.2.2.2.1
  have hfh : ∀ i j, i < 9 → j < 4 → f + i ≠ 33 + j := fun i j hi hj => hf_apart 33 (by decide) f hfm i hi j hj
  obtain ⟨fs0, fs1, fs2, fs3, fs4, fs5, fs6, fs7, fs8, fr4, fr5, fr6, fr7, fr8, fr9, fr10, fr11⟩ := id hF
  obtain ⟨hs0, hs1, hs2, hs3, hr4, hr5, hr6⟩ := id hH
  have hT := hS.hall (q := 37) (by decide)
  obtain ⟨hq0, hq1, hq2, hq3, -⟩ := id hT
  have hf37 : ∀ i j, i < 9 → j < 4 → f + i ≠ 37 + j := fun i j hi hj => hf_apart 37 (by decide) f hfm i hi j hj
  have h3733 : ∀ i j, i < 4 → j < 4 → 37 + i ≠ 33 + j := fun i j hi hj => hh_apart 37 (by decide) 33 (by decide) (by decide) i hi j hj
  have rT : RHall (uhall I 37 33) 37 x N := uhall_hall h3733 hN8 rH
  have q2 : FQ I (u2 (uhall I 37 33) 37 3 (x 3 ||| nI s)) := FQ.copy.trans FQ.u37
  have r2 : RHall (u2 (uhall I 37 33) 37 3 (x 3 ||| nI s)) 37 (sCutX x s) N := RHall_fld rT (by omega) hN8
  refine x_aload_n C0 rfl dX11_finishCut_0 ?_
  refine x_getR C0 wf_X11_50 (fixd.k0 hS) rfl rfl (fixd.trial hS) dX11_finishCut_1 ?_
  refine x_aload_n C0 rfl dX11_finishCut_4 ?_
  refine x_getR C0 wf_X11_46 (fixd.k0 hS) rfl rfl (fixd.now hS) dX11_finishCut_5 ?_
  refine x_callV [_] C0 hN rfl (xRf_of hR (by decide) (Nat.zero_le _) (Nat.zero_le _)) mv_X3_copy wm_X11_176 dX11_finishCut_8 (by assumption) rfl rfl (Nat.le_of_ble_eq_true rfl) (c_X3_copy hT hH h3733 ?_)
  refine x_aload_n C0 rfl dX11_finishCut_11 ?_
  refine x_getR C0 wf_X11_50 (fixd.k0 hS) rfl rfl (fixd.trial hS) dX11_finishCut_12 ?_
  refine x_dup C0 rfl dX11_finishCut_15 ?_
  refine x_getI C0 wf_X11_263 (by assumption) rfl dX11_finishCut_16 ?_
  refine x_iload_n C0 rfl dX11_finishCut_19 ?_
  refine x_ior C0 dX11_finishCut_20 ?_
  refine x_topi (show uhall I 37 33 37 3 ||| nI s = x 3 ||| nI s by rw [rT.2.2.2.1]) ?_
  refine x_putI C0 wf_X11_263 (by assumption) rfl dX11_finishCut_21 ?_
  refine x_aload_n C0 rfl dX11_finishCut_24 ?_
  refine x_getR C0 wf_X11_26 (fixd.k0 hS) rfl rfl hf dX11_finishCut_25 ?_
  refine x_aload_n C0 rfl dX11_finishCut_28 ?_
  refine x_getR C0 wf_X11_50 (fixd.k0 hS) rfl rfl (fixd.trial hS) dX11_finishCut_29 ?_
  refine x_callV [_] C0 hN rfl (xRf_of hR (by decide) (Nat.zero_le _) (Nat.zero_le _)) mv_X2_finish wm_X11_236 dX11_finishCut_32 (by assumption) rfl rfl (Nat.le_of_ble_eq_true rfl) (c_X2_finish hF hT hf37 wl (WFx_cut wx hN8 hs) (C.fq q2).2.2.1 r2 (fun k I2 hkN hx0 s2 r3 => ?_))
  refine x_vret C0 E (by decide) (by decide) dX11_finishCut_35 ?_
  rw [sCutX_0] at hx0
  unfold sEndCut at hp
  rw [hx0, nI_clamp (by omega)] at hp
  exact hp I2 (q2.trans (FQ.hall s2)) ((s2 109 (by decide) (by decide) (by decide)).trans ((u2_row _ _ _ (by decide)).trans (uhall_row I (by decide) (by decide) (by decide) (by decide)))) r3
theorem c_X12_endsCut {S : xTS} {R : xTR} {I : xTI} {J : xTJ} {post : xPost} {T N V : Nat} {fl x : xRow} {lw : Option (List (Nat × Nat))} (hM : isModel S R) (C : MCore I fl lw T N V x) {s : Nat} (hs : s < 2 ^ N) (hp : ∀ I', MQs I I' → I' 154 = I 154 → MHall I' 2058 (sEndCut fl (sDq fl lw) x V N s) → post none S R I' J) : xSpec 7 yX12_endsCut cX12_endsCut 2 none 0 0 [.ref 135, .int (nI s)] S R I J post := by
  refine xSpec_of mt_X12_endsCut (Nat.le_of_ble_eq_true rfl) (fun G C0 hN hR E hI hZ => ?_)
  change XX G 0 0 0 [some (.ref 135), some (.int (nI s))] [] S R I J
  obtain ⟨wl, mF, mL, mH, wx⟩ := id C
  have hT6 := wl.2.1
  have hN8 := wl.2.2.2.1
  have hV6 := wl.2.2.2.2.2.1
  have eT : I 141 0 = nI T := (mF 0 (by decide)).trans wl.1
  have eN : I 141 1 = nI N := (mF 1 (by decide)).trans wl.2.2.1
  have eV : I 141 2 = nI V := (mF 2 (by decide)).trans wl.2.2.2.2.1
  have hb0 : 0 ≤ 2192 := by decide
  have h8 := ucp_hall (b := 2058) mH 62 (by decide)
  have q2 : MQs I (u2 (ucp I 0 2058 62) 151 2061 (x 3 ||| nI s)) := (MQs.copy (by decide)).trans (MQs.st (by decide))
  have r2 : MHall (u2 (ucp I 0 2058 62) 151 2061 (x 3 ||| nI s)) 2058 (sCutX x s) := h8.upd (by omega) (by omega)
  obtain ⟨-, mF2, mL2, -, -⟩ := C.mq q2
  refine x_aload_n C0 rfl dX12_endsCut_0 ?_
  refine x_iconst (v := nI 0) C0 rfl dX12_endsCut_1 ?_
  refine x_sipush (v := nI 2058) C0 rfl dX12_endsCut_2 ?_
  refine x_bipush (v := nI 62) C0 rfl dX12_endsCut_5 ?_
  refine x_callV [_, _, _] C0 hN rfl (xRf_of hR (by decide) (Nat.zero_le _) (Nat.zero_le _)) mv_X12_copies wm_X12_294 dX12_endsCut_7 (isModel.k0 hM) rfl rfl (Nat.le_of_ble_eq_true rfl) (c_X12_copies hM (Or.inl (by omega)) (by omega) (by omega) ?_)
  refine x_aload_n C0 rfl dX12_endsCut_10 ?_
  refine x_getR C0 wf_X12_119 (isModel.k0 hM) rfl rfl (isModel.r24 hM) dX12_endsCut_11 ?_
  refine x_sipush (v := nI 2061) C0 rfl dX12_endsCut_14 ?_
  refine x_dup2 C0 rfl rfl dX12_endsCut_17 ?_
  refine x_ialoadN C0 (isModel.s24 hM) (by omega) (by omega) dX12_endsCut_18 ?_
  refine x_iload_n C0 rfl dX12_endsCut_19 ?_
  refine x_ior C0 dX12_endsCut_20 ?_
  refine x_topi (show ucp I 0 2058 62 151 2061 ||| nI s = x 3 ||| nI s by rw [show ucp I 0 2058 62 151 2061 = x 3 from h8 3 (by decide)]) ?_
  refine x_iastoreN C0 (isModel.s24 hM) (by omega) (by omega) dX12_endsCut_21 ?_
  refine x_aload_n C0 rfl dX12_endsCut_22 ?_
  refine x_sipush (v := nI 2058) C0 rfl dX12_endsCut_23 ?_
  refine x_callV [_] C0 hN rfl (xRf_of hR (by decide) (Nat.zero_le _) (Nat.zero_le _)) mv_X12_ends wm_X12_372 dX12_endsCut_26 (isModel.k0 hM) rfl rfl (Nat.le_of_ble_eq_true rfl) (c_X12_ends hM (by decide) wl (WFx_cut wx hN8 hs) mF2 mL2 r2 (fun k I2 hkN hx0 s2 r3 v3 => ?_))
  refine x_vret C0 E (by decide) (by decide) dX12_endsCut_29 ?_
  rw [sCutX_0] at hx0
  unfold sEndCut at hp
  rw [hx0, nI_clamp (by omega)] at hp
  exact hp I2 (q2.trans (MQs.same s2 (by decide))) ((s2.1 154 (by decide) (by decide) (by decide) (by decide)).trans ((u2_row _ _ _ (by decide)).trans (ucp_row I (by decide)))) r3
abbrev sFewer (s : Nat) (b : Int32) : Prop := b = -1 ∨ sBits (nI s) 30 < sBits b 30
theorem shl_le {N : Nat} (h : N ≤ 8) : 2 ^ N ≤ 256 := Nat.pow_le_pow_right (n := 2) (by decide) h
theorem c_X11_isFewer {S : xTS} {R : xTR} {I : xTI} {J : xTJ} {post : xPost} {s : Nat} {b : Int32} (hs : s < 256) (hb : b = -1 ∨ ∃ m, m < 256 ∧ b = nI m) (h1 : sFewer s b → post (some (.int 1)) S R I J) (h0 : ¬ sFewer s b → post (some (.int 0)) S R I J) : xSpec 2 yX11_isFewer cX11_isFewer 2 (some .boolean) 0 0 [.int (nI s), .int b] S R I J post := by
  refine xSpec_of mt_X11_isFewer (Nat.le_of_ble_eq_true rfl) (fun G C0 hN hR E hI hZ => ?_)
  change XX G 0 0 0 [some (.int (nI s)), some (.int b)] [] S R I J
  refine x_iload_n C0 rfl dX11_isFewer_0 ?_
  refine x_iconst (v := -1) C0 rfl dX11_isFewer_1 ?_
  refine x_icmp_eq (tgt := 16) C0 (by decide) dX11_isFewer_2 (fun g2 => ?_) (fun g2 => ?_)
  · refine x_iconst (v := 1) C0 rfl dX11_isFewer_16 ?_
    refine x_goto (tgt := 21) C0 (by decide) dX11_isFewer_17 ?_
    refine x_zret C0 E (by decide) (by decide) rfl dX11_isFewer_21 ?_
    exact h1 (Or.inl g2)
  · obtain ⟨m, hm, em⟩ := hb.resolve_left g2
    refine x_iload_n C0 rfl dX11_isFewer_5 ?_
    refine x_callS [_] C0 (xRf_of hR (by decide) (Nat.zero_le _) (Nat.zero_le _)) ms_J6_bitCount_0f7a4 wm_X11_222 dX11_isFewer_6 rfl rfl (Nat.le_of_ble_eq_true rfl) (c_J6_bitCount_0f7a4 hs ?_)
    subst em
    refine x_iload_n C0 rfl dX11_isFewer_9 ?_
    refine x_callS [_] C0 (xRf_of hR (by decide) (Nat.zero_le _) (Nat.zero_le _)) ms_J6_bitCount_0f7a4 wm_X11_222 dX11_isFewer_10 rfl rfl (Nat.le_of_ble_eq_true rfl) (c_J6_bitCount_0f7a4 hm ?_)
    refine x_icmp_ge (tgt := 20) C0 (by decide) dX11_isFewer_13 (fun g13 => ?_) (fun g13 => ?_)
    · refine x_iconst (v := 0) C0 rfl dX11_isFewer_20 ?_
      refine x_zret C0 E (by decide) (by decide) rfl dX11_isFewer_21 ?_
      exact h0 (fun q => q.elim g2 (fun z => absurd g13 (i_nle.mpr z)))
    · refine x_iconst (v := 1) C0 rfl dX11_isFewer_16 ?_
      refine x_goto (tgt := 21) C0 (by decide) dX11_isFewer_17 ?_
      refine x_zret C0 E (by decide) (by decide) rfl dX11_isFewer_21 ?_
      exact h1 (Or.inr (i_nle.mp g13))
def spB (fl : xRow) (dq : xDq) (x : xRow) (V N a : Nat) : Nat → Int32
  | 0 => -1
  | s + 1 => if nI s &&& (sCuttable x N ^^^ (-1)) = 0 ∧ sFewer s (spB fl dq x V N a s) ∧ xbit (sEndCut fl dq x V N s 2) a then nI s else spB fl dq x V N a s
theorem spB_yes {fl : xRow} {dq : xDq} {x : xRow} {V N a s : Nat} (h : nI s &&& (sCuttable x N ^^^ (-1)) = 0 ∧ sFewer s (spB fl dq x V N a s) ∧ xbit (sEndCut fl dq x V N s 2) a) : spB fl dq x V N a (s + 1) = nI s := by conv => lhs; unfold spB; rw [if_pos h]
theorem spB_no {fl : xRow} {dq : xDq} {x : xRow} {V N a s : Nat} (h : ¬ (nI s &&& (sCuttable x N ^^^ (-1)) = 0 ∧ sFewer s (spB fl dq x V N a s) ∧ xbit (sEndCut fl dq x V N s 2) a)) : spB fl dq x V N a (s + 1) = spB fl dq x V N a s := by conv => lhs; unfold spB; rw [if_neg h]
theorem spB_or {fl : xRow} {dq : xDq} {x : xRow} {V N a : Nat} : ∀ s, spB fl dq x V N a s = -1 ∨ ∃ m, m < s ∧ spB fl dq x V N a s = nI m
  | 0 => Or.inl rfl
  | s + 1 => by
    by_cases h : nI s &&& (sCuttable x N ^^^ (-1)) = 0 ∧ sFewer s (spB fl dq x V N a s) ∧ xbit (sEndCut fl dq x V N s 2) a
    · exact Or.inr ⟨s, by omega, spB_yes h⟩
    · rw [spB_no h]
      exact (spB_or s).imp id (fun ⟨m, hm, e⟩ => ⟨m, by omega, e⟩)
theorem cut_out {x : xRow} {T N V s : Nat} (wx : WFx x T N V) (hN : N ≤ 8) (h1 : 2 ^ N ≤ s) (h2 : s < 256) : ¬ nI s &&& (sCuttable x N ^^^ (-1)) = 0 := by
  obtain ⟨c, hc, e⟩ := cuttable_nI wx hN
  have := shl_le hN
  rw [e]
  intro q
  have := sub_le (by omega) (by omega) q
  omega
theorem cut_in {x : xRow} {T N V s : Nat} (wx : WFx x T N V) (hN : N ≤ 8) (h2 : s < 256) (h : nI s &&& (sCuttable x N ^^^ (-1)) = 0) : s < 2 ^ N := Nat.lt_of_not_le (fun z => cut_out wx hN z h2 h)
theorem spB_end {fl : xRow} {dq : xDq} {x : xRow} {T N V a : Nat} (wx : WFx x T N V) (hN : N ≤ 8) : ∀ n, 2 ^ N + n ≤ 256 → spB fl dq x V N a (2 ^ N + n) = spB fl dq x V N a (2 ^ N)
  | 0, _ => rfl
  | n + 1, h => by
    rw [← Nat.add_assoc, spB_no (fun q => cut_out wx hN (by omega) (by omega) q.1)]
    exact spB_end wx hN n (by omega)
def aSpare (fl : xRow) (dq : xDq) (x : xRow) (V N : Nat) (i : Int32) : Int32 := if (0 ≤ i ∧ i < fl 2) ∧ xbit (x 2) i.toNatClampNeg then spB fl dq x V N i.toNatClampNeg (2 ^ N) else -1
theorem c_X11_spare {S : xTS} {R : xTR} {I : xTI} {J : xTJ} {post : xPost} {f T N V : Nat} {fl x : xRow} {lw : Option (List (Nat × Nat))} (hS : fixd S R) (hf : R 0 2 = some f) (C : FCore I f fl lw T N V x) {i : Int32} (hp : ∀ I', FQ I I' → post (some (.int (aSpare fl (sDq fl lw) x V N i))) S R I' J) : xSpec 7 yX11_spare cX11_spare 5 (some .int) 0 0 [.ref 0, .int i] S R I J post := by
  refine xSpec_of mt_X11_spare (Nat.le_of_ble_eq_true rfl) (fun G C0 hN hR E hI hZ => ?_)
  change XX G 0 0 0 [some (.ref 0), some (.int i), none, none, none] [] S R I J
  obtain ⟨hfm, wl, rF, rH, wx⟩ := id C
  have hF := hS.film hfm
  have hH := hS.hall (q := 33) (by decide)
  have hT6 := wl.2.1
  have hN8 := wl.2.2.2.1
  have hV6 := wl.2.2.2.2.2.1
  have eT : I f 0 = nI T := rF.1.trans wl.1
  have eN : I f 1 = nI N := rF.2.1.trans wl.2.2.1
  have eV : I f 2 = nI V := rF.2.2.1.trans wl.2.2.2.2.1
  have hfh : ∀ i j, i < 9 → j < 4 → f + i ≠ 33 + j := fun i j hi hj => hf_apart 33 (by decide) f hfm i hi j hj
  obtain ⟨fs0, fs1, fs2, fs3, fs4, fs5, fs6, fs7, fs8, fr4, fr5, fr6, fr7, fr8, fr9, fr10, fr11⟩ := id hF
  obtain ⟨hs0, hs1, hs2, hs3, hr4, hr5, hr6⟩ := id hH
  unfold aSpare at hp
  rw [← rF.2.2.1] at hp
  have h256 := shl_le hN8
  have hT := hS.hall (q := 37) (by decide)
  obtain ⟨hq0, hq1, hq2, hq3, -⟩ := id hT
  have h34 : ∀ a, a < V → (∀ I', FQ I I' → post (some (.int (spB fl (sDq fl lw) x V N a (2 ^ N)))) S R I' J) → ∀ n s I1, s + n = 256 → FQ I I1 → XX G 0 0 34 [some (.ref 0), some (.int (nI a)), some (.int (sCuttable x N)), some (.int (spB fl (sDq fl lw) x V N a s)), some (.int (nI s))] [] S R I1 J := by
    intro a ha hp n
    induction n with
    | zero =>
      intro s I1 hn9 s1
      have hn8 : s = 256 := by omega
      refine x_iload C0 rfl dX11_spare_34 ?_
      refine x_sipush (v := 256) C0 rfl dX11_spare_36 ?_
      refine x_icmp_ge (tgt := 86) C0 (by decide) dX11_spare_39 (fun _ => ?_) (fun hkk => absurd ((by rw [hn8]; decide)) hkk)
      refine x_iload_n C0 rfl dX11_spare_86 ?_
      refine x_iret C0 E (by decide) (by decide) dX11_spare_87 ?_
      subst hn8
      have e := spB_end (fl := fl) (dq := sDq fl lw) (a := a) wx hN8 (256 - 2 ^ N) (by omega)
      rw [show 2 ^ N + (256 - 2 ^ N) = 256 by omega] at e
      rw [e]
      exact hp I1 s1
    | succ n ih =>
      intro s I1 hn9 s1
      have CC := C.fq s1
      refine x_iload C0 rfl dX11_spare_34 ?_
      refine x_sipush (v := 256) C0 rfl dX11_spare_36 ?_
      refine x_icmp_ge (tgt := 86) C0 (by decide) dX11_spare_39 (fun hkk => absurd hkk ((nI_ge (b := 256) (by omega) (by omega)))) (fun _ => ?_)
      refine x_iload C0 rfl dX11_spare_42 ?_
      refine x_iload_n C0 rfl dX11_spare_44 ?_
      refine x_iconst (v := -1) C0 rfl dX11_spare_45 ?_
      refine x_ixor C0 dX11_spare_46 ?_
      refine x_iand C0 dX11_spare_47 ?_
      refine x_if_ne (tgt := 80) C0 (by decide) dX11_spare_48 (fun g48 => ?_) (fun g48 => ?_)
      · refine x_iinc (v := nI (s + 1)) (L' := [_, _, _, _, _]) C0 hN rfl (by decide) (nI_inc s) rfl dX11_spare_80 ?_
        refine x_goto (tgt := 34) C0 (by decide) dX11_spare_83 ?_
        have := ih (s + 1) I1 (by omega) s1
        rw [spB_no (fun z => g48 z.1)] at this
        exact this
      · refine x_iload C0 rfl dX11_spare_51 ?_
        refine x_iload_n C0 rfl dX11_spare_53 ?_
        refine x_callS [_, _] C0 (xRf_of hR (by decide) (Nat.zero_le _) (Nat.zero_le _)) ms_X11_isFewer wm_X11_249 dX11_spare_54 rfl rfl (Nat.le_of_ble_eq_true rfl) (c_X11_isFewer (by omega) ((spB_or s).imp id (fun ⟨m, hm, e⟩ => ⟨m, by omega, e⟩)) (fun g54 => ?_) (fun g54 => ?_))
        · refine x_if_eq (tgt := 80) C0 (by decide) dX11_spare_57 (fun hkk => absurd hkk (by decide)) (fun _ => ?_)
          have hs2 := cut_in wx hN8 (by omega) g48
          refine x_aload_n C0 rfl dX11_spare_60 ?_
          refine x_iload C0 rfl dX11_spare_61 ?_
          refine x_callV [_] C0 hN rfl (xRf_of hR (by decide) (Nat.zero_le _) (Nat.zero_le _)) mv_X11_finishCut wm_X11_272 dX11_spare_63 (fixd.k0 hS) rfl rfl (Nat.le_of_ble_eq_true rfl) (c_X11_finishCut hS hf CC hs2 (fun I2 s2 _ r2 => ?_))
          refine x_aload_n C0 rfl dX11_spare_66 ?_
          refine x_getR C0 wf_X11_50 (fixd.k0 hS) rfl rfl (fixd.trial hS) dX11_spare_67 ?_
          refine x_iload_n C0 rfl dX11_spare_70 ?_
          refine x_callV [_] C0 hN rfl (xRf_of hR (by decide) (Nat.zero_le _) (Nat.zero_le _)) mv_X3_isIn wm_X11_165 dX11_spare_71 (by assumption) rfl rfl (Nat.le_of_ble_eq_true rfl) (c_X3_isIn hT (fun g71 => ?_) (fun g71 => ?_))
          · refine x_if_eq (tgt := 80) C0 (by decide) dX11_spare_74 (fun hkk => absurd hkk (by decide)) (fun _ => ?_)
            refine x_iload C0 rfl dX11_spare_77 ?_
            refine x_istore_n (L' := [_, _, _, _, _]) C0 hN (by decide) rfl dX11_spare_79 ?_
            refine x_iinc (v := nI (s + 1)) (L' := [_, _, _, _, _]) C0 hN rfl (by decide) (nI_inc s) rfl dX11_spare_80 ?_
            refine x_goto (tgt := 34) C0 (by decide) dX11_spare_83 ?_
            have := ih (s + 1) I2 (by omega) (s1.trans s2)
            rw [spB_yes ⟨g48, g54, by rw [← r2.2.2.1]; exact g71⟩] at this
            exact this
          · refine x_if_eq (tgt := 80) C0 (by decide) dX11_spare_74 (fun _ => ?_) (fun hkk => absurd (by decide) hkk)
            refine x_iinc (v := nI (s + 1)) (L' := [_, _, _, _, _]) C0 hN rfl (by decide) (nI_inc s) rfl dX11_spare_80 ?_
            refine x_goto (tgt := 34) C0 (by decide) dX11_spare_83 ?_
            have := ih (s + 1) I2 (by omega) (s1.trans s2)
            rw [spB_no (fun z => g71 (by rw [r2.2.2.1]; exact z.2.2))] at this
            exact this
        · refine x_if_eq (tgt := 80) C0 (by decide) dX11_spare_57 (fun _ => ?_) (fun hkk => absurd (by decide) hkk)
          refine x_iinc (v := nI (s + 1)) (L' := [_, _, _, _, _]) C0 hN rfl (by decide) (nI_inc s) rfl dX11_spare_80 ?_
          refine x_goto (tgt := 34) C0 (by decide) dX11_spare_83 ?_
          have := ih (s + 1) I1 (by omega) s1
          rw [spB_no (fun z => g54 z.2.1)] at this
          exact this
  refine x_aload_n C0 rfl dX11_spare_0 ?_
  refine x_getR C0 wf_X11_26 (fixd.k0 hS) rfl rfl hf dX11_spare_1 ?_
  refine x_iload_n C0 rfl dX11_spare_4 ?_
  refine x_callV [_] C0 hN rfl (xRf_of hR (by decide) (Nat.zero_le _) (Nat.zero_le _)) mv_X2_hasWatcher wm_X11_144 dX11_spare_5 (by assumption) rfl rfl (Nat.le_of_ble_eq_true rfl) (c_X2_hasWatcher (by assumption) (fun g5 => ?_) (fun g5 => ?_))
  · refine x_if_eq (tgt := 22) C0 (by decide) dX11_spare_8 (fun hkk => absurd hkk (by decide)) (fun _ => ?_)
    obtain ⟨a, ha, ea⟩ := nI_ofi' eV (by omega) g5
    subst ea
    rw [nI_clamp (by omega)] at hp
    refine x_aload_n C0 rfl dX11_spare_11 ?_
    refine x_getR C0 wf_X11_46 (fixd.k0 hS) rfl rfl (fixd.now hS) dX11_spare_12 ?_
    refine x_iload_n C0 rfl dX11_spare_15 ?_
    refine x_callV [_] C0 hN rfl (xRf_of hR (by decide) (Nat.zero_le _) (Nat.zero_le _)) mv_X3_isIn wm_X11_165 dX11_spare_16 (by assumption) rfl rfl (Nat.le_of_ble_eq_true rfl) (c_X3_isIn hH (fun g16 => ?_) (fun g16 => ?_))
    · refine x_if_ne (tgt := 24) C0 (by decide) dX11_spare_19 (fun _ => ?_) (fun hkk => absurd hkk (by decide))
      refine x_aload_n C0 rfl dX11_spare_24 ?_
      refine x_callV [] C0 hN rfl (xRf_of hR (by decide) (Nat.zero_le _) (Nat.zero_le _)) mv_X11_cuttable wm_X11_269 dX11_spare_25 (fixd.k0 hS) rfl rfl (Nat.le_of_ble_eq_true rfl) (c_X11_cuttable hS hf C ?_)
      refine x_istore_n (L' := [_, _, _, _, _]) C0 hN (by decide) rfl dX11_spare_28 ?_
      refine x_iconst (v := -1) C0 rfl dX11_spare_29 ?_
      refine x_istore_n (L' := [_, _, _, _, _]) C0 hN (by decide) rfl dX11_spare_30 ?_
      refine x_iconst (v := 0) C0 rfl dX11_spare_31 ?_
      refine x_istore (L' := [_, _, _, _, _]) C0 hN (by decide) rfl dX11_spare_32 ?_
      rw [if_pos ⟨g5, by rw [← rH.2.2.1]; exact g16⟩] at hp
      exact h34 a ha hp 256 0 I (by omega) FQ.rf
    · refine x_if_ne (tgt := 24) C0 (by decide) dX11_spare_19 (fun hkk => absurd (by decide) hkk) (fun _ => ?_)
      refine x_iconst (v := -1) C0 rfl dX11_spare_22 ?_
      refine x_iret C0 E (by decide) (by decide) dX11_spare_23 ?_
      rw [if_neg (fun q => g16 (by rw [rH.2.2.1]; exact q.2))] at hp
      exact hp I FQ.rf
  · refine x_if_eq (tgt := 22) C0 (by decide) dX11_spare_8 (fun _ => ?_) (fun hkk => absurd (by decide) hkk)
    refine x_iconst (v := -1) C0 rfl dX11_spare_22 ?_
    refine x_iret C0 E (by decide) (by decide) dX11_spare_23 ?_
    rw [if_neg (fun q => g5 q.1)] at hp
    exact hp I FQ.rf
theorem c_X12_spare {S : xTS} {R : xTR} {I : xTI} {J : xTJ} {post : xPost} {T N V : Nat} {fl x : xRow} {lw : Option (List (Nat × Nat))} (hM : isModel S R) (C : MCore I fl lw T N V x) {i : Int32} (hp : ∀ I', MQs I I' → post (some (.int (aSpare fl (sDq fl lw) x V N i))) S R I' J) : xSpec 8 yX12_spare cX12_spare 5 (some .int) 0 0 [.ref 135, .int i] S R I J post := by
  refine xSpec_of mt_X12_spare (Nat.le_of_ble_eq_true rfl) (fun G C0 hN hR E hI hZ => ?_)
  change XX G 0 0 0 [some (.ref 135), some (.int i), none, none, none] [] S R I J
  refine x_aload_n C0 rfl dX12_spare_0 ?_
  refine x_iconst (v := nI 0) C0 rfl dX12_spare_1 ?_
  refine x_putI C0 wf_X12_1 (isModel.k0 hM) rfl dX12_spare_2 ?_
  have q1 := MQs.thrown (I := I) (v := nI 0)
  have C := C.mq q1
  generalize u2 I 135 0 (nI 0) = I1 at q1 C ⊢
  obtain ⟨wl, mF, mL, mH, wx⟩ := id C
  have hT6 := wl.2.1
  have hN8 := wl.2.2.2.1
  have hV6 := wl.2.2.2.2.2.1
  have eT : I1 141 0 = nI T := (mF 0 (by decide)).trans wl.1
  have eN : I1 141 1 = nI N := (mF 1 (by decide)).trans wl.2.2.1
  have eV : I1 141 2 = nI V := (mF 2 (by decide)).trans wl.2.2.2.2.1
  have hb0 : 0 ≤ 2192 := by decide
  unfold aSpare at hp
  rw [← mF 2 (by decide)] at hp
  have h256 := shl_le hN8
  have h43 : ∀ a, a < V → (∀ I', MQs I I' → post (some (.int (spB fl (sDq fl lw) x V N a (2 ^ N)))) S R I' J) → ∀ n s I2, s + n = 2 ^ N → MQs I1 I2 → XX G 0 0 43 [some (.ref 135), some (.int (nI a)), some (.int (sCuttable x N)), some (.int (spB fl (sDq fl lw) x V N a s)), some (.int (nI s))] [] S R I2 J := by
    intro a ha hp n
    induction n with
    | zero =>
      intro s I2 hn9 s1
      have hn8 : s = 2 ^ N := by omega
      have eN2 : I2 141 1 = nI N := by rw [(C.mq s1).2.1 1 (by decide), wl.2.2.1]
      refine x_iload C0 rfl dX12_spare_43 ?_
      refine x_iconst (v := 1) C0 rfl dX12_spare_45 ?_
      refine x_aload_n C0 rfl dX12_spare_46 ?_
      refine x_callV [] C0 hN rfl (xRf_of hR (by decide) (Nat.zero_le _) (Nat.zero_le _)) mv_X12_scenes wm_X12_285 dX12_spare_47 (isModel.k0 hM) rfl rfl (Nat.le_of_ble_eq_true rfl) (c_X12_scenes hM ?_)
      refine x_topi eN2 ?_
      refine x_ishl C0 dX12_spare_50 ?_
      refine x_topi (pow_shl N hN8) ?_
      refine x_icmp_ge (tgt := 109) C0 (by decide) dX12_spare_51 (fun _ => ?_) (fun hkk => absurd ((by rw [hn8]; exact Int32.le_refl _)) hkk)
      refine x_iload_n C0 rfl dX12_spare_109 ?_
      refine x_iret C0 E (by decide) (by decide) dX12_spare_110 ?_
      subst hn8
      exact hp I2 (q1.trans s1)
    | succ n ih =>
      intro s I2 hn9 s1
      have CC := C.mq s1
      have eN2 : I2 141 1 = nI N := by rw [CC.2.1 1 (by decide), wl.2.2.1]
      have hor := spB_or (fl := fl) (dq := sDq fl lw) (x := x) (V := V) (N := N) (a := a) s
      refine x_iload C0 rfl dX12_spare_43 ?_
      refine x_iconst (v := 1) C0 rfl dX12_spare_45 ?_
      refine x_aload_n C0 rfl dX12_spare_46 ?_
      refine x_callV [] C0 hN rfl (xRf_of hR (by decide) (Nat.zero_le _) (Nat.zero_le _)) mv_X12_scenes wm_X12_285 dX12_spare_47 (isModel.k0 hM) rfl rfl (Nat.le_of_ble_eq_true rfl) (c_X12_scenes hM ?_)
      refine x_topi eN2 ?_
      refine x_ishl C0 dX12_spare_50 ?_
      refine x_topi (pow_shl N hN8) ?_
      refine x_icmp_ge (tgt := 109) C0 (by decide) dX12_spare_51 (fun hkk => absurd hkk (nI_ge (by omega) (by omega))) (fun _ => ?_)
      refine x_iload C0 rfl dX12_spare_54 ?_
      refine x_iload_n C0 rfl dX12_spare_56 ?_
      refine x_iconst (v := -1) C0 rfl dX12_spare_57 ?_
      refine x_ixor C0 dX12_spare_58 ?_
      refine x_iand C0 dX12_spare_59 ?_
      refine x_if_ne (tgt := 103) C0 (by decide) dX12_spare_60 (fun g60 => ?_) (fun g60 => ?_)
      · refine x_iinc (v := nI (s + 1)) (L' := [_, _, _, _, _]) C0 hN rfl (by decide) (nI_inc s) rfl dX12_spare_103 ?_
        refine x_goto (tgt := 43) C0 (by decide) dX12_spare_106 ?_
        have := ih (s + 1) I2 (by omega) s1
        rw [spB_no (fun z => g60 z.1)] at this
        exact this
      · refine x_iload_n C0 rfl dX12_spare_63 ?_
        refine x_if_lt (tgt := 79) C0 (by decide) dX12_spare_64 (fun g64 => ?_) (fun g64 => ?_)
        · refine x_aload_n C0 rfl dX12_spare_79 ?_
          refine x_iload C0 rfl dX12_spare_80 ?_
          refine x_callV [_] C0 hN rfl (xRf_of hR (by decide) (Nat.zero_le _) (Nat.zero_le _)) mv_X12_endsCut wm_X12_378 dX12_spare_82 (isModel.k0 hM) rfl rfl (Nat.le_of_ble_eq_true rfl) (c_X12_endsCut hM CC (by omega) (fun I3 s3 _ r3 => ?_))
          refine x_aload_n C0 rfl dX12_spare_85 ?_
          refine x_sipush (v := nI 2058) C0 rfl dX12_spare_86 ?_
          refine x_iload_n C0 rfl dX12_spare_89 ?_
          refine x_callV [_, _] C0 hN rfl (xRf_of hR (by decide) (Nat.zero_le _) (Nat.zero_le _)) mv_X12_isIn wm_X12_319 dX12_spare_90 (isModel.k0 hM) rfl rfl (Nat.le_of_ble_eq_true rfl) (c_X12_isIn hM (by decide) (fun g90 => ?_) (fun g90 => ?_))
          · refine x_if_eq (tgt := 101) C0 (by decide) dX12_spare_93 (fun hkk => absurd hkk (by decide)) (fun _ => ?_)
            refine x_iload C0 rfl dX12_spare_96 ?_
            refine x_goto (tgt := 102) C0 (by decide) dX12_spare_98 ?_
            refine x_istore_n (L' := [_, _, _, _, _]) C0 hN (by decide) rfl dX12_spare_102 ?_
            refine x_iinc (v := nI (s + 1)) (L' := [_, _, _, _, _]) C0 hN rfl (by decide) (nI_inc s) rfl dX12_spare_103 ?_
            refine x_goto (tgt := 43) C0 (by decide) dX12_spare_106 ?_
            have := ih (s + 1) I3 (by omega) (s1.trans s3)
            rw [spB_yes ⟨g60, (Or.inl (hor.resolve_right (fun ⟨m, hm, e⟩ => absurd g64 (by rw [e]; exact i_nlt.mpr (nI_pos' (by omega)))))), by rw [← r3 2 (by decide)]; exact g90⟩] at this
            exact this
          · refine x_if_eq (tgt := 101) C0 (by decide) dX12_spare_93 (fun _ => ?_) (fun hkk => absurd (by decide) hkk)
            refine x_iload_n C0 rfl dX12_spare_101 ?_
            refine x_istore_n (L' := [_, _, _, _, _]) C0 hN (by decide) rfl dX12_spare_102 ?_
            refine x_iinc (v := nI (s + 1)) (L' := [_, _, _, _, _]) C0 hN rfl (by decide) (nI_inc s) rfl dX12_spare_103 ?_
            refine x_goto (tgt := 43) C0 (by decide) dX12_spare_106 ?_
            have := ih (s + 1) I3 (by omega) (s1.trans s3)
            rw [spB_no (fun z => g90 (by rw [r3 2 (by decide)]; exact z.2.2))] at this
            exact this
        · refine x_iload C0 rfl dX12_spare_67 ?_
          refine x_callS [_] C0 (xRf_of hR (by decide) (Nat.zero_le _) (Nat.zero_le _)) ms_X12_bits wm_X12_369 dX12_spare_69 rfl rfl (Nat.le_of_ble_eq_true rfl) (c_X12_bits  ?_)
          refine x_iload_n C0 rfl dX12_spare_72 ?_
          refine x_callS [_] C0 (xRf_of hR (by decide) (Nat.zero_le _) (Nat.zero_le _)) ms_X12_bits wm_X12_369 dX12_spare_73 rfl rfl (Nat.le_of_ble_eq_true rfl) (c_X12_bits  ?_)
          refine x_icmp_ge (tgt := 103) C0 (by decide) dX12_spare_76 (fun g76 => ?_) (fun g76 => ?_)
          · refine x_iinc (v := nI (s + 1)) (L' := [_, _, _, _, _]) C0 hN rfl (by decide) (nI_inc s) rfl dX12_spare_103 ?_
            refine x_goto (tgt := 43) C0 (by decide) dX12_spare_106 ?_
            have := ih (s + 1) I2 (by omega) s1
            rw [spB_no (fun z => z.2.1.elim (fun e => g64 (by rw [e]; decide)) (fun y => absurd g76 (i_nle.mpr y)))] at this
            exact this
          · refine x_aload_n C0 rfl dX12_spare_79 ?_
            refine x_iload C0 rfl dX12_spare_80 ?_
            refine x_callV [_] C0 hN rfl (xRf_of hR (by decide) (Nat.zero_le _) (Nat.zero_le _)) mv_X12_endsCut wm_X12_378 dX12_spare_82 (isModel.k0 hM) rfl rfl (Nat.le_of_ble_eq_true rfl) (c_X12_endsCut hM CC (by omega) (fun I3 s3 _ r3 => ?_))
            refine x_aload_n C0 rfl dX12_spare_85 ?_
            refine x_sipush (v := nI 2058) C0 rfl dX12_spare_86 ?_
            refine x_iload_n C0 rfl dX12_spare_89 ?_
            refine x_callV [_, _] C0 hN rfl (xRf_of hR (by decide) (Nat.zero_le _) (Nat.zero_le _)) mv_X12_isIn wm_X12_319 dX12_spare_90 (isModel.k0 hM) rfl rfl (Nat.le_of_ble_eq_true rfl) (c_X12_isIn hM (by decide) (fun g90 => ?_) (fun g90 => ?_))
            · refine x_if_eq (tgt := 101) C0 (by decide) dX12_spare_93 (fun hkk => absurd hkk (by decide)) (fun _ => ?_)
              refine x_iload C0 rfl dX12_spare_96 ?_
              refine x_goto (tgt := 102) C0 (by decide) dX12_spare_98 ?_
              refine x_istore_n (L' := [_, _, _, _, _]) C0 hN (by decide) rfl dX12_spare_102 ?_
              refine x_iinc (v := nI (s + 1)) (L' := [_, _, _, _, _]) C0 hN rfl (by decide) (nI_inc s) rfl dX12_spare_103 ?_
              refine x_goto (tgt := 43) C0 (by decide) dX12_spare_106 ?_
              have := ih (s + 1) I3 (by omega) (s1.trans s3)
              rw [spB_yes ⟨g60, (Or.inr (i_nle.mp g76)), by rw [← r3 2 (by decide)]; exact g90⟩] at this
              exact this
            · refine x_if_eq (tgt := 101) C0 (by decide) dX12_spare_93 (fun _ => ?_) (fun hkk => absurd (by decide) hkk)
              refine x_iload_n C0 rfl dX12_spare_101 ?_
              refine x_istore_n (L' := [_, _, _, _, _]) C0 hN (by decide) rfl dX12_spare_102 ?_
              refine x_iinc (v := nI (s + 1)) (L' := [_, _, _, _, _]) C0 hN rfl (by decide) (nI_inc s) rfl dX12_spare_103 ?_
              refine x_goto (tgt := 43) C0 (by decide) dX12_spare_106 ?_
              have := ih (s + 1) I3 (by omega) (s1.trans s3)
              rw [spB_no (fun z => g90 (by rw [r3 2 (by decide)]; exact z.2.2))] at this
              exact this
  refine x_aload_n C0 rfl dX12_spare_5 ?_
  refine x_iload_n C0 rfl dX12_spare_6 ?_
  refine x_callV [_] C0 hN rfl (xRf_of hR (by decide) (Nat.zero_le _) (Nat.zero_le _)) mv_X12_isWatcher wm_X12_344 dX12_spare_7 (isModel.k0 hM) rfl rfl (Nat.le_of_ble_eq_true rfl) (c_X12_isWatcher hM (fun g5 => ?_) (fun g5 => ?_))
  · refine x_if_eq (tgt := 22) C0 (by decide) dX12_spare_10 (fun hkk => absurd hkk (by decide)) (fun _ => ?_)
    obtain ⟨a, ha, ea⟩ := nI_ofi' eV (by omega) g5
    subst ea
    rw [nI_clamp (by omega)] at hp
    refine x_aload_n C0 rfl dX12_spare_13 ?_
    refine x_iconst (v := nI 0) C0 rfl dX12_spare_14 ?_
    refine x_iload_n C0 rfl dX12_spare_15 ?_
    refine x_callV [_, _] C0 hN rfl (xRf_of hR (by decide) (Nat.zero_le _) (Nat.zero_le _)) mv_X12_isIn wm_X12_319 dX12_spare_16 (isModel.k0 hM) rfl rfl (Nat.le_of_ble_eq_true rfl) (c_X12_isIn hM hb0 (fun g16 => ?_) (fun g16 => ?_))
    · refine x_if_ne (tgt := 24) C0 (by decide) dX12_spare_19 (fun _ => ?_) (fun hkk => absurd hkk (by decide))
      refine x_aload_n C0 rfl dX12_spare_24 ?_
      refine x_callV [] C0 hN rfl (xRf_of hR (by decide) (Nat.zero_le _) (Nat.zero_le _)) mv_X12_toCome wm_X12_375 dX12_spare_25 (isModel.k0 hM) rfl rfl (Nat.le_of_ble_eq_true rfl) (c_X12_toCome hM C ?_)
      refine x_aload_n C0 rfl dX12_spare_28 ?_
      refine x_getR C0 wf_X12_119 (isModel.k0 hM) rfl rfl (isModel.r24 hM) dX12_spare_29 ?_
      refine x_iconst (v := nI 3) C0 rfl dX12_spare_32 ?_
      refine x_ialoadN C0 (isModel.s24 hM) (by omega) (by omega) dX12_spare_33 ?_
      refine x_topi (mH 3 (by decide)) ?_
      refine x_iconst (v := -1) C0 rfl dX12_spare_34 ?_
      refine x_ixor C0 dX12_spare_35 ?_
      refine x_iand C0 dX12_spare_36 ?_
      refine x_istore_n (L' := [_, _, _, _, _]) C0 hN (by decide) rfl dX12_spare_37 ?_
      refine x_iconst (v := -1) C0 rfl dX12_spare_38 ?_
      refine x_istore_n (L' := [_, _, _, _, _]) C0 hN (by decide) rfl dX12_spare_39 ?_
      refine x_iconst (v := nI 0) C0 rfl dX12_spare_40 ?_
      refine x_istore (L' := [_, _, _, _, _]) C0 hN (by decide) rfl dX12_spare_41 ?_
      rw [if_pos ⟨g5, by rw [← mH 2 (by decide)]; exact g16⟩] at hp
      exact h43 a ha hp (2 ^ N) 0 I1 (by omega) MQs.rf
    · refine x_if_ne (tgt := 24) C0 (by decide) dX12_spare_19 (fun hkk => absurd (by decide) hkk) (fun _ => ?_)
      refine x_iconst (v := -1) C0 rfl dX12_spare_22 ?_
      refine x_iret C0 E (by decide) (by decide) dX12_spare_23 ?_
      rw [if_neg (fun q => g16 (by rw [mH 2 (by decide)]; exact q.2))] at hp
      exact hp I1 q1
  · refine x_if_eq (tgt := 22) C0 (by decide) dX12_spare_10 (fun _ => ?_) (fun hkk => absurd (by decide) hkk)
    refine x_iconst (v := -1) C0 rfl dX12_spare_22 ?_
    refine x_iret C0 E (by decide) (by decide) dX12_spare_23 ?_
    rw [if_neg (fun q => g5 q.1)] at hp
    exact hp I1 q1
