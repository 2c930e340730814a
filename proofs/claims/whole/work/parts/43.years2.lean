/-! THE QUESTIONS: years -/
theorem i_le_lt {v : Int32} {n : Nat} (hn : n + 1 < 2 ^ 31) (h : v ≤ nI n) : v < nI (n + 1) := by
  rw [Int32.le_iff_toInt_le, nI_toInt (by omega)] at h
  rw [Int32.lt_iff_toInt_lt, nI_toInt (by omega)]
  omega
def yrN (fl : xRow) (dq : xDq) (T N V : Nat) : Nat → xRow × Nat → xRow × Nat
  | 0, s => s
  | n + 1, s => yrN fl dq T N V n (yr fl dq T N V s)
def aYears (fl : xRow) (dq : xDq) (x : xRow) (T N V : Nat) (sd n c : Int32) : Int32 := if (0 ≤ sd ∧ sd ≤ 9999) ∧ (1 ≤ n ∧ n ≤ 99) ∧ (0 ≤ c ∧ c ≤ 2) then (if c = 0 then (yrN fl dq T N V n.toNatClampNeg (x, sd.toNatClampNeg)).1 2 else if c = 1 then sDb (yrN fl dq T N V n.toNatClampNeg (x, sd.toNatClampNeg)).1 V else nI (sYes (yrN fl dq T N V n.toNatClampNeg (x, sd.toNatClampNeg)).1 36)) else -1
theorem yr_WFx {fl : xRow} {dq : xDq} {T N V : Nat} {s : xRow × Nat} (wl : WFl fl T N V) (ws : WFx s.1 T N V) : WFx (yr fl dq T N V s).1 T N V := yrC_WFx wl.2.2.2.1 (yrB_WFx wl (yrA_WFx wl ws))
theorem c_X11_years {S : xTS} {R : xTR} {I : xTI} {J : xTJ} {post : xPost} {f T N V : Nat} {fl x : xRow} {lw : Option (List (Nat × Nat))} (hS : fixd S R) (hf : R 0 2 = some f) (C : FCore I f fl lw T N V x) {sd n c : Int32} (hp : ∀ I' J', FQ I I' → (∀ a, a ≠ 110 → J' a = J a) → post (some (.int (aYears fl (sDq fl lw) x T N V sd n c))) S R I' J') : xSpec 6 yX11_years cX11_years 5 (some .int) 0 0 [.ref 0, .int sd, .int n, .int c] S R I J post := by
  refine xSpec_of mt_X11_years (Nat.le_of_ble_eq_true rfl) (fun G C0 hN hR E hI hZ => ?_)
  change XX G 0 0 0 [some (.ref 0), some (.int sd), some (.int n), some (.int c), none] [] S R I J
  obtain ⟨hfm, wl, rF, rH, wx⟩ := id C
  have hF := hS.film hfm
  have hH := hS.hall (q := 33) (by decide)
  have hT6 := wl.2.1
  have hN8 := wl.2.2.2.1
  have hV6 := wl.2.2.2.2.2.1
  have eT : I f 0 = nI T := rF.1.trans wl.1
  have eN : I f 1 = nI N := rF.2.1.trans wl.2.2.1
  have eV : I f 2 = nI V := rF.2.2.1.trans wl.2.2.2.2.1
  have hfh : ∀ i j, i < 9 → j < 4 → f + i ≠ 33 + j := fun i j hi hj => hf_apart 33 (by decide) f hfm i hi j hj
  obtain ⟨fs0, fs1, fs2, fs3, fs4, fs5, fs6, fs7, fs8, fr4, fr5, fr6, fr7, fr8, fr9, fr10, fr11⟩ := id hF
  obtain ⟨hs0, hs1, hs2, hs3, hr4, hr5, hr6⟩ := id hH
  unfold aYears at hp
  have hT := hS.hall (q := 37) (by decide)
  obtain ⟨hq0, hq1, hq2, hq3, -⟩ := id hT
  have hf37 : ∀ i j, i < 9 → j < 4 → f + i ≠ 37 + j := fun i j hi hj => hf_apart 37 (by decide) f hfm i hi j hj
  have h3733 : ∀ i j, i < 4 → j < 4 → 37 + i ≠ 33 + j := fun i j hi hj => hh_apart 37 (by decide) 33 (by decide) (by decide) i hi j hj
  have rT : RHall (uhall I 37 33) 37 x N := uhall_hall h3733 hN8 rH
  have hdr := fixd.sDraw hS
  have h56 : ∀ s m, s < 10000 → m < 100 → (0 ≤ c ∧ c ≤ 2) → (∀ I' J', FQ I I' → (∀ a, a ≠ 110 → J' a = J a) → post (some (.int (if c = 0 then (yrN fl (sDq fl lw) T N V m (x, s)).1 2 else if c = 1 then sDb (yrN fl (sDq fl lw) T N V m (x, s)).1 V else nI (sYes (yrN fl (sDq fl lw) T N V m (x, s)).1 36)))) S R I' J') → ∀ p i I1 J1 y g, i + p = m → WFx y T N V → FQ I I1 → RHall I1 37 y N → J1 110 0 = Int64.ofNat g → g < 2 ^ 31 → (∀ a, a ≠ 110 → J1 a = J a) → yrN fl (sDq fl lw) T N V m (x, s) = yrN fl (sDq fl lw) T N V p (y, g) → XX G 0 0 56 [some (.ref 0), some (.int (nI s)), some (.int (nI m)), some (.int c), some (.int (nI i))] [] S R I1 J1 := by
    intro s m hs hm hc hp p
    induction p with
    | zero =>
      intro i I1 J1 y g hi wy s1 r1 eg hg j1 he
      have hi8 : i = m := by omega
      subst hi8
      rw [he] at hp
      refine x_iload C0 rfl dX11_years_56 ?_
      refine x_iload_n C0 rfl dX11_years_58 ?_
      refine x_icmp_ge (tgt := 72) C0 (by decide) dX11_years_59 (fun _ => ?_) (fun hkk => absurd ((Int32.le_refl _)) hkk)
      refine x_iload_n C0 rfl dX11_years_72 ?_
      refine x_if_ne (tgt := 84) C0 (by decide) dX11_years_73 (fun g73 => ?_) (fun g73 => ?_)
      · refine x_iload_n C0 rfl dX11_years_84 ?_
        refine x_iconst (v := 1) C0 rfl dX11_years_85 ?_
        refine x_icmp_ne (tgt := 100) C0 (by decide) dX11_years_86 (fun g86 => ?_) (fun g86 => ?_)
        · refine x_aload_n C0 rfl dX11_years_100 ?_
          refine x_callV [] C0 hN rfl (xRf_of hR (by decide) (Nat.zero_le _) (Nat.zero_le _)) mv_X11_yesOfAll wm_X11_366 dX11_years_101 (fixd.k0 hS) rfl rfl (Nat.le_of_ble_eq_true rfl) (c_X11_yesOfAll hS hf (C.fq s1) wy r1 ?_)
          refine x_iret C0 E (by decide) (by decide) dX11_years_104 ?_
          rw [if_neg g73, if_neg g86] at hp
          exact hp I1 J1 s1 j1
        · refine x_aload_n C0 rfl dX11_years_89 ?_
          refine x_aload_n C0 rfl dX11_years_90 ?_
          refine x_getR C0 wf_X11_50 (fixd.k0 hS) rfl rfl (fixd.trial hS) dX11_years_91 ?_
          refine x_callV [_] C0 hN rfl (xRf_of hR (by decide) (Nat.zero_le _) (Nat.zero_le _)) mv_X11_doubtOfAll wm_X11_363 dX11_years_94 (fixd.k0 hS) rfl rfl (Nat.le_of_ble_eq_true rfl) (c_X11_doubtOfAll hS hf (C.fq s1) hT r1 ?_)
          refine x_goto (tgt := 104) C0 (by decide) dX11_years_97 ?_
          refine x_iret C0 E (by decide) (by decide) dX11_years_104 ?_
          rw [if_neg g73, if_pos g86] at hp
          exact hp I1 J1 s1 j1
      · refine x_aload_n C0 rfl dX11_years_76 ?_
        refine x_getR C0 wf_X11_50 (fixd.k0 hS) rfl rfl (fixd.trial hS) dX11_years_77 ?_
        refine x_getI C0 wf_X11_219 (by assumption) rfl dX11_years_80 ?_
        refine x_iret C0 E (by decide) (by decide) dX11_years_83 ?_
        rw [if_pos g73] at hp
        rw [r1.2.2.1]
        exact hp I1 J1 s1 j1
    | succ p ih =>
      intro i I1 J1 y g hi wy s1 r1 eg hg j1 he
      refine x_iload C0 rfl dX11_years_56 ?_
      refine x_iload_n C0 rfl dX11_years_58 ?_
      refine x_icmp_ge (tgt := 72) C0 (by decide) dX11_years_59 (fun hkk => absurd hkk (nI_ge (by omega) (by omega))) (fun _ => ?_)
      refine x_aload_n C0 rfl dX11_years_62 ?_
      refine x_callV [] C0 hN rfl (xRf_of hR (by decide) (Nat.zero_le _) (Nat.zero_le _)) mv_X11_passYear wm_X11_360 dX11_years_63 (fixd.k0 hS) rfl rfl (Nat.le_of_ble_eq_true rfl) (c_X11_passYear hS hf (C.fq s1) wy r1 hg eg (fun I2 J2 s2 r2 eg2 j2 => ?_))
      refine x_iinc (v := nI (i + 1)) (L' := [_, _, _, _, _]) C0 hN rfl (by decide) (nI_inc i) rfl dX11_years_66 ?_
      refine x_goto (tgt := 56) C0 (by decide) dX11_years_69 ?_
      exact ih (i + 1) I2 J2 _ _ (by omega) (yr_WFx (s := (y, g)) wl wy) (s1.trans s2) r2 eg2 (yr_lt (s := (y, g)) hg) (fun a ha => (j2 a ha).trans (j1 a ha)) he
  refine x_iload_n C0 rfl dX11_years_0 ?_
  refine x_if_lt (tgt := 31) C0 (by decide) dX11_years_1 (fun g1 => ?_) (fun g1 => ?_)
  · refine x_iconst (v := -1) C0 rfl dX11_years_31 ?_
    refine x_iret C0 E (by decide) (by decide) dX11_years_32 ?_
    rw [if_neg (fun q => absurd q.1.1 (by first | exact i_nle.mpr g1 | exact g1))] at hp
    exact hp I J FQ.rf (fun _ _ => rfl)
  · refine x_iload_n C0 rfl dX11_years_4 ?_
    refine x_sipush (v := 9999) C0 rfl dX11_years_5 ?_
    refine x_icmp_gt (tgt := 31) C0 (by decide) dX11_years_8 (fun g8 => ?_) (fun g8 => ?_)
    · refine x_iconst (v := -1) C0 rfl dX11_years_31 ?_
      refine x_iret C0 E (by decide) (by decide) dX11_years_32 ?_
      rw [if_neg (fun q => absurd q.1.2 (by first | exact i_nle.mpr g8 | exact g8))] at hp
      exact hp I J FQ.rf (fun _ _ => rfl)
    · refine x_iload_n C0 rfl dX11_years_11 ?_
      refine x_iconst (v := 1) C0 rfl dX11_years_12 ?_
      refine x_icmp_lt (tgt := 31) C0 (by decide) dX11_years_13 (fun g13 => ?_) (fun g13 => ?_)
      · refine x_iconst (v := -1) C0 rfl dX11_years_31 ?_
        refine x_iret C0 E (by decide) (by decide) dX11_years_32 ?_
        rw [if_neg (fun q => absurd q.2.1.1 (by first | exact i_nle.mpr g13 | exact g13))] at hp
        exact hp I J FQ.rf (fun _ _ => rfl)
      · refine x_iload_n C0 rfl dX11_years_16 ?_
        refine x_bipush (v := 99) C0 rfl dX11_years_17 ?_
        refine x_icmp_gt (tgt := 31) C0 (by decide) dX11_years_19 (fun g19 => ?_) (fun g19 => ?_)
        · refine x_iconst (v := -1) C0 rfl dX11_years_31 ?_
          refine x_iret C0 E (by decide) (by decide) dX11_years_32 ?_
          rw [if_neg (fun q => absurd q.2.1.2 (by first | exact i_nle.mpr g19 | exact g19))] at hp
          exact hp I J FQ.rf (fun _ _ => rfl)
        · refine x_iload_n C0 rfl dX11_years_22 ?_
          refine x_if_lt (tgt := 31) C0 (by decide) dX11_years_23 (fun g23 => ?_) (fun g23 => ?_)
          · refine x_iconst (v := -1) C0 rfl dX11_years_31 ?_
            refine x_iret C0 E (by decide) (by decide) dX11_years_32 ?_
            rw [if_neg (fun q => absurd q.2.2.1 (by first | exact i_nle.mpr g23 | exact g23))] at hp
            exact hp I J FQ.rf (fun _ _ => rfl)
          · refine x_iload_n C0 rfl dX11_years_26 ?_
            refine x_iconst (v := 2) C0 rfl dX11_years_27 ?_
            refine x_icmp_le (tgt := 33) C0 (by decide) dX11_years_28 (fun g28 => ?_) (fun g28 => ?_)
            · have b8 : sd ≤ 9999 := by first | exact g8 | exact i_nlt.mp g8
              have b19 : n ≤ 99 := by first | exact g19 | exact i_nlt.mp g19
              have b13 : 1 ≤ n := i_nlt.mp g13
              obtain ⟨s, hs, es⟩ := nI_ofi (n := 10000) (by decide) (i_nlt.mp g1) (i_le_lt (n := 9999) (by decide) b8)
              obtain ⟨m, hm, em⟩ := nI_ofi (n := 100) (by decide) (Int32.le_trans (by decide) b13) (i_le_lt (n := 99) (by decide) b19)
              rw [if_pos ⟨⟨i_nlt.mp g1, b8⟩, ⟨b13, b19⟩, i_nlt.mp g23, g28⟩] at hp
              subst es
              subst em
              rw [nI_clamp (by omega), nI_clamp (by omega)] at hp
              refine x_aload_n C0 rfl dX11_years_33 ?_
              refine x_getR C0 wf_X11_50 (fixd.k0 hS) rfl rfl (fixd.trial hS) dX11_years_34 ?_
              refine x_aload_n C0 rfl dX11_years_37 ?_
              refine x_getR C0 wf_X11_46 (fixd.k0 hS) rfl rfl (fixd.now hS) dX11_years_38 ?_
              refine x_callV [_] C0 hN rfl (xRf_of hR (by decide) (Nat.zero_le _) (Nat.zero_le _)) mv_X3_copy wm_X11_176 dX11_years_41 (by assumption) rfl rfl (Nat.le_of_ble_eq_true rfl) (c_X3_copy hT hH h3733 ?_)
              refine x_aload_n C0 rfl dX11_years_44 ?_
              refine x_getR C0 wf_X11_76 (fixd.k0 hS) rfl rfl (fixd.draw hS) dX11_years_45 ?_
              refine x_iload_n C0 rfl dX11_years_48 ?_
              refine x_i2l C0 dX11_years_49 ?_
              refine x_topl (i_long (by omega)) ?_
              refine x_putJ C0 wf_X11_357 (by assumption) rfl dX11_years_50 ?_
              refine x_iconst (v := 0) C0 rfl dX11_years_53 ?_
              refine x_istore (L' := [_, _, _, _, _]) C0 hN (by decide) rfl dX11_years_54 ?_
              exact h56 s m hs hm ⟨i_nlt.mp g23, g28⟩ hp m 0 _ _ x s (by omega) wx FQ.copy rT (u2_same _ _ _ _) (by omega) (fun a ha => u2_row _ _ _ ha) rfl
            · refine x_iconst (v := -1) C0 rfl dX11_years_31 ?_
              refine x_iret C0 E (by decide) (by decide) dX11_years_32 ?_
              rw [if_neg (fun q => absurd q.2.2.2 (by first | exact i_nle.mpr g28 | exact g28))] at hp
              exact hp I J FQ.rf (fun _ _ => rfl)
def JQ (J J' : xTJ) : Prop := (∀ a, a ≠ 135 → J' a = J a) ∧ ∀ k, k ≠ 29 → J' 135 k = J 135 k
theorem JQ.rf {J : xTJ} : JQ J J := ⟨fun _ _ => rfl, fun _ _ => rfl⟩
theorem JQ.trans {J J1 J2 : xTJ} (a : JQ J J1) (b : JQ J1 J2) : JQ J J2 := ⟨fun q h => (b.1 q h).trans (a.1 q h), fun k h => (b.2 k h).trans (a.2 k h)⟩
theorem JQ.u {J : xTJ} {v : Int64} : JQ J (u2 J 135 29 v) := ⟨fun _ h => u2_row _ _ _ h, fun _ h => u2_off _ _ h⟩
theorem c_X12_drawsTalk {S : xTS} {R : xTR} {I : xTI} {J : xTJ} {post : xPost} {T N V : Nat} {fl x : xRow} {lw : Option (List (Nat × Nat))} (hM : isModel S R) (C : MCore I fl lw T N V x) {y : xRow} {g : Nat} (wy : WFx y T N V) (rY : MHall I 2156 y) (hg : g < 2 ^ 31) (eg : J 135 29 = Int64.ofNat g) (hV0 : 0 < V) (hp : ∀ I' J', MQs I I' → JQ J J' → MHall I' 2156 (yrB fl T V (y, g)).1 → J' 135 29 = Int64.ofNat (yrB fl T V (y, g)).2 → post none S R I' J') : xSpec 3 yX12_drawsTalk cX12_drawsTalk 3 none 0 0 [.ref 135] S R I J post := by
  refine xSpec_of mt_X12_drawsTalk (Nat.le_of_ble_eq_true rfl) (fun G C0 hN hR E hI hZ => ?_)
  change XX G 0 0 0 [some (.ref 135), none, none] [] S R I J
  obtain ⟨wl, mF, mL, mH, wx⟩ := id C
  have hT6 := wl.2.1
  have hN8 := wl.2.2.2.1
  have hV6 := wl.2.2.2.2.2.1
  have eT : I 141 0 = nI T := (mF 0 (by decide)).trans wl.1
  have eN : I 141 1 = nI N := (mF 1 (by decide)).trans wl.2.2.1
  have eV : I 141 2 = nI V := (mF 2 (by decide)).trans wl.2.2.2.2.1
  have hb0 : 0 ≤ 2192 := by decide
  have k1 := drD_lt (g := g) (n := V) hV0
  have k2 := drD_lt (g := drG g) (n := V) hV0
  unfold yrB at hp
  rw [if_pos hV0] at hp
  dsimp only at hp
  have jj : JQ J (u2 (u2 J 135 29 (Int64.ofNat (drG g))) 135 29 (Int64.ofNat (drG (drG g)))) := JQ.u.trans JQ.u
  refine x_aload_n C0 rfl dX12_drawsTalk_0 ?_
  refine x_aload_n C0 rfl dX12_drawsTalk_1 ?_
  refine x_callV [] C0 hN rfl (xRf_of hR (by decide) (Nat.zero_le _) (Nat.zero_le _)) mv_X12_watchers wm_X12_282 dX12_drawsTalk_2 (isModel.k0 hM) rfl rfl (Nat.le_of_ble_eq_true rfl) (c_X12_watchers hM ?_)
  refine x_topi eV ?_
  refine x_callV [_] C0 hN rfl (xRf_of hR (by decide) (Nat.zero_le _) (Nat.zero_le _)) mv_X12_draw wm_X12_414 dX12_drawsTalk_5 (isModel.k0 hM) rfl rfl (Nat.le_of_ble_eq_true rfl) (c_X12_draw hM hg hV0 (by omega) eg ?_)
  refine x_istore_n (L' := [_, _, _]) C0 hN (by decide) rfl dX12_drawsTalk_8 ?_
  refine x_aload_n C0 rfl dX12_drawsTalk_9 ?_
  refine x_aload_n C0 rfl dX12_drawsTalk_10 ?_
  refine x_callV [] C0 hN rfl (xRf_of hR (by decide) (Nat.zero_le _) (Nat.zero_le _)) mv_X12_watchers wm_X12_282 dX12_drawsTalk_11 (isModel.k0 hM) rfl rfl (Nat.le_of_ble_eq_true rfl) (c_X12_watchers hM ?_)
  refine x_topi eV ?_
  refine x_callV [_] C0 hN rfl (xRf_of hR (by decide) (Nat.zero_le _) (Nat.zero_le _)) mv_X12_draw wm_X12_414 dX12_drawsTalk_14 (isModel.k0 hM) rfl rfl (Nat.le_of_ble_eq_true rfl) (c_X12_draw hM (drG_lt _) hV0 (by omega) (u2_same _ _ _ _) ?_)
  refine x_istore_n (L' := [_, _, _]) C0 hN (by decide) rfl dX12_drawsTalk_17 ?_
  refine x_iload_n C0 rfl dX12_drawsTalk_18 ?_
  refine x_iload_n C0 rfl dX12_drawsTalk_19 ?_
  refine x_icmp_eq (tgt := 55) C0 (by decide) dX12_drawsTalk_20 (fun g20 => ?_) (fun g20 => ?_)
  · refine x_vret C0 E (by decide) (by decide) dX12_drawsTalk_55 ?_
    rw [if_neg (fun z => z.1 ((nI_eq (by omega) (by omega)).mp g20))] at hp
    exact hp _ _ MQs.rf jj rY (u2_same _ _ _ _)
  · refine x_aload_n C0 rfl dX12_drawsTalk_23 ?_
    refine x_sipush (v := nI 2156) C0 rfl dX12_drawsTalk_24 ?_
    refine x_iload_n C0 rfl dX12_drawsTalk_27 ?_
    refine x_callV [_, _] C0 hN rfl (xRf_of hR (by decide) (Nat.zero_le _) (Nat.zero_le _)) mv_X12_isIn wm_X12_319 dX12_drawsTalk_28 (isModel.k0 hM) rfl rfl (Nat.le_of_ble_eq_true rfl) (c_X12_isIn hM (by decide) (fun g28 => ?_) (fun g28 => ?_))
    · refine x_if_eq (tgt := 55) C0 (by decide) dX12_drawsTalk_31 (fun hkk => absurd hkk (by decide)) (fun _ => ?_)
      refine x_aload_n C0 rfl dX12_drawsTalk_34 ?_
      refine x_sipush (v := nI 2156) C0 rfl dX12_drawsTalk_35 ?_
      refine x_iload_n C0 rfl dX12_drawsTalk_38 ?_
      refine x_callV [_, _] C0 hN rfl (xRf_of hR (by decide) (Nat.zero_le _) (Nat.zero_le _)) mv_X12_isIn wm_X12_319 dX12_drawsTalk_39 (isModel.k0 hM) rfl rfl (Nat.le_of_ble_eq_true rfl) (c_X12_isIn hM (by decide) (fun g39 => ?_) (fun g39 => ?_))
      · refine x_if_eq (tgt := 55) C0 (by decide) dX12_drawsTalk_42 (fun hkk => absurd hkk (by decide)) (fun _ => ?_)
        refine x_aload_n C0 rfl dX12_drawsTalk_45 ?_
        refine x_sipush (v := nI 2156) C0 rfl dX12_drawsTalk_46 ?_
        refine x_iload_n C0 rfl dX12_drawsTalk_49 ?_
        refine x_iload_n C0 rfl dX12_drawsTalk_50 ?_
        refine x_callV [_, _, _] C0 hN rfl (xRf_of hR (by decide) (Nat.zero_le _) (Nat.zero_le _)) mv_X12_talks wm_X12_360 dX12_drawsTalk_51 (isModel.k0 hM) rfl rfl (Nat.le_of_ble_eq_true rfl) (c_X12_talks hM (by decide) wl wy mF rY k1 k2 (fun I4 e4 s4 r4 => ?_))
        refine x_pop C0 rfl dX12_drawsTalk_54 ?_
        refine x_vret C0 E (by decide) (by decide) dX12_drawsTalk_55 ?_
        rw [if_pos ⟨fun e => g20 (by rw [e]), by rw [← rY 2 (by decide)]; exact g28, by rw [← rY 2 (by decide)]; exact g39⟩] at hp
        exact hp I4 _ (MQs.same s4 (by decide)) jj r4 (u2_same _ _ _ _)
      · refine x_if_eq (tgt := 55) C0 (by decide) dX12_drawsTalk_42 (fun _ => ?_) (fun hkk => absurd (by decide) hkk)
        refine x_vret C0 E (by decide) (by decide) dX12_drawsTalk_55 ?_
        rw [if_neg (fun z => g39 (by rw [rY 2 (by decide)]; exact z.2.2))] at hp
        exact hp _ _ MQs.rf jj rY (u2_same _ _ _ _)
    · refine x_if_eq (tgt := 55) C0 (by decide) dX12_drawsTalk_31 (fun _ => ?_) (fun hkk => absurd (by decide) hkk)
      refine x_vret C0 E (by decide) (by decide) dX12_drawsTalk_55 ?_
      rw [if_neg (fun z => g28 (by rw [rY 2 (by decide)]; exact z.2.1))] at hp
      exact hp _ _ MQs.rf jj rY (u2_same _ _ _ _)
theorem c_X12_drawsWriting {S : xTS} {R : xTR} {I : xTI} {J : xTJ} {post : xPost} {T N V : Nat} {fl x : xRow} {lw : Option (List (Nat × Nat))} (hM : isModel S R) (C : MCore I fl lw T N V x) {y : xRow} {g : Nat} (wy : WFx y T N V) (rY : MHall I 2156 y) (hg : g < 2 ^ 31) (eg : J 135 29 = Int64.ofNat g) (hN0 : 0 < N) (hT0 : 0 < T) (hp : ∀ I' J', MQs I I' → JQ J J' → MHall I' 2156 (if y 0 ≤ nI (drD g N) then sWr y (drD g N) (drD (drG g) T) (drD (drG (drG g)) 2) else y) → J' 135 29 = Int64.ofNat (drG (drG (drG g))) → post none S R I' J') : xSpec 4 yX12_drawsWriting cX12_drawsWriting 4 none 0 0 [.ref 135] S R I J post := by
  refine xSpec_of mt_X12_drawsWriting (Nat.le_of_ble_eq_true rfl) (fun G C0 hN hR E hI hZ => ?_)
  change XX G 0 0 0 [some (.ref 135), none, none, none] [] S R I J
  obtain ⟨wl, mF, mL, mH, wx⟩ := id C
  have hT6 := wl.2.1
  have hN8 := wl.2.2.2.1
  have hV6 := wl.2.2.2.2.2.1
  have eT : I 141 0 = nI T := (mF 0 (by decide)).trans wl.1
  have eN : I 141 1 = nI N := (mF 1 (by decide)).trans wl.2.2.1
  have eV : I 141 2 = nI V := (mF 2 (by decide)).trans wl.2.2.2.2.1
  have hb0 : 0 ≤ 2192 := by decide
  have k1 := drD_lt (g := g) (n := N) hN0
  have k2 := drD_lt (g := drG g) (n := T) hT0
  have k3 := drD_lt (g := drG (drG g)) (n := 2) (by decide)
  have jj : JQ J (u2 (u2 (u2 J 135 29 (Int64.ofNat (drG g))) 135 29 (Int64.ofNat (drG (drG g)))) 135 29 (Int64.ofNat (drG (drG (drG g))))) := (JQ.u.trans JQ.u).trans JQ.u
  refine x_aload_n C0 rfl dX12_drawsWriting_0 ?_
  refine x_aload_n C0 rfl dX12_drawsWriting_1 ?_
  refine x_callV [] C0 hN rfl (xRf_of hR (by decide) (Nat.zero_le _) (Nat.zero_le _)) mv_X12_scenes wm_X12_285 dX12_drawsWriting_2 (isModel.k0 hM) rfl rfl (Nat.le_of_ble_eq_true rfl) (c_X12_scenes hM ?_)
  refine x_topi eN ?_
  refine x_callV [_] C0 hN rfl (xRf_of hR (by decide) (Nat.zero_le _) (Nat.zero_le _)) mv_X12_draw wm_X12_414 dX12_drawsWriting_5 (isModel.k0 hM) rfl rfl (Nat.le_of_ble_eq_true rfl) (c_X12_draw hM hg hN0 (by omega) eg ?_)
  refine x_istore_n (L' := [_, _, _, _]) C0 hN (by decide) rfl dX12_drawsWriting_8 ?_
  refine x_aload_n C0 rfl dX12_drawsWriting_9 ?_
  refine x_aload_n C0 rfl dX12_drawsWriting_10 ?_
  refine x_callV [] C0 hN rfl (xRf_of hR (by decide) (Nat.zero_le _) (Nat.zero_le _)) mv_X12_things wm_X12_297 dX12_drawsWriting_11 (isModel.k0 hM) rfl rfl (Nat.le_of_ble_eq_true rfl) (c_X12_things hM ?_)
  refine x_topi eT ?_
  refine x_callV [_] C0 hN rfl (xRf_of hR (by decide) (Nat.zero_le _) (Nat.zero_le _)) mv_X12_draw wm_X12_414 dX12_drawsWriting_14 (isModel.k0 hM) rfl rfl (Nat.le_of_ble_eq_true rfl) (c_X12_draw hM (drG_lt _) hT0 (by omega) (u2_same _ _ _ _) ?_)
  refine x_istore_n (L' := [_, _, _, _]) C0 hN (by decide) rfl dX12_drawsWriting_17 ?_
  refine x_aload_n C0 rfl dX12_drawsWriting_18 ?_
  refine x_iconst (v := nI 2) C0 rfl dX12_drawsWriting_19 ?_
  refine x_callV [_] C0 hN rfl (xRf_of hR (by decide) (Nat.zero_le _) (Nat.zero_le _)) mv_X12_draw wm_X12_414 dX12_drawsWriting_20 (isModel.k0 hM) rfl rfl (Nat.le_of_ble_eq_true rfl) (c_X12_draw hM (drG_lt _) (by decide) (by decide) (u2_same _ _ _ _) ?_)
  refine x_istore_n (L' := [_, _, _, _]) C0 hN (by decide) rfl dX12_drawsWriting_23 ?_
  refine x_aload_n C0 rfl dX12_drawsWriting_24 ?_
  refine x_sipush (v := nI 2156) C0 rfl dX12_drawsWriting_25 ?_
  refine x_iload_n C0 rfl dX12_drawsWriting_28 ?_
  refine x_callV [_, _] C0 hN rfl (xRf_of hR (by decide) (Nat.zero_le _) (Nat.zero_le _)) mv_X12_isToCome wm_X12_353 dX12_drawsWriting_29 (isModel.k0 hM) rfl rfl (Nat.le_of_ble_eq_true rfl) (c_X12_isToCome hM (by decide) (fun g29 => ?_) (fun g29 => ?_))
  · refine x_if_eq (tgt := 45) C0 (by decide) dX12_drawsWriting_32 (fun hkk => absurd hkk (by decide)) (fun _ => ?_)
    refine x_aload_n C0 rfl dX12_drawsWriting_35 ?_
    refine x_sipush (v := nI 2156) C0 rfl dX12_drawsWriting_36 ?_
    refine x_iload_n C0 rfl dX12_drawsWriting_39 ?_
    refine x_iload_n C0 rfl dX12_drawsWriting_40 ?_
    refine x_iload_n C0 rfl dX12_drawsWriting_41 ?_
    refine x_callV [_, _, _, _] C0 hN rfl (xRf_of hR (by decide) (Nat.zero_le _) (Nat.zero_le _)) mv_X12_writes wm_X12_356 dX12_drawsWriting_42 (isModel.k0 hM) rfl rfl (Nat.le_of_ble_eq_true rfl) (c_X12_writes hM (by decide) (by omega) ?_)
    refine x_vret C0 E (by decide) (by decide) dX12_drawsWriting_45 ?_
    rw [if_pos (by rw [← rY 0 (by decide)]; exact g29.2)] at hp
    exact hp _ _ ((MQs.st (by omega)).trans (MQs.st (by omega))) jj ((rY.upd (by omega) (by omega)).upd (by omega) (by omega)) (u2_same _ _ _ _)
  · refine x_if_eq (tgt := 45) C0 (by decide) dX12_drawsWriting_32 (fun _ => ?_) (fun hkk => absurd (by decide) hkk)
    refine x_vret C0 E (by decide) (by decide) dX12_drawsWriting_45 ?_
    rw [if_neg (fun z => g29 ⟨⟨nI_pos' (by omega), by rw [eN]; exact nI_lt k1 (by omega)⟩, by rw [rY 0 (by decide)]; exact z⟩)] at hp
    exact hp _ _ MQs.rf jj rY (u2_same _ _ _ _)
