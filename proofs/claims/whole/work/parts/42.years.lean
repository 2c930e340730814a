/-! THE QUESTIONS: years, the class -/
theorem claim_nI : ∀ t, t < 6 → ∀ b, b < 2 → (nI b = nI 1 → 2 * nI t + (if nI 1 = 0 then 0 else 1) = nI (2 * t + b)) ∧ (¬ nI b = nI 1 → 2 * nI t + (if nI 0 = 0 then 0 else 1) = nI (2 * t + b)) := by decide +kernel
theorem nI_le0 {n : Nat} (h : n < 2 ^ 31) : nI n ≤ 0 ↔ n = 0 := by
  constructor
  · intro q
    have := (nI_le_iff (b := 0) h (by omega)).mp q
    omega
  · intro q
    rw [q]
    decide
theorem FQ.u38 {I : xTI} {j : Nat} {v : Int32} : FQ I (u2 I 38 j v) := fun a _ h2 _ _ _ => u2_row _ _ _ h2
theorem c_X11_passYear {S : xTS} {R : xTR} {I : xTI} {J : xTJ} {post : xPost} {f T N V : Nat} {fl x : xRow} {lw : Option (List (Nat × Nat))} (hS : fixd S R) (hf : R 0 2 = some f) (C : FCore I f fl lw T N V x) {y : xRow} {g : Nat} (wy : WFx y T N V) (rY : RHall I 37 y N) (hg : g < 2 ^ 31) (eg : J 110 0 = Int64.ofNat g) (hp : ∀ I' J', FQ I I' → RHall I' 37 (yr fl (sDq fl lw) T N V (y, g)).1 N → J' 110 0 = Int64.ofNat (yr fl (sDq fl lw) T N V (y, g)).2 → (∀ a, a ≠ 110 → J' a = J a) → post none S R I' J') : xSpec 5 yX11_passYear cX11_passYear 4 none 0 0 [.ref 0] S R I J post := by
  refine xSpec_of mt_X11_passYear (Nat.le_of_ble_eq_true rfl) (fun G C0 hN hR E hI hZ => ?_)
  change XX G 0 0 0 [some (.ref 0), none, none, none] [] S R I J
  obtain ⟨hfm, wl, rF, rH, wx⟩ := id C
  have hF := hS.film hfm
  have hH := hS.hall (q := 33) (by decide)
  have hT6 := wl.2.1
  have hN8 := wl.2.2.2.1
  have hV6 := wl.2.2.2.2.2.1
  have eT : I f 0 = nI T := rF.1.trans wl.1
  have eN : I f 1 = nI N := rF.2.1.trans wl.2.2.1
  have eV : I f 2 = nI V := rF.2.2.1.trans wl.2.2.2.2.1
  have hfh : ∀ i j, i < 9 → j < 4 → f + i ≠ 33 + j := fun i j hi hj => hf_apart 33 (by decide) f hfm i hi j hj
  obtain ⟨fs0, fs1, fs2, fs3, fs4, fs5, fs6, fs7, fs8, fr4, fr5, fr6, fr7, fr8, fr9, fr10, fr11⟩ := id hF
  obtain ⟨hs0, hs1, hs2, hs3, hr4, hr5, hr6⟩ := id hH
  have hT := hS.hall (q := 37) (by decide)
  obtain ⟨hq0, hq1, hq2, hq3, hq4, hq5, hq6⟩ := id hT
  have hf37 : ∀ i j, i < 9 → j < 4 → f + i ≠ 37 + j := fun i j hi hj => hf_apart 37 (by decide) f hfm i hi j hj
  have hdr := fixd.sDraw hS
  have h178 : ∀ I3 J3 v1 v2 v3 z, post none S R I3 J3 → XX G 0 0 178 [some (.ref 0), v1, v2, v3] [.int z] S R I3 J3 := by
    intro I3 J3 v1 v2 v3 z h
    refine x_pop C0 rfl dX11_passYear_178 ?_
    refine x_vret C0 E (by decide) (by decide) dX11_passYear_179 ?_
    exact h
  have hC : ∀ I2 J2 y2 g2 v1 v2, WFx y2 T N V → FQ I I2 → RHall I2 37 y2 N → J2 110 0 = Int64.ofNat g2 → g2 < 2 ^ 31 → (∀ a, a ≠ 110 → J2 a = J a) → (yr fl (sDq fl lw) T N V (y, g)) = yrC T N (y2, g2) → XX G 0 0 81 [some (.ref 0), v1, v2, none] [] S R I2 J2 := by
    intro I2 J2 y2 g2 v1 v2 wy2 s2 r2 eg2 hg2 j2 he
    rw [he] at hp
    unfold yrC at hp
    dsimp only at hp
    have CC := C.fq s2
    have rF2 := CC.2.2.1
    have eN2 : I2 f 1 = nI N := by rw [rF2.2.1, wl.2.2.1]
    have eT2 : I2 f 0 = nI T := by rw [rF2.1, wl.1]
    have k1 := drD_lt (g := drG g2) (n := N)
    have k2 := drD_lt (g := drG (drG g2)) (n := T)
    have k3 := drD_lt (g := drG (drG (drG g2))) (n := 2) (by decide)
    have hrw : ∀ J3 v1 v2 v3, 0 < N → 0 < T → drD g2 9 = 0 → J3 110 0 = Int64.ofNat (drG (drG (drG (drG g2)))) → (∀ a, a ≠ 110 → J3 a = J a) → XX G 0 0 175 [some (.ref 0), v1, v2, v3] [.int (nI (2 * drD (drG (drG g2)) T + drD (drG (drG (drG g2))) 2)), .int (nI (drD (drG g2) N)), .ref 37, .ref f] S R I2 J3 := by
      intro J3 v1 v2 v3 hN0 hT0 h9 eg3 j3
      rw [if_pos ⟨hN0, hT0⟩, if_pos h9] at hp
      refine x_callV [_, _, _] C0 hN rfl (xRf_of hR (by decide) (Nat.zero_le _) (Nat.zero_le _)) mv_X2_rewrite wm_X11_194 dX11_passYear_175 (by assumption) rfl rfl (Nat.le_of_ble_eq_true rfl) (c_X2_rewrite hF hT (fun z => ?_) (fun k9 e9 hk9 z => ?_) ⟨N, hN8, eN2⟩)
      · refine h178 I2 J3 _ _ _ _ ?_
        rw [if_neg (fun q => z ⟨⟨nI_pos' (by omega), by rw [eN2]; exact nI_lt (k1 hN0) (by omega)⟩, by rw [r2.1]; exact q⟩)] at hp
        exact hp I2 J3 s2 r2 eg3 j3
      · have ek : k9 = drD (drG g2) N := ((nI_eq (by omega) (by omega)).mp e9).symm
        subst ek
        refine h178 _ J3 _ _ _ _ ?_
        rw [if_pos (by rw [← r2.1]; exact z.2)] at hp
        exact hp _ J3 (s2.trans FQ.u38) (RHall_wr r2 (by omega) hN8) eg3 j3
    refine x_aload_n C0 rfl dX11_passYear_81 ?_
    refine x_getR C0 wf_X11_26 (fixd.k0 hS) rfl rfl hf dX11_passYear_82 ?_
    refine x_getI C0 wf_X11_239 (by assumption) rfl dX11_passYear_85 ?_
    refine x_topi eN2 ?_
    refine x_if_le (tgt := 179) C0 (by decide) dX11_passYear_88 (fun g88 => ?_) (fun g88 => ?_)
    · refine x_vret C0 E (by decide) (by decide) dX11_passYear_179 ?_
      rw [if_neg (fun q => absurd q.1 (by have := (nI_le0 (by omega)).mp g88; omega))] at hp
      exact hp I2 J2 s2 r2 eg2 j2
    · have hN0 : 0 < N := Nat.pos_of_ne_zero (fun q => g88 (by rw [q]; decide))
      refine x_aload_n C0 rfl dX11_passYear_91 ?_
      refine x_getR C0 wf_X11_26 (fixd.k0 hS) rfl rfl hf dX11_passYear_92 ?_
      refine x_getI C0 wf_X11_280 (by assumption) rfl dX11_passYear_95 ?_
      refine x_topi eT2 ?_
      refine x_if_le (tgt := 179) C0 (by decide) dX11_passYear_98 (fun g98 => ?_) (fun g98 => ?_)
      · refine x_vret C0 E (by decide) (by decide) dX11_passYear_179 ?_
        rw [if_neg (fun q => absurd q.2 (by have := (nI_le0 (by omega)).mp g98; omega))] at hp
        exact hp I2 J2 s2 r2 eg2 j2
      · have hT0 : 0 < T := Nat.pos_of_ne_zero (fun q => g98 (by rw [q]; decide))
        refine x_aload_n C0 rfl dX11_passYear_101 ?_
        refine x_getR C0 wf_X11_76 (fixd.k0 hS) rfl rfl (fixd.draw hS) dX11_passYear_102 ?_
        refine x_bipush (v := nI 9) C0 rfl dX11_passYear_105 ?_
        refine x_callV [_] C0 hN rfl (xRf_of hR (by decide) (Nat.zero_le _) (Nat.zero_le _)) mv_X0_below wm_X11_369 dX11_passYear_107 (by assumption) rfl rfl (Nat.le_of_ble_eq_true rfl) (c_X0_below (fixd.sDraw hS) hg2 (by decide) (by decide) eg2 ?_)
        refine x_if_ne (tgt := 179) C0 (by decide) dX11_passYear_110 (fun g110 => ?_) (fun g110 => ?_)
        · refine x_vret C0 E (by decide) (by decide) dX11_passYear_179 ?_
          rw [if_pos ⟨hN0, hT0⟩, if_neg (fun q => g110 (by rw [q]; decide))] at hp
          exact hp I2 _ s2 r2 (u2_same _ _ _ _) (fun a ha => (u2_row _ _ _ ha).trans (j2 a ha))
        · have h9 : drD g2 9 = 0 := (nI_eq (b := 0) (by have := drD_lt (g := g2) (n := 9) (by decide); omega) (by omega)).mp g110
          refine x_aload_n C0 rfl dX11_passYear_113 ?_
          refine x_getR C0 wf_X11_76 (fixd.k0 hS) rfl rfl (fixd.draw hS) dX11_passYear_114 ?_
          refine x_aload_n C0 rfl dX11_passYear_117 ?_
          refine x_getR C0 wf_X11_26 (fixd.k0 hS) rfl rfl hf dX11_passYear_118 ?_
          refine x_getI C0 wf_X11_239 (by assumption) rfl dX11_passYear_121 ?_
          refine x_topi eN2 ?_
          refine x_callV [_] C0 hN rfl (xRf_of hR (by decide) (Nat.zero_le _) (Nat.zero_le _)) mv_X0_below wm_X11_369 dX11_passYear_124 (by assumption) rfl rfl (Nat.le_of_ble_eq_true rfl) (c_X0_below (fixd.sDraw hS) (drG_lt _) hN0 (by omega) (u2_same _ _ _ _) ?_)
          refine x_istore_n (L' := [_, _, _, _]) C0 hN (by decide) rfl dX11_passYear_127 ?_
          refine x_aload_n C0 rfl dX11_passYear_128 ?_
          refine x_getR C0 wf_X11_76 (fixd.k0 hS) rfl rfl (fixd.draw hS) dX11_passYear_129 ?_
          refine x_aload_n C0 rfl dX11_passYear_132 ?_
          refine x_getR C0 wf_X11_26 (fixd.k0 hS) rfl rfl hf dX11_passYear_133 ?_
          refine x_getI C0 wf_X11_280 (by assumption) rfl dX11_passYear_136 ?_
          refine x_topi eT2 ?_
          refine x_callV [_] C0 hN rfl (xRf_of hR (by decide) (Nat.zero_le _) (Nat.zero_le _)) mv_X0_below wm_X11_369 dX11_passYear_139 (by assumption) rfl rfl (Nat.le_of_ble_eq_true rfl) (c_X0_below (fixd.sDraw hS) (drG_lt _) hT0 (by omega) (u2_same _ _ _ _) ?_)
          refine x_istore_n (L' := [_, _, _, _]) C0 hN (by decide) rfl dX11_passYear_142 ?_
          refine x_aload_n C0 rfl dX11_passYear_143 ?_
          refine x_getR C0 wf_X11_76 (fixd.k0 hS) rfl rfl (fixd.draw hS) dX11_passYear_144 ?_
          refine x_iconst (v := nI 2) C0 rfl dX11_passYear_147 ?_
          refine x_callV [_] C0 hN rfl (xRf_of hR (by decide) (Nat.zero_le _) (Nat.zero_le _)) mv_X0_below wm_X11_369 dX11_passYear_148 (by assumption) rfl rfl (Nat.le_of_ble_eq_true rfl) (c_X0_below (fixd.sDraw hS) (drG_lt _) (by decide) (by decide) (u2_same _ _ _ _) ?_)
          refine x_iconst (v := nI 1) C0 rfl dX11_passYear_151 ?_
          refine x_icmp_ne (tgt := 159) C0 (by decide) dX11_passYear_152 (fun g152 => ?_) (fun g152 => ?_)
          · refine x_iconst (v := nI 0) C0 rfl dX11_passYear_159 ?_
            refine x_istore_n (L' := [_, _, _, _]) C0 hN (by decide) rfl dX11_passYear_160 ?_
            refine x_aload_n C0 rfl dX11_passYear_161 ?_
            refine x_getR C0 wf_X11_26 (fixd.k0 hS) rfl rfl hf dX11_passYear_162 ?_
            refine x_aload_n C0 rfl dX11_passYear_165 ?_
            refine x_getR C0 wf_X11_50 (fixd.k0 hS) rfl rfl (fixd.trial hS) dX11_passYear_166 ?_
            refine x_iload_n C0 rfl dX11_passYear_169 ?_
            refine x_iload_n C0 rfl dX11_passYear_170 ?_
            refine x_iload_n C0 rfl dX11_passYear_171 ?_
            refine x_callS [_, _] C0 (xRf_of hR (by decide) (Nat.zero_le _) (Nat.zero_le _)) ms_X11_claim wm_X11_190 dX11_passYear_172 rfl rfl (Nat.le_of_ble_eq_true rfl) (c_X11_claim  ?_)
            refine x_topi ((claim_nI _ (by have := k2 hT0; omega) _ k3).2 g152) ?_
            exact hrw _ _ _ _ hN0 hT0 h9 (u2_same _ _ _ _) (fun a ha => by rw [u2_row _ _ _ ha, u2_row _ _ _ ha, u2_row _ _ _ ha, u2_row _ _ _ ha]; exact j2 a ha)
          · refine x_iconst (v := nI 1) C0 rfl dX11_passYear_155 ?_
            refine x_goto (tgt := 160) C0 (by decide) dX11_passYear_156 ?_
            refine x_istore_n (L' := [_, _, _, _]) C0 hN (by decide) rfl dX11_passYear_160 ?_
            refine x_aload_n C0 rfl dX11_passYear_161 ?_
            refine x_getR C0 wf_X11_26 (fixd.k0 hS) rfl rfl hf dX11_passYear_162 ?_
            refine x_aload_n C0 rfl dX11_passYear_165 ?_
            refine x_getR C0 wf_X11_50 (fixd.k0 hS) rfl rfl (fixd.trial hS) dX11_passYear_166 ?_
            refine x_iload_n C0 rfl dX11_passYear_169 ?_
            refine x_iload_n C0 rfl dX11_passYear_170 ?_
            refine x_iload_n C0 rfl dX11_passYear_171 ?_
            refine x_callS [_, _] C0 (xRf_of hR (by decide) (Nat.zero_le _) (Nat.zero_le _)) ms_X11_claim wm_X11_190 dX11_passYear_172 rfl rfl (Nat.le_of_ble_eq_true rfl) (c_X11_claim  ?_)
            refine x_topi ((claim_nI _ (by have := k2 hT0; omega) _ k3).1 g152) ?_
            exact hrw _ _ _ _ hN0 hT0 h9 (u2_same _ _ _ _) (fun a ha => by rw [u2_row _ _ _ ha, u2_row _ _ _ ha, u2_row _ _ _ ha, u2_row _ _ _ ha]; exact j2 a ha)
  have hB : ∀ I2 y2, WFx y2 T N V → FQ I I2 → RHall I2 37 y2 N → yrA fl (sDq fl lw) N V y = y2 → XX G 0 0 27 [some (.ref 0), none, none, none] [] S R I2 J := by
    intro I2 y2 wy2 s2 r2 he
    have CC := C.fq s2
    have rF2 := CC.2.2.1
    have eV2 : I2 f 2 = nI V := by rw [rF2.2.2.1, wl.2.2.2.2.1]
    have he2 : (yr fl (sDq fl lw) T N V (y, g)) = yrC T N (yrB fl T V (y2, g)) := by unfold yr; rw [he]
    have wB := yrB_WFx (s := (y2, g)) wl wy2
    have k1 := drD_lt (g := g) (n := V)
    have k2 := drD_lt (g := drG g) (n := V)
    have h80 : ∀ I3 J3 v1 v2 z, XX G 0 0 81 [some (.ref 0), v1, v2, none] [] S R I3 J3 → XX G 0 0 80 [some (.ref 0), v1, v2, none] [.int z] S R I3 J3 := by
      intro I3 J3 v1 v2 z h
      refine x_pop C0 rfl dX11_passYear_80 ?_
      exact h
    refine x_aload_n C0 rfl dX11_passYear_27 ?_
    refine x_getR C0 wf_X11_26 (fixd.k0 hS) rfl rfl hf dX11_passYear_28 ?_
    refine x_getI C0 wf_X11_289 (by assumption) rfl dX11_passYear_31 ?_
    refine x_topi eV2 ?_
    refine x_if_le (tgt := 81) C0 (by decide) dX11_passYear_34 (fun g34 => ?_) (fun g34 => ?_)
    · unfold yrB at he2
      rw [if_neg (fun q => absurd q (by have := (nI_le0 (by omega)).mp g34; omega))] at he2
      exact hC I2 J y2 g _ _ wy2 s2 r2 eg hg (fun _ _ => rfl) he2
    · have hV0 : 0 < V := Nat.pos_of_ne_zero (fun q => g34 (by rw [q]; decide))
      unfold yrB at he2 wB
      rw [if_pos hV0] at he2 wB
      refine x_aload_n C0 rfl dX11_passYear_37 ?_
      refine x_getR C0 wf_X11_76 (fixd.k0 hS) rfl rfl (fixd.draw hS) dX11_passYear_38 ?_
      refine x_aload_n C0 rfl dX11_passYear_41 ?_
      refine x_getR C0 wf_X11_26 (fixd.k0 hS) rfl rfl hf dX11_passYear_42 ?_
      refine x_getI C0 wf_X11_289 (by assumption) rfl dX11_passYear_45 ?_
      refine x_topi eV2 ?_
      refine x_callV [_] C0 hN rfl (xRf_of hR (by decide) (Nat.zero_le _) (Nat.zero_le _)) mv_X0_below wm_X11_369 dX11_passYear_48 (by assumption) rfl rfl (Nat.le_of_ble_eq_true rfl) (c_X0_below (fixd.sDraw hS) hg hV0 (by omega) eg ?_)
      refine x_istore_n (L' := [_, _, _, _]) C0 hN (by decide) rfl dX11_passYear_51 ?_
      refine x_aload_n C0 rfl dX11_passYear_52 ?_
      refine x_getR C0 wf_X11_76 (fixd.k0 hS) rfl rfl (fixd.draw hS) dX11_passYear_53 ?_
      refine x_aload_n C0 rfl dX11_passYear_56 ?_
      refine x_getR C0 wf_X11_26 (fixd.k0 hS) rfl rfl hf dX11_passYear_57 ?_
      refine x_getI C0 wf_X11_289 (by assumption) rfl dX11_passYear_60 ?_
      refine x_topi eV2 ?_
      refine x_callV [_] C0 hN rfl (xRf_of hR (by decide) (Nat.zero_le _) (Nat.zero_le _)) mv_X0_below wm_X11_369 dX11_passYear_63 (by assumption) rfl rfl (Nat.le_of_ble_eq_true rfl) (c_X0_below (fixd.sDraw hS) (drG_lt _) hV0 (by omega) (u2_same _ _ _ _) ?_)
      refine x_istore_n (L' := [_, _, _, _]) C0 hN (by decide) rfl dX11_passYear_66 ?_
      refine x_aload_n C0 rfl dX11_passYear_67 ?_
      refine x_getR C0 wf_X11_26 (fixd.k0 hS) rfl rfl hf dX11_passYear_68 ?_
      refine x_aload_n C0 rfl dX11_passYear_71 ?_
      refine x_getR C0 wf_X11_50 (fixd.k0 hS) rfl rfl (fixd.trial hS) dX11_passYear_72 ?_
      refine x_iload_n C0 rfl dX11_passYear_75 ?_
      refine x_iload_n C0 rfl dX11_passYear_76 ?_
      refine x_callV [_, _, _] C0 hN rfl (xRf_of hR (by decide) (Nat.zero_le _) (Nat.zero_le _)) mv_X2_persuade wm_X11_202 dX11_passYear_77 (by assumption) rfl rfl (Nat.le_of_ble_eq_true rfl) (c_X2_persuade hF hT hf37 wl wy2 rF2 r2 (fun q => ?_) (fun a2 b2 I3 ha2 hb2 hab ei ej ia ib s3 r3 => ?_))
      · refine h80 _ _ _ _ _ ?_
        have hno : ¬ (drD g V ≠ drD (drG g) V ∧ xbit (y2 2) (drD g V) ∧ xbit (y2 2) (drD (drG g) V)) := fun z => q _ _ (k1 hV0) (k2 hV0) z.1 rfl rfl z.2.1 z.2.2
        rw [if_neg hno] at he2
        exact hC I2 _ y2 _ _ _ wy2 s2 r2 (u2_same _ _ _ _) (drG_lt _) (fun a ha => by rw [u2_row _ _ _ ha, u2_row _ _ _ ha]) he2
      · have e1 : a2 = drD g V := ((nI_eq (by have := k1 hV0; omega) (by omega)).mp ei).symm
        have e2 : b2 = drD (drG g) V := ((nI_eq (by have := k2 hV0; omega) (by omega)).mp ej).symm
        subst e1
        subst e2
        refine h80 _ _ _ _ _ ?_
        rw [if_pos ⟨hab, ia, ib⟩] at he2 wB
        exact hC I3 _ _ _ _ _ wB (s2.trans (FQ.hall s3)) r3 (u2_same _ _ _ _) (drG_lt _) (fun a ha => by rw [u2_row _ _ _ ha, u2_row _ _ _ ha]) he2
  have hA1 : y 0 = nI N → XX G 0 0 11 [some (.ref 0), none, none, none] [.int (-1)] S R I J := by
    intro q0
    have r9 : RHall (u2 (u2 I 37 0 0) 37 1 (y 1 + 1)) 37 (sAgain y) N := RHall_fld (RHall_fld rY (by omega) hN8) (by omega) hN8
    refine x_iconst (v := -1) C0 rfl dX11_passYear_11 ?_
    refine x_icmp_ne (tgt := 27) C0 (by decide) dX11_passYear_12 (fun hkk => absurd (rfl) hkk) (fun _ => ?_)
    refine x_aload_n C0 rfl dX11_passYear_15 ?_
    refine x_getR C0 wf_X11_26 (fixd.k0 hS) rfl rfl hf dX11_passYear_16 ?_
    refine x_aload_n C0 rfl dX11_passYear_19 ?_
    refine x_getR C0 wf_X11_50 (fixd.k0 hS) rfl rfl (fixd.trial hS) dX11_passYear_20 ?_
    refine x_callV [_] C0 hN rfl (xRf_of hR (by decide) (Nat.zero_le _) (Nat.zero_le _)) mv_X2_reissue wm_X11_206 dX11_passYear_23 (by assumption) rfl rfl (Nat.le_of_ble_eq_true rfl) (c_X2_reissue hF hT (fun q => absurd q (by rw [rY.1, q0, eN]; exact Int32.lt_irrefl)) (fun q => ?_))
    rw [rY.2.1]
    refine x_pop C0 rfl dX11_passYear_26 ?_
    exact hB _ _ (WFx_again wy) (FQ.u37.trans FQ.u37) r9 (by unfold yrA; rw [if_pos q0])
  have hA2 : ∀ k I2, k < N → y 0 = nI k → xSame I I2 37 → RHall I2 37 (sShowK fl (sDq fl lw) k V y).1 N → XX G 0 0 11 [some (.ref 0), none, none, none] [.int (sShowK fl (sDq fl lw) k V y).2] S R I2 J := by
    intro k I2 hk q0 s2 r2
    obtain ⟨m, hm, em⟩ := sAll_mask (fl := fl) (x := y) (dq := (sDq fl lw)) (k := k) (cl := sClN fl y k) V hV6
    have em' : (sShowK fl (sDq fl lw) k V y).2 = nI m := em
    have hm6 : m < 64 := by have := Nat.pow_le_pow_right (n := 2) (by decide) hV6; omega
    have hm1 : ¬ nI m = -1 := by
      have h : ∀ m, m < 64 → ¬ nI m = -1 := by decide +kernel
      exact h m hm6
    refine x_topi em' ?_
    refine x_iconst (v := -1) C0 rfl dX11_passYear_11 ?_
    refine x_icmp_ne (tgt := 27) C0 (by decide) dX11_passYear_12 (fun _ => ?_) (fun hkk => absurd hkk (hm1))
    exact hB _ _ (sShowK_WFx wl wy hk) (FQ.hall s2) r2 (by unfold yrA; rw [if_neg (fun q => absurd ((nI_eq (by omega) (by omega)).mp (q0.symm.trans q)) (by omega)), q0, nI_clamp (by omega)])
  refine x_aload_n C0 rfl dX11_passYear_0 ?_
  refine x_getR C0 wf_X11_26 (fixd.k0 hS) rfl rfl hf dX11_passYear_1 ?_
  refine x_aload_n C0 rfl dX11_passYear_4 ?_
  refine x_getR C0 wf_X11_50 (fixd.k0 hS) rfl rfl (fixd.trial hS) dX11_passYear_5 ?_
  refine x_callV [_] C0 hN rfl (xRf_of hR (by decide) (Nat.zero_le _) (Nat.zero_le _)) mv_X2_screen wm_X11_179 dX11_passYear_8 (by assumption) rfl rfl (Nat.le_of_ble_eq_true rfl) (c_X2_screen hF hT hf37 wl wy rF rY (fun q => ?_) (fun k I2 hk q0 s2 r2 => ?_))
  · exact hA1 q
  · exact hA2 k I2 hk q0 s2 r2
