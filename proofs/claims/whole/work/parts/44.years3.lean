/-! THE QUESTIONS: years, the reference -/
theorem c_X12_years {S : xTS} {R : xTR} {I : xTI} {J : xTJ} {post : xPost} {T N V : Nat} {fl x : xRow} {lw : Option (List (Nat × Nat))} (hM : isModel S R) (C : MCore I fl lw T N V x) {sd n c : Int32} (hp : ∀ I' J', MQs I I' → JQ J J' → post (some (.int (aYears fl (sDq fl lw) x T N V sd n c))) S R I' J') : xSpec 6 yX12_years cX12_years 6 (some .int) 0 0 [.ref 135, .int sd, .int n, .int c] S R I J post := by
  refine xSpec_of mt_X12_years (Nat.le_of_ble_eq_true rfl) (fun G C0 hN hR E hI hZ => ?_)
  change XX G 0 0 0 [some (.ref 135), some (.int sd), some (.int n), some (.int c), none, none] [] S R I J
  refine x_aload_n C0 rfl dX12_years_0 ?_
  refine x_iconst (v := nI 0) C0 rfl dX12_years_1 ?_
  refine x_putI C0 wf_X12_1 (isModel.k0 hM) rfl dX12_years_2 ?_
  have q1 := MQs.thrown (I := I) (v := nI 0)
  have C := C.mq q1
  generalize u2 I 135 0 (nI 0) = I1 at q1 C ⊢
  obtain ⟨wl, mF, mL, mH, wx⟩ := id C
  have hT6 := wl.2.1
  have hN8 := wl.2.2.2.1
  have hV6 := wl.2.2.2.2.2.1
  have eT : I1 141 0 = nI T := (mF 0 (by decide)).trans wl.1
  have eN : I1 141 1 = nI N := (mF 1 (by decide)).trans wl.2.2.1
  have eV : I1 141 2 = nI V := (mF 2 (by decide)).trans wl.2.2.2.2.1
  have hb0 : 0 ≤ 2192 := by decide
  unfold aYears at hp
  have h56 : ∀ s m, s < 10000 → m < 100 → (0 ≤ c ∧ c ≤ 2) → (∀ I' J', MQs I I' → JQ J J' → post (some (.int (if c = 0 then (yrN fl (sDq fl lw) T N V m (x, s)).1 2 else if c = 1 then sDb (yrN fl (sDq fl lw) T N V m (x, s)).1 V else nI (sYes (yrN fl (sDq fl lw) T N V m (x, s)).1 36)))) S R I' J') → ∀ p i I2 J2 y g, i + p = m → WFx y T N V → MQs I1 I2 → MHall I2 2156 y → J2 135 29 = Int64.ofNat g → g < 2 ^ 31 → JQ J J2 → (yrN fl (sDq fl lw) T N V m (x, s)) = yrN fl (sDq fl lw) T N V p (y, g) → XX G 0 0 56 [some (.ref 135), some (.int (nI s)), some (.int (nI m)), some (.int c), some (.int (nI i)), none] [] S R I2 J2 := by
    intro s m hs hm hc hp p
    induction p with
    | zero =>
      intro i I2 J2 y g hi wy s1 r1 eg hg j1 he
      have hi8 : i = m := by omega
      subst hi8
      rw [he] at hp
      have CC := C.mq s1
      have h145 : ∀ q k, k + q = 36 → XX G 0 0 145 [some (.ref 135), some (.int (nI s)), some (.int (nI i)), some (.int c), some (.int (nI (sYes y k))), some (.int (nI k))] [] S R I2 J2 := by
        intro q
        induction q with
        | zero =>
          intro k hk
          have hk8 : k = 36 := by omega
          subst hk8
          refine x_iload C0 rfl dX12_years_145 ?_
          refine x_bipush (v := nI 36) C0 rfl dX12_years_147 ?_
          refine x_icmp_ge (tgt := 183) C0 (by decide) dX12_years_149 (fun _ => ?_) (fun hkk => absurd ((Int32.le_refl _)) hkk)
          refine x_iload_n C0 rfl dX12_years_183 ?_
          refine x_if_ne (tgt := 198) C0 (by decide) dX12_years_184 (fun g184 => ?_) (fun g184 => ?_)
          · refine x_iload_n C0 rfl dX12_years_198 ?_
            refine x_iconst (v := 1) C0 rfl dX12_years_199 ?_
            refine x_icmp_ne (tgt := 213) C0 (by decide) dX12_years_200 (fun g200 => ?_) (fun g200 => ?_)
            · refine x_iload C0 rfl dX12_years_213 ?_
              refine x_iret C0 E (by decide) (by decide) dX12_years_215 ?_
              rw [if_neg g184, if_neg g200] at hp
              exact hp I2 J2 (q1.trans s1) j1
            · refine x_aload_n C0 rfl dX12_years_203 ?_
              refine x_sipush (v := nI 2156) C0 rfl dX12_years_204 ?_
              refine x_callV [_] C0 hN rfl (xRf_of hR (by decide) (Nat.zero_le _) (Nat.zero_le _)) mv_X12_doubtsOf wm_X12_423 dX12_years_207 (isModel.k0 hM) rfl rfl (Nat.le_of_ble_eq_true rfl) (c_X12_doubtsOf hM CC (by decide) r1 ?_)
              refine x_goto (tgt := 215) C0 (by decide) dX12_years_210 ?_
              refine x_iret C0 E (by decide) (by decide) dX12_years_215 ?_
              rw [if_neg g184, if_pos g200] at hp
              exact hp I2 J2 (q1.trans s1) j1
          · refine x_aload_n C0 rfl dX12_years_187 ?_
            refine x_getR C0 wf_X12_119 (isModel.k0 hM) rfl rfl (isModel.r24 hM) dX12_years_188 ?_
            refine x_sipush (v := nI 2158) C0 rfl dX12_years_191 ?_
            refine x_ialoadN C0 (isModel.s24 hM) (by omega) (by omega) dX12_years_194 ?_
            refine x_goto (tgt := 215) C0 (by decide) dX12_years_195 ?_
            refine x_iret C0 E (by decide) (by decide) dX12_years_215 ?_
            rw [if_pos g184] at hp
            rw [show I2 151 2158 = y 2 from r1 2 (by decide)]
            exact hp I2 J2 (q1.trans s1) j1
        | succ q ihq =>
          intro k hk
          refine x_iload C0 rfl dX12_years_145 ?_
          refine x_bipush (v := nI 36) C0 rfl dX12_years_147 ?_
          refine x_icmp_ge (tgt := 183) C0 (by decide) dX12_years_149 (fun hkk => absurd hkk ((nI_ge (b := 36) (by omega) (by omega)))) (fun _ => ?_)
          refine x_iload C0 rfl dX12_years_152 ?_
          refine x_aload_n C0 rfl dX12_years_154 ?_
          refine x_getR C0 wf_X12_119 (isModel.k0 hM) rfl rfl (isModel.r24 hM) dX12_years_155 ?_
          refine x_sipush (v := nI 2176) C0 rfl dX12_years_158 ?_
          refine x_iload C0 rfl dX12_years_161 ?_
          refine x_iaddN C0 dX12_years_163 ?_
          refine x_ialoadN C0 (isModel.s24 hM) (by omega) (by omega) dX12_years_164 ?_
          refine x_topi (r1.at (i := 20 + k) (by omega) (by omega)) ?_
          refine x_iconst (v := 1) C0 rfl dX12_years_165 ?_
          refine x_icmp_ne (tgt := 173) C0 (by decide) dX12_years_166 (fun g166 => ?_) (fun g166 => ?_)
          · refine x_iconst (v := nI 0) C0 rfl dX12_years_173 ?_
            refine x_iaddN C0 dX12_years_174 ?_
            refine x_istore (L' := [_, _, _, _, _, _]) C0 hN (by decide) rfl dX12_years_175 ?_
            refine x_iinc (v := nI (k + 1)) (L' := [_, _, _, _, _, _]) C0 hN rfl (by decide) (nI_inc k) rfl dX12_years_177 ?_
            refine x_goto (tgt := 145) C0 (by decide) dX12_years_180 ?_
            have := ihq (k + 1) (by omega)
            rw [sYes_no g166] at this
            exact this
          · refine x_iconst (v := nI 1) C0 rfl dX12_years_169 ?_
            refine x_goto (tgt := 174) C0 (by decide) dX12_years_170 ?_
            refine x_iaddN C0 dX12_years_174 ?_
            refine x_istore (L' := [_, _, _, _, _, _]) C0 hN (by decide) rfl dX12_years_175 ?_
            refine x_iinc (v := nI (k + 1)) (L' := [_, _, _, _, _, _]) C0 hN rfl (by decide) (nI_inc k) rfl dX12_years_177 ?_
            refine x_goto (tgt := 145) C0 (by decide) dX12_years_180 ?_
            have := ihq (k + 1) (by omega)
            rw [sYes_yes g166] at this
            exact this
      refine x_iload C0 rfl dX12_years_56 ?_
      refine x_iload_n C0 rfl dX12_years_58 ?_
      refine x_icmp_ge (tgt := 139) C0 (by decide) dX12_years_59 (fun _ => ?_) (fun hkk => absurd ((Int32.le_refl _)) hkk)
      refine x_iconst (v := nI 0) C0 rfl dX12_years_139 ?_
      refine x_istore (L' := [_, _, _, _, _, _]) C0 hN (by decide) rfl dX12_years_140 ?_
      refine x_iconst (v := nI 0) C0 rfl dX12_years_142 ?_
      refine x_istore (L' := [_, _, _, _, _, _]) C0 hN (by decide) rfl dX12_years_143 ?_
      exact h145 36 0 (by omega)
    | succ p ih =>
      intro i I2 J2 y g hi wy s1 r1 eg hg j1 he
      have h133 : ∀ I3 J3 y3 g3, WFx y3 T N V → MQs I1 I3 → MHall I3 2156 y3 → J3 135 29 = Int64.ofNat g3 → g3 < 2 ^ 31 → JQ J J3 → yr fl (sDq fl lw) T N V (y, g) = (y3, g3) → XX G 0 0 133 [some (.ref 135), some (.int (nI s)), some (.int (nI m)), some (.int c), some (.int (nI i)), none] [] S R I3 J3 := by
        intro I3 J3 y3 g3 wy3 s3 r3 eg3 hg3 j3 he3
        refine x_iinc (v := nI (i + 1)) (L' := [_, _, _, _, _, _]) C0 hN rfl (by decide) (nI_inc i) rfl dX12_years_133 ?_
        refine x_goto (tgt := 56) C0 (by decide) dX12_years_136 ?_
        refine ih (i + 1) I3 J3 y3 g3 (by omega) wy3 s3 r3 eg3 hg3 j3 ?_
        rw [← he3]
        exact he
      have h106 : ∀ I3 J3 y3 g3, WFx y3 T N V → MQs I1 I3 → MHall I3 2156 y3 → J3 135 29 = Int64.ofNat g3 → g3 < 2 ^ 31 → JQ J J3 → yr fl (sDq fl lw) T N V (y, g) = yrC T N (y3, g3) → XX G 0 0 106 [some (.ref 135), some (.int (nI s)), some (.int (nI m)), some (.int c), some (.int (nI i)), none] [] S R I3 J3 := by
        intro I3 J3 y3 g3 wy3 s3 r3 eg3 hg3 j3 he3
        have CC := C.mq s3
        have eT3 : I3 141 0 = nI T := by rw [CC.2.1 0 (by decide), wl.1]
        have eN3 : I3 141 1 = nI N := by rw [CC.2.1 1 (by decide), wl.2.2.1]
        have wC := yrC_WFx (T := T) (V := V) (s := (y3, g3)) hN8 wy3
        unfold yrC at he3 wC
        dsimp only at he3 wC
        refine x_aload_n C0 rfl dX12_years_106 ?_
        refine x_callV [] C0 hN rfl (xRf_of hR (by decide) (Nat.zero_le _) (Nat.zero_le _)) mv_X12_scenes wm_X12_285 dX12_years_107 (isModel.k0 hM) rfl rfl (Nat.le_of_ble_eq_true rfl) (c_X12_scenes hM ?_)
        refine x_topi eN3 ?_
        refine x_if_le (tgt := 133) C0 (by decide) dX12_years_110 (fun g110 => ?_) (fun g110 => ?_)
        · rw [if_neg (fun q => absurd q.1 (by have := (nI_le0 (by omega)).mp g110; omega))] at he3
          exact h133 I3 J3 y3 g3 wy3 s3 r3 eg3 hg3 j3 he3
        · have hN0 : 0 < N := Nat.pos_of_ne_zero (fun q => g110 (by rw [q]; decide))
          refine x_aload_n C0 rfl dX12_years_113 ?_
          refine x_callV [] C0 hN rfl (xRf_of hR (by decide) (Nat.zero_le _) (Nat.zero_le _)) mv_X12_things wm_X12_297 dX12_years_114 (isModel.k0 hM) rfl rfl (Nat.le_of_ble_eq_true rfl) (c_X12_things hM ?_)
          refine x_topi eT3 ?_
          refine x_if_le (tgt := 133) C0 (by decide) dX12_years_117 (fun g117 => ?_) (fun g117 => ?_)
          · rw [if_neg (fun q => absurd q.2 (by have := (nI_le0 (by omega)).mp g117; omega))] at he3
            exact h133 I3 J3 y3 g3 wy3 s3 r3 eg3 hg3 j3 he3
          · have hT0 : 0 < T := Nat.pos_of_ne_zero (fun q => g117 (by rw [q]; decide))
            rw [if_pos ⟨hN0, hT0⟩] at he3 wC
            refine x_aload_n C0 rfl dX12_years_120 ?_
            refine x_bipush (v := nI 9) C0 rfl dX12_years_121 ?_
            refine x_callV [_] C0 hN rfl (xRf_of hR (by decide) (Nat.zero_le _) (Nat.zero_le _)) mv_X12_draw wm_X12_414 dX12_years_123 (isModel.k0 hM) rfl rfl (Nat.le_of_ble_eq_true rfl) (c_X12_draw hM hg3 (by decide) (by decide) eg3 ?_)
            refine x_if_ne (tgt := 133) C0 (by decide) dX12_years_126 (fun g126 => ?_) (fun g126 => ?_)
            · rw [if_neg (fun q => g126 (by rw [q]; decide))] at he3
              exact h133 I3 _ y3 _ wy3 s3 r3 (u2_same _ _ _ _) (drG_lt _) (j3.trans JQ.u) he3
            · have h9 : drD g3 9 = 0 := (nI_eq (b := 0) (by have := drD_lt (g := g3) (n := 9) (by decide); omega) (by omega)).mp g126
              rw [if_pos h9] at he3 wC
              refine x_aload_n C0 rfl dX12_years_129 ?_
              refine x_callV [] C0 hN rfl (xRf_of hR (by decide) (Nat.zero_le _) (Nat.zero_le _)) mv_X12_drawsWriting wm_X12_420 dX12_years_130 (isModel.k0 hM) rfl rfl (Nat.le_of_ble_eq_true rfl) (c_X12_drawsWriting hM CC wy3 r3 (drG_lt _) (u2_same _ _ _ _) hN0 hT0 (fun I4 J4 s4 j4 r4 eg4 => ?_))
              exact h133 I4 J4 _ _ wC (s3.trans s4) r4 eg4 (drG_lt _) ((j3.trans JQ.u).trans j4) he3
      have h95 : ∀ I3 y3, WFx y3 T N V → MQs I1 I3 → MHall I3 2156 y3 → yrA fl (sDq fl lw) N V y = y3 → XX G 0 0 95 [some (.ref 135), some (.int (nI s)), some (.int (nI m)), some (.int c), some (.int (nI i)), none] [] S R I3 J2 := by
        intro I3 y3 wy3 s3 r3 he3
        have CC := C.mq s3
        have eV3 : I3 141 2 = nI V := by rw [CC.2.1 2 (by decide), wl.2.2.2.2.1]
        have e9 : yr fl (sDq fl lw) T N V (y, g) = yrC T N (yrB fl T V (y3, g)) := by unfold yr; rw [he3]
        refine x_aload_n C0 rfl dX12_years_95 ?_
        refine x_callV [] C0 hN rfl (xRf_of hR (by decide) (Nat.zero_le _) (Nat.zero_le _)) mv_X12_watchers wm_X12_282 dX12_years_96 (isModel.k0 hM) rfl rfl (Nat.le_of_ble_eq_true rfl) (c_X12_watchers hM ?_)
        refine x_topi eV3 ?_
        refine x_if_le (tgt := 106) C0 (by decide) dX12_years_99 (fun g99 => ?_) (fun g99 => ?_)
        · have e8 : yrB fl T V (y3, g) = (y3, g) := by
            unfold yrB
            rw [if_neg (fun q => absurd q (by have := (nI_le0 (by omega)).mp g99; omega))]
          rw [e8] at e9
          exact h106 I3 J2 y3 g wy3 s3 r3 eg hg j1 e9
        · have hV0 : 0 < V := Nat.pos_of_ne_zero (fun q => g99 (by rw [q]; decide))
          refine x_aload_n C0 rfl dX12_years_102 ?_
          refine x_callV [] C0 hN rfl (xRf_of hR (by decide) (Nat.zero_le _) (Nat.zero_le _)) mv_X12_drawsTalk wm_X12_417 dX12_years_103 (isModel.k0 hM) rfl rfl (Nat.le_of_ble_eq_true rfl) (c_X12_drawsTalk hM CC wy3 r3 hg eg hV0 (fun I4 J4 s4 j4 r4 eg4 => ?_))
          refine h106 I4 J4 _ _ (yrB_WFx (s := (y3, g)) wl wy3) (s3.trans s4) r4 eg4 ?_ (j1.trans j4) e9
          unfold yrB
          rw [if_pos hV0]
          exact drG_lt _
      have CC := C.mq s1
      obtain ⟨-, mF2, mL2, -, -⟩ := id CC
      have eN2 : I2 141 1 = nI N := by rw [mF2 1 (by decide), wl.2.2.1]
      obtain ⟨k, hk, hy0⟩ := wy.1
      have y0 : I2 151 2156 = nI k := (r1 0 (by decide)).trans hy0
      have y1 : I2 151 2157 = y 1 := r1 1 (by decide)
      refine x_iload C0 rfl dX12_years_56 ?_
      refine x_iload_n C0 rfl dX12_years_58 ?_
      refine x_icmp_ge (tgt := 139) C0 (by decide) dX12_years_59 (fun hkk => absurd hkk (nI_ge (by omega) (by omega))) (fun _ => ?_)
      refine x_aload_n C0 rfl dX12_years_62 ?_
      refine x_getR C0 wf_X12_119 (isModel.k0 hM) rfl rfl (isModel.r24 hM) dX12_years_63 ?_
      refine x_sipush (v := nI 2156) C0 rfl dX12_years_66 ?_
      refine x_ialoadN C0 (isModel.s24 hM) (by omega) (by omega) dX12_years_69 ?_
      refine x_topi y0 ?_
      refine x_aload_n C0 rfl dX12_years_70 ?_
      refine x_callV [] C0 hN rfl (xRf_of hR (by decide) (Nat.zero_le _) (Nat.zero_le _)) mv_X12_scenes wm_X12_285 dX12_years_71 (isModel.k0 hM) rfl rfl (Nat.le_of_ble_eq_true rfl) (c_X12_scenes hM ?_)
      refine x_topi eN2 ?_
      refine x_icmp_ge (tgt := 88) C0 (by decide) dX12_years_74 (fun g74 => ?_) (fun g74 => ?_)
      · have hkN : k = N := by
          have := (nI_le_iff (by omega) (by omega)).mp g74
          omega
        refine x_aload_n C0 rfl dX12_years_88 ?_
        refine x_sipush (v := nI 2156) C0 rfl dX12_years_89 ?_
        refine x_callV [_] C0 hN rfl (xRf_of hR (by decide) (Nat.zero_le _) (Nat.zero_le _)) mv_X12_begunAgain wm_X12_363 dX12_years_92 (isModel.k0 hM) rfl rfl (Nat.le_of_ble_eq_true rfl) (c_X12_begunAgain hM (by decide) ?_)
        refine h95 _ (sAgain y) (WFx_again wy) (s1.trans ((MQs.st (by omega)).trans (MQs.st (by omega)))) ?_ (by unfold yrA; rw [if_pos (by rw [hy0, hkN])])
        rw [show I2 151 (2156 + 1) = y 1 from y1]
        exact (r1.upd (by omega) (by omega)).upd (by omega) (by omega)
      · have hkN : k < N := (nI_lt_iff (by omega) (by omega)).mp (by first | exact i_nle.mp g74 | exact g74)
        refine x_aload_n C0 rfl dX12_years_77 ?_
        refine x_sipush (v := nI 2156) C0 rfl dX12_years_78 ?_
        refine x_callV [_] C0 hN rfl (xRf_of hR (by decide) (Nat.zero_le _) (Nat.zero_le _)) mv_X12_shows wm_X12_338 dX12_years_81 (isModel.k0 hM) rfl rfl (Nat.le_of_ble_eq_true rfl) (c_X12_shows hM (by decide) wl wy mF2 mL2 r1 hkN hy0 (fun I3 s3 r3 v3 => ?_))
        refine x_pop C0 rfl dX12_years_84 ?_
        refine x_goto (tgt := 95) C0 (by decide) dX12_years_85 ?_
        exact h95 I3 _ (sShowK_WFx wl wy hkN) (s1.trans (MQs.same s3 (by decide))) r3 (by unfold yrA; rw [if_neg (fun q => absurd ((nI_eq (by omega) (by omega)).mp (hy0.symm.trans q)) (by omega)), hy0, nI_clamp (by omega)])
  refine x_iload_n C0 rfl dX12_years_5 ?_
  refine x_iconst (v := 0) C0 rfl dX12_years_6 ?_
  refine x_sipush (v := 9999) C0 rfl dX12_years_7 ?_
  refine x_callS [_, _, _] C0 (xRf_of hR (by decide) (Nat.zero_le _) (Nat.zero_le _)) ms_X12_within wm_X12_207 dX12_years_10 rfl rfl (Nat.le_of_ble_eq_true rfl) (c_X12_within  (fun g10 => ?_) (fun g10 => ?_))
  · refine x_if_eq (tgt := 35) C0 (by decide) dX12_years_13 (fun hkk => absurd hkk (by decide)) (fun _ => ?_)
    refine x_iload_n C0 rfl dX12_years_16 ?_
    refine x_iconst (v := 1) C0 rfl dX12_years_17 ?_
    refine x_bipush (v := 99) C0 rfl dX12_years_18 ?_
    refine x_callS [_, _, _] C0 (xRf_of hR (by decide) (Nat.zero_le _) (Nat.zero_le _)) ms_X12_within wm_X12_207 dX12_years_20 rfl rfl (Nat.le_of_ble_eq_true rfl) (c_X12_within  (fun g20 => ?_) (fun g20 => ?_))
    · refine x_if_eq (tgt := 35) C0 (by decide) dX12_years_23 (fun hkk => absurd hkk (by decide)) (fun _ => ?_)
      refine x_iload_n C0 rfl dX12_years_26 ?_
      refine x_iconst (v := 0) C0 rfl dX12_years_27 ?_
      refine x_iconst (v := 2) C0 rfl dX12_years_28 ?_
      refine x_callS [_, _, _] C0 (xRf_of hR (by decide) (Nat.zero_le _) (Nat.zero_le _)) ms_X12_within wm_X12_207 dX12_years_29 rfl rfl (Nat.le_of_ble_eq_true rfl) (c_X12_within  (fun g29 => ?_) (fun g29 => ?_))
      · refine x_if_ne (tgt := 37) C0 (by decide) dX12_years_32 (fun _ => ?_) (fun hkk => absurd hkk (by decide))
        obtain ⟨s, hs, es⟩ := nI_ofi (n := 10000) (by decide) g10.1 (i_le_lt (n := 9999) (by decide) g10.2)
        obtain ⟨m, hm, em⟩ := nI_ofi (n := 100) (by decide) (Int32.le_trans (by decide) g20.1) (i_le_lt (n := 99) (by decide) g20.2)
        rw [if_pos ⟨g10, g20, g29⟩] at hp
        subst es
        subst em
        rw [nI_clamp (by omega), nI_clamp (by omega)] at hp
        refine x_aload_n C0 rfl dX12_years_37 ?_
        refine x_iconst (v := nI 0) C0 rfl dX12_years_38 ?_
        refine x_sipush (v := nI 2156) C0 rfl dX12_years_39 ?_
        refine x_bipush (v := nI 62) C0 rfl dX12_years_42 ?_
        refine x_callV [_, _, _] C0 hN rfl (xRf_of hR (by decide) (Nat.zero_le _) (Nat.zero_le _)) mv_X12_copies wm_X12_294 dX12_years_44 (isModel.k0 hM) rfl rfl (Nat.le_of_ble_eq_true rfl) (c_X12_copies hM (Or.inl (by omega)) (by omega) (by omega) ?_)
        refine x_aload_n C0 rfl dX12_years_47 ?_
        refine x_iload_n C0 rfl dX12_years_48 ?_
        refine x_i2l C0 dX12_years_49 ?_
        refine x_topl (i_long (by omega)) ?_
        refine x_putJ C0 wf_X12_402 (isModel.k0 hM) rfl dX12_years_50 ?_
        refine x_iconst (v := nI 0) C0 rfl dX12_years_53 ?_
        refine x_istore (L' := [_, _, _, _, _, _]) C0 hN (by decide) rfl dX12_years_54 ?_
        exact h56 s m hs hm g29 hp m 0 _ _ x s (by omega) wx (MQs.copy (by decide)) (ucp_hall mH 62 (by decide)) (u2_same _ _ _ _) (by omega) JQ.u rfl
      · refine x_if_ne (tgt := 37) C0 (by decide) dX12_years_32 (fun hkk => absurd (by decide) hkk) (fun _ => ?_)
        refine x_iconst (v := -1) C0 rfl dX12_years_35 ?_
        refine x_iret C0 E (by decide) (by decide) dX12_years_36 ?_
        rw [if_neg (fun q => g29 q.2.2)] at hp
        exact hp I1 J q1 JQ.rf
    · refine x_if_eq (tgt := 35) C0 (by decide) dX12_years_23 (fun _ => ?_) (fun hkk => absurd (by decide) hkk)
      refine x_iconst (v := -1) C0 rfl dX12_years_35 ?_
      refine x_iret C0 E (by decide) (by decide) dX12_years_36 ?_
      rw [if_neg (fun q => g20 q.2.1)] at hp
      exact hp I1 J q1 JQ.rf
  · refine x_if_eq (tgt := 35) C0 (by decide) dX12_years_13 (fun _ => ?_) (fun hkk => absurd (by decide) hkk)
    refine x_iconst (v := -1) C0 rfl dX12_years_35 ?_
    refine x_iret C0 E (by decide) (by decide) dX12_years_36 ?_
    rw [if_neg (fun q => g10 q.1)] at hp
    exact hp I1 J q1 JQ.rf
