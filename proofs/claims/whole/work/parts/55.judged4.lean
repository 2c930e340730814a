/-! THE QUESTION judged: walked, the reference, to its end -/
theorem MQs.inAt {I I' : xTI} (h : inAt I I' 2058) : MQs I I' := ⟨fun a _ _ _ h4 _ _ => h.1 a h4, fun k _ => by rw [h.1 135 (by decide)], fun j hj => h.2 j (Or.inl (by omega))⟩
theorem i2_of {c : Int32} (h : 0 ≤ c ∧ c ≤ 2) (h0 : ¬ c = 0) (h1 : ¬ c = nI 1) : c = 2 := by
  obtain ⟨k, hk, rfl⟩ := nI_ofi (n := 3) (by decide) h.1 (by have := h.2; rw [Int32.le_iff_toInt_le, show (2 : Int32).toInt = 2 from rfl] at this; rw [Int32.lt_iff_toInt_lt, show (nI 3).toInt = 3 from rfl]; omega)
  rcases (show k = 0 ∨ k = 1 ∨ k = 2 by omega) with rfl | rfl | rfl
  · exact absurd rfl h0
  · exact absurd rfl h1
  · rfl
theorem c_X12_judged {S : xTS} {R : xTR} {I : xTI} {J : xTJ} {post : xPost} {T N V : Nat} {fl x : xRow} {lw : Option (List (Nat × Nat))} (hM : isModel S R) (C : MCore I fl lw T N V x) {ev : Nat} {ln : Nat → Nat × Nat × Nat × Nat} (hE9 : eMd I T N V ev ln) {c : Int32} (hp : ∀ I', MQs I I' → post (some (.int (aJudged fl (sDq fl lw) T N V ln ev c))) S R I' J) : xSpec 6 yX12_judged cX12_judged 9 (some .int) 0 0 [.ref 135, .int c] S R I J post := by
  refine xSpec_of mt_X12_judged (Nat.le_of_ble_eq_true rfl) (fun G C0 hN hR E hI hZ => ?_)
  change XX G 0 0 0 [some (.ref 135), some (.int c), none, none, none, none, none, none, none] [] S R I J
  refine x_aload_n C0 rfl dX12_judged_0 ?_
  refine x_iconst (v := nI 0) C0 rfl dX12_judged_1 ?_
  refine x_putI C0 wf_X12_1 (isModel.k0 hM) rfl dX12_judged_2 ?_
  have q1 := MQs.thrown (I := I) (v := nI 0)
  have C := C.mq q1
  generalize u2 I 135 0 (nI 0) = I1 at q1 C ⊢
  obtain ⟨wl, mF, mL, mH, wx⟩ := id C
  have hT6 := wl.2.1
  have hN8 := wl.2.2.2.1
  have hV6 := wl.2.2.2.2.2.1
  have eT : I1 141 0 = nI T := (mF 0 (by decide)).trans wl.1
  have eN : I1 141 1 = nI N := (mF 1 (by decide)).trans wl.2.2.1
  have eV : I1 141 2 = nI V := (mF 2 (by decide)).trans wl.2.2.2.2.1
  have hb0 : 0 ≤ 2192 := by decide
  unfold aJudged at hp
  have h40 := hE9.1
  have hE1 := hE9.mq q1
  have jok := jS_ok (dq := sDq fl lw) wl (fun i hi => (hE9.2.2 i hi).1)
  have h31 : (0 ≤ c ∧ c ≤ 2) → ∀ n i I2 v5 v6 v7 v8, i + n = ev → MQs I1 I2 → MHall I2 2058 (jS fl (sDq fl lw) T N V ln i) → XX G 0 0 31 [some (.ref 135), some (.int c), some (.int (jR fl (sDq fl lw) T N V ln i)), some (.int (jL fl (sDq fl lw) T N V ln i)), some (.int (nI i)), v5, v6, v7, v8] [] S R I2 J := by
    intro hc n
    rw [if_pos hc] at hp
    induction n with
    | zero =>
      intro i I2 v5 v6 v7 v8 hi s1 r1
      have hi8 : i = ev := by omega
      subst hi8
      have e0 := (hE1.mq s1).2.1
      have e2 : I2 151 2060 = (jS fl (sDq fl lw) T N V ln i) 2 := r1 2 (by decide)
      refine x_iload C0 rfl dX12_judged_31 ?_
      refine x_aload_n C0 rfl dX12_judged_33 ?_
      refine x_getR C0 wf_X12_110 (isModel.k0 hM) rfl rfl (isModel.r21 hM) dX12_judged_34 ?_
      refine x_iconst (v := nI 0) C0 rfl dX12_judged_37 ?_
      refine x_ialoadN C0 (isModel.s21 hM) (by omega) (by omega) dX12_judged_38 ?_
      refine x_topi e0 ?_
      refine x_icmp_ge (tgt := 252) C0 (by decide) dX12_judged_39 (fun _ => ?_) (fun hkk => absurd ((Int32.le_refl _)) hkk)
      refine x_iload_n C0 rfl dX12_judged_252 ?_
      refine x_if_ne (tgt := 260) C0 (by decide) dX12_judged_253 (fun g253 => ?_) (fun g253 => ?_)
      · refine x_iload_n C0 rfl dX12_judged_260 ?_
        refine x_iconst (v := nI 1) C0 rfl dX12_judged_261 ?_
        refine x_icmp_ne (tgt := 269) C0 (by decide) dX12_judged_262 (fun g262 => ?_) (fun g262 => ?_)
        · refine x_aload_n C0 rfl dX12_judged_269 ?_
          refine x_getR C0 wf_X12_119 (isModel.k0 hM) rfl rfl (isModel.r24 hM) dX12_judged_270 ?_
          refine x_sipush (v := nI 2060) C0 rfl dX12_judged_273 ?_
          refine x_ialoadN C0 (isModel.s24 hM) (by omega) (by omega) dX12_judged_276 ?_
          refine x_topi e2 ?_
          refine x_callS [_] C0 (xRf_of hR (by decide) (Nat.zero_le _) (Nat.zero_le _)) ms_X12_bits wm_X12_369 dX12_judged_277 rfl rfl (Nat.le_of_ble_eq_true rfl) (c_X12_bits  ?_)
          refine x_iret C0 E (by decide) (by decide) dX12_judged_280 ?_
          have e : c = 2 := i2_of hc g253 g262
          rw [if_pos e] at hp
          exact hp I2 (q1.trans s1)
        · refine x_iload_n C0 rfl dX12_judged_265 ?_
          refine x_goto (tgt := 280) C0 (by decide) dX12_judged_266 ?_
          refine x_iret C0 E (by decide) (by decide) dX12_judged_280 ?_
          rw [if_neg (fun z => by rw [g262] at z; exact absurd z (by decide)), if_neg g253] at hp
          exact hp I2 (q1.trans s1)
      · refine x_iload_n C0 rfl dX12_judged_256 ?_
        refine x_goto (tgt := 280) C0 (by decide) dX12_judged_257 ?_
        refine x_iret C0 E (by decide) (by decide) dX12_judged_280 ?_
        rw [if_neg (fun z => by rw [g253] at z; exact absurd z (by decide)), if_pos g253] at hp
        exact hp I2 (q1.trans s1)
    | succ n ih =>
      intro i I2 v5 v6 v7 v8 hi s1 r1
      have CC := C.mq s1
      obtain ⟨-, mF2, mL2, -, -⟩ := id CC
      have E1 := hE1.mq s1
      obtain ⟨k0, l1, m2, m3, m4⟩ := E1.2.2 i (by omega)
      obtain ⟨wi, r, hr, er⟩ := jok i (by omega)
      obtain ⟨k, hk, ek⟩ := wi.1
      obtain ⟨o5, o1, o2, o3⟩ := id k0
      have hR := hR
      have orR := m1_ge (i := i) (by omega) (jR_or (fl := fl) (dq := (sDq fl lw)) (T := T) (N := N) (V := V) (ln := ln) i)
      have orL := m1_ge (i := i) (by omega) (jL_or (fl := fl) (dq := (sDq fl lw)) (T := T) (N := N) (V := V) (ln := ln) i)
      have h109 : ∀ w1 w2, dMay N (jS fl (sDq fl lw) T N V ln i) (ln i).1 (ln i).2.1 (ln i).2.2.1 → ((ln i).1 = 1 ∨ (ln i).1 = 2 ∨ (ln i).1 = 3 → w1 = nI (ln i).2.1) → ((ln i).1 = 1 ∨ (ln i).1 = 3 → w2 = nI (ln i).2.2.1) → XX G 0 0 109 [some (.ref 135), some (.int c), some (.int (jR fl (sDq fl lw) T N V ln i)), some (.int (jL fl (sDq fl lw) T N V ln i)), some (.int (nI i)), some (.int (nI (ln i).1)), some (.int w1), some (.int w2), some (.int 1)] [] S R I2 J := by
        intro w1 w2 may n2 n3
        have eR : (jR fl (sDq fl lw) T N V ln (i + 1)) = (jR fl (sDq fl lw) T N V ln i) := by conv => lhs; unfold jR; rw [if_pos may]
        have eS : (jS fl (sDq fl lw) T N V ln (i + 1)) = dDo fl (sDq fl lw) T V (jS fl (sDq fl lw) T N V ln i) (ln i).1 (ln i).2.1 (ln i).2.2.1 (ln i).2.2.2 := by conv => lhs; unfold jS; rw [if_pos may]
        have eL : (jL fl (sDq fl lw) T N V ln (i + 1)) = if dMay N (jS fl (sDq fl lw) T N V ln i) (ln i).1 (ln i).2.1 (ln i).2.2.1 ∧ ¬ dMask fl (sDq fl lw) V (jS fl (sDq fl lw) T N V ln i) (ln i).1 = 0 then (if (jL fl (sDq fl lw) T N V ln i) = -1 then nI i else (jL fl (sDq fl lw) T N V ln i)) else (jL fl (sDq fl lw) T N V ln i) := by conv => lhs; unfold jL
        rcases (show (ln i).1 = 0 ∨ (ln i).1 = 1 ∨ (ln i).1 = 2 ∨ (ln i).1 = 3 ∨ (ln i).1 = 4 by omega) with e | e | e | e | e
        · have hkN : k < N := by
            rcases may with z | z | z | z | z
            · have : k ≠ N := fun q => z.2 (by rw [ek, q])
              omega
            all_goals exact absurd z.1 (by rw [e]; decide)
          unfold dDo at eS
          rw [if_pos e, ek, nI_clamp (by omega)] at eS
          have emask : dMask fl (sDq fl lw) V (jS fl (sDq fl lw) T N V ln i) (ln i).1 = (sShowK fl (sDq fl lw) k V (jS fl (sDq fl lw) T N V ln i)).2 := by
            unfold dMask
            rw [if_pos e, ek, nI_clamp (by omega)]
          rw [e]
          refine x_iload C0 rfl dX12_judged_109 ?_
          refine x_if_eq (tgt := 143) C0 (by decide) dX12_judged_111 (fun hkk => absurd hkk (by decide)) (fun _ => ?_)
          refine x_iload C0 rfl dX12_judged_114 ?_
          refine x_if_ne (tgt := 143) C0 (by decide) dX12_judged_116 (fun hkk => absurd (by decide) hkk) (fun _ => ?_)
          refine x_aload_n C0 rfl dX12_judged_119 ?_
          refine x_sipush (v := nI 2058) C0 rfl dX12_judged_120 ?_
          refine x_callV [_] C0 hN rfl (xRf_of hR (by decide) (Nat.zero_le _) (Nat.zero_le _)) mv_X12_shows wm_X12_338 dX12_judged_123 (isModel.k0 hM) rfl rfl (Nat.le_of_ble_eq_true rfl) (c_X12_shows hM (by decide) wl wi mF2 mL2 r1 hkN ek (fun I3 s3 r3 _ => ?_))
          refine x_if_eq (tgt := 138) C0 (by decide) dX12_judged_126 (fun g126 => ?_) (fun g126 => ?_)
          · refine x_iload_n C0 rfl dX12_judged_138 ?_
            refine x_istore_n (L' := [_, _, _, _, _, _, _, _, _]) C0 hN (by decide) rfl dX12_judged_139 ?_
            refine x_goto (tgt := 246) C0 (by decide) dX12_judged_140 ?_
            refine x_iinc (v := nI (i + 1)) (L' := [_, _, _, _, _, _, _, _, _]) C0 hN rfl (by decide) (nI_inc i) rfl dX12_judged_246 ?_
            refine x_goto (tgt := 31) C0 (by decide) dX12_judged_249 ?_
            rw [if_neg (fun z => z.2 (emask.trans g126))] at eL
            have := fun I9 a b c d => ih (i + 1) I9 a b c d (by omega)
            rw [eR, eL] at this
            exact this _ _ _ _ _ (s1.trans (MQs.same s3 (by decide))) (by rw [eS]; exact r3)
          · refine x_iload_n C0 rfl dX12_judged_129 ?_
            refine x_if_ge (tgt := 138) C0 (by decide) dX12_judged_130 (fun g130 => ?_) (fun g130 => ?_)
            · refine x_iload_n C0 rfl dX12_judged_138 ?_
              refine x_istore_n (L' := [_, _, _, _, _, _, _, _, _]) C0 hN (by decide) rfl dX12_judged_139 ?_
              refine x_goto (tgt := 246) C0 (by decide) dX12_judged_140 ?_
              refine x_iinc (v := nI (i + 1)) (L' := [_, _, _, _, _, _, _, _, _]) C0 hN rfl (by decide) (nI_inc i) rfl dX12_judged_246 ?_
              refine x_goto (tgt := 31) C0 (by decide) dX12_judged_249 ?_
              rw [if_pos ⟨may, fun z => g126 (emask.symm.trans z)⟩, if_neg (orL.mp g130)] at eL
              have := fun I9 a b c d => ih (i + 1) I9 a b c d (by omega)
              rw [eR, eL] at this
              exact this _ _ _ _ _ (s1.trans (MQs.same s3 (by decide))) (by rw [eS]; exact r3)
            · refine x_iload C0 rfl dX12_judged_133 ?_
              refine x_goto (tgt := 139) C0 (by decide) dX12_judged_135 ?_
              refine x_istore_n (L' := [_, _, _, _, _, _, _, _, _]) C0 hN (by decide) rfl dX12_judged_139 ?_
              refine x_goto (tgt := 246) C0 (by decide) dX12_judged_140 ?_
              refine x_iinc (v := nI (i + 1)) (L' := [_, _, _, _, _, _, _, _, _]) C0 hN rfl (by decide) (nI_inc i) rfl dX12_judged_246 ?_
              refine x_goto (tgt := 31) C0 (by decide) dX12_judged_249 ?_
              rw [if_pos ⟨may, fun z => g126 (emask.symm.trans z)⟩, if_pos (Decidable.of_not_not (fun z => g130 (orL.mpr z)))] at eL
              have := fun I9 a b c d => ih (i + 1) I9 a b c d (by omega)
              rw [eR, eL] at this
              exact this _ _ _ _ _ (s1.trans (MQs.same s3 (by decide))) (by rw [eS]; exact r3)
        · unfold dDo at eS
          rw [if_neg (by rw [e]; decide), if_pos e] at eS
          have emask : dMask fl (sDq fl lw) V (jS fl (sDq fl lw) T N V ln i) (ln i).1 = 0 := by
            unfold dMask
            rw [if_neg (show ¬ (ln i).1 = 0 by rw [e]; decide)]
          rw [if_neg (fun z => z.2 emask)] at eL
          have w1e := n2 (Or.inl e)
          have w2e := n3 (Or.inl e)
          have o9 := o1 e
          subst w1e
          subst w2e
          rw [e]
          refine x_iload C0 rfl dX12_judged_109 ?_
          refine x_if_eq (tgt := 143) C0 (by decide) dX12_judged_111 (fun hkk => absurd hkk (by decide)) (fun _ => ?_)
          refine x_iload C0 rfl dX12_judged_114 ?_
          refine x_if_ne (tgt := 143) C0 (by decide) dX12_judged_116 (fun _ => ?_) (fun hkk => absurd hkk (by decide))
          refine x_iload C0 rfl dX12_judged_143 ?_
          refine x_if_eq (tgt := 179) C0 (by decide) dX12_judged_145 (fun hkk => absurd hkk (by decide)) (fun _ => ?_)
          refine x_iload C0 rfl dX12_judged_148 ?_
          refine x_iconst (v := nI 1) C0 rfl dX12_judged_150 ?_
          refine x_icmp_ne (tgt := 179) C0 (by decide) dX12_judged_151 (fun hkk => absurd (by decide) hkk) (fun _ => ?_)
          refine x_aload_n C0 rfl dX12_judged_154 ?_
          refine x_sipush (v := nI 2058) C0 rfl dX12_judged_155 ?_
          refine x_iload C0 rfl dX12_judged_158 ?_
          refine x_iload C0 rfl dX12_judged_160 ?_
          refine x_aload_n C0 rfl dX12_judged_162 ?_
          refine x_getR C0 wf_X12_110 (isModel.k0 hM) rfl rfl (isModel.r21 hM) dX12_judged_163 ?_
          refine x_iconst (v := nI 4) C0 rfl dX12_judged_166 ?_
          refine x_iconst (v := nI 4) C0 rfl dX12_judged_167 ?_
          refine x_iload C0 rfl dX12_judged_168 ?_
          refine x_imulN C0 dX12_judged_170 ?_
          refine x_iaddN C0 dX12_judged_171 ?_
          refine x_ialoadN C0 (isModel.s21 hM) (by omega) (by omega) dX12_judged_172 ?_
          refine x_topi (m4 e) ?_
          refine x_callV [_, _, _, _] C0 hN rfl (xRf_of hR (by decide) (Nat.zero_le _) (Nat.zero_le _)) mv_X12_writes wm_X12_356 dX12_judged_173 (isModel.k0 hM) rfl rfl (Nat.le_of_ble_eq_true rfl) (c_X12_writes hM (by decide) (by omega) ?_)
          refine x_goto (tgt := 246) C0 (by decide) dX12_judged_176 ?_
          refine x_iinc (v := nI (i + 1)) (L' := [_, _, _, _, _, _, _, _, _]) C0 hN rfl (by decide) (nI_inc i) rfl dX12_judged_246 ?_
          refine x_goto (tgt := 31) C0 (by decide) dX12_judged_249 ?_
          have := fun I9 a b c d => ih (i + 1) I9 a b c d (by omega)
          rw [eR, eL] at this
          exact this _ _ _ _ _ (s1.trans ((MQs.st (by omega)).trans (MQs.st (by omega)))) (by rw [eS]; exact (r1.upd (by omega) (by omega)).upd (by omega) (by omega))
        · unfold dDo at eS
          rw [if_neg (by rw [e]; decide), if_neg (by rw [e]; decide), if_pos e] at eS
          have emask : dMask fl (sDq fl lw) V (jS fl (sDq fl lw) T N V ln i) (ln i).1 = 0 := by
            unfold dMask
            rw [if_neg (show ¬ (ln i).1 = 0 by rw [e]; decide)]
          rw [if_neg (fun z => z.2 emask)] at eL
          have w1e := n2 (Or.inr (Or.inl e))
          have o9 := o2 e
          have y3 : I2 151 2061 = (jS fl (sDq fl lw) T N V ln i) 3 := r1 3 (by decide)
          subst w1e
          rw [e]
          refine x_iload C0 rfl dX12_judged_109 ?_
          refine x_if_eq (tgt := 143) C0 (by decide) dX12_judged_111 (fun hkk => absurd hkk (by decide)) (fun _ => ?_)
          refine x_iload C0 rfl dX12_judged_114 ?_
          refine x_if_ne (tgt := 143) C0 (by decide) dX12_judged_116 (fun _ => ?_) (fun hkk => absurd hkk (by decide))
          refine x_iload C0 rfl dX12_judged_143 ?_
          refine x_if_eq (tgt := 179) C0 (by decide) dX12_judged_145 (fun hkk => absurd hkk (by decide)) (fun _ => ?_)
          refine x_iload C0 rfl dX12_judged_148 ?_
          refine x_iconst (v := nI 1) C0 rfl dX12_judged_150 ?_
          refine x_icmp_ne (tgt := 179) C0 (by decide) dX12_judged_151 (fun _ => ?_) (fun hkk => absurd hkk (by decide))
          refine x_iload C0 rfl dX12_judged_179 ?_
          refine x_if_eq (tgt := 208) C0 (by decide) dX12_judged_181 (fun hkk => absurd hkk (by decide)) (fun _ => ?_)
          refine x_iload C0 rfl dX12_judged_184 ?_
          refine x_iconst (v := nI 2) C0 rfl dX12_judged_186 ?_
          refine x_icmp_ne (tgt := 208) C0 (by decide) dX12_judged_187 (fun hkk => absurd (by decide) hkk) (fun _ => ?_)
          refine x_aload_n C0 rfl dX12_judged_190 ?_
          refine x_getR C0 wf_X12_119 (isModel.k0 hM) rfl rfl (isModel.r24 hM) dX12_judged_191 ?_
          refine x_sipush (v := nI 2061) C0 rfl dX12_judged_194 ?_
          refine x_dup2 C0 rfl rfl dX12_judged_197 ?_
          refine x_ialoadN C0 (isModel.s24 hM) (by omega) (by omega) dX12_judged_198 ?_
          refine x_topi y3 ?_
          refine x_iconst (v := 1) C0 rfl dX12_judged_199 ?_
          refine x_iload C0 rfl dX12_judged_200 ?_
          refine x_ishl C0 dX12_judged_202 ?_
          refine x_ior C0 dX12_judged_203 ?_
          refine x_iastoreN C0 (isModel.s24 hM) (by omega) (by omega) dX12_judged_204 ?_
          refine x_goto (tgt := 246) C0 (by decide) dX12_judged_205 ?_
          refine x_iinc (v := nI (i + 1)) (L' := [_, _, _, _, _, _, _, _, _]) C0 hN rfl (by decide) (nI_inc i) rfl dX12_judged_246 ?_
          refine x_goto (tgt := 31) C0 (by decide) dX12_judged_249 ?_
          have := fun I9 a b c d => ih (i + 1) I9 a b c d (by omega)
          rw [eR, eL] at this
          exact this _ _ _ _ _ (s1.trans (MQs.st (by decide))) (by rw [eS]; exact r1.upd (by decide) (by decide))
        · unfold dDo at eS
          rw [if_neg (by rw [e]; decide), if_neg (by rw [e]; decide), if_neg (by rw [e]; decide), if_pos e] at eS
          have emask : dMask fl (sDq fl lw) V (jS fl (sDq fl lw) T N V ln i) (ln i).1 = 0 := by
            unfold dMask
            rw [if_neg (show ¬ (ln i).1 = 0 by rw [e]; decide)]
          rw [if_neg (fun z => z.2 emask)] at eL
          have w1e := n2 (Or.inr (Or.inr e))
          have w2e := n3 (Or.inr e)
          have o9 := o3 e
          subst w1e
          subst w2e
          rw [e]
          refine x_iload C0 rfl dX12_judged_109 ?_
          refine x_if_eq (tgt := 143) C0 (by decide) dX12_judged_111 (fun hkk => absurd hkk (by decide)) (fun _ => ?_)
          refine x_iload C0 rfl dX12_judged_114 ?_
          refine x_if_ne (tgt := 143) C0 (by decide) dX12_judged_116 (fun _ => ?_) (fun hkk => absurd hkk (by decide))
          refine x_iload C0 rfl dX12_judged_143 ?_
          refine x_if_eq (tgt := 179) C0 (by decide) dX12_judged_145 (fun hkk => absurd hkk (by decide)) (fun _ => ?_)
          refine x_iload C0 rfl dX12_judged_148 ?_
          refine x_iconst (v := nI 1) C0 rfl dX12_judged_150 ?_
          refine x_icmp_ne (tgt := 179) C0 (by decide) dX12_judged_151 (fun _ => ?_) (fun hkk => absurd hkk (by decide))
          refine x_iload C0 rfl dX12_judged_179 ?_
          refine x_if_eq (tgt := 208) C0 (by decide) dX12_judged_181 (fun hkk => absurd hkk (by decide)) (fun _ => ?_)
          refine x_iload C0 rfl dX12_judged_184 ?_
          refine x_iconst (v := nI 2) C0 rfl dX12_judged_186 ?_
          refine x_icmp_ne (tgt := 208) C0 (by decide) dX12_judged_187 (fun _ => ?_) (fun hkk => absurd hkk (by decide))
          refine x_iload C0 rfl dX12_judged_208 ?_
          refine x_if_eq (tgt := 234) C0 (by decide) dX12_judged_210 (fun hkk => absurd hkk (by decide)) (fun _ => ?_)
          refine x_iload C0 rfl dX12_judged_213 ?_
          refine x_iconst (v := nI 3) C0 rfl dX12_judged_215 ?_
          refine x_icmp_ne (tgt := 234) C0 (by decide) dX12_judged_216 (fun hkk => absurd (by decide) hkk) (fun _ => ?_)
          refine x_aload_n C0 rfl dX12_judged_219 ?_
          refine x_sipush (v := nI 2058) C0 rfl dX12_judged_220 ?_
          refine x_iload C0 rfl dX12_judged_223 ?_
          refine x_iload C0 rfl dX12_judged_225 ?_
          refine x_callV [_, _, _] C0 hN rfl (xRf_of hR (by decide) (Nat.zero_le _) (Nat.zero_le _)) mv_X12_talks wm_X12_360 dX12_judged_227 (isModel.k0 hM) rfl rfl (Nat.le_of_ble_eq_true rfl) (c_X12_talks hM (by decide) wl wi mF2 r1 o9.1 o9.2.1 (fun I3 _ s3 r3 => ?_))
          refine x_pop C0 rfl dX12_judged_230 ?_
          refine x_goto (tgt := 246) C0 (by decide) dX12_judged_231 ?_
          refine x_iinc (v := nI (i + 1)) (L' := [_, _, _, _, _, _, _, _, _]) C0 hN rfl (by decide) (nI_inc i) rfl dX12_judged_246 ?_
          refine x_goto (tgt := 31) C0 (by decide) dX12_judged_249 ?_
          have := fun I9 a b c d => ih (i + 1) I9 a b c d (by omega)
          rw [eR, eL] at this
          exact this _ _ _ _ _ (s1.trans (MQs.same s3 (by decide))) (by rw [eS]; exact r3)
        · unfold dDo at eS
          rw [if_neg (by rw [e]; decide), if_neg (by rw [e]; decide), if_neg (by rw [e]; decide), if_neg (by rw [e]; decide)] at eS
          have emask : dMask fl (sDq fl lw) V (jS fl (sDq fl lw) T N V ln i) (ln i).1 = 0 := by
            unfold dMask
            rw [if_neg (show ¬ (ln i).1 = 0 by rw [e]; decide)]
          rw [if_neg (fun z => z.2 emask)] at eL
          have e1 : I2 151 2059 = (jS fl (sDq fl lw) T N V ln i) 1 := r1 1 (by decide)
          rw [e]
          refine x_iload C0 rfl dX12_judged_109 ?_
          refine x_if_eq (tgt := 143) C0 (by decide) dX12_judged_111 (fun hkk => absurd hkk (by decide)) (fun _ => ?_)
          refine x_iload C0 rfl dX12_judged_114 ?_
          refine x_if_ne (tgt := 143) C0 (by decide) dX12_judged_116 (fun _ => ?_) (fun hkk => absurd hkk (by decide))
          refine x_iload C0 rfl dX12_judged_143 ?_
          refine x_if_eq (tgt := 179) C0 (by decide) dX12_judged_145 (fun hkk => absurd hkk (by decide)) (fun _ => ?_)
          refine x_iload C0 rfl dX12_judged_148 ?_
          refine x_iconst (v := nI 1) C0 rfl dX12_judged_150 ?_
          refine x_icmp_ne (tgt := 179) C0 (by decide) dX12_judged_151 (fun _ => ?_) (fun hkk => absurd hkk (by decide))
          refine x_iload C0 rfl dX12_judged_179 ?_
          refine x_if_eq (tgt := 208) C0 (by decide) dX12_judged_181 (fun hkk => absurd hkk (by decide)) (fun _ => ?_)
          refine x_iload C0 rfl dX12_judged_184 ?_
          refine x_iconst (v := nI 2) C0 rfl dX12_judged_186 ?_
          refine x_icmp_ne (tgt := 208) C0 (by decide) dX12_judged_187 (fun _ => ?_) (fun hkk => absurd hkk (by decide))
          refine x_iload C0 rfl dX12_judged_208 ?_
          refine x_if_eq (tgt := 234) C0 (by decide) dX12_judged_210 (fun hkk => absurd hkk (by decide)) (fun _ => ?_)
          refine x_iload C0 rfl dX12_judged_213 ?_
          refine x_iconst (v := nI 3) C0 rfl dX12_judged_215 ?_
          refine x_icmp_ne (tgt := 234) C0 (by decide) dX12_judged_216 (fun _ => ?_) (fun hkk => absurd hkk (by decide))
          refine x_iload C0 rfl dX12_judged_234 ?_
          refine x_if_eq (tgt := 246) C0 (by decide) dX12_judged_236 (fun hkk => absurd hkk (by decide)) (fun _ => ?_)
          refine x_aload_n C0 rfl dX12_judged_239 ?_
          refine x_sipush (v := nI 2058) C0 rfl dX12_judged_240 ?_
          refine x_callV [_] C0 hN rfl (xRf_of hR (by decide) (Nat.zero_le _) (Nat.zero_le _)) mv_X12_begunAgain wm_X12_363 dX12_judged_243 (isModel.k0 hM) rfl rfl (Nat.le_of_ble_eq_true rfl) (c_X12_begunAgain hM (by decide) ?_)
          refine x_iinc (v := nI (i + 1)) (L' := [_, _, _, _, _, _, _, _, _]) C0 hN rfl (by decide) (nI_inc i) rfl dX12_judged_246 ?_
          refine x_goto (tgt := 31) C0 (by decide) dX12_judged_249 ?_
          have := fun I9 a b c d => ih (i + 1) I9 a b c d (by omega)
          rw [eR, eL] at this
          exact this _ _ _ _ _ (s1.trans ((MQs.st (by decide)).trans (MQs.st (by decide)))) (by rw [eS]; exact (by unfold sAgain; rw [← e1]; exact (r1.upd (by decide) (by decide)).upd (by decide) (by decide)))
      refine x_iload C0 rfl dX12_judged_31 ?_
      refine x_aload_n C0 rfl dX12_judged_33 ?_
      refine x_getR C0 wf_X12_110 (isModel.k0 hM) rfl rfl (isModel.r21 hM) dX12_judged_34 ?_
      refine x_iconst (v := nI 0) C0 rfl dX12_judged_37 ?_
      refine x_ialoadN C0 (isModel.s21 hM) (by omega) (by omega) dX12_judged_38 ?_
      refine x_topi E1.2.1 ?_
      refine x_icmp_ge (tgt := 252) C0 (by decide) dX12_judged_39 (fun hkk => absurd hkk (nI_ge (by omega) (by omega))) (fun _ => ?_)
      refine x_aload_n C0 rfl dX12_judged_42 ?_
      refine x_getR C0 wf_X12_110 (isModel.k0 hM) rfl rfl (isModel.r21 hM) dX12_judged_43 ?_
      refine x_iconst (v := nI 1) C0 rfl dX12_judged_46 ?_
      refine x_iconst (v := nI 4) C0 rfl dX12_judged_47 ?_
      refine x_iload C0 rfl dX12_judged_48 ?_
      refine x_imulN C0 dX12_judged_50 ?_
      refine x_iaddN C0 dX12_judged_51 ?_
      refine x_ialoadN C0 (isModel.s21 hM) (by omega) (by omega) dX12_judged_52 ?_
      refine x_topi l1 ?_
      refine x_istore (L' := [_, _, _, _, _, _, _, _, _]) C0 hN (by decide) rfl dX12_judged_53 ?_
      refine x_aload_n C0 rfl dX12_judged_55 ?_
      refine x_getR C0 wf_X12_110 (isModel.k0 hM) rfl rfl (isModel.r21 hM) dX12_judged_56 ?_
      refine x_iconst (v := nI 2) C0 rfl dX12_judged_59 ?_
      refine x_iconst (v := nI 4) C0 rfl dX12_judged_60 ?_
      refine x_iload C0 rfl dX12_judged_61 ?_
      refine x_imulN C0 dX12_judged_63 ?_
      refine x_iaddN C0 dX12_judged_64 ?_
      refine x_ialoadN C0 (isModel.s21 hM) (by omega) (by omega) dX12_judged_65 ?_
      refine x_istore (L' := [_, _, _, _, _, _, _, _, _]) C0 hN (by decide) rfl dX12_judged_66 ?_
      refine x_aload_n C0 rfl dX12_judged_68 ?_
      refine x_getR C0 wf_X12_110 (isModel.k0 hM) rfl rfl (isModel.r21 hM) dX12_judged_69 ?_
      refine x_iconst (v := nI 3) C0 rfl dX12_judged_72 ?_
      refine x_iconst (v := nI 4) C0 rfl dX12_judged_73 ?_
      refine x_iload C0 rfl dX12_judged_74 ?_
      refine x_imulN C0 dX12_judged_76 ?_
      refine x_iaddN C0 dX12_judged_77 ?_
      refine x_ialoadN C0 (isModel.s21 hM) (by omega) (by omega) dX12_judged_78 ?_
      refine x_istore (L' := [_, _, _, _, _, _, _, _, _]) C0 hN (by decide) rfl dX12_judged_79 ?_
      refine x_aload_n C0 rfl dX12_judged_81 ?_
      refine x_iload C0 rfl dX12_judged_82 ?_
      refine x_iload C0 rfl dX12_judged_84 ?_
      refine x_iload C0 rfl dX12_judged_86 ?_
      refine x_callV [_, _, _] C0 hN rfl (xRf_of hR (by decide) (Nat.zero_le _) (Nat.zero_le _)) mv_X12_may wm_X12_366 dX12_judged_88 (isModel.k0 hM) rfl rfl (Nat.le_of_ble_eq_true rfl) (c_X12_may hM CC wi r1 k0 m2 m3 (fun g88 => ?_) (fun g88 => ?_))
      · refine x_istore (L' := [_, _, _, _, _, _, _, _, _]) C0 hN (by decide) rfl dX12_judged_91 ?_
        refine x_iload C0 rfl dX12_judged_93 ?_
        refine x_if_ne (tgt := 107) C0 (by decide) dX12_judged_95 (fun _ => ?_) (fun hkk => absurd hkk (by decide))
        refine x_iload_n C0 rfl dX12_judged_107 ?_
        refine x_istore_n (L' := [_, _, _, _, _, _, _, _, _]) C0 hN (by decide) rfl dX12_judged_108 ?_
        exact h109 _ _ g88 m2 m3
      · refine x_istore (L' := [_, _, _, _, _, _, _, _, _]) C0 hN (by decide) rfl dX12_judged_91 ?_
        refine x_iload C0 rfl dX12_judged_93 ?_
        refine x_if_ne (tgt := 107) C0 (by decide) dX12_judged_95 (fun hkk => absurd (by decide) hkk) (fun _ => ?_)
        refine x_iload_n C0 rfl dX12_judged_98 ?_
        refine x_if_ge (tgt := 107) C0 (by decide) dX12_judged_99 (fun g99 => ?_) (fun g99 => ?_)
        · refine x_iload_n C0 rfl dX12_judged_107 ?_
          refine x_istore_n (L' := [_, _, _, _, _, _, _, _, _]) C0 hN (by decide) rfl dX12_judged_108 ?_
          refine x_iload C0 rfl dX12_judged_109 ?_
          refine x_if_eq (tgt := 143) C0 (by decide) dX12_judged_111 (fun _ => ?_) (fun hkk => absurd (by decide) hkk)
          refine x_iload C0 rfl dX12_judged_143 ?_
          refine x_if_eq (tgt := 179) C0 (by decide) dX12_judged_145 (fun _ => ?_) (fun hkk => absurd (by decide) hkk)
          refine x_iload C0 rfl dX12_judged_179 ?_
          refine x_if_eq (tgt := 208) C0 (by decide) dX12_judged_181 (fun _ => ?_) (fun hkk => absurd (by decide) hkk)
          refine x_iload C0 rfl dX12_judged_208 ?_
          refine x_if_eq (tgt := 234) C0 (by decide) dX12_judged_210 (fun _ => ?_) (fun hkk => absurd (by decide) hkk)
          refine x_iload C0 rfl dX12_judged_234 ?_
          refine x_if_eq (tgt := 246) C0 (by decide) dX12_judged_236 (fun _ => ?_) (fun hkk => absurd (by decide) hkk)
          refine x_iinc (v := nI (i + 1)) (L' := [_, _, _, _, _, _, _, _, _]) C0 hN rfl (by decide) (nI_inc i) rfl dX12_judged_246 ?_
          refine x_goto (tgt := 31) C0 (by decide) dX12_judged_249 ?_
          have eR : (jR fl (sDq fl lw) T N V ln (i + 1)) = (jR fl (sDq fl lw) T N V ln (i + 1)) := rfl
          conv at eR => rhs; unfold jR
          rw [if_neg g88, if_neg (orR.mp g99)] at eR
          have eS : (jS fl (sDq fl lw) T N V ln (i + 1)) = (jS fl (sDq fl lw) T N V ln i) := by conv => lhs; unfold jS; rw [if_neg g88]
          have eL : (jL fl (sDq fl lw) T N V ln (i + 1)) = (jL fl (sDq fl lw) T N V ln i) := by conv => lhs; unfold jL; rw [if_neg (fun z => g88 z.1)]
          have := fun a b c d => ih (i + 1) I2 a b c d (by omega)
          rw [eR, eL] at this
          exact this _ _ _ _ s1 (by rw [eS]; exact r1)
        · refine x_iload C0 rfl dX12_judged_102 ?_
          refine x_goto (tgt := 108) C0 (by decide) dX12_judged_104 ?_
          refine x_istore_n (L' := [_, _, _, _, _, _, _, _, _]) C0 hN (by decide) rfl dX12_judged_108 ?_
          refine x_iload C0 rfl dX12_judged_109 ?_
          refine x_if_eq (tgt := 143) C0 (by decide) dX12_judged_111 (fun _ => ?_) (fun hkk => absurd (by decide) hkk)
          refine x_iload C0 rfl dX12_judged_143 ?_
          refine x_if_eq (tgt := 179) C0 (by decide) dX12_judged_145 (fun _ => ?_) (fun hkk => absurd (by decide) hkk)
          refine x_iload C0 rfl dX12_judged_179 ?_
          refine x_if_eq (tgt := 208) C0 (by decide) dX12_judged_181 (fun _ => ?_) (fun hkk => absurd (by decide) hkk)
          refine x_iload C0 rfl dX12_judged_208 ?_
          refine x_if_eq (tgt := 234) C0 (by decide) dX12_judged_210 (fun _ => ?_) (fun hkk => absurd (by decide) hkk)
          refine x_iload C0 rfl dX12_judged_234 ?_
          refine x_if_eq (tgt := 246) C0 (by decide) dX12_judged_236 (fun _ => ?_) (fun hkk => absurd (by decide) hkk)
          refine x_iinc (v := nI (i + 1)) (L' := [_, _, _, _, _, _, _, _, _]) C0 hN rfl (by decide) (nI_inc i) rfl dX12_judged_246 ?_
          refine x_goto (tgt := 31) C0 (by decide) dX12_judged_249 ?_
          have eR : (jR fl (sDq fl lw) T N V ln (i + 1)) = (jR fl (sDq fl lw) T N V ln (i + 1)) := rfl
          conv at eR => rhs; unfold jR
          rw [if_neg g88, if_pos (Decidable.of_not_not (fun z => g99 (orR.mpr z)))] at eR
          have eS : (jS fl (sDq fl lw) T N V ln (i + 1)) = (jS fl (sDq fl lw) T N V ln i) := by conv => lhs; unfold jS; rw [if_neg g88]
          have eL : (jL fl (sDq fl lw) T N V ln (i + 1)) = (jL fl (sDq fl lw) T N V ln i) := by conv => lhs; unfold jL; rw [if_neg (fun z => g88 z.1)]
          have := fun a b c d => ih (i + 1) I2 a b c d (by omega)
          rw [eR, eL] at this
          exact this _ _ _ _ s1 (by rw [eS]; exact r1)
  refine x_iload_n C0 rfl dX12_judged_5 ?_
  refine x_iconst (v := nI 0) C0 rfl dX12_judged_6 ?_
  refine x_iconst (v := nI 2) C0 rfl dX12_judged_7 ?_
  refine x_callS [_, _, _] C0 (xRf_of hR (by decide) (Nat.zero_le _) (Nat.zero_le _)) ms_X12_within wm_X12_207 dX12_judged_8 rfl rfl (Nat.le_of_ble_eq_true rfl) (c_X12_within  (fun g8 => ?_) (fun g8 => ?_))
  · refine x_if_ne (tgt := 17) C0 (by decide) dX12_judged_11 (fun _ => ?_) (fun hkk => absurd hkk (by decide))
    refine x_aload_n C0 rfl dX12_judged_17 ?_
    refine x_sipush (v := nI 2058) C0 rfl dX12_judged_18 ?_
    refine x_callV [_] C0 hN rfl (xRf_of hR (by decide) (Nat.zero_le _) (Nat.zero_le _)) mv_X12_starts wm_X12_288 dX12_judged_21 (isModel.k0 hM) rfl rfl (Nat.le_of_ble_eq_true rfl) (c_X12_starts hM wl mF (by decide) (fun I2 s2 r2 => ?_))
    refine x_iconst (v := -1) C0 rfl dX12_judged_24 ?_
    refine x_istore_n (L' := [_, _, _, _, _, _, _, _, _]) C0 hN (by decide) rfl dX12_judged_25 ?_
    refine x_iconst (v := -1) C0 rfl dX12_judged_26 ?_
    refine x_istore_n (L' := [_, _, _, _, _, _, _, _, _]) C0 hN (by decide) rfl dX12_judged_27 ?_
    refine x_iconst (v := nI 0) C0 rfl dX12_judged_28 ?_
    refine x_istore (L' := [_, _, _, _, _, _, _, _, _]) C0 hN (by decide) rfl dX12_judged_29 ?_
    exact h31 g8 ev 0 I2 none none none none (by omega) (MQs.inAt s2) r2
  · refine x_if_ne (tgt := 17) C0 (by decide) dX12_judged_11 (fun hkk => absurd (by decide) hkk) (fun _ => ?_)
    refine x_bipush (v := -2) C0 rfl dX12_judged_14 ?_
    refine x_iret C0 E (by decide) (by decide) dX12_judged_16 ?_
    rw [if_neg (show ¬ (0 ≤ c ∧ c ≤ 2) from g8)] at hp
    exact hp I1 q1
