/-! THE QUESTIONS: forge, the reference -/
theorem c_X12_forge {S : xTS} {R : xTR} {I : xTI} {J : xTJ} {post : xPost} {T N V : Nat} {fl x : xRow} {lw : Option (List (Nat × Nat))} (hM : isModel S R) (C : MCore I fl lw T N V x) {i j c : Int32} (hp : ∀ I', MQs I I' → post (some (.int (aForge fl (sDq fl lw) x V N i j c))) S R I' J) : xSpec 7 yX12_forge cX12_forge 8 (some .int) 0 0 [.ref 135, .int i, .int j, .int c] S R I J post := by
  refine xSpec_of mt_X12_forge (Nat.le_of_ble_eq_true rfl) (fun G C0 hN hR E hI hZ => ?_)
  change XX G 0 0 0 [some (.ref 135), some (.int i), some (.int j), some (.int c), none, none, none, none] [] S R I J
  refine x_aload_n C0 rfl dX12_forge_0 ?_
  refine x_iconst (v := nI 0) C0 rfl dX12_forge_1 ?_
  refine x_putI C0 wf_X12_1 (isModel.k0 hM) rfl dX12_forge_2 ?_
  have q1 := MQs.thrown (I := I) (v := nI 0)
  have C := C.mq q1
  generalize u2 I 135 0 (nI 0) = I1 at q1 C ⊢
  obtain ⟨wl, mF, mL, mH, wx⟩ := id C
  have hT6 := wl.2.1
  have hN8 := wl.2.2.2.1
  have hV6 := wl.2.2.2.2.2.1
  have eT : I1 141 0 = nI T := (mF 0 (by decide)).trans wl.1
  have eN : I1 141 1 = nI N := (mF 1 (by decide)).trans wl.2.2.1
  have eV : I1 141 2 = nI V := (mF 2 (by decide)).trans wl.2.2.2.2.1
  have hb0 : 0 ≤ 2192 := by decide
  unfold aForge at hp
  rw [← mF 2 (by decide), ← mF 0 (by decide)] at hp
  have h256 := shl_le hN8
  have h56 : ∀ a t, a < V → t < T → (∀ I', MQs I I' → post (some (.int (fgB fl (sDq fl lw) x V N a t (bOf c) (2 ^ N)))) S R I' J) → ∀ n s I2 v7, s + n = 2 ^ N → MQs I1 I2 → XX G 0 0 56 [some (.ref 135), some (.int (nI a)), some (.int (nI t)), some (.int c), some (.int (sEnd fl (sDq fl lw) V (N - (x 0).toNatClampNeg) (x 0).toNatClampNeg x 2)), some (.int (fgB fl (sDq fl lw) x V N a t (bOf c) s)), some (.int (nI s)), v7] [] S R I2 J := by
    intro a t ha ht hp n
    induction n with
    | zero =>
      intro s I2 v7 hn9 s1
      have hn8 : s = 2 ^ N := by omega
      have eN2 : I2 141 1 = nI N := by rw [(C.mq s1).2.1 1 (by decide), wl.2.2.1]
      subst hn8
      refine x_iload C0 rfl dX12_forge_56 ?_
      refine x_iconst (v := 1) C0 rfl dX12_forge_58 ?_
      refine x_aload_n C0 rfl dX12_forge_59 ?_
      refine x_callV [] C0 hN rfl (xRf_of hR (by decide) (Nat.zero_le _) (Nat.zero_le _)) mv_X12_scenes wm_X12_285 dX12_forge_60 (isModel.k0 hM) rfl rfl (Nat.le_of_ble_eq_true rfl) (c_X12_scenes hM ?_)
      refine x_topi eN2 ?_
      refine x_ishl C0 dX12_forge_63 ?_
      refine x_topi (pow_shl N hN8) ?_
      refine x_icmp_ge (tgt := 214) C0 (by decide) dX12_forge_64 (fun _ => ?_) (fun hkk => absurd ((Int32.le_refl _)) hkk)
      refine x_iload C0 rfl dX12_forge_214 ?_
      refine x_iret C0 E (by decide) (by decide) dX12_forge_216 ?_
      exact hp I2 (q1.trans s1)
    | succ n ih =>
      intro s I2 v7 hn9 s1
      have CC := C.mq s1
      have mH2 := CC.2.2.2.1
      have eN2 : I2 141 1 = nI N := by rw [CC.2.1 1 (by decide), wl.2.2.1]
      have hor := fgB_or (fl := fl) (dq := sDq fl lw) (x := x) (V := V) (N := N) (a := a) (t := t) (b := bOf c) s
      have hb1 : c = 0 → nI (bOf c) = nI 0 := fun q => by unfold bOf; rw [if_pos q]
      have hb2 : ¬ c = 0 → nI (bOf c) = nI 1 := fun q => by unfold bOf; rw [if_neg q]
      have h97 : nI s &&& (sToCome x N ^^^ (-1)) = 0 → sFewer s (fgB fl (sDq fl lw) x V N a t (bOf c) s) → XX G 0 0 97 [some (.ref 135), some (.int (nI a)), some (.int (nI t)), some (.int c), some (.int (sEnd fl (sDq fl lw) V (N - (x 0).toNatClampNeg) (x 0).toNatClampNeg x 2)), some (.int (fgB fl (sDq fl lw) x V N a t (bOf c) s)), some (.int (nI s)), v7] [] S R I2 J := by
        intro hok hfew
        have h110 : ∀ p k I3, k + p = N → MQs I1 I3 → MHall I3 2058 (fgW x s t (bOf c) k) → XX G 0 0 110 [some (.ref 135), some (.int (nI a)), some (.int (nI t)), some (.int c), some (.int (sEnd fl (sDq fl lw) V (N - (x 0).toNatClampNeg) (x 0).toNatClampNeg x 2)), some (.int (fgB fl (sDq fl lw) x V N a t (bOf c) s)), some (.int (nI s)), some (.int (nI k))] [] S R I3 J := by
          intro p
          induction p with
          | zero =>
            intro k I3 hk9 s3 r3
            have hk8 : k = N := by omega
            obtain ⟨-, mF3, mL3, -, -⟩ := C.mq s3
            have eN3 : I3 141 1 = nI N := by rw [mF3 1 (by decide), wl.2.2.1]
            subst hk8
            refine x_iload C0 rfl dX12_forge_110 ?_
            refine x_aload_n C0 rfl dX12_forge_112 ?_
            refine x_callV [] C0 hN rfl (xRf_of hR (by decide) (Nat.zero_le _) (Nat.zero_le _)) mv_X12_scenes wm_X12_285 dX12_forge_113 (isModel.k0 hM) rfl rfl (Nat.le_of_ble_eq_true rfl) (c_X12_scenes hM ?_)
            refine x_topi eN3 ?_
            refine x_icmp_ge (tgt := 155) C0 (by decide) dX12_forge_116 (fun _ => ?_) (fun hkk => absurd ((Int32.le_refl _)) hkk)
            refine x_aload_n C0 rfl dX12_forge_155 ?_
            refine x_sipush (v := nI 2058) C0 rfl dX12_forge_156 ?_
            refine x_callV [_] C0 hN rfl (xRf_of hR (by decide) (Nat.zero_le _) (Nat.zero_le _)) mv_X12_ends wm_X12_372 dX12_forge_159 (isModel.k0 hM) rfl rfl (Nat.le_of_ble_eq_true rfl) (c_X12_ends hM (by decide) wl (fgW_WFx wx hN8 ht bOf_lt k (Nat.le_refl k)) mF3 mL3 r3 (fun k0 I4 hkN hx0 s4 r4 v4 => ?_))
            rw [fgW_0] at hx0
            have rE : MHall I4 2058 (sFg fl (sDq fl lw) x V k s t (bOf c)) := by
              unfold sFg
              rw [hx0, nI_clamp (by omega)]
              exact r4
            have e2 : I4 151 2060 = sFg fl (sDq fl lw) x V k s t (bOf c) 2 := rE 2 (by decide)
            refine x_aload_n C0 rfl dX12_forge_162 ?_
            refine x_sipush (v := nI 2058) C0 rfl dX12_forge_163 ?_
            refine x_iload_n C0 rfl dX12_forge_166 ?_
            refine x_iload_n C0 rfl dX12_forge_167 ?_
            refine x_callV [_, _, _] C0 hN rfl (xRf_of hR (by decide) (Nat.zero_le _) (Nat.zero_le _)) mv_X12_thoughtOf wm_X12_325 dX12_forge_168 (isModel.k0 hM) rfl rfl (Nat.le_of_ble_eq_true rfl) (c_X12_thoughtOf hM (by decide) (by omega) (by omega) ?_)
            refine x_topi (mth_at rE (by omega) (by omega)) ?_
            refine x_iload_n C0 rfl dX12_forge_171 ?_
            refine x_if_eq (tgt := 179) C0 (by decide) dX12_forge_172 (fun g172 => ?_) (fun g172 => ?_)
            · refine x_iconst (v := nI 0) C0 rfl dX12_forge_179 ?_
              refine x_icmp_ne (tgt := 204) C0 (by decide) dX12_forge_180 (fun g180 => ?_) (fun g180 => ?_)
              · refine x_iload C0 rfl dX12_forge_204 ?_
                refine x_istore (L' := [_, _, _, _, _, _, _, _]) C0 hN (by decide) rfl dX12_forge_206 ?_
                refine x_iinc (v := nI (s + 1)) (L' := [_, _, _, _, _, _, _, _]) C0 hN rfl (by decide) (nI_inc s) rfl dX12_forge_208 ?_
                refine x_goto (tgt := 56) C0 (by decide) dX12_forge_211 ?_
                have := ih (s + 1) I4 (some (.int (nI k))) (by omega) (s3.trans (MQs.same s4 (by decide)))
                rw [fgB_no (fun z => g180 (by rw [z.2.2.1, hb1 g172]))] at this
                exact this
              · refine x_iload C0 rfl dX12_forge_183 ?_
                refine x_aload_n C0 rfl dX12_forge_185 ?_
                refine x_getR C0 wf_X12_119 (isModel.k0 hM) rfl rfl (isModel.r24 hM) dX12_forge_186 ?_
                refine x_sipush (v := nI 2060) C0 rfl dX12_forge_189 ?_
                refine x_ialoadN C0 (isModel.s24 hM) (by omega) (by omega) dX12_forge_192 ?_
                refine x_iconst (v := -1) C0 rfl dX12_forge_193 ?_
                refine x_ixor C0 dX12_forge_194 ?_
                refine x_iand C0 dX12_forge_195 ?_
                refine x_if_ne (tgt := 204) C0 (by decide) dX12_forge_196 (fun g196 => ?_) (fun g196 => ?_)
                · refine x_iload C0 rfl dX12_forge_204 ?_
                  refine x_istore (L' := [_, _, _, _, _, _, _, _]) C0 hN (by decide) rfl dX12_forge_206 ?_
                  refine x_iinc (v := nI (s + 1)) (L' := [_, _, _, _, _, _, _, _]) C0 hN rfl (by decide) (nI_inc s) rfl dX12_forge_208 ?_
                  refine x_goto (tgt := 56) C0 (by decide) dX12_forge_211 ?_
                  have := ih (s + 1) I4 (some (.int (nI k))) (by omega) (s3.trans (MQs.same s4 (by decide)))
                  rw [fgB_no (fun z => g196 (by rw [e2]; exact z.2.2.2))] at this
                  exact this
                · refine x_iload C0 rfl dX12_forge_199 ?_
                  refine x_goto (tgt := 206) C0 (by decide) dX12_forge_201 ?_
                  refine x_istore (L' := [_, _, _, _, _, _, _, _]) C0 hN (by decide) rfl dX12_forge_206 ?_
                  refine x_iinc (v := nI (s + 1)) (L' := [_, _, _, _, _, _, _, _]) C0 hN rfl (by decide) (nI_inc s) rfl dX12_forge_208 ?_
                  refine x_goto (tgt := 56) C0 (by decide) dX12_forge_211 ?_
                  have := ih (s + 1) I4 (some (.int (nI k))) (by omega) (s3.trans (MQs.same s4 (by decide)))
                  rw [fgB_yes ⟨hok, hfew, by rw [hb1 g172]; exact g180, by rw [← e2]; exact g196⟩] at this
                  exact this
            · refine x_iconst (v := nI 1) C0 rfl dX12_forge_175 ?_
              refine x_goto (tgt := 180) C0 (by decide) dX12_forge_176 ?_
              refine x_icmp_ne (tgt := 204) C0 (by decide) dX12_forge_180 (fun g180 => ?_) (fun g180 => ?_)
              · refine x_iload C0 rfl dX12_forge_204 ?_
                refine x_istore (L' := [_, _, _, _, _, _, _, _]) C0 hN (by decide) rfl dX12_forge_206 ?_
                refine x_iinc (v := nI (s + 1)) (L' := [_, _, _, _, _, _, _, _]) C0 hN rfl (by decide) (nI_inc s) rfl dX12_forge_208 ?_
                refine x_goto (tgt := 56) C0 (by decide) dX12_forge_211 ?_
                have := ih (s + 1) I4 (some (.int (nI k))) (by omega) (s3.trans (MQs.same s4 (by decide)))
                rw [fgB_no (fun z => g180 (by rw [z.2.2.1, hb2 g172]))] at this
                exact this
              · refine x_iload C0 rfl dX12_forge_183 ?_
                refine x_aload_n C0 rfl dX12_forge_185 ?_
                refine x_getR C0 wf_X12_119 (isModel.k0 hM) rfl rfl (isModel.r24 hM) dX12_forge_186 ?_
                refine x_sipush (v := nI 2060) C0 rfl dX12_forge_189 ?_
                refine x_ialoadN C0 (isModel.s24 hM) (by omega) (by omega) dX12_forge_192 ?_
                refine x_iconst (v := -1) C0 rfl dX12_forge_193 ?_
                refine x_ixor C0 dX12_forge_194 ?_
                refine x_iand C0 dX12_forge_195 ?_
                refine x_if_ne (tgt := 204) C0 (by decide) dX12_forge_196 (fun g196 => ?_) (fun g196 => ?_)
                · refine x_iload C0 rfl dX12_forge_204 ?_
                  refine x_istore (L' := [_, _, _, _, _, _, _, _]) C0 hN (by decide) rfl dX12_forge_206 ?_
                  refine x_iinc (v := nI (s + 1)) (L' := [_, _, _, _, _, _, _, _]) C0 hN rfl (by decide) (nI_inc s) rfl dX12_forge_208 ?_
                  refine x_goto (tgt := 56) C0 (by decide) dX12_forge_211 ?_
                  have := ih (s + 1) I4 (some (.int (nI k))) (by omega) (s3.trans (MQs.same s4 (by decide)))
                  rw [fgB_no (fun z => g196 (by rw [e2]; exact z.2.2.2))] at this
                  exact this
                · refine x_iload C0 rfl dX12_forge_199 ?_
                  refine x_goto (tgt := 206) C0 (by decide) dX12_forge_201 ?_
                  refine x_istore (L' := [_, _, _, _, _, _, _, _]) C0 hN (by decide) rfl dX12_forge_206 ?_
                  refine x_iinc (v := nI (s + 1)) (L' := [_, _, _, _, _, _, _, _]) C0 hN rfl (by decide) (nI_inc s) rfl dX12_forge_208 ?_
                  refine x_goto (tgt := 56) C0 (by decide) dX12_forge_211 ?_
                  have := ih (s + 1) I4 (some (.int (nI k))) (by omega) (s3.trans (MQs.same s4 (by decide)))
                  rw [fgB_yes ⟨hok, hfew, by rw [hb2 g172]; exact g180, by rw [← e2]; exact g196⟩] at this
                  exact this
          | succ p ihp =>
            intro k I3 hk9 s3 r3
            have eN3 : I3 141 1 = nI N := by rw [(C.mq s3).2.1 1 (by decide), wl.2.2.1]
            refine x_iload C0 rfl dX12_forge_110 ?_
            refine x_aload_n C0 rfl dX12_forge_112 ?_
            refine x_callV [] C0 hN rfl (xRf_of hR (by decide) (Nat.zero_le _) (Nat.zero_le _)) mv_X12_scenes wm_X12_285 dX12_forge_113 (isModel.k0 hM) rfl rfl (Nat.le_of_ble_eq_true rfl) (c_X12_scenes hM ?_)
            refine x_topi eN3 ?_
            refine x_icmp_ge (tgt := 155) C0 (by decide) dX12_forge_116 (fun hkk => absurd hkk (nI_ge (by omega) (by omega))) (fun _ => ?_)
            refine x_iload C0 rfl dX12_forge_119 ?_
            refine x_iload C0 rfl dX12_forge_121 ?_
            refine x_ishr C0 dX12_forge_123 ?_
            refine x_iconst (v := 1) C0 rfl dX12_forge_124 ?_
            refine x_iand C0 dX12_forge_125 ?_
            refine x_iconst (v := 1) C0 rfl dX12_forge_126 ?_
            refine x_icmp_ne (tgt := 149) C0 (by decide) dX12_forge_127 (fun g127 => ?_) (fun g127 => ?_)
            · refine x_iinc (v := nI (k + 1)) (L' := [_, _, _, _, _, _, _, _]) C0 hN rfl (by decide) (nI_inc k) rfl dX12_forge_149 ?_
              refine x_goto (tgt := 110) C0 (by decide) dX12_forge_152 ?_
              exact ihp (k + 1) I3 (by omega) s3 (by rw [fgW_no g127]; exact r3)
            · refine x_aload_n C0 rfl dX12_forge_130 ?_
              refine x_sipush (v := nI 2058) C0 rfl dX12_forge_131 ?_
              refine x_iload C0 rfl dX12_forge_134 ?_
              refine x_iload_n C0 rfl dX12_forge_136 ?_
              refine x_iload_n C0 rfl dX12_forge_137 ?_
              refine x_if_eq (tgt := 145) C0 (by decide) dX12_forge_138 (fun g138 => ?_) (fun g138 => ?_)
              · refine x_iconst (v := nI 0) C0 rfl dX12_forge_145 ?_
                refine x_callV [_, _, _, _] C0 hN rfl (xRf_of hR (by decide) (Nat.zero_le _) (Nat.zero_le _)) mv_X12_writes wm_X12_356 dX12_forge_146 (isModel.k0 hM) rfl rfl (Nat.le_of_ble_eq_true rfl) (c_X12_writes hM (by decide) (by omega) ?_)
                refine x_iinc (v := nI (k + 1)) (L' := [_, _, _, _, _, _, _, _]) C0 hN rfl (by decide) (nI_inc k) rfl dX12_forge_149 ?_
                refine x_goto (tgt := 110) C0 (by decide) dX12_forge_152 ?_
                exact ihp (k + 1) _ (by omega) (s3.trans ((MQs.st (by omega)).trans (MQs.st (by omega)))) (by rw [fgW_yes g127]; unfold sWr; rw [hb1 g138]; exact (r3.upd (by omega) (by omega)).upd (by omega) (by omega))
              · refine x_iconst (v := nI 1) C0 rfl dX12_forge_141 ?_
                refine x_goto (tgt := 146) C0 (by decide) dX12_forge_142 ?_
                refine x_callV [_, _, _, _] C0 hN rfl (xRf_of hR (by decide) (Nat.zero_le _) (Nat.zero_le _)) mv_X12_writes wm_X12_356 dX12_forge_146 (isModel.k0 hM) rfl rfl (Nat.le_of_ble_eq_true rfl) (c_X12_writes hM (by decide) (by omega) ?_)
                refine x_iinc (v := nI (k + 1)) (L' := [_, _, _, _, _, _, _, _]) C0 hN rfl (by decide) (nI_inc k) rfl dX12_forge_149 ?_
                refine x_goto (tgt := 110) C0 (by decide) dX12_forge_152 ?_
                exact ihp (k + 1) _ (by omega) (s3.trans ((MQs.st (by omega)).trans (MQs.st (by omega)))) (by rw [fgW_yes g127]; unfold sWr; rw [hb2 g138]; exact (r3.upd (by omega) (by omega)).upd (by omega) (by omega))
        refine x_aload_n C0 rfl dX12_forge_97 ?_
        refine x_iconst (v := nI 0) C0 rfl dX12_forge_98 ?_
        refine x_sipush (v := nI 2058) C0 rfl dX12_forge_99 ?_
        refine x_bipush (v := nI 62) C0 rfl dX12_forge_102 ?_
        refine x_callV [_, _, _] C0 hN rfl (xRf_of hR (by decide) (Nat.zero_le _) (Nat.zero_le _)) mv_X12_copies wm_X12_294 dX12_forge_104 (isModel.k0 hM) rfl rfl (Nat.le_of_ble_eq_true rfl) (c_X12_copies hM (Or.inl (by omega)) (by omega) (by omega) ?_)
        refine x_iconst (v := nI 0) C0 rfl dX12_forge_107 ?_
        refine x_istore (L' := [_, _, _, _, _, _, _, _]) C0 hN (by decide) rfl dX12_forge_108 ?_
        exact h110 N 0 _ (by omega) (s1.trans (MQs.copy (by decide))) (ucp_hall mH2 62 (by decide))
      refine x_iload C0 rfl dX12_forge_56 ?_
      refine x_iconst (v := 1) C0 rfl dX12_forge_58 ?_
      refine x_aload_n C0 rfl dX12_forge_59 ?_
      refine x_callV [] C0 hN rfl (xRf_of hR (by decide) (Nat.zero_le _) (Nat.zero_le _)) mv_X12_scenes wm_X12_285 dX12_forge_60 (isModel.k0 hM) rfl rfl (Nat.le_of_ble_eq_true rfl) (c_X12_scenes hM ?_)
      refine x_topi eN2 ?_
      refine x_ishl C0 dX12_forge_63 ?_
      refine x_topi (pow_shl N hN8) ?_
      refine x_icmp_ge (tgt := 214) C0 (by decide) dX12_forge_64 (fun hkk => absurd hkk (nI_ge (by omega) (by omega))) (fun _ => ?_)
      refine x_iload C0 rfl dX12_forge_67 ?_
      refine x_aload_n C0 rfl dX12_forge_69 ?_
      refine x_callV [] C0 hN rfl (xRf_of hR (by decide) (Nat.zero_le _) (Nat.zero_le _)) mv_X12_toCome wm_X12_375 dX12_forge_70 (isModel.k0 hM) rfl rfl (Nat.le_of_ble_eq_true rfl) (c_X12_toCome hM CC ?_)
      refine x_iconst (v := -1) C0 rfl dX12_forge_73 ?_
      refine x_ixor C0 dX12_forge_74 ?_
      refine x_iand C0 dX12_forge_75 ?_
      refine x_if_ne (tgt := 208) C0 (by decide) dX12_forge_76 (fun g76 => ?_) (fun g76 => ?_)
      · refine x_iinc (v := nI (s + 1)) (L' := [_, _, _, _, _, _, _, _]) C0 hN rfl (by decide) (nI_inc s) rfl dX12_forge_208 ?_
        refine x_goto (tgt := 56) C0 (by decide) dX12_forge_211 ?_
        have := ih (s + 1) I2 v7 (by omega) s1
        rw [fgB_no (fun z => g76 z.1)] at this
        exact this
      · refine x_iload C0 rfl dX12_forge_79 ?_
        refine x_if_lt (tgt := 97) C0 (by decide) dX12_forge_81 (fun g81 => ?_) (fun g81 => ?_)
        · exact h97 g76 (Or.inl (hor.resolve_right (fun ⟨m, hm, e⟩ => absurd g81 (by rw [e]; exact i_nlt.mpr (nI_pos' (by omega))))))
        · refine x_iload C0 rfl dX12_forge_84 ?_
          refine x_callS [_] C0 (xRf_of hR (by decide) (Nat.zero_le _) (Nat.zero_le _)) ms_X12_bits wm_X12_369 dX12_forge_86 rfl rfl (Nat.le_of_ble_eq_true rfl) (c_X12_bits  ?_)
          refine x_iload C0 rfl dX12_forge_89 ?_
          refine x_callS [_] C0 (xRf_of hR (by decide) (Nat.zero_le _) (Nat.zero_le _)) ms_X12_bits wm_X12_369 dX12_forge_91 rfl rfl (Nat.le_of_ble_eq_true rfl) (c_X12_bits  ?_)
          refine x_icmp_ge (tgt := 208) C0 (by decide) dX12_forge_94 (fun g94 => ?_) (fun g94 => ?_)
          · refine x_iinc (v := nI (s + 1)) (L' := [_, _, _, _, _, _, _, _]) C0 hN rfl (by decide) (nI_inc s) rfl dX12_forge_208 ?_
            refine x_goto (tgt := 56) C0 (by decide) dX12_forge_211 ?_
            have := ih (s + 1) I2 v7 (by omega) s1
            rw [fgB_no (fun z => z.2.1.elim (fun e => g81 (by rw [e]; decide)) (fun y => absurd g94 (i_nle.mpr y)))] at this
            exact this
          · exact h97 g76 (Or.inr (i_nle.mp g94))
  refine x_aload_n C0 rfl dX12_forge_5 ?_
  refine x_iload_n C0 rfl dX12_forge_6 ?_
  refine x_callV [_] C0 hN rfl (xRf_of hR (by decide) (Nat.zero_le _) (Nat.zero_le _)) mv_X12_isWatcher wm_X12_344 dX12_forge_7 (isModel.k0 hM) rfl rfl (Nat.le_of_ble_eq_true rfl) (c_X12_isWatcher hM (fun g7 => ?_) (fun g7 => ?_))
  · refine x_if_eq (tgt := 21) C0 (by decide) dX12_forge_10 (fun hkk => absurd hkk (by decide)) (fun _ => ?_)
    refine x_aload_n C0 rfl dX12_forge_13 ?_
    refine x_iload_n C0 rfl dX12_forge_14 ?_
    refine x_callV [_] C0 hN rfl (xRf_of hR (by decide) (Nat.zero_le _) (Nat.zero_le _)) mv_X12_isThing wm_X12_347 dX12_forge_15 (isModel.k0 hM) rfl rfl (Nat.le_of_ble_eq_true rfl) (c_X12_isThing hM (fun g15 => ?_) (fun g15 => ?_))
    · refine x_if_ne (tgt := 23) C0 (by decide) dX12_forge_18 (fun _ => ?_) (fun hkk => absurd hkk (by decide))
      obtain ⟨a, ha, ea⟩ := nI_ofi' eV (by omega) g7
      obtain ⟨t, ht, et⟩ := nI_ofi' eT (by omega) g15
      rw [if_pos ⟨g7, g15⟩] at hp
      subst ea
      subst et
      rw [nI_clamp (by omega), nI_clamp (by omega)] at hp
      refine x_aload_n C0 rfl dX12_forge_23 ?_
      refine x_iconst (v := nI 0) C0 rfl dX12_forge_24 ?_
      refine x_sipush (v := nI 2058) C0 rfl dX12_forge_25 ?_
      refine x_bipush (v := nI 62) C0 rfl dX12_forge_28 ?_
      refine x_callV [_, _, _] C0 hN rfl (xRf_of hR (by decide) (Nat.zero_le _) (Nat.zero_le _)) mv_X12_copies wm_X12_294 dX12_forge_30 (isModel.k0 hM) rfl rfl (Nat.le_of_ble_eq_true rfl) (c_X12_copies hM (Or.inl (by omega)) (by omega) (by omega) ?_)
      have q2 : MQs I1 (ucp I1 0 2058 62) := MQs.copy (by decide)
      obtain ⟨-, mF2, mL2, -, -⟩ := C.mq q2
      refine x_aload_n C0 rfl dX12_forge_33 ?_
      refine x_sipush (v := nI 2058) C0 rfl dX12_forge_34 ?_
      refine x_callV [_] C0 hN rfl (xRf_of hR (by decide) (Nat.zero_le _) (Nat.zero_le _)) mv_X12_ends wm_X12_372 dX12_forge_37 (isModel.k0 hM) rfl rfl (Nat.le_of_ble_eq_true rfl) (c_X12_ends hM (by decide) wl wx mF2 mL2 (ucp_hall mH 62 (by decide)) (fun k0 I2 hkN hx0 s2 r2 v2 => ?_))
      refine x_aload_n C0 rfl dX12_forge_40 ?_
      refine x_getR C0 wf_X12_119 (isModel.k0 hM) rfl rfl (isModel.r24 hM) dX12_forge_41 ?_
      refine x_sipush (v := nI 2060) C0 rfl dX12_forge_44 ?_
      refine x_ialoadN C0 (isModel.s24 hM) (by omega) (by omega) dX12_forge_47 ?_
      refine x_topi (show I2 151 2060 = (sEnd fl (sDq fl lw) V (N - (x 0).toNatClampNeg) (x 0).toNatClampNeg x 2) by rw [show I2 151 2060 = _ from r2 2 (by decide), hx0, nI_clamp (by omega)]) ?_
      refine x_istore (L' := [_, _, _, _, _, _, _, _]) C0 hN (by decide) rfl dX12_forge_48 ?_
      refine x_iconst (v := -1) C0 rfl dX12_forge_50 ?_
      refine x_istore (L' := [_, _, _, _, _, _, _, _]) C0 hN (by decide) rfl dX12_forge_51 ?_
      refine x_iconst (v := nI 0) C0 rfl dX12_forge_53 ?_
      refine x_istore (L' := [_, _, _, _, _, _, _, _]) C0 hN (by decide) rfl dX12_forge_54 ?_
      exact h56 a t ha ht hp (2 ^ N) 0 I2 none (by omega) (q2.trans (MQs.same s2 (by decide)))
    · refine x_if_ne (tgt := 23) C0 (by decide) dX12_forge_18 (fun hkk => absurd (by decide) hkk) (fun _ => ?_)
      refine x_iconst (v := -1) C0 rfl dX12_forge_21 ?_
      refine x_iret C0 E (by decide) (by decide) dX12_forge_22 ?_
      rw [if_neg (fun q => g15 q.2)] at hp
      exact hp I1 q1
  · refine x_if_eq (tgt := 21) C0 (by decide) dX12_forge_10 (fun _ => ?_) (fun hkk => absurd (by decide) hkk)
    refine x_iconst (v := -1) C0 rfl dX12_forge_21 ?_
    refine x_iret C0 E (by decide) (by decide) dX12_forge_22 ?_
    rw [if_neg (fun q => g7 q.1)] at hp
    exact hp I1 q1
