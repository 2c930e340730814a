/-! WHAT IS TOLD; sets -/
theorem fixd.s108 {S : xTS} {R : xTR} (h : fixd S R) : S[108]? = some (11, 36) := h.s (by decide +kernel)
theorem fixd.s109 {S : xTS} {R : xTR} (h : fixd S R) : S[109]? = some (11, 108) := h.s (by decide +kernel)
abbrev sTold (td y : xRow) (V T : Nat) : Prop := ∀ w, w < V → ∀ t, t < T → td (6 * w + t) = -2 ∨ td (6 * w + t) = y (20 + 6 * w + t)
abbrev hTd (td : xRow) : Prop := ∀ i, i < 36 → td i = -2 ∨ td i = -1 ∨ td i = 0 ∨ td i = 1
abbrev tFd (I : xTI) (td : xRow) : Prop := ∀ i, i < 36 → I 108 i = td i + 2
abbrev tMd (I : xTI) (td : xRow) : Prop := ∀ i, i < 36 → I 151 (62 + i) = td i
theorem tFd.fq {I I' : xTI} {td : xRow} (h : tFd I td) (q : FQ I I') : tFd I' td := fun i hi => by rw [q 108 (by decide) (by decide) (by decide) (by decide) (by decide)]; exact h i hi
theorem tMd.mq {I I' : xTI} {td : xRow} (h : tMd I td) (q : MQs I I') : tMd I' td := fun i hi => by rw [q.2.2 _ (by omega)]; exact h i hi
theorem td_pos {v : Int32} (h : v = -2 ∨ v = -1 ∨ v = 0 ∨ v = 1) : v + 2 ≤ 0 ↔ v = -2 := by rcases h with rfl | rfl | rfl | rfl <;> decide
theorem td_back {v : Int32} (h : v = -2 ∨ v = -1 ∨ v = 0 ∨ v = 1) : v + 2 - nI 2 = v := by rcases h with rfl | rfl | rfl | rfl <;> decide
theorem c_X11_isTold {S : xTS} {R : xTR} {I : xTI} {J : xTJ} {post : xPost} {f T N V : Nat} {fl x : xRow} {lw : Option (List (Nat × Nat))} (hS : fixd S R) (hf : R 0 2 = some f) (C : FCore I f fl lw T N V x) {td : xRow} (htd : hTd td) (tF : tFd I td) {w t : Nat} (hw : w < 6) (ht : t < 6) (h1 : ¬ td (6 * w + t) = -2 → post (some (.int 1)) S R I J) (h0 : td (6 * w + t) = -2 → post (some (.int 0)) S R I J) : xSpec 2 yX11_isTold cX11_isTold 3 (some .boolean) 0 0 [.ref 0, .int (nI w), .int (nI t)] S R I J post := by
  refine xSpec_of mt_X11_isTold (Nat.le_of_ble_eq_true rfl) (fun G C0 hN hR E hI hZ => ?_)
  change XX G 0 0 0 [some (.ref 0), some (.int (nI w)), some (.int (nI t))] [] S R I J
  obtain ⟨hfm, wl, rF, rH, wx⟩ := id C
  have hF := hS.film hfm
  have hH := hS.hall (q := 33) (by decide)
  have hT6 := wl.2.1
  have hN8 := wl.2.2.2.1
  have hV6 := wl.2.2.2.2.2.1
  have eT : I f 0 = nI T := rF.1.trans wl.1
  have eN : I f 1 = nI N := rF.2.1.trans wl.2.2.1
  have eV : I f 2 = nI V := rF.2.2.1.trans wl.2.2.2.2.1
  have hfh : ∀ i j, i < 9 → j < 4 → f + i ≠ 33 + j := fun i j hi hj => hf_apart 33 (by decide) f hfm i hi j hj
  obtain ⟨fs0, fs1, fs2, fs3, fs4, fs5, fs6, fs7, fs8, fr4, fr5, fr6, fr7, fr8, fr9, fr10, fr11⟩ := id hF
  obtain ⟨hs0, hs1, hs2, hs3, hr4, hr5, hr6⟩ := id hH
  have e6 : 6 * w + t = w * 6 + t := by rw [Nat.mul_comm]
  refine x_aload_n C0 rfl dX11_isTold_0 ?_
  refine x_getR C0 wf_X11_66 (fixd.k0 hS) rfl rfl (fixd.told hS) dX11_isTold_1 ?_
  refine x_iload_n C0 rfl dX11_isTold_4 ?_
  refine x_bipush (v := nI 6) C0 rfl dX11_isTold_5 ?_
  refine x_imulN C0 dX11_isTold_7 ?_
  refine x_iload_n C0 rfl dX11_isTold_8 ?_
  refine x_iaddN C0 dX11_isTold_9 ?_
  refine x_callS [_, _] C0 (xRf_of hR (by decide) (Nat.zero_le _) (Nat.zero_le _)) ms_X8_get wm_X11_150 dX11_isTold_10 rfl rfl (Nat.le_of_ble_eq_true rfl) (c_X8_get (fixd.s108 hS) (by omega) (by decide) ?_)
  refine x_topi (tF (w * 6 + t) (by omega)) ?_
  refine x_if_le (tgt := 20) C0 (by decide) dX11_isTold_13 (fun g13 => ?_) (fun g13 => ?_)
  · refine x_iconst (v := 0) C0 rfl dX11_isTold_20 ?_
    refine x_zret C0 E (by decide) (by decide) rfl dX11_isTold_21 ?_
    exact h0 (by rw [e6]; exact (td_pos (htd _ (by omega))).mp g13)
  · refine x_iconst (v := 1) C0 rfl dX11_isTold_16 ?_
    refine x_goto (tgt := 21) C0 (by decide) dX11_isTold_17 ?_
    refine x_zret C0 E (by decide) (by decide) rfl dX11_isTold_21 ?_
    exact h1 (fun q => g13 ((td_pos (htd _ (by omega))).mpr (by rw [← e6]; exact q)))
theorem c_X11_isAsTold {S : xTS} {R : xTR} {I : xTI} {J : xTJ} {post : xPost} {f T N V : Nat} {fl x : xRow} {lw : Option (List (Nat × Nat))} (hS : fixd S R) (hf : R 0 2 = some f) (C : FCore I f fl lw T N V x) {td : xRow} (htd : hTd td) (tF : tFd I td) {y : xRow} (rY : RHall I 37 y N) (h1 : sTold td y V T → post (some (.int 1)) S R I J) (h0 : ¬ sTold td y V T → post (some (.int 0)) S R I J) : xSpec 3 yX11_isAsTold cX11_isAsTold 4 (some .boolean) 0 0 [.ref 0] S R I J post := by
  refine xSpec_of mt_X11_isAsTold (Nat.le_of_ble_eq_true rfl) (fun G C0 hN hR E hI hZ => ?_)
  change XX G 0 0 0 [some (.ref 0), none, none, none] [] S R I J
  obtain ⟨hfm, wl, rF, rH, wx⟩ := id C
  have hF := hS.film hfm
  have hH := hS.hall (q := 33) (by decide)
  have hT6 := wl.2.1
  have hN8 := wl.2.2.2.1
  have hV6 := wl.2.2.2.2.2.1
  have eT : I f 0 = nI T := rF.1.trans wl.1
  have eN : I f 1 = nI N := rF.2.1.trans wl.2.2.1
  have eV : I f 2 = nI V := rF.2.2.1.trans wl.2.2.2.2.1
  have hfh : ∀ i j, i < 9 → j < 4 → f + i ≠ 33 + j := fun i j hi hj => hf_apart 33 (by decide) f hfm i hi j hj
  obtain ⟨fs0, fs1, fs2, fs3, fs4, fs5, fs6, fs7, fs8, fr4, fr5, fr6, fr7, fr8, fr9, fr10, fr11⟩ := id hF
  obtain ⟨hs0, hs1, hs2, hs3, hr4, hr5, hr6⟩ := id hH
  have hT := hS.hall (q := 37) (by decide)
  obtain ⟨hq0, hq1, hq2, hq3, -⟩ := id hT
  have hout : ∀ n w v2 v3, w + n = V → (∀ u, u < w → ∀ t, t < T → td (6 * u + t) = -2 ∨ td (6 * u + t) = y (20 + 6 * u + t)) → XX G 0 0 2 [some (.ref 0), some (.int (nI w)), v2, v3] [] S R I J := by
    intro n
    induction n with
    | zero =>
      intro w v2 v3 hn9 hd
      have hn8 : w = V := by omega
      refine x_iload_n C0 rfl dX11_isAsTold_2 ?_
      refine x_aload_n C0 rfl dX11_isAsTold_3 ?_
      refine x_getR C0 wf_X11_26 (fixd.k0 hS) rfl rfl hf dX11_isAsTold_4 ?_
      refine x_getI C0 wf_X11_289 (by assumption) rfl dX11_isAsTold_7 ?_
      refine x_topi eV ?_
      refine x_icmp_ge (tgt := 78) C0 (by decide) dX11_isAsTold_10 (fun _ => ?_) (fun hkk => absurd ((by rw [hn8]; exact Int32.le_refl _)) hkk)
      refine x_iconst (v := 1) C0 rfl dX11_isAsTold_78 ?_
      refine x_zret C0 E (by decide) (by decide) rfl dX11_isAsTold_79 ?_
      subst hn8
      exact h1 hd
    | succ n ih =>
      intro w v2 v3 hn9 hd
      have hin : ∀ p t v3, t + p = T → (∀ s, s < t → td (6 * w + s) = -2 ∨ td (6 * w + s) = y (20 + 6 * w + s)) → XX G 0 0 15 [some (.ref 0), some (.int (nI w)), some (.int (nI t)), v3] [] S R I J := by
        intro p
        induction p with
        | zero =>
          intro t v3 hm9 he
          have hm8 : t = T := by omega
          refine x_iload_n C0 rfl dX11_isAsTold_15 ?_
          refine x_aload_n C0 rfl dX11_isAsTold_16 ?_
          refine x_getR C0 wf_X11_26 (fixd.k0 hS) rfl rfl hf dX11_isAsTold_17 ?_
          refine x_getI C0 wf_X11_280 (by assumption) rfl dX11_isAsTold_20 ?_
          refine x_topi eT ?_
          refine x_icmp_ge (tgt := 72) C0 (by decide) dX11_isAsTold_23 (fun _ => ?_) (fun hkk => absurd ((by rw [hm8]; exact Int32.le_refl _)) hkk)
          refine x_iinc (v := nI (w + 1)) (L' := [_, _, _, _]) C0 hN rfl (by decide) (nI_inc w) rfl dX11_isAsTold_72 ?_
          refine x_goto (tgt := 2) C0 (by decide) dX11_isAsTold_75 ?_
          exact ih (w + 1) _ _ (by omega) (fun u hu s hs => by
            rcases Nat.lt_or_ge u w with g | g
            · exact hd u g s hs
            · have e : u = w := by omega
              subst e
              exact he s (by omega))
        | succ p ihp =>
          intro t v3 hm9 he
          have e6 : w * 6 + t = 6 * w + t := by rw [Nat.mul_comm]
          refine x_iload_n C0 rfl dX11_isAsTold_15 ?_
          refine x_aload_n C0 rfl dX11_isAsTold_16 ?_
          refine x_getR C0 wf_X11_26 (fixd.k0 hS) rfl rfl hf dX11_isAsTold_17 ?_
          refine x_getI C0 wf_X11_280 (by assumption) rfl dX11_isAsTold_20 ?_
          refine x_topi eT ?_
          refine x_icmp_ge (tgt := 72) C0 (by decide) dX11_isAsTold_23 (fun hkk => absurd hkk (nI_ge (by omega) (by omega))) (fun _ => ?_)
          refine x_aload_n C0 rfl dX11_isAsTold_26 ?_
          refine x_getR C0 wf_X11_66 (fixd.k0 hS) rfl rfl (fixd.told hS) dX11_isAsTold_27 ?_
          refine x_iload_n C0 rfl dX11_isAsTold_30 ?_
          refine x_bipush (v := nI 6) C0 rfl dX11_isAsTold_31 ?_
          refine x_imulN C0 dX11_isAsTold_33 ?_
          refine x_iload_n C0 rfl dX11_isAsTold_34 ?_
          refine x_iaddN C0 dX11_isAsTold_35 ?_
          refine x_callS [_, _] C0 (xRf_of hR (by decide) (Nat.zero_le _) (Nat.zero_le _)) ms_X8_get wm_X11_150 dX11_isAsTold_36 rfl rfl (Nat.le_of_ble_eq_true rfl) (c_X8_get (fixd.s108 hS) (by omega) (by decide) ?_)
          refine x_topi (tF (w * 6 + t) (by omega)) ?_
          refine x_iconst (v := nI 2) C0 rfl dX11_isAsTold_39 ?_
          refine x_isub C0 dX11_isAsTold_40 ?_
          refine x_topi (td_back (htd (w * 6 + t) (by omega))) ?_
          rw [e6]
          refine x_istore_n (L' := [_, _, _, _]) C0 hN (by decide) rfl dX11_isAsTold_41 ?_
          refine x_aload_n C0 rfl dX11_isAsTold_42 ?_
          refine x_iload_n C0 rfl dX11_isAsTold_43 ?_
          refine x_iload_n C0 rfl dX11_isAsTold_44 ?_
          refine x_callV [_, _] C0 hN rfl (xRf_of hR (by decide) (Nat.zero_le _) (Nat.zero_le _)) mv_X11_isTold wm_X11_308 dX11_isAsTold_45 (fixd.k0 hS) rfl rfl (Nat.le_of_ble_eq_true rfl) (c_X11_isTold hS hf C htd tF (by omega) (by omega) (fun g45 => ?_) (fun g45 => ?_))
          · refine x_if_eq (tgt := 66) C0 (by decide) dX11_isAsTold_48 (fun hkk => absurd hkk (by decide)) (fun _ => ?_)
            refine x_iload_n C0 rfl dX11_isAsTold_51 ?_
            refine x_aload_n C0 rfl dX11_isAsTold_52 ?_
            refine x_getR C0 wf_X11_50 (fixd.k0 hS) rfl rfl (fixd.trial hS) dX11_isAsTold_53 ?_
            refine x_iload_n C0 rfl dX11_isAsTold_56 ?_
            refine x_iload_n C0 rfl dX11_isAsTold_57 ?_
            refine x_callV [_, _] C0 hN rfl (xRf_of hR (by decide) (Nat.zero_le _) (Nat.zero_le _)) mv_X3_thought wm_X11_172 dX11_isAsTold_58 (by assumption) rfl rfl (Nat.le_of_ble_eq_true rfl) (c_X3_thought hT (by omega) (by omega) ?_)
            refine x_topi (th_at rY (by omega) (by omega)) ?_
            refine x_icmp_eq (tgt := 66) C0 (by decide) dX11_isAsTold_61 (fun g61 => ?_) (fun g61 => ?_)
            · refine x_iinc (v := nI (t + 1)) (L' := [_, _, _, _]) C0 hN rfl (by decide) (nI_inc t) rfl dX11_isAsTold_66 ?_
              refine x_goto (tgt := 15) C0 (by decide) dX11_isAsTold_69 ?_
              exact ihp (t + 1) _ (by omega) (fun s hs => by
                rcases Nat.lt_or_ge s t with g | g
                · exact he s g
                · have e : s = t := by omega
                  subst e
                  exact Or.inr g61)
            · refine x_iconst (v := 0) C0 rfl dX11_isAsTold_64 ?_
              refine x_zret C0 E (by decide) (by decide) rfl dX11_isAsTold_65 ?_
              exact h0 (fun z => (z w (by omega) t (by omega)).elim g45 g61)
          · refine x_if_eq (tgt := 66) C0 (by decide) dX11_isAsTold_48 (fun _ => ?_) (fun hkk => absurd (by decide) hkk)
            refine x_iinc (v := nI (t + 1)) (L' := [_, _, _, _]) C0 hN rfl (by decide) (nI_inc t) rfl dX11_isAsTold_66 ?_
            refine x_goto (tgt := 15) C0 (by decide) dX11_isAsTold_69 ?_
            exact ihp (t + 1) _ (by omega) (fun s hs => by
              rcases Nat.lt_or_ge s t with g | g
              · exact he s g
              · have e : s = t := by omega
                subst e
                exact Or.inl g45)
      refine x_iload_n C0 rfl dX11_isAsTold_2 ?_
      refine x_aload_n C0 rfl dX11_isAsTold_3 ?_
      refine x_getR C0 wf_X11_26 (fixd.k0 hS) rfl rfl hf dX11_isAsTold_4 ?_
      refine x_getI C0 wf_X11_289 (by assumption) rfl dX11_isAsTold_7 ?_
      refine x_topi eV ?_
      refine x_icmp_ge (tgt := 78) C0 (by decide) dX11_isAsTold_10 (fun hkk => absurd hkk (nI_ge (by omega) (by omega))) (fun _ => ?_)
      refine x_iconst (v := 0) C0 rfl dX11_isAsTold_13 ?_
      refine x_istore_n (L' := [_, _, _, _]) C0 hN (by decide) rfl dX11_isAsTold_14 ?_
      exact hin T 0 v3 (by omega) (fun s hs => absurd hs (by omega))
  refine x_iconst (v := 0) C0 rfl dX11_isAsTold_0 ?_
  refine x_istore_n (L' := [_, _, _, _]) C0 hN (by decide) rfl dX11_isAsTold_1 ?_
  exact hout V 0 none none (by omega) (fun u hu => absurd hu (by omega))
theorem i_and_assoc {a b c : Int32} : a &&& (b &&& c) = a &&& b &&& c := by
  apply Int32.toBitVec_inj.mp
  rw [Int32.toBitVec_and, Int32.toBitVec_and, Int32.toBitVec_and, Int32.toBitVec_and, BitVec.and_assoc]
abbrev sHit (fl : xRow) (dq : xDq) (x td : xRow) (T N V s : Nat) : Prop := nI s &&& (sCuttable x N ^^^ (-1)) = 0 ∧ sTold td (sEndCut fl dq x V N s) V T
theorem c_X12_isTold {S : xTS} {R : xTR} {I : xTI} {J : xTJ} {post : xPost} {T N V : Nat} {fl x : xRow} {lw : Option (List (Nat × Nat))} (hM : isModel S R) (C : MCore I fl lw T N V x) {td : xRow} (tM : tMd I td) {s : Nat} (hs : s < 2 ^ N) (h1 : ∀ I', MQs I I' → I' 154 = I 154 → MHall I' 2058 (sEndCut fl (sDq fl lw) x V N s) → sHit fl (sDq fl lw) x td T N V s → post (some (.int 1)) S R I' J) (h0 : ∀ I', MQs I I' → I' 154 = I 154 → ¬ sHit fl (sDq fl lw) x td T N V s → post (some (.int 0)) S R I' J) : xSpec 8 yX12_isTold cX12_isTold 6 (some .boolean) 0 0 [.ref 135, .int (nI s)] S R I J post := by
  refine xSpec_of mt_X12_isTold (Nat.le_of_ble_eq_true rfl) (fun G C0 hN hR E hI hZ => ?_)
  change XX G 0 0 0 [some (.ref 135), some (.int (nI s)), none, none, none, none] [] S R I J
  obtain ⟨wl, mF, mL, mH, wx⟩ := id C
  have hT6 := wl.2.1
  have hN8 := wl.2.2.2.1
  have hV6 := wl.2.2.2.2.2.1
  have eT : I 141 0 = nI T := (mF 0 (by decide)).trans wl.1
  have eN : I 141 1 = nI N := (mF 1 (by decide)).trans wl.2.2.1
  have eV : I 141 2 = nI V := (mF 2 (by decide)).trans wl.2.2.2.2.1
  have hb0 : 0 ≤ 2192 := by decide
  have h22 : nI s &&& (sCuttable x N ^^^ (-1)) = 0 → XX G 0 0 22 [some (.ref 135), some (.int (nI s)), none, none, none, none] [] S R I J := by
    intro hok
    have hcall : ∀ I2, MQs I I2 → I2 154 = I 154 → MHall I2 2058 (sEndCut fl (sDq fl lw) x V N s) → XX G 0 0 31 [some (.ref 135), some (.int (nI s)), some (.int (nI 1)), some (.int (nI 0)), none, none] [] S R I2 J := by
      intro I2 s2 e154 r2
      have eT2 : I2 141 0 = nI T := by rw [(C.mq s2).2.1 0 (by decide), wl.1]
      have eV2 : I2 141 2 = nI V := by rw [(C.mq s2).2.1 2 (by decide), wl.2.2.2.2.1]
      have tM2 := tM.mq s2
      have h1 := fun (b : sTold td (sEndCut fl (sDq fl lw) x V N s) V T) => h1 I2 s2 e154 r2 ⟨hok, b⟩
      have h0 := fun (b : ¬ sTold td (sEndCut fl (sDq fl lw) x V N s) V T) => h0 I2 s2 e154 (fun z => b z.2)
      generalize sEndCut fl (sDq fl lw) x V N s = y at h1 h0 r2
      have hout : ∀ n w v v4 v5, w + n = V → ((v = nI 1 ∧ (∀ u, u < w → ∀ t, t < T → td (6 * u + t) = -2 ∨ td (6 * u + t) = y (20 + 6 * u + t))) ∨ (v = nI 0 ∧ ¬ (∀ u, u < w → ∀ t, t < T → td (6 * u + t) = -2 ∨ td (6 * u + t) = y (20 + 6 * u + t)))) → XX G 0 0 31 [some (.ref 135), some (.int (nI s)), some (.int v), some (.int (nI w)), v4, v5] [] S R I2 J := by
        intro n
        induction n with
        | zero =>
          intro w v v4 v5 hn9 hv
          have hn8 : w = V := by omega
          subst hn8
          rcases hv with ⟨rfl, q⟩ | ⟨rfl, q⟩
          · refine x_iload_n C0 rfl dX12_isTold_31 ?_
            refine x_aload_n C0 rfl dX12_isTold_32 ?_
            refine x_callV [] C0 hN rfl (xRf_of hR (by decide) (Nat.zero_le _) (Nat.zero_le _)) mv_X12_watchers wm_X12_282 dX12_isTold_33 (isModel.k0 hM) rfl rfl (Nat.le_of_ble_eq_true rfl) (c_X12_watchers hM ?_)
            refine x_topi eV2 ?_
            refine x_icmp_ge (tgt := 112) C0 (by decide) dX12_isTold_36 (fun _ => ?_) (fun hkk => absurd ((Int32.le_refl _)) hkk)
            refine x_iload_n C0 rfl dX12_isTold_112 ?_
            refine x_zret C0 E (by decide) (by decide) rfl dX12_isTold_113 ?_
            exact h1 q
          · refine x_iload_n C0 rfl dX12_isTold_31 ?_
            refine x_aload_n C0 rfl dX12_isTold_32 ?_
            refine x_callV [] C0 hN rfl (xRf_of hR (by decide) (Nat.zero_le _) (Nat.zero_le _)) mv_X12_watchers wm_X12_282 dX12_isTold_33 (isModel.k0 hM) rfl rfl (Nat.le_of_ble_eq_true rfl) (c_X12_watchers hM ?_)
            refine x_topi eV2 ?_
            refine x_icmp_ge (tgt := 112) C0 (by decide) dX12_isTold_36 (fun _ => ?_) (fun hkk => absurd ((Int32.le_refl _)) hkk)
            refine x_iload_n C0 rfl dX12_isTold_112 ?_
            refine x_zret C0 E (by decide) (by decide) rfl dX12_isTold_113 ?_
            exact h0 q
        | succ n ih =>
          intro w v v4 v5 hn9 hv
          have hin : ∀ p t v v5, t + p = T → ((v = nI 1 ∧ (∀ u, u < w → ∀ t, t < T → td (6 * u + t) = -2 ∨ td (6 * u + t) = y (20 + 6 * u + t)) ∧ ∀ s, s < t → td (6 * w + s) = -2 ∨ td (6 * w + s) = y (20 + 6 * w + s)) ∨ (v = nI 0 ∧ ¬ ((∀ u, u < w → ∀ t, t < T → td (6 * u + t) = -2 ∨ td (6 * u + t) = y (20 + 6 * u + t)) ∧ ∀ s, s < t → td (6 * w + s) = -2 ∨ td (6 * w + s) = y (20 + 6 * w + s)))) → XX G 0 0 42 [some (.ref 135), some (.int (nI s)), some (.int v), some (.int (nI w)), some (.int (nI t)), v5] [] S R I2 J := by
            intro p
            induction p with
            | zero =>
              intro t v v5 hm9 hv
              have hm8 : t = T := by omega
              subst hm8
              refine x_iload C0 rfl dX12_isTold_42 ?_
              refine x_aload_n C0 rfl dX12_isTold_44 ?_
              refine x_callV [] C0 hN rfl (xRf_of hR (by decide) (Nat.zero_le _) (Nat.zero_le _)) mv_X12_things wm_X12_297 dX12_isTold_45 (isModel.k0 hM) rfl rfl (Nat.le_of_ble_eq_true rfl) (c_X12_things hM ?_)
              refine x_topi eT2 ?_
              refine x_icmp_ge (tgt := 106) C0 (by decide) dX12_isTold_48 (fun _ => ?_) (fun hkk => absurd ((Int32.le_refl _)) hkk)
              refine x_iinc (v := nI (w + 1)) (L' := [_, _, _, _, _, _]) C0 hN rfl (by decide) (nI_inc w) rfl dX12_isTold_106 ?_
              refine x_goto (tgt := 31) C0 (by decide) dX12_isTold_109 ?_
              refine ih (w + 1) v _ _ (by omega) (hv.imp (fun z => ⟨z.1, fun u hu s hs => ?_⟩) (fun z => ⟨z.1, fun y => z.2 ⟨fun u hu => y u (by omega), y w (by omega)⟩⟩))
              rcases Nat.lt_or_ge u w with g | g
              · exact z.2.1 u g s hs
              · have e : u = w := by omega
                subst e
                exact z.2.2 s hs
            | succ p ihp =>
              intro t v v5 hm9 hv
              have e6 : 62 + 6 * w + t = 62 + (6 * w + t) := by omega
              rcases hv with ⟨rfl, q⟩ | ⟨rfl, q⟩
              · refine x_iload C0 rfl dX12_isTold_42 ?_
                refine x_aload_n C0 rfl dX12_isTold_44 ?_
                refine x_callV [] C0 hN rfl (xRf_of hR (by decide) (Nat.zero_le _) (Nat.zero_le _)) mv_X12_things wm_X12_297 dX12_isTold_45 (isModel.k0 hM) rfl rfl (Nat.le_of_ble_eq_true rfl) (c_X12_things hM ?_)
                refine x_topi eT2 ?_
                refine x_icmp_ge (tgt := 106) C0 (by decide) dX12_isTold_48 (fun hkk => absurd hkk (nI_ge (by omega) (by omega))) (fun _ => ?_)
                refine x_aload_n C0 rfl dX12_isTold_51 ?_
                refine x_getR C0 wf_X12_119 (isModel.k0 hM) rfl rfl (isModel.r24 hM) dX12_isTold_52 ?_
                refine x_bipush (v := nI 62) C0 rfl dX12_isTold_55 ?_
                refine x_bipush (v := nI 6) C0 rfl dX12_isTold_57 ?_
                refine x_iload_n C0 rfl dX12_isTold_59 ?_
                refine x_imulN C0 dX12_isTold_60 ?_
                refine x_iaddN C0 dX12_isTold_61 ?_
                refine x_iload C0 rfl dX12_isTold_62 ?_
                refine x_iaddN C0 dX12_isTold_64 ?_
                refine x_ialoadN C0 (isModel.s24 hM) (by omega) (by omega) dX12_isTold_65 ?_
                refine x_topi ((congrArg (I2 151) e6).trans (tM2 (6 * w + t) (by omega))) ?_
                refine x_istore (L' := [_, _, _, _, _, _]) C0 hN (by decide) rfl dX12_isTold_66 ?_
                refine x_iload_n C0 rfl dX12_isTold_68 ?_
                refine x_if_eq (tgt := 98) C0 (by decide) dX12_isTold_69 (fun hkk => absurd hkk (by decide)) (fun _ => ?_)
                refine x_iload C0 rfl dX12_isTold_72 ?_
                refine x_bipush (v := -2) C0 rfl dX12_isTold_74 ?_
                refine x_icmp_eq (tgt := 94) C0 (by decide) dX12_isTold_76 (fun g76 => ?_) (fun g76 => ?_)
                · refine x_iconst (v := nI 1) C0 rfl dX12_isTold_94 ?_
                  refine x_goto (tgt := 99) C0 (by decide) dX12_isTold_95 ?_
                  refine x_istore_n (L' := [_, _, _, _, _, _]) C0 hN (by decide) rfl dX12_isTold_99 ?_
                  refine x_iinc (v := nI (t + 1)) (L' := [_, _, _, _, _, _]) C0 hN rfl (by decide) (nI_inc t) rfl dX12_isTold_100 ?_
                  refine x_goto (tgt := 42) C0 (by decide) dX12_isTold_103 ?_
                  exact ihp (t + 1) _ _ (by omega) (Or.inl ⟨rfl, q.1, fun s hs => by
                    rcases Nat.lt_or_ge s t with g | g
                    · exact q.2 s g
                    · have e : s = t := by omega
                      subst e
                      exact Or.inl g76⟩)
                · refine x_iload C0 rfl dX12_isTold_79 ?_
                  refine x_aload_n C0 rfl dX12_isTold_81 ?_
                  refine x_sipush (v := nI 2058) C0 rfl dX12_isTold_82 ?_
                  refine x_iload_n C0 rfl dX12_isTold_85 ?_
                  refine x_iload C0 rfl dX12_isTold_86 ?_
                  refine x_callV [_, _, _] C0 hN rfl (xRf_of hR (by decide) (Nat.zero_le _) (Nat.zero_le _)) mv_X12_thoughtOf wm_X12_325 dX12_isTold_88 (isModel.k0 hM) rfl rfl (Nat.le_of_ble_eq_true rfl) (c_X12_thoughtOf hM (by decide) (by omega) (by omega) ?_)
                  refine x_topi (mth_at r2 (by omega) (by omega)) ?_
                  refine x_icmp_ne (tgt := 98) C0 (by decide) dX12_isTold_91 (fun g91 => ?_) (fun g91 => ?_)
                  · refine x_iconst (v := nI 0) C0 rfl dX12_isTold_98 ?_
                    refine x_istore_n (L' := [_, _, _, _, _, _]) C0 hN (by decide) rfl dX12_isTold_99 ?_
                    refine x_iinc (v := nI (t + 1)) (L' := [_, _, _, _, _, _]) C0 hN rfl (by decide) (nI_inc t) rfl dX12_isTold_100 ?_
                    refine x_goto (tgt := 42) C0 (by decide) dX12_isTold_103 ?_
                    exact ihp (t + 1) _ _ (by omega) (Or.inr ⟨rfl, fun z => (z.2 t (by omega)).elim g76 g91⟩)
                  · refine x_iconst (v := nI 1) C0 rfl dX12_isTold_94 ?_
                    refine x_goto (tgt := 99) C0 (by decide) dX12_isTold_95 ?_
                    refine x_istore_n (L' := [_, _, _, _, _, _]) C0 hN (by decide) rfl dX12_isTold_99 ?_
                    refine x_iinc (v := nI (t + 1)) (L' := [_, _, _, _, _, _]) C0 hN rfl (by decide) (nI_inc t) rfl dX12_isTold_100 ?_
                    refine x_goto (tgt := 42) C0 (by decide) dX12_isTold_103 ?_
                    exact ihp (t + 1) _ _ (by omega) (Or.inl ⟨rfl, q.1, fun s hs => by
                      rcases Nat.lt_or_ge s t with g | g
                      · exact q.2 s g
                      · have e : s = t := by omega
                        subst e
                        exact Or.inr g91⟩)
              · refine x_iload C0 rfl dX12_isTold_42 ?_
                refine x_aload_n C0 rfl dX12_isTold_44 ?_
                refine x_callV [] C0 hN rfl (xRf_of hR (by decide) (Nat.zero_le _) (Nat.zero_le _)) mv_X12_things wm_X12_297 dX12_isTold_45 (isModel.k0 hM) rfl rfl (Nat.le_of_ble_eq_true rfl) (c_X12_things hM ?_)
                refine x_topi eT2 ?_
                refine x_icmp_ge (tgt := 106) C0 (by decide) dX12_isTold_48 (fun hkk => absurd hkk (nI_ge (by omega) (by omega))) (fun _ => ?_)
                refine x_aload_n C0 rfl dX12_isTold_51 ?_
                refine x_getR C0 wf_X12_119 (isModel.k0 hM) rfl rfl (isModel.r24 hM) dX12_isTold_52 ?_
                refine x_bipush (v := nI 62) C0 rfl dX12_isTold_55 ?_
                refine x_bipush (v := nI 6) C0 rfl dX12_isTold_57 ?_
                refine x_iload_n C0 rfl dX12_isTold_59 ?_
                refine x_imulN C0 dX12_isTold_60 ?_
                refine x_iaddN C0 dX12_isTold_61 ?_
                refine x_iload C0 rfl dX12_isTold_62 ?_
                refine x_iaddN C0 dX12_isTold_64 ?_
                refine x_ialoadN C0 (isModel.s24 hM) (by omega) (by omega) dX12_isTold_65 ?_
                refine x_topi ((congrArg (I2 151) e6).trans (tM2 (6 * w + t) (by omega))) ?_
                refine x_istore (L' := [_, _, _, _, _, _]) C0 hN (by decide) rfl dX12_isTold_66 ?_
                refine x_iload_n C0 rfl dX12_isTold_68 ?_
                refine x_if_eq (tgt := 98) C0 (by decide) dX12_isTold_69 (fun _ => ?_) (fun hkk => absurd (by decide) hkk)
                refine x_iconst (v := nI 0) C0 rfl dX12_isTold_98 ?_
                refine x_istore_n (L' := [_, _, _, _, _, _]) C0 hN (by decide) rfl dX12_isTold_99 ?_
                refine x_iinc (v := nI (t + 1)) (L' := [_, _, _, _, _, _]) C0 hN rfl (by decide) (nI_inc t) rfl dX12_isTold_100 ?_
                refine x_goto (tgt := 42) C0 (by decide) dX12_isTold_103 ?_
                exact ihp (t + 1) _ _ (by omega) (Or.inr ⟨rfl, fun z => q ⟨z.1, fun s hs => z.2 s (by omega)⟩⟩)
          refine x_iload_n C0 rfl dX12_isTold_31 ?_
          refine x_aload_n C0 rfl dX12_isTold_32 ?_
          refine x_callV [] C0 hN rfl (xRf_of hR (by decide) (Nat.zero_le _) (Nat.zero_le _)) mv_X12_watchers wm_X12_282 dX12_isTold_33 (isModel.k0 hM) rfl rfl (Nat.le_of_ble_eq_true rfl) (c_X12_watchers hM ?_)
          refine x_topi eV2 ?_
          refine x_icmp_ge (tgt := 112) C0 (by decide) dX12_isTold_36 (fun hkk => absurd hkk (nI_ge (by omega) (by omega))) (fun _ => ?_)
          refine x_iconst (v := nI 0) C0 rfl dX12_isTold_39 ?_
          refine x_istore (L' := [_, _, _, _, _, _]) C0 hN (by decide) rfl dX12_isTold_40 ?_
          exact hin T 0 v _ (by omega) (hv.imp (fun z => ⟨z.1, z.2, fun s hs => absurd hs (by omega)⟩) (fun z => ⟨z.1, fun y => z.2 y.1⟩))
      exact hout V 0 _ none none (by omega) (Or.inl ⟨rfl, fun u hu => absurd hu (by omega)⟩)
    refine x_aload_n C0 rfl dX12_isTold_22 ?_
    refine x_iload_n C0 rfl dX12_isTold_23 ?_
    refine x_callV [_] C0 hN rfl (xRf_of hR (by decide) (Nat.zero_le _) (Nat.zero_le _)) mv_X12_endsCut wm_X12_378 dX12_isTold_24 (isModel.k0 hM) rfl rfl (Nat.le_of_ble_eq_true rfl) (c_X12_endsCut hM C hs (fun I2 s2 e154 r2 => ?_))
    refine x_iconst (v := nI 1) C0 rfl dX12_isTold_27 ?_
    refine x_istore_n (L' := [_, _, _, _, _, _]) C0 hN (by decide) rfl dX12_isTold_28 ?_
    refine x_iconst (v := nI 0) C0 rfl dX12_isTold_29 ?_
    refine x_istore_n (L' := [_, _, _, _, _, _]) C0 hN (by decide) rfl dX12_isTold_30 ?_
    exact hcall I2 s2 e154 r2
  refine x_iload_n C0 rfl dX12_isTold_0 ?_
  refine x_aload_n C0 rfl dX12_isTold_1 ?_
  refine x_callV [] C0 hN rfl (xRf_of hR (by decide) (Nat.zero_le _) (Nat.zero_le _)) mv_X12_toCome wm_X12_375 dX12_isTold_2 (isModel.k0 hM) rfl rfl (Nat.le_of_ble_eq_true rfl) (c_X12_toCome hM C ?_)
  refine x_aload_n C0 rfl dX12_isTold_5 ?_
  refine x_getR C0 wf_X12_119 (isModel.k0 hM) rfl rfl (isModel.r24 hM) dX12_isTold_6 ?_
  refine x_iconst (v := nI 3) C0 rfl dX12_isTold_9 ?_
  refine x_ialoadN C0 (isModel.s24 hM) (by omega) (by omega) dX12_isTold_10 ?_
  refine x_topi (mH 3 (by decide)) ?_
  refine x_iconst (v := -1) C0 rfl dX12_isTold_11 ?_
  refine x_ixor C0 dX12_isTold_12 ?_
  refine x_iand C0 dX12_isTold_13 ?_
  refine x_iconst (v := -1) C0 rfl dX12_isTold_14 ?_
  refine x_ixor C0 dX12_isTold_15 ?_
  refine x_iand C0 dX12_isTold_16 ?_
  refine x_if_eq (tgt := 22) C0 (by decide) dX12_isTold_17 (fun g17 => ?_) (fun g17 => ?_)
  · exact h22 g17
  · refine x_iconst (v := nI 0) C0 rfl dX12_isTold_20 ?_
    refine x_zret C0 E (by decide) (by decide) rfl dX12_isTold_21 ?_
    exact h0 I MQs.rf rfl (fun z => g17 z.1)
