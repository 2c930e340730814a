/-! THE REFERENCE CUTS ITS TAPE, on -/
/-- nt tokens are cut -/
def CutS (I : xTI) (J : xTJ) (tp : Nat → Nat) (n nt : Nat) : Prop := ∀ i, i < nt → (tTok tp n i).1 ≠ 0 ∧ MTi I J i (tTok tp n i)
def CutF (I : xTI) (J : xTJ) (I' : xTI) (J' : xTJ) : Prop := (∀ a, a ≠ 135 → a ≠ 137 → a ≠ 138 → I' a = I a) ∧ (∀ k, k ≠ 2 → k ≠ 3 → k ≠ 7 → k ≠ 8 → I' 135 k = I 135 k) ∧ (∀ a, a ≠ 139 → J' a = J a)
/-- tokens c lie before the reference -/
def MTk (I : xTI) (J : xTJ) (tp : Nat → Nat) (n c : Nat) : Prop := c ≤ n ∧ n ≤ 1000 ∧ (∀ i, i < n → tp i < 128) ∧ (tTok tp n c).1 = 0 ∧ ∀ i, i ≤ c → (i < c → (tTok tp n i).1 ≠ 0) ∧ MTi I J i (tTok tp n i)
theorem CutS.put {I I' : xTI} {J J' : xTJ} {tp : Nat → Nat} {n nt : Nat} (h : CutS I J tp n nt) (e7 : ∀ i, i ≠ nt → I' 137 i = I 137 i) (e8 : ∀ i, i ≠ nt → I' 138 i = I 138 i) (e9 : ∀ i, i ≠ nt → J' 139 i = J 139 i) (h0 : (tTok tp n nt).1 ≠ 0) (hm : MTi I' J' nt (tTok tp n nt)) : CutS I' J' tp n (nt + 1) := fun i hi => by
  by_cases e : i = nt
  · rw [e]; exact ⟨h0, hm⟩
  · have := h i (by omega)
    unfold MTi at this ⊢
    rw [e7 i e, e8 i e, e9 i e]
    exact this
theorem c_X12_cutAll {S : xTS} {R : xTR} {I : xTI} {J : xTJ} {post : xPost} (hM : isModel S R) {tp : Nat → Nat} {n : Nat} (T : MTp I tp n) (hp : ∀ I' J' c, CutF I J I' J' → I' 135 2 = nI 0 → I' 135 3 = nI n → I' 135 7 = nI 0 → I' 135 8 = nI 0 → MTk I' J' tp n c → post none S R I' J') : xSpec 3 yX12_cutAll cX12_cutAll 7 none 0 0 [.ref 135] S R I J post := by
  refine xSpec_of mt_X12_cutAll (Nat.le_of_ble_eq_true rfl) (fun G C0 hN hR E hI hZ => ?_)
  change XX G 0 0 0 [some (.ref 135), none, none, none, none, none, none] [] S R I J
  have hch : ∀ i, i < n → tp i < 128 := fun i hi => (T.2.2 i hi).2
  have hn := T.2.1
  have h17 : ∀ q k nt I1 J1 x3 x4 x5 x6, n ≤ k + q → k ≤ n → nt ≤ k → CutF I J I1 J1 → I1 135 2 = nI 0 → I1 135 3 = nI n → rnTo bB tp n k = tP tp n nt → CutS I1 J1 tp n nt → XX G 0 0 17 [some (.ref 135), some (.int (nI nt)), some (.int (nI k)), x3, x4, x5, x6] [] S R I1 J1 := by
    intro q
    induction q with
    | zero =>
      intro k nt I1 J1 x3 x4 x5 x6 hq hk hnt f1 e2 e3 eP M1
      have hkn : k = n := by omega
      subst hkn
      have hPn : tP tp k nt = k := by rw [← eP]; exact rnTo_end (Nat.le_refl _)
      have h0 : (tTok tp k nt).1 = 0 := tKind_0.mpr (by rw [hPn]; exact Nat.le_refl _)
      refine x_iload_n C0 rfl dX12_cutAll_17 ?_
      refine x_aload_n C0 rfl dX12_cutAll_18 ?_
      refine x_getI C0 wf_X12_143 (isModel.k0 hM) rfl dX12_cutAll_19 ?_
      refine x_topi e3 ?_
      refine x_icmp_ge (tgt := 279) C0 (by decide) dX12_cutAll_22 (fun _ => ?_) (fun hkk => absurd ((Int32.le_refl _)) hkk)
      refine x_aload_n C0 rfl dX12_cutAll_279 ?_
      refine x_getR C0 wf_X12_24 (isModel.k0 hM) rfl rfl (isModel.r4 hM) dX12_cutAll_280 ?_
      refine x_iload_n C0 rfl dX12_cutAll_283 ?_
      refine x_iconst (v := nI 0) C0 rfl dX12_cutAll_284 ?_
      refine x_iastoreN C0 (isModel.s4 hM) (by omega) (by omega) dX12_cutAll_285 ?_
      refine x_aload_n C0 rfl dX12_cutAll_286 ?_
      refine x_getR C0 wf_X12_27 (isModel.k0 hM) rfl rfl (isModel.r5 hM) dX12_cutAll_287 ?_
      refine x_iload_n C0 rfl dX12_cutAll_290 ?_
      refine x_aload_n C0 rfl dX12_cutAll_291 ?_
      refine x_getI C0 wf_X12_143 (isModel.k0 hM) rfl dX12_cutAll_292 ?_
      refine x_topi (show u2 I1 137 nt (nI 0) 135 3 = nI k by rw [u2_row _ _ _ (by decide)]; exact e3) ?_
      refine x_iastoreN C0 (isModel.s5 hM) (by omega) (by omega) dX12_cutAll_295 ?_
      refine x_aload_n C0 rfl dX12_cutAll_296 ?_
      refine x_iconst (v := nI 0) C0 rfl dX12_cutAll_297 ?_
      refine x_putI C0 wf_X12_162 (isModel.k0 hM) rfl dX12_cutAll_298 ?_
      refine x_aload_n C0 rfl dX12_cutAll_301 ?_
      refine x_iconst (v := nI 0) C0 rfl dX12_cutAll_302 ?_
      refine x_putI C0 wf_X12_165 (isModel.k0 hM) rfl dX12_cutAll_303 ?_
      refine x_vret C0 E (by decide) (by decide) dX12_cutAll_306 ?_
      refine hp _ _ nt ⟨fun a a1 a2 a3 => ?_, fun j j1 j2 j3 j4 => ?_, f1.2.2⟩ ?_ ?_ ?_ ?_ ⟨by omega, hn, hch, h0, fun i hi => ⟨fun z => (M1 i z).1, ?_⟩⟩
      · rw [u2_row _ _ _ a1, u2_row _ _ _ a1, u2_row _ _ _ a3, u2_row _ _ _ a2]; exact f1.1 a a1 a2 a3
      · rw [u2_off _ _ j4, u2_off _ _ j3, u2_row _ _ _ (by decide), u2_row _ _ _ (by decide)]; exact f1.2.1 j j1 j2 j3 j4
      · rw [u2_off _ _ (by decide), u2_off _ _ (by decide), u2_row _ _ _ (by decide), u2_row _ _ _ (by decide)]; exact e2
      · rw [u2_off _ _ (by decide), u2_off _ _ (by decide), u2_row _ _ _ (by decide), u2_row _ _ _ (by decide)]; exact e3
      · rw [u2_off _ _ (by decide), u2_same]
      · rw [u2_same]
      · unfold MTi
        rw [u2_row _ _ _ (show 137 ≠ 135 by decide), u2_row _ _ _ (show 137 ≠ 135 by decide), u2_row _ _ _ (show 137 ≠ 138 by decide), u2_row _ _ _ (show 138 ≠ 135 by decide), u2_row _ _ _ (show 138 ≠ 135 by decide)]
        by_cases e : i = nt
        · rw [e, u2_same, u2_same, h0]
          refine ⟨rfl, ?_, fun z => by rcases z with z | z | z <;> cases z⟩
          show nI k = nI (tP tp k nt)
          rw [hPn]
        · rw [u2_off _ _ e, u2_off _ _ e, u2_row _ _ _ (show 138 ≠ 137 by decide)]
          exact (M1 i (by omega)).2
    | succ q ih =>
      intro k nt I1 J1 x3 x4 x5 x6 hq hk hnt f1 e2 e3 eP M1
      by_cases hkn : k = n
      · exact ih k nt I1 J1 x3 x4 x5 x6 (by omega) hk hnt f1 e2 e3 eP M1
      have hkl : k < n := by omega
      have T1 : ∀ i, i < n → I1 136 i = nI (tp i) := fun i hi => by rw [f1.1 136 (by decide) (by decide) (by decide)]; exact (T.2.2 i hi).1
      have hc9 := hch k hkl
      have ih := fun k2 nt2 I2 J2 x3 x4 x5 x6 (g : n ≤ k2 + q) => ih k2 nt2 I2 J2 x3 x4 x5 x6 g
      have h44 : bB (tp k) = true → XX G 0 0 44 [some (.ref 135), some (.int (nI nt)), some (.int (nI k)), some (.int (nI (tp k))), x4, x5, x6] [] S R I1 J1 := by
        intro hb
        refine x_iinc (v := nI (k + 1)) (L' := [_, _, _, _, _, _, _]) C0 hN rfl (by decide) (nI_inc k) rfl dX12_cutAll_44 ?_
        refine x_goto (tgt := 17) C0 (by decide) dX12_cutAll_47 ?_
        exact ih (k + 1) nt I1 J1 _ _ _ _ (by omega) hkl (by omega) f1 e2 e3 (by rw [← rnTo_yes hkl hb]; exact eP) M1
      have h265 : ∀ I2 x3 x4 w, CutF I J I2 J1 → I2 135 2 = nI 0 → I2 135 3 = nI n → (∀ i, i ≠ nt → I2 137 i = I1 137 i) → (∀ i, i ≠ nt → I2 138 i = I1 138 i) → tP tp n nt = k → I2 137 nt = nI (tKind tp n k) → I2 138 nt = nI k → (tKind tp n k = 1 ∨ tKind tp n k = 2 ∨ tKind tp n k = 3 → w = Int64.ofNat (mV (tKind tp n k, tVal tp n k, k))) → XX G 0 0 265 [some (.ref 135), some (.int (nI nt)), some (.int (nI (tEnd tp n k))), x3, x4, some (.long w), none] [] S R I2 J1 := by
        intro I2 x3 x4 w g1 g2 g3 g4 g5 eP2 g6 g7 g8
        have hE := tEnd_le (tp := tp) hk
        have hE2 := hE.2 hkl
        have eT : tTok tp n nt = (tKind tp n k, tVal tp n k, k) := by unfold tTok; rw [eP2]
        refine x_aload_n C0 rfl dX12_cutAll_265 ?_
        refine x_getR C0 wf_X12_30 (isModel.k0 hM) rfl rfl (isModel.r6 hM) dX12_cutAll_266 ?_
        refine x_iload_n C0 rfl dX12_cutAll_269 ?_
        refine x_lload C0 rfl dX12_cutAll_270 ?_
        refine x_lastoreN C0 (isModel.s6 hM) (by omega) (by omega) dX12_cutAll_272 ?_
        refine x_iinc (v := nI (nt + 1)) (L' := [_, _, _, _, _, _, _]) C0 hN rfl (by decide) (nI_inc nt) rfl dX12_cutAll_273 ?_
        refine x_goto (tgt := 17) C0 (by decide) dX12_cutAll_276 ?_
        refine ih (tEnd tp n k) (nt + 1) _ _ _ _ _ _ (by omega) hE.1 (by omega) ⟨g1.1, g1.2.1, fun a h => by rw [u2_row _ _ _ h]; exact g1.2.2 a h⟩ g2 g3 ?_ (M1.put g4 g5 (fun i hi => u2_off _ _ hi) ?_ ?_)
        · have : tP tp n (nt + 1) = rnTo bB tp n (tEnd tp n (tP tp n nt)) := rfl
          rw [this, eP2]
        · rw [eT]
          exact fun z => by have := tKind_0.mp z; omega
        · rw [eT]
          exact ⟨g6, g7, fun z => by rw [u2_same]; exact g8 z⟩
      have ws : ∀ k2, k ≤ k2 → k2 - k < 8 → (∀ i, k ≤ i → i < k2 → tp i ≤ 122) → 97 ≤ tp k2 ∧ tp k2 ≤ 122 → 37 * Int64.ofNat (cv (wNm tp k (k2 - k))) + (nI (tp k2 - 96)).toInt64 = Int64.ofNat (cv (wNm tp k (k2 - k + 1))) := fun k2 h1 h2 h3 h4 => by
        have e : k + (k2 - k) = k2 := by omega
        have := w_step (tp := tp) (k := k) (j := k2 - k) h2 (fun i hi => h3 (k + i) (by omega) (by omega)) (by rw [e]; exact h4.1) (by rw [e]; exact h4.2)
        rw [e] at this
        exact this
      have ds : ∀ k2, k ≤ k2 → 48 ≤ tp k2 ∧ tp k2 ≤ 57 → 10 * Int64.ofNat (dNm tp k (k2 - k)) + (nI (tp k2)).toInt64 - 48 = Int64.ofNat (dNm tp k (k2 - k + 1)) := fun k2 h1 h4 => by
        have e : k + (k2 - k) = k2 := by omega
        have := d_step (tp := tp) (k := k) (j := k2 - k) (by rw [e]; exact h4.1) (by rw [e]; exact h4.2)
        rw [e] at this
        exact this
      have h70 : bL (tp k) = true → tP tp n nt = k → tEnd tp n k = rnTo bL tp n k → tKind tp n k = (if rnTo bL tp n k - k ≤ 8 then 1 else 4) → (rnTo bL tp n k - k ≤ 8 → mV (tKind tp n k, tVal tp n k, k) = (cv (wNm tp k (rnTo bL tp n k - k)))) → ∀ q2 k2, k2 + q2 = n → k ≤ k2 → (∀ i, k ≤ i → i < k2 → bL (tp i) = true) → rnTo bL tp n k2 = rnTo bL tp n k → XX G 0 0 70 [some (.ref 135), some (.int (nI nt)), some (.int (nI k2)), some (.int (nI (tp k))), some (.int (nI k)), some (.long (Int64.ofNat (cv (wNm tp k (min (k2 - k) 8))))), none] [] S R (u2 I1 138 nt (nI k)) J1 := by
        intro hb eP2 eE eK eV
        have hex : ∀ k2, k2 = rnTo bL tp n k → XX G 0 0 129 [some (.ref 135), some (.int (nI nt)), some (.int (nI k2)), some (.int (nI (tp k))), some (.int (nI k)), some (.long (Int64.ofNat (cv (wNm tp k (min (k2 - k) 8))))), none] [] S R (u2 I1 138 nt (nI k)) J1 := by
          intro k2 ek
          have hge : k ≤ rnTo bL tp n k := rnTo_ge
          have hle : rnTo bL tp n k ≤ n := rnTo_le hk
          refine x_aload_n C0 rfl dX12_cutAll_129 ?_
          refine x_getR C0 wf_X12_24 (isModel.k0 hM) rfl rfl (isModel.r4 hM) dX12_cutAll_130 ?_
          refine x_iload_n C0 rfl dX12_cutAll_133 ?_
          refine x_iload_n C0 rfl dX12_cutAll_134 ?_
          refine x_iload C0 rfl dX12_cutAll_135 ?_
          refine x_isub C0 dX12_cutAll_137 ?_
          refine x_topi (nI_subn (by omega)) ?_
          refine x_bipush (v := nI 8) C0 rfl dX12_cutAll_138 ?_
          refine x_icmp_le (tgt := 147) C0 (by decide) dX12_cutAll_140 (fun g8 => ?_) (fun g8 => ?_)
          · refine x_iconst (v := nI 1) C0 rfl dX12_cutAll_147 ?_
            refine x_iastoreN C0 (isModel.s4 hM) (by omega) (by omega) dX12_cutAll_148 ?_
            refine x_goto (tgt := 265) C0 (by decide) dX12_cutAll_149 ?_
            have g8x : rnTo bL tp n k - k ≤ 8 := by rw [← ek]; exact (nI_le_iff (by omega) (by omega)).mp g8
            have hK : tKind tp n k = 1 := by rw [eK, if_pos g8x]
            have := h265 (u2 (u2 I1 138 nt (nI k)) 137 nt (nI 1)) (some (.int (nI (tp k)))) (some (.int (nI k))) (Int64.ofNat (cv (wNm tp k (min (k2 - k) 8)))) ⟨fun a a1 a2 a3 => by rw [u2_row _ _ _ a2, u2_row _ _ _ a3]; exact f1.1 a a1 a2 a3, fun j j1 j2 j3 j4 => by rw [u2_row _ _ _ (by decide), u2_row _ _ _ (by decide)]; exact f1.2.1 j j1 j2 j3 j4, f1.2.2⟩ (by rw [u2_row _ _ _ (by decide), u2_row _ _ _ (by decide)]; exact e2) (by rw [u2_row _ _ _ (by decide), u2_row _ _ _ (by decide)]; exact e3) (fun i hi => by rw [u2_off _ _ hi, u2_row _ _ _ (by decide)]) (fun i hi => by rw [u2_row _ _ _ (by decide), u2_off _ _ hi]) eP2 (by rw [u2_same, hK]) (by rw [u2_row _ _ _ (by decide), u2_same]) (fun z => by rw [eV g8x, ek, Nat.min_eq_left g8x])
            rw [eE, ← ek] at this
            exact this
          · refine x_iconst (v := nI 4) C0 rfl dX12_cutAll_143 ?_
            refine x_goto (tgt := 148) C0 (by decide) dX12_cutAll_144 ?_
            refine x_iastoreN C0 (isModel.s4 hM) (by omega) (by omega) dX12_cutAll_148 ?_
            refine x_goto (tgt := 265) C0 (by decide) dX12_cutAll_149 ?_
            have g8x : ¬ rnTo bL tp n k - k ≤ 8 := fun z => g8 ((nI_le_iff (by omega) (by omega)).mpr (by rw [ek]; exact z))
            have hK : tKind tp n k = 4 := by rw [eK, if_neg g8x]
            have := h265 (u2 (u2 I1 138 nt (nI k)) 137 nt (nI 4)) (some (.int (nI (tp k)))) (some (.int (nI k))) (Int64.ofNat (cv (wNm tp k (min (k2 - k) 8)))) ⟨fun a a1 a2 a3 => by rw [u2_row _ _ _ a2, u2_row _ _ _ a3]; exact f1.1 a a1 a2 a3, fun j j1 j2 j3 j4 => by rw [u2_row _ _ _ (by decide), u2_row _ _ _ (by decide)]; exact f1.2.1 j j1 j2 j3 j4, f1.2.2⟩ (by rw [u2_row _ _ _ (by decide), u2_row _ _ _ (by decide)]; exact e2) (by rw [u2_row _ _ _ (by decide), u2_row _ _ _ (by decide)]; exact e3) (fun i hi => by rw [u2_off _ _ hi, u2_row _ _ _ (by decide)]) (fun i hi => by rw [u2_row _ _ _ (by decide), u2_off _ _ hi]) eP2 (by rw [u2_same, hK]) (by rw [u2_row _ _ _ (by decide), u2_same]) (fun z => by rw [hK] at z; rcases z with z | z | z <;> cases z)
            rw [eE, ← ek] at this
            exact this
        intro q2
        induction q2 with
        | zero =>
          intro k2 hq2 hk2 hall er
          have hkn2 : k2 = n := by omega
          refine x_iload_n C0 rfl dX12_cutAll_70 ?_
          refine x_aload_n C0 rfl dX12_cutAll_71 ?_
          refine x_getI C0 wf_X12_143 (isModel.k0 hM) rfl dX12_cutAll_72 ?_
          refine x_topi (show u2 I1 138 nt (nI k) 135 3 = nI n by rw [u2_row _ _ _ (by decide)]; exact e3) ?_
          refine x_icmp_ge (tgt := 129) C0 (by decide) dX12_cutAll_75 (fun _ => ?_) (fun hkk => absurd ((by rw [hkn2]; exact Int32.le_refl _)) hkk)
          exact hex k2 (by rw [← er, rnTo_end (by omega)])
        | succ q2 ih2 =>
          intro k2 hq2 hk2 hall er
          have hk2l : k2 < n := by omega
          have hc2 := hch k2 hk2l
          have T2 : u2 I1 138 nt (nI k) 136 k2 = nI (tp k2) := by rw [u2_row _ _ _ (by decide)]; exact T1 k2 hk2l
          refine x_iload_n C0 rfl dX12_cutAll_70 ?_
          refine x_aload_n C0 rfl dX12_cutAll_71 ?_
          refine x_getI C0 wf_X12_143 (isModel.k0 hM) rfl dX12_cutAll_72 ?_
          refine x_topi (show u2 I1 138 nt (nI k) 135 3 = nI n by rw [u2_row _ _ _ (by decide)]; exact e3) ?_
          refine x_icmp_ge (tgt := 129) C0 (by decide) dX12_cutAll_75 (fun hkk => absurd hkk ((nI_ge (by omega) (by omega)))) (fun _ => ?_)
          refine x_aload_n C0 rfl dX12_cutAll_78 ?_
          refine x_getR C0 wf_X12_14 (isModel.k0 hM) rfl rfl (isModel.r1 hM) dX12_cutAll_79 ?_
          refine x_iload_n C0 rfl dX12_cutAll_82 ?_
          refine x_ialoadN C0 (isModel.s1 hM) (by omega) (by omega) dX12_cutAll_83 ?_
          refine x_topi T2 ?_
          refine x_callS [_] C0 (xRf_of hR (by decide) (Nat.zero_le _) (Nat.zero_le _)) ms_X12_isLetter wm_X12_139 dX12_cutAll_84 rfl rfl (Nat.le_of_ble_eq_true rfl) (c_X12_isLetter (by omega) (fun g9 => ?_) (fun g9 => ?_))
          · refine x_if_eq (tgt := 129) C0 (by decide) dX12_cutAll_87 (fun hkk => absurd hkk (by decide)) (fun _ => ?_)
            refine x_iload_n C0 rfl dX12_cutAll_90 ?_
            refine x_iload C0 rfl dX12_cutAll_91 ?_
            refine x_isub C0 dX12_cutAll_93 ?_
            refine x_topi (nI_subn hk2) ?_
            refine x_bipush (v := nI 8) C0 rfl dX12_cutAll_94 ?_
            refine x_icmp_ge (tgt := 119) C0 (by decide) dX12_cutAll_96 (fun gc => ?_) (fun gc => ?_)
            · refine x_lload C0 rfl dX12_cutAll_119 ?_
              refine x_lstore (L' := [_, _, _, _, _, _, _]) C0 hN (by decide) rfl dX12_cutAll_121 ?_
              refine x_iinc (v := nI (k2 + 1)) (L' := [_, _, _, _, _, _, _]) C0 hN rfl (by decide) (nI_inc k2) rfl dX12_cutAll_123 ?_
              refine x_goto (tgt := 70) C0 (by decide) dX12_cutAll_126 ?_
              have g8k : 8 ≤ k2 - k := (nI_le_iff (by omega) (by omega)).mp gc
              have h9 := ih2 (k2 + 1) (by omega) (by omega) (fun i hi1 hi2 => by
                by_cases e : i = k2
                · rw [e]; exact g9
                · exact hall i hi1 (by omega)) (by rw [← rnTo_yes hk2l g9]; exact er)
              rw [show min (k2 + 1 - k) 8 = min (k2 - k) 8 by omega] at h9
              exact h9
            · have gj : k2 - k < 8 := Nat.lt_of_not_le (fun z => gc ((nI_le_iff (by omega) (by omega)).mpr z))
              rw [show min (k2 - k) 8 = k2 - k by omega]
              refine x_ldc2 C0 wl_X12_146 dX12_cutAll_99 ?_
              refine x_lload C0 rfl dX12_cutAll_102 ?_
              refine x_lmul C0 dX12_cutAll_104 ?_
              refine x_aload_n C0 rfl dX12_cutAll_105 ?_
              refine x_getR C0 wf_X12_14 (isModel.k0 hM) rfl rfl (isModel.r1 hM) dX12_cutAll_106 ?_
              refine x_iload_n C0 rfl dX12_cutAll_109 ?_
              refine x_ialoadN C0 (isModel.s1 hM) (by omega) (by omega) dX12_cutAll_110 ?_
              refine x_topi T2 ?_
              refine x_callS [_] C0 (xRf_of hR (by decide) (Nat.zero_le _) (Nat.zero_le _)) ms_X12_rank wm_X12_148 dX12_cutAll_111 rfl rfl (Nat.le_of_ble_eq_true rfl) (c_X12_rank g9 ?_)
              refine x_i2l C0 dX12_cutAll_114 ?_
              refine x_ladd C0 dX12_cutAll_115 ?_
              refine x_topl (ws k2 hk2 gj (fun i h1 h2 => (bL_iff.mp (hall i h1 h2)).2) (bL_iff.mp g9)) ?_
              refine x_goto (tgt := 121) C0 (by decide) dX12_cutAll_116 ?_
              refine x_lstore (L' := [_, _, _, _, _, _, _]) C0 hN (by decide) rfl dX12_cutAll_121 ?_
              refine x_iinc (v := nI (k2 + 1)) (L' := [_, _, _, _, _, _, _]) C0 hN rfl (by decide) (nI_inc k2) rfl dX12_cutAll_123 ?_
              refine x_goto (tgt := 70) C0 (by decide) dX12_cutAll_126 ?_
              have h9 := ih2 (k2 + 1) (by omega) (by omega) (fun i hi1 hi2 => by
                by_cases e : i = k2
                · rw [e]; exact g9
                · exact hall i hi1 (by omega)) (by rw [← rnTo_yes hk2l g9]; exact er)
              rw [show min (k2 + 1 - k) 8 = k2 - k + 1 by omega] at h9
              exact h9
          · refine x_if_eq (tgt := 129) C0 (by decide) dX12_cutAll_87 (fun _ => ?_) (fun hkk => absurd (by decide) hkk)
            exact hex k2 (by rw [← er, rnTo_no hk2l g9])
      have h159 : bD (tp k) = true → tP tp n nt = k → tEnd tp n k = rnTo bD tp n k → tKind tp n k = (if rnTo bD tp n k - k ≤ 4 then 2 else 4) → (rnTo bD tp n k - k ≤ 4 → mV (tKind tp n k, tVal tp n k, k) = (dNm tp k (rnTo bD tp n k - k))) → ∀ q2 k2, k2 + q2 = n → k ≤ k2 → (∀ i, k ≤ i → i < k2 → bD (tp i) = true) → rnTo bD tp n k2 = rnTo bD tp n k → XX G 0 0 159 [some (.ref 135), some (.int (nI nt)), some (.int (nI k2)), some (.int (nI (tp k))), some (.int (nI k)), some (.long (Int64.ofNat (dNm tp k (min (k2 - k) 4)))), none] [] S R (u2 I1 138 nt (nI k)) J1 := by
        intro hb eP2 eE eK eV
        have hex : ∀ k2, k2 = rnTo bD tp n k → XX G 0 0 218 [some (.ref 135), some (.int (nI nt)), some (.int (nI k2)), some (.int (nI (tp k))), some (.int (nI k)), some (.long (Int64.ofNat (dNm tp k (min (k2 - k) 4)))), none] [] S R (u2 I1 138 nt (nI k)) J1 := by
          intro k2 ek
          have hge : k ≤ rnTo bD tp n k := rnTo_ge
          have hle : rnTo bD tp n k ≤ n := rnTo_le hk
          refine x_aload_n C0 rfl dX12_cutAll_218 ?_
          refine x_getR C0 wf_X12_24 (isModel.k0 hM) rfl rfl (isModel.r4 hM) dX12_cutAll_219 ?_
          refine x_iload_n C0 rfl dX12_cutAll_222 ?_
          refine x_iload_n C0 rfl dX12_cutAll_223 ?_
          refine x_iload C0 rfl dX12_cutAll_224 ?_
          refine x_isub C0 dX12_cutAll_226 ?_
          refine x_topi (nI_subn (by omega)) ?_
          refine x_iconst (v := nI 4) C0 rfl dX12_cutAll_227 ?_
          refine x_icmp_le (tgt := 235) C0 (by decide) dX12_cutAll_228 (fun g8 => ?_) (fun g8 => ?_)
          · refine x_iconst (v := nI 2) C0 rfl dX12_cutAll_235 ?_
            refine x_iastoreN C0 (isModel.s4 hM) (by omega) (by omega) dX12_cutAll_236 ?_
            refine x_goto (tgt := 265) C0 (by decide) dX12_cutAll_237 ?_
            have g8x : rnTo bD tp n k - k ≤ 4 := by rw [← ek]; exact (nI_le_iff (by omega) (by omega)).mp g8
            have hK : tKind tp n k = 2 := by rw [eK, if_pos g8x]
            have := h265 (u2 (u2 I1 138 nt (nI k)) 137 nt (nI 2)) (some (.int (nI (tp k)))) (some (.int (nI k))) (Int64.ofNat (dNm tp k (min (k2 - k) 4))) ⟨fun a a1 a2 a3 => by rw [u2_row _ _ _ a2, u2_row _ _ _ a3]; exact f1.1 a a1 a2 a3, fun j j1 j2 j3 j4 => by rw [u2_row _ _ _ (by decide), u2_row _ _ _ (by decide)]; exact f1.2.1 j j1 j2 j3 j4, f1.2.2⟩ (by rw [u2_row _ _ _ (by decide), u2_row _ _ _ (by decide)]; exact e2) (by rw [u2_row _ _ _ (by decide), u2_row _ _ _ (by decide)]; exact e3) (fun i hi => by rw [u2_off _ _ hi, u2_row _ _ _ (by decide)]) (fun i hi => by rw [u2_row _ _ _ (by decide), u2_off _ _ hi]) eP2 (by rw [u2_same, hK]) (by rw [u2_row _ _ _ (by decide), u2_same]) (fun z => by rw [eV g8x, ek, Nat.min_eq_left g8x])
            rw [eE, ← ek] at this
            exact this
          · refine x_iconst (v := nI 4) C0 rfl dX12_cutAll_231 ?_
            refine x_goto (tgt := 236) C0 (by decide) dX12_cutAll_232 ?_
            refine x_iastoreN C0 (isModel.s4 hM) (by omega) (by omega) dX12_cutAll_236 ?_
            refine x_goto (tgt := 265) C0 (by decide) dX12_cutAll_237 ?_
            have g8x : ¬ rnTo bD tp n k - k ≤ 4 := fun z => g8 ((nI_le_iff (by omega) (by omega)).mpr (by rw [ek]; exact z))
            have hK : tKind tp n k = 4 := by rw [eK, if_neg g8x]
            have := h265 (u2 (u2 I1 138 nt (nI k)) 137 nt (nI 4)) (some (.int (nI (tp k)))) (some (.int (nI k))) (Int64.ofNat (dNm tp k (min (k2 - k) 4))) ⟨fun a a1 a2 a3 => by rw [u2_row _ _ _ a2, u2_row _ _ _ a3]; exact f1.1 a a1 a2 a3, fun j j1 j2 j3 j4 => by rw [u2_row _ _ _ (by decide), u2_row _ _ _ (by decide)]; exact f1.2.1 j j1 j2 j3 j4, f1.2.2⟩ (by rw [u2_row _ _ _ (by decide), u2_row _ _ _ (by decide)]; exact e2) (by rw [u2_row _ _ _ (by decide), u2_row _ _ _ (by decide)]; exact e3) (fun i hi => by rw [u2_off _ _ hi, u2_row _ _ _ (by decide)]) (fun i hi => by rw [u2_row _ _ _ (by decide), u2_off _ _ hi]) eP2 (by rw [u2_same, hK]) (by rw [u2_row _ _ _ (by decide), u2_same]) (fun z => by rw [hK] at z; rcases z with z | z | z <;> cases z)
            rw [eE, ← ek] at this
            exact this
        intro q2
        induction q2 with
        | zero =>
          intro k2 hq2 hk2 hall er
          have hkn2 : k2 = n := by omega
          refine x_iload_n C0 rfl dX12_cutAll_159 ?_
          refine x_aload_n C0 rfl dX12_cutAll_160 ?_
          refine x_getI C0 wf_X12_143 (isModel.k0 hM) rfl dX12_cutAll_161 ?_
          refine x_topi (show u2 I1 138 nt (nI k) 135 3 = nI n by rw [u2_row _ _ _ (by decide)]; exact e3) ?_
          refine x_icmp_ge (tgt := 218) C0 (by decide) dX12_cutAll_164 (fun _ => ?_) (fun hkk => absurd ((by rw [hkn2]; exact Int32.le_refl _)) hkk)
          exact hex k2 (by rw [← er, rnTo_end (by omega)])
        | succ q2 ih2 =>
          intro k2 hq2 hk2 hall er
          have hk2l : k2 < n := by omega
          have hc2 := hch k2 hk2l
          have T2 : u2 I1 138 nt (nI k) 136 k2 = nI (tp k2) := by rw [u2_row _ _ _ (by decide)]; exact T1 k2 hk2l
          refine x_iload_n C0 rfl dX12_cutAll_159 ?_
          refine x_aload_n C0 rfl dX12_cutAll_160 ?_
          refine x_getI C0 wf_X12_143 (isModel.k0 hM) rfl dX12_cutAll_161 ?_
          refine x_topi (show u2 I1 138 nt (nI k) 135 3 = nI n by rw [u2_row _ _ _ (by decide)]; exact e3) ?_
          refine x_icmp_ge (tgt := 218) C0 (by decide) dX12_cutAll_164 (fun hkk => absurd hkk ((nI_ge (by omega) (by omega)))) (fun _ => ?_)
          refine x_aload_n C0 rfl dX12_cutAll_167 ?_
          refine x_getR C0 wf_X12_14 (isModel.k0 hM) rfl rfl (isModel.r1 hM) dX12_cutAll_168 ?_
          refine x_iload_n C0 rfl dX12_cutAll_171 ?_
          refine x_ialoadN C0 (isModel.s1 hM) (by omega) (by omega) dX12_cutAll_172 ?_
          refine x_topi T2 ?_
          refine x_callS [_] C0 (xRf_of hR (by decide) (Nat.zero_le _) (Nat.zero_le _)) ms_X12_isDigit wm_X12_152 dX12_cutAll_173 rfl rfl (Nat.le_of_ble_eq_true rfl) (c_X12_isDigit (by omega) (fun g9 => ?_) (fun g9 => ?_))
          · refine x_if_eq (tgt := 218) C0 (by decide) dX12_cutAll_176 (fun hkk => absurd hkk (by decide)) (fun _ => ?_)
            refine x_iload_n C0 rfl dX12_cutAll_179 ?_
            refine x_iload C0 rfl dX12_cutAll_180 ?_
            refine x_isub C0 dX12_cutAll_182 ?_
            refine x_topi (nI_subn hk2) ?_
            refine x_iconst (v := nI 4) C0 rfl dX12_cutAll_183 ?_
            refine x_icmp_ge (tgt := 208) C0 (by decide) dX12_cutAll_184 (fun gc => ?_) (fun gc => ?_)
            · refine x_lload C0 rfl dX12_cutAll_208 ?_
              refine x_lstore (L' := [_, _, _, _, _, _, _]) C0 hN (by decide) rfl dX12_cutAll_210 ?_
              refine x_iinc (v := nI (k2 + 1)) (L' := [_, _, _, _, _, _, _]) C0 hN rfl (by decide) (nI_inc k2) rfl dX12_cutAll_212 ?_
              refine x_goto (tgt := 159) C0 (by decide) dX12_cutAll_215 ?_
              have g8k : 4 ≤ k2 - k := (nI_le_iff (by omega) (by omega)).mp gc
              have h9 := ih2 (k2 + 1) (by omega) (by omega) (fun i hi1 hi2 => by
                by_cases e : i = k2
                · rw [e]; exact g9
                · exact hall i hi1 (by omega)) (by rw [← rnTo_yes hk2l g9]; exact er)
              rw [show min (k2 + 1 - k) 4 = min (k2 - k) 4 by omega] at h9
              exact h9
            · have gj : k2 - k < 4 := Nat.lt_of_not_le (fun z => gc ((nI_le_iff (by omega) (by omega)).mpr z))
              rw [show min (k2 - k) 4 = k2 - k by omega]
              refine x_ldc2 C0 wl_X12_155 dX12_cutAll_187 ?_
              refine x_lload C0 rfl dX12_cutAll_190 ?_
              refine x_lmul C0 dX12_cutAll_192 ?_
              refine x_aload_n C0 rfl dX12_cutAll_193 ?_
              refine x_getR C0 wf_X12_14 (isModel.k0 hM) rfl rfl (isModel.r1 hM) dX12_cutAll_194 ?_
              refine x_iload_n C0 rfl dX12_cutAll_197 ?_
              refine x_ialoadN C0 (isModel.s1 hM) (by omega) (by omega) dX12_cutAll_198 ?_
              refine x_topi T2 ?_
              refine x_i2l C0 dX12_cutAll_199 ?_
              refine x_ladd C0 dX12_cutAll_200 ?_
              refine x_ldc2 C0 wl_X12_157 dX12_cutAll_201 ?_
              refine x_lsub C0 dX12_cutAll_204 ?_
              refine x_topl (ds k2 hk2 (bD_iff.mp g9)) ?_
              refine x_goto (tgt := 210) C0 (by decide) dX12_cutAll_205 ?_
              refine x_lstore (L' := [_, _, _, _, _, _, _]) C0 hN (by decide) rfl dX12_cutAll_210 ?_
              refine x_iinc (v := nI (k2 + 1)) (L' := [_, _, _, _, _, _, _]) C0 hN rfl (by decide) (nI_inc k2) rfl dX12_cutAll_212 ?_
              refine x_goto (tgt := 159) C0 (by decide) dX12_cutAll_215 ?_
              have h9 := ih2 (k2 + 1) (by omega) (by omega) (fun i hi1 hi2 => by
                by_cases e : i = k2
                · rw [e]; exact g9
                · exact hall i hi1 (by omega)) (by rw [← rnTo_yes hk2l g9]; exact er)
              rw [show min (k2 + 1 - k) 4 = k2 - k + 1 by omega] at h9
              exact h9
          · refine x_if_eq (tgt := 218) C0 (by decide) dX12_cutAll_176 (fun _ => ?_) (fun hkk => absurd (by decide) hkk)
            exact hex k2 (by rw [← er, rnTo_no hk2l g9])
      refine x_iload_n C0 rfl dX12_cutAll_17 ?_
      refine x_aload_n C0 rfl dX12_cutAll_18 ?_
      refine x_getI C0 wf_X12_143 (isModel.k0 hM) rfl dX12_cutAll_19 ?_
      refine x_topi e3 ?_
      refine x_icmp_ge (tgt := 279) C0 (by decide) dX12_cutAll_22 (fun hkk => absurd hkk ((nI_ge (by omega) (by omega)))) (fun _ => ?_)
      refine x_aload_n C0 rfl dX12_cutAll_25 ?_
      refine x_getR C0 wf_X12_14 (isModel.k0 hM) rfl rfl (isModel.r1 hM) dX12_cutAll_26 ?_
      refine x_iload_n C0 rfl dX12_cutAll_29 ?_
      refine x_ialoadN C0 (isModel.s1 hM) (by omega) (by omega) dX12_cutAll_30 ?_
      refine x_topi (T1 k hkl) ?_
      refine x_istore_n (L' := [_, _, _, _, _, _, _]) C0 hN (by decide) rfl dX12_cutAll_31 ?_
      refine x_iload_n C0 rfl dX12_cutAll_32 ?_
      refine x_bipush (v := nI 10) C0 rfl dX12_cutAll_33 ?_
      refine x_icmp_eq (tgt := 44) C0 (by decide) dX12_cutAll_35 (fun g35 => ?_) (fun g35 => ?_)
      · exact h44 (bB_iff.mpr (Or.inl ((nI_eq (by omega) (by omega)).mp g35)))
      · refine x_iload_n C0 rfl dX12_cutAll_38 ?_
        refine x_bipush (v := nI 32) C0 rfl dX12_cutAll_39 ?_
        refine x_icmp_ne (tgt := 50) C0 (by decide) dX12_cutAll_41 (fun g41 => ?_) (fun g41 => ?_)
        · have hnb : ¬ bB (tp k) = true := fun z => by
            rcases bB_iff.mp z with e | e
            · exact g35 (by rw [e])
            · exact g41 (by rw [e])
          have eP2 : tP tp n nt = k := by rw [← eP]; exact rnTo_no hkl hnb
          refine x_iload_n C0 rfl dX12_cutAll_50 ?_
          refine x_istore (L' := [_, _, _, _, _, _, _]) C0 hN (by decide) rfl dX12_cutAll_51 ?_
          refine x_lconst (v := 0) C0 rfl dX12_cutAll_53 ?_
          refine x_lstore (L' := [_, _, _, _, _, _, _]) C0 hN (by decide) rfl dX12_cutAll_54 ?_
          refine x_aload_n C0 rfl dX12_cutAll_56 ?_
          refine x_getR C0 wf_X12_27 (isModel.k0 hM) rfl rfl (isModel.r5 hM) dX12_cutAll_57 ?_
          refine x_iload_n C0 rfl dX12_cutAll_60 ?_
          refine x_iload_n C0 rfl dX12_cutAll_61 ?_
          refine x_iastoreN C0 (isModel.s5 hM) (by omega) (by omega) dX12_cutAll_62 ?_
          refine x_iload_n C0 rfl dX12_cutAll_63 ?_
          refine x_callS [_] C0 (xRf_of hR (by decide) (Nat.zero_le _) (Nat.zero_le _)) ms_X12_isLetter wm_X12_139 dX12_cutAll_64 rfl rfl (Nat.le_of_ble_eq_true rfl) (c_X12_isLetter (by omega) (fun g64 => ?_) (fun g64 => ?_))
          · refine x_if_eq (tgt := 152) C0 (by decide) dX12_cutAll_67 (fun hkk => absurd hkk (by decide)) (fun _ => ?_)
            have eW : Int64.ofNat (cv (wNm tp k (min (k - k) 8))) = 0 := by rw [Nat.sub_self, Nat.zero_min]; exact (show Int64.ofNat (cv 0) = 0 by decide +kernel)
            have h9 := h70 g64 eP2 (by unfold tEnd; rw [if_neg (by omega), if_pos g64]) (by unfold tKind; rw [if_neg (by omega), if_pos g64]) (fun z => by
              have e1 : tKind tp n k = 1 := by unfold tKind; rw [if_neg (by omega), if_pos g64, if_pos z]
              unfold mV
              rw [e1, if_pos rfl]
              unfold tVal
              rw [if_pos g64]) (n - k) k (by omega) (Nat.le_refl _) (fun i h1 h2 => by omega) rfl
            rw [eW] at h9
            exact h9
          · refine x_if_eq (tgt := 152) C0 (by decide) dX12_cutAll_67 (fun _ => ?_) (fun hkk => absurd (by decide) hkk)
            refine x_iload_n C0 rfl dX12_cutAll_152 ?_
            refine x_callS [_] C0 (xRf_of hR (by decide) (Nat.zero_le _) (Nat.zero_le _)) ms_X12_isDigit wm_X12_152 dX12_cutAll_153 rfl rfl (Nat.le_of_ble_eq_true rfl) (c_X12_isDigit (by omega) (fun g153 => ?_) (fun g153 => ?_))
            · refine x_if_eq (tgt := 240) C0 (by decide) dX12_cutAll_156 (fun hkk => absurd hkk (by decide)) (fun _ => ?_)
              have eW : Int64.ofNat (dNm tp k (min (k - k) 4)) = 0 := by rw [Nat.sub_self, Nat.zero_min]; rfl
              have h9 := h159 g153 eP2 (by unfold tEnd; rw [if_neg (by omega), if_neg g64, if_pos g153]) (by unfold tKind; rw [if_neg (by omega), if_neg g64, if_pos g153]) (fun z => by
                have e1 : tKind tp n k = 2 := by unfold tKind; rw [if_neg (by omega), if_neg g64, if_pos g153, if_pos z]
                unfold mV
                rw [e1, if_neg (show ¬ (2 : Nat) = 1 by decide)]
                unfold tVal
                rw [if_neg g64, if_pos g153]) (n - k) k (by omega) (Nat.le_refl _) (fun i h1 h2 => by omega) rfl
              rw [eW] at h9
              exact h9
            · refine x_if_eq (tgt := 240) C0 (by decide) dX12_cutAll_156 (fun _ => ?_) (fun hkk => absurd (by decide) hkk)
              refine x_iload_n C0 rfl dX12_cutAll_240 ?_
              refine x_i2l C0 dX12_cutAll_241 ?_
              refine x_lstore (L' := [_, _, _, _, _, _, _]) C0 hN (by decide) rfl dX12_cutAll_242 ?_
              refine x_aload_n C0 rfl dX12_cutAll_244 ?_
              refine x_getR C0 wf_X12_24 (isModel.k0 hM) rfl rfl (isModel.r4 hM) dX12_cutAll_245 ?_
              refine x_iload_n C0 rfl dX12_cutAll_248 ?_
              refine x_iload_n C0 rfl dX12_cutAll_249 ?_
              refine x_callS [_] C0 (xRf_of hR (by decide) (Nat.zero_le _) (Nat.zero_le _)) ms_X12_isSignOf wm_X12_159 dX12_cutAll_250 rfl rfl (Nat.le_of_ble_eq_true rfl) (c_X12_isSignOf (by omega) (fun g250 => ?_) (fun g250 => ?_))
              · refine x_if_eq (tgt := 260) C0 (by decide) dX12_cutAll_253 (fun hkk => absurd hkk (by decide)) (fun _ => ?_)
                refine x_iconst (v := nI 3) C0 rfl dX12_cutAll_256 ?_
                refine x_goto (tgt := 261) C0 (by decide) dX12_cutAll_257 ?_
                refine x_iastoreN C0 (isModel.s4 hM) (by omega) (by omega) dX12_cutAll_261 ?_
                refine x_iinc (v := nI (k + 1)) (L' := [_, _, _, _, _, _, _]) C0 hN rfl (by decide) (nI_inc k) rfl dX12_cutAll_262 ?_
                have hE : tEnd tp n k = k + 1 := by unfold tEnd; rw [if_neg (by omega), if_neg g64, if_neg g153]
                have hK : tKind tp n k = 3 := by unfold tKind; rw [if_neg (by omega), if_neg g64, if_neg g153, if_pos g250]
                have h9 := h265 (u2 (u2 I1 138 nt (nI k)) 137 nt (nI 3)) (some (.int (nI (tp k)))) (some (.int (nI k))) (nI (tp k)).toInt64 ⟨fun a a1 a2 a3 => by rw [u2_row _ _ _ a2, u2_row _ _ _ a3]; exact f1.1 a a1 a2 a3, fun j j1 j2 j3 j4 => by rw [u2_row _ _ _ (by decide), u2_row _ _ _ (by decide)]; exact f1.2.1 j j1 j2 j3 j4, f1.2.2⟩ (by rw [u2_row _ _ _ (by decide), u2_row _ _ _ (by decide)]; exact e2) (by rw [u2_row _ _ _ (by decide), u2_row _ _ _ (by decide)]; exact e3) (fun i hi => by rw [u2_off _ _ hi, u2_row _ _ _ (by decide)]) (fun i hi => by rw [u2_row _ _ _ (by decide), u2_off _ _ hi]) eP2 (by rw [u2_same, hK]) (by rw [u2_row _ _ _ (by decide), u2_same]) (fun _ => by
                  unfold mV
                  rw [hK, if_neg (show ¬ (3 : Nat) = 1 by decide), i_long (by omega)]
                  unfold tVal
                  rw [if_neg g64, if_neg g153])
                rw [hE] at h9
                exact h9
              · refine x_if_eq (tgt := 260) C0 (by decide) dX12_cutAll_253 (fun _ => ?_) (fun hkk => absurd (by decide) hkk)
                refine x_iconst (v := nI 4) C0 rfl dX12_cutAll_260 ?_
                refine x_iastoreN C0 (isModel.s4 hM) (by omega) (by omega) dX12_cutAll_261 ?_
                refine x_iinc (v := nI (k + 1)) (L' := [_, _, _, _, _, _, _]) C0 hN rfl (by decide) (nI_inc k) rfl dX12_cutAll_262 ?_
                have hE : tEnd tp n k = k + 1 := by unfold tEnd; rw [if_neg (by omega), if_neg g64, if_neg g153]
                have hK : tKind tp n k = 4 := by unfold tKind; rw [if_neg (by omega), if_neg g64, if_neg g153, if_neg g250]
                have h9 := h265 (u2 (u2 I1 138 nt (nI k)) 137 nt (nI 4)) (some (.int (nI (tp k)))) (some (.int (nI k))) (nI (tp k)).toInt64 ⟨fun a a1 a2 a3 => by rw [u2_row _ _ _ a2, u2_row _ _ _ a3]; exact f1.1 a a1 a2 a3, fun j j1 j2 j3 j4 => by rw [u2_row _ _ _ (by decide), u2_row _ _ _ (by decide)]; exact f1.2.1 j j1 j2 j3 j4, f1.2.2⟩ (by rw [u2_row _ _ _ (by decide), u2_row _ _ _ (by decide)]; exact e2) (by rw [u2_row _ _ _ (by decide), u2_row _ _ _ (by decide)]; exact e3) (fun i hi => by rw [u2_off _ _ hi, u2_row _ _ _ (by decide)]) (fun i hi => by rw [u2_row _ _ _ (by decide), u2_off _ _ hi]) eP2 (by rw [u2_same, hK]) (by rw [u2_row _ _ _ (by decide), u2_same]) (fun _ => by
                  unfold mV
                  rw [hK, if_neg (show ¬ (4 : Nat) = 1 by decide), i_long (by omega)]
                  unfold tVal
                  rw [if_neg g64, if_neg g153])
                rw [hE] at h9
                exact h9
        · exact h44 (bB_iff.mpr (Or.inr ((nI_eq (b := 32) (by omega) (by omega)).mp g41)))
  refine x_aload_n C0 rfl dX12_cutAll_0 ?_
  refine x_aload_n C0 rfl dX12_cutAll_1 ?_
  refine x_getI C0 wf_X12_11 (isModel.k0 hM) rfl dX12_cutAll_2 ?_
  refine x_topi T.1 ?_
  refine x_putI C0 wf_X12_143 (isModel.k0 hM) rfl dX12_cutAll_5 ?_
  refine x_aload_n C0 rfl dX12_cutAll_8 ?_
  refine x_iconst (v := nI 0) C0 rfl dX12_cutAll_9 ?_
  refine x_putI C0 wf_X12_11 (isModel.k0 hM) rfl dX12_cutAll_10 ?_
  refine x_iconst (v := nI 0) C0 rfl dX12_cutAll_13 ?_
  refine x_istore_n (L' := [_, _, _, _, _, _, _]) C0 hN (by decide) rfl dX12_cutAll_14 ?_
  refine x_iconst (v := nI 0) C0 rfl dX12_cutAll_15 ?_
  refine x_istore_n (L' := [_, _, _, _, _, _, _]) C0 hN (by decide) rfl dX12_cutAll_16 ?_
  refine h17 n 0 0 _ J _ _ _ _ (by omega) (Nat.zero_le _) (Nat.zero_le _) ⟨fun a a1 a2 a3 => by rw [u2_row _ _ _ a1, u2_row _ _ _ a1], fun j j1 j2 j3 j4 => by rw [u2_off _ _ j1, u2_off _ _ j2], fun _ _ => rfl⟩ (u2_same _ _ _ _) (by rw [u2_off _ _ (by decide), u2_same]) rfl (fun i hi => absurd hi (Nat.not_lt_zero i))
