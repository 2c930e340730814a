/-! THE REFERENCE CUTS ITS TAPE, on -/
/-- nt tokens are cut -/
def CutS (I : xTI) (J : xTJ) (tp : Nat → Nat) (n nt : Nat) : Prop := ∀ i, i < nt → (tTok tp n i).1 ≠ 0 ∧ MTi I J i (tTok tp n i)
def CutF (I : xTI) (J : xTJ) (I' : xTI) (J' : xTJ) : Prop := (∀ a, a ≠ 135 → a ≠ 137 → a ≠ 138 → I' a = I a) ∧ (∀ k, k ≠ 2 → k ≠ 3 → k ≠ 7 → k ≠ 8 → I' 135 k = I 135 k) ∧ (∀ a, a ≠ 139 → J' a = J a)
/-- tokens c lie before the reference -/
def MTk (I : xTI) (J : xTJ) (tp : Nat → Nat) (n c : Nat) : Prop := c ≤ n ∧ n ≤ 1000 ∧ (∀ i, i < n → tp i < 128) ∧ (tTok tp n c).1 = 0 ∧ ∀ i, i ≤ c → (i < c → (tTok tp n i).1 ≠ 0) ∧ MTi I J i (tTok tp n i)
theorem CutS.put {I I' : xTI} {J J' : xTJ} {tp : Nat → Nat} {n nt : Nat} (h : CutS I J tp n nt) (e7 : ∀ i, i ≠ nt → I' 137 i = I 137 i) (e8 : ∀ i, i ≠ nt → I' 138 i = I 138 i) (e9 : ∀ i, i ≠ nt → J' 139 i = J 139 i) (h0 : (tTok tp n nt).1 ≠ 0) (hm : MTi I' J' nt (tTok tp n nt)) : CutS I' J' tp n (nt + 1) := fun i hi => by
  by_cases e : i = nt
  · rw [e]; exact ⟨h0, hm⟩
  · have := h i (by omega)
    unfold MTi at this ⊢
    rw [e7 i e, e8 i e, e9 i e]
    exact this
theorem c_X12_cutAll {S : xTS} {R : xTR} {I : xTI} {J : xTJ} {post : xPost} (hM : isModel S R) {tp : Nat → Nat} {n : Nat} (T : MTp I tp n) (hp : ∀ I' J' c, CutF I J I' J' → I' 135 2 = nI 0 → I' 135 3 = nI n → I' 135 7 = nI 0 → I' 135 8 = nI 0 → MTk I' J' tp n c → post none S R I' J') : xSpec 3 yX12_cutAll cX12_cutAll 7 none 0 0 [.ref 135] S R I J post := by
  refine xSpec_of mt_X12_cutAll (Nat.le_of_ble_eq_true rfl) (fun G C0 hN hR E hI hZ => ?_)
  change XX G 0 0 0 [some (.ref 135), none, none, none, none, none, none] [] S R I J
  have hch : ∀ i, i < n → tp i < 128 := fun i hi => (T.2.2 i hi).2
  have hn := T.2.1
  have h17 : ∀ q k nt I1 J1 x3 x4 x5 x6, n ≤ k + q → k ≤ n → nt ≤ k → CutF I J I1 J1 → I1 135 2 = nI 0 → I1 135 3 = nI n → rnTo bB tp n k = tP tp n nt → CutS I1 J1 tp n nt → XX G 0 0 17 [some (.ref 135), some (.int (nI nt)), some (.int (nI k)), x3, x4, x5, x6] [] S R I1 J1 := by
    intro q
    induction q with
    | zero =>
      intro k nt I1 J1 x3 x4 x5 x6 hq hk hnt f1 e2 e3 eP M1
      have hkn : k = n := by omega
      subst hkn
      have hPn : tP tp k nt = k := by rw [← eP]; exact rnTo_end (Nat.le_refl _)
      have h0 : (tTok tp k nt).1 = 0 := tKind_0.mpr (by rw [hPn]; exact Nat.le_refl _)
      refine x_iload_n C0 rfl dX12_cutAll_17 ?_
      refine x_aload_n C0 rfl dX12_cutAll_18 ?_
      refine x_getI C0 wf_X12_143 (isModel.k0 hM) rfl dX12_cutAll_19 ?_
      refine x_topi e3 ?_
      refine x_icmp_ge (tgt := 279) C0 (by decide) dX12_cutAll_22 (fun _ => ?_) (fun hkk => absurd ((Int32.le_refl _)) hkk)
      refine x_aload_n C0 rfl dX12_cutAll_279 ?_
      refine x_getR C0 wf_X12_24 (isModel.k0 hM) rfl rfl (isModel.r4 hM) dX12_cutAll_280 ?_
      refine x_iload_n C0 rfl dX12_cutAll_283 ?_
      refine x_iconst (v := nI 0) C0 rfl dX12_cutAll_284 ?_
      refine x_iastoreN C0 (isModel.s4 hM) (by omega) (by omega) dX12_cutAll_285 ?_
      refine x_aload_n C0 rfl dX12_cutAll_286 ?_
      refine x_getR C0 wf_X12_27 (isModel.k0 hM) rfl rfl (isModel.r5 hM) dX12_cutAll_287 ?_
      refine x_iload_n C0 rfl dX12_cutAll_290 ?_
      refine x_aload_n C0 rfl dX12_cutAll_291 ?_
      refine x_getI C0 wf_X12_143 (isModel.k0 hM) rfl dX12_cutAll_292 ?_
      refine x_topi (show u2 I1 137 nt (nI 0) 135 3 = nI k by rw [u2_row _ _ _ (by decide)]; exact e3) ?_
      refine x_iastoreN C0 (isModel.s5 hM) (by omega) (by omega) dX12_cutAll_295 ?_
      refine x_aload_n C0 rfl dX12_cutAll_296 ?_
      refine x_iconst (v := nI 0) C0 rfl dX12_cutAll_297 ?_
      refine x_putI C0 wf_X12_162 (isModel.k0 hM) rfl dX12_cutAll_298 ?_
      refine x_aload_n C0 rfl dX12_cutAll_301 ?_
      refine x_iconst (v := nI 0) C0 rfl dX12_cutAll_302 ?_
      refine x_putI C0 wf_X12_165 (isModel.k0 hM) rfl dX12_cutAll_303 ?_
      refine x_vret C0 E (by decide) (by decide) dX12_cutAll_306 ?_
      refine hp _ _ nt ⟨fun a a1 a2 a3 => ?_, fun j j1 j2 j3 j4 => ?_, f1.2.2⟩ ?_ ?_ ?_ ?_ ⟨by omega, hn, hch, h0, fun i hi => ⟨fun z => (M1 i z).1, ?_⟩⟩
      · rw [u2_row _ _ _ a1, u2_row _ _ _ a1, u2_row _ _ _ a3, u2_row _ _ _ a2]; exact f1.1 a a1 a2 a3
      · rw [u2_off _ _ j4, u2_off _ _ j3, u2_row _ _ _ (by decide), u2_row _ _ _ (by decide)]; exact f1.2.1 j j1 j2 j3 j4
      · rw [u2_off _ _ (by decide), u2_off _ _ (by decide), u2_row _ _ _ (by decide), u2_row _ _ _ (by decide)]; exact e2
      · rw [u2_off _ _ (by decide), u2_off _ _ (by decide), u2_row _ _ _ (by decide), u2_row _ _ _ (by decide)]; exact e3
      · rw [u2_off _ _ (by decide), u2_same]
      · rw [u2_same]
      · unfold MTi
        rw [u2_row _ _ _ (by decide), u2_row _ _ _ (by decide), u2_row _ _ _ (by decide), u2_row _ _ _ (by decide), u2_row _ _ _ (by decide), u2_row _ _ _ (by decide)]
        by_cases e : i = nt
        · rw [e, u2_same, u2_same, h0]
          refine ⟨rfl, ?_, fun z => by rcases z with z | z | z <;> cases z⟩
          show nI k = nI (tP tp k nt)
          rw [hPn]
        · rw [u2_off _ _ e, u2_off _ _ e]
          exact (M1 i (by omega)).2
    | succ q ih =>
      intro k nt I1 J1 x3 x4 x5 x6 hq hk hnt f1 e2 e3 eP M1
      by_cases hkn : k = n
      · exact ih k nt I1 J1 x3 x4 x5 x6 (by omega) hk hnt f1 e2 e3 eP M1
      have hkl : k < n := by omega
      have T1 : ∀ i, i < n → I1 136 i = nI (tp i) := fun i hi => by rw [f1.1 136 (by decide) (by decide) (by decide)]; exact (T.2.2 i hi).1
      have hc9 := hch k hkl
      have ih := fun k2 nt2 I2 J2 x3 x4 x5 x6 (g : n ≤ k2 + q) => ih k2 nt2 I2 J2 x3 x4 x5 x6 g
      have h44 : bB (tp k) = true → XX G 0 0 44 [some (.ref 135), some (.int (nI nt)), some (.int (nI k)), some (.int (nI (tp k))), x4, x5, x6] [] S R I1 J1 := by
        intro hb
        refine x_iinc (v := nI (k + 1)) (L' := [_, _, _, _, _, _, _]) C0 hN rfl (by decide) (nI_inc k) rfl dX12_cutAll_44 ?_
        refine x_goto (tgt := 17) C0 (by decide) dX12_cutAll_47 ?_
        exact ih (k + 1) nt I1 J1 _ _ _ _ (by omega) hkl (by omega) f1 e2 e3 (by rw [← rnTo_yes hkl hb]; exact eP) M1
      have h265 : ∀ I2 x3 x4 w, CutF I J I2 J1 → I2 135 2 = nI 0 → I2 135 3 = nI n → (∀ i, i ≠ nt → I2 137 i = I1 137 i) → (∀ i, i ≠ nt → I2 138 i = I1 138 i) → tP tp n nt = k → I2 137 nt = nI (tKind tp n k) → I2 138 nt = nI k → (tKind tp n k = 1 ∨ tKind tp n k = 2 ∨ tKind tp n k = 3 → w = Int64.ofNat (mV (tKind tp n k, tVal tp n k, k))) → XX G 0 0 265 [some (.ref 135), some (.int (nI nt)), some (.int (nI (tEnd tp n k))), x3, x4, some (.long w), none] [] S R I2 J1 := by
        intro I2 x3 x4 w g1 g2 g3 g4 g5 eP2 g6 g7 g8
        have hE := tEnd_le (tp := tp) hk
        have hE2 := hE.2 hkl
        have eT : tTok tp n nt = (tKind tp n k, tVal tp n k, k) := by unfold tTok; rw [eP2]
        refine x_aload_n C0 rfl dX12_cutAll_265 ?_
        refine x_getR C0 wf_X12_30 (isModel.k0 hM) rfl rfl (isModel.r6 hM) dX12_cutAll_266 ?_
        refine x_iload_n C0 rfl dX12_cutAll_269 ?_
        refine x_lload C0 rfl dX12_cutAll_270 ?_
        refine x_lastoreN C0 (isModel.s6 hM) (by omega) (by omega) dX12_cutAll_272 ?_
        refine x_iinc (v := nI (nt + 1)) (L' := [_, _, _, _, _, _, _]) C0 hN rfl (by decide) (nI_inc nt) rfl dX12_cutAll_273 ?_
        refine x_goto (tgt := 17) C0 (by decide) dX12_cutAll_276 ?_
        refine ih (tEnd tp n k) (nt + 1) _ _ _ _ _ _ (by omega) hE.1 (by omega) ⟨g1.1, g1.2.1, fun a h => by rw [u2_row _ _ _ h]; exact g1.2.2 a h⟩ g2 g3 ?_ (M1.put g4 g5 (fun i hi => u2_off _ _ hi) ?_ ?_)
        · have : tP tp n (nt + 1) = rnTo bB tp n (tEnd tp n (tP tp n nt)) := rfl
          rw [this, eP2]
        · rw [eT]
          exact fun z => by have := tKind_0.mp z; omega
        · rw [eT]
          exact ⟨g6, g7, fun z => by rw [u2_same]; exact g8 z⟩
