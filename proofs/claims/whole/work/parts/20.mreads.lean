/-! THE REFERENCE: who reads, who takes, doubt -/
theorem c_X12_doesClash {S : xTS} {R : xTR} {I : xTI} {J : xTJ} {post : xPost} (hM : isModel S R) {b k : Nat} {fl x : xRow} (hb : b ≤ 2192) (hk : k < 8) (hf : MFilm I fl) (hx : MHall I b x) (h1 : sClash fl x k → post (some (.int 1)) S R I J) (h0 : ¬ sClash fl x k → post (some (.int 0)) S R I J) : xSpec 4 yX12_doesClash cX12_doesClash 3 (some .boolean) 0 0 [.ref 135, .int (nI b), .int (nI k)] S R I J post := by
  refine xSpec_of mt_X12_doesClash (Nat.le_of_ble_eq_true rfl) (fun G C0 hN hR E hI hZ => ?_)
  change XX G 0 0 0 [some (.ref 135), some (.int (nI b)), some (.int (nI k))] [] S R I J
  refine x_aload_n C0 rfl dX12_doesClash_0 ?_
  refine x_iload_n C0 rfl dX12_doesClash_1 ?_
  refine x_iload_n C0 rfl dX12_doesClash_2 ?_
  refine x_callV [_, _] C0 hN rfl (xRf_of hR (by decide) (Nat.zero_le _) (Nat.zero_le _)) mv_X12_saidThing wm_X12_304 dX12_doesClash_3 (isModel.k0 hM) rfl rfl (Nat.le_of_ble_eq_true rfl) (c_X12_saidThing hM hb (by omega) hf hx ?_)
  refine x_if_lt (tgt := 52) C0 (by decide) dX12_doesClash_6 (fun g6 => ?_) (fun g6 => ?_)
  · refine x_iconst (v := 0) C0 rfl dX12_doesClash_52 ?_
    refine x_zret C0 E (by decide) (by decide) rfl dX12_doesClash_53 ?_
    exact h0 (fun q => i_nlt.mpr q.1 g6)
  · refine x_aload_n C0 rfl dX12_doesClash_9 ?_
    refine x_iload_n C0 rfl dX12_doesClash_10 ?_
    refine x_iload_n C0 rfl dX12_doesClash_11 ?_
    refine x_callV [_, _] C0 hN rfl (xRf_of hR (by decide) (Nat.zero_le _) (Nat.zero_le _)) mv_X12_saidThing wm_X12_304 dX12_doesClash_12 (isModel.k0 hM) rfl rfl (Nat.le_of_ble_eq_true rfl) (c_X12_saidThing hM hb (by omega) hf hx ?_)
    refine x_aload_n C0 rfl dX12_doesClash_15 ?_
    refine x_getR C0 wf_X12_119 (isModel.k0 hM) rfl rfl (isModel.r24 hM) dX12_doesClash_16 ?_
    refine x_iload_n C0 rfl dX12_doesClash_19 ?_
    refine x_iconst (v := nI 4) C0 rfl dX12_doesClash_20 ?_
    refine x_iaddN C0 dX12_doesClash_21 ?_
    refine x_iload_n C0 rfl dX12_doesClash_22 ?_
    refine x_iaddN C0 dX12_doesClash_23 ?_
    refine x_ialoadN C0 (isModel.s24 hM) (by omega) (by omega) dX12_doesClash_24 ?_
    refine x_topi (hx.at (i := 4 + k) (by omega) (by omega)) ?_
    refine x_icmp_ne (tgt := 52) C0 (by decide) dX12_doesClash_25 (fun g25 => ?_) (fun g25 => ?_)
    · refine x_iconst (v := 0) C0 rfl dX12_doesClash_52 ?_
      refine x_zret C0 E (by decide) (by decide) rfl dX12_doesClash_53 ?_
      exact h0 (fun q => g25 q.2.1)
    · refine x_aload_n C0 rfl dX12_doesClash_28 ?_
      refine x_iload_n C0 rfl dX12_doesClash_29 ?_
      refine x_iload_n C0 rfl dX12_doesClash_30 ?_
      refine x_callV [_, _] C0 hN rfl (xRf_of hR (by decide) (Nat.zero_le _) (Nat.zero_le _)) mv_X12_saidIs wm_X12_307 dX12_doesClash_31 (isModel.k0 hM) rfl rfl (Nat.le_of_ble_eq_true rfl) (c_X12_saidIs hM hb (by omega) hf hx ?_)
      refine x_aload_n C0 rfl dX12_doesClash_34 ?_
      refine x_getR C0 wf_X12_119 (isModel.k0 hM) rfl rfl (isModel.r24 hM) dX12_doesClash_35 ?_
      refine x_iload_n C0 rfl dX12_doesClash_38 ?_
      refine x_bipush (v := nI 12) C0 rfl dX12_doesClash_39 ?_
      refine x_iaddN C0 dX12_doesClash_41 ?_
      refine x_iload_n C0 rfl dX12_doesClash_42 ?_
      refine x_iaddN C0 dX12_doesClash_43 ?_
      refine x_ialoadN C0 (isModel.s24 hM) (by omega) (by omega) dX12_doesClash_44 ?_
      refine x_topi (hx.at (i := 12 + k) (by omega) (by omega)) ?_
      refine x_icmp_eq (tgt := 52) C0 (by decide) dX12_doesClash_45 (fun g45 => ?_) (fun g45 => ?_)
      · refine x_iconst (v := 0) C0 rfl dX12_doesClash_52 ?_
        refine x_zret C0 E (by decide) (by decide) rfl dX12_doesClash_53 ?_
        exact h0 (fun q => q.2.2 g45)
      · refine x_iconst (v := 1) C0 rfl dX12_doesClash_48 ?_
        refine x_goto (tgt := 53) C0 (by decide) dX12_doesClash_49 ?_
        refine x_zret C0 E (by decide) (by decide) rfl dX12_doesClash_53 ?_
        exact h1 ⟨i_nlt.mp g6, g25, g45⟩
theorem c_X12_doesRead {S : xTS} {R : xTR} {I : xTI} {J : xTJ} {post : xPost} (hM : isModel S R) {b k w : Nat} {fl x : xRow} (hb : b ≤ 2192) (hk : k < 8) (hw : w < 6) (hf : MFilm I fl) (hx : MHall I b x) (h1 : sReads fl x w k → post (some (.int 1)) S R I J) (h0 : ¬ sReads fl x w k → post (some (.int 0)) S R I J) : xSpec 2 yX12_doesRead cX12_doesRead 5 (some .boolean) 0 0 [.ref 135, .int (nI b), .int (nI w), .int (nI k)] S R I J post := by
  refine xSpec_of mt_X12_doesRead (Nat.le_of_ble_eq_true rfl) (fun G C0 hN hR E hI hZ => ?_)
  change XX G 0 0 0 [some (.ref 135), some (.int (nI b)), some (.int (nI w)), some (.int (nI k)), none] [] S R I J
  refine x_aload_n C0 rfl dX12_doesRead_0 ?_
  refine x_iload_n C0 rfl dX12_doesRead_1 ?_
  refine x_iconst (v := nI 0) C0 rfl dX12_doesRead_2 ?_
  refine x_callV [_, _] C0 hN rfl (xRf_of hR (by decide) (Nat.zero_le _) (Nat.zero_le _)) mv_X12_watcherOf wm_X12_310 dX12_doesRead_3 (isModel.k0 hM) rfl rfl (Nat.le_of_ble_eq_true rfl) (c_X12_watcherOf hM (by omega) (by omega) ?_)
  refine x_topi (v := fl (37 + 3 * w)) (hf (37 + 3 * w + 0) (by omega)) ?_
  refine x_istore (L' := [_, _, _, _, _]) C0 hN (by decide) rfl dX12_doesRead_6 ?_
  refine x_iload C0 rfl dX12_doesRead_8 ?_
  refine x_iconst (v := 1) C0 rfl dX12_doesRead_10 ?_
  refine x_icmp_eq (tgt := 39) C0 (by decide) dX12_doesRead_11 (fun g11 => ?_) (fun g11 => ?_)
  · refine x_iconst (v := 1) C0 rfl dX12_doesRead_39 ?_
    refine x_goto (tgt := 44) C0 (by decide) dX12_doesRead_40 ?_
    refine x_zret C0 E (by decide) (by decide) rfl dX12_doesRead_44 ?_
    exact h1 (Or.inl g11)
  · refine x_iload C0 rfl dX12_doesRead_14 ?_
    refine x_iconst (v := 2) C0 rfl dX12_doesRead_16 ?_
    refine x_icmp_ne (tgt := 43) C0 (by decide) dX12_doesRead_17 (fun g17 => ?_) (fun g17 => ?_)
    · refine x_iconst (v := 0) C0 rfl dX12_doesRead_43 ?_
      refine x_zret C0 E (by decide) (by decide) rfl dX12_doesRead_44 ?_
      exact h0 (fun q => q.elim g11 (fun z => g17 z.1))
    · refine x_aload_n C0 rfl dX12_doesRead_20 ?_
      refine x_iload_n C0 rfl dX12_doesRead_21 ?_
      refine x_iconst (v := nI 1) C0 rfl dX12_doesRead_22 ?_
      refine x_callV [_, _] C0 hN rfl (xRf_of hR (by decide) (Nat.zero_le _) (Nat.zero_le _)) mv_X12_watcherOf wm_X12_310 dX12_doesRead_23 (isModel.k0 hM) rfl rfl (Nat.le_of_ble_eq_true rfl) (c_X12_watcherOf hM (by omega) (by omega) ?_)
      refine x_topi (v := fl (38 + 3 * w)) (by rw [hf (37 + 3 * w + 1) (by omega), show 37 + 3 * w + 1 = 38 + 3 * w by omega]) ?_
      refine x_iconst (v := 4) C0 rfl dX12_doesRead_26 ?_
      refine x_icmp_gt (tgt := 39) C0 (by decide) dX12_doesRead_27 (fun g27 => ?_) (fun g27 => ?_)
      · refine x_iconst (v := 1) C0 rfl dX12_doesRead_39 ?_
        refine x_goto (tgt := 44) C0 (by decide) dX12_doesRead_40 ?_
        refine x_zret C0 E (by decide) (by decide) rfl dX12_doesRead_44 ?_
        exact h1 (Or.inr ⟨g17, Or.inl g27⟩)
      · refine x_aload_n C0 rfl dX12_doesRead_30 ?_
        refine x_iload_n C0 rfl dX12_doesRead_31 ?_
        refine x_iload_n C0 rfl dX12_doesRead_32 ?_
        refine x_callV [_, _] C0 hN rfl (xRf_of hR (by decide) (Nat.zero_le _) (Nat.zero_le _)) mv_X12_isCut wm_X12_300 dX12_doesRead_33 (isModel.k0 hM) rfl rfl (Nat.le_of_ble_eq_true rfl) (c_X12_isCut hM (by omega) (fun g33 => ?_) (fun g33 => ?_))
        · refine x_if_eq (tgt := 43) C0 (by decide) dX12_doesRead_36 (fun hkk => absurd hkk (by decide)) (fun _ => ?_)
          refine x_iconst (v := 1) C0 rfl dX12_doesRead_39 ?_
          refine x_goto (tgt := 44) C0 (by decide) dX12_doesRead_40 ?_
          refine x_zret C0 E (by decide) (by decide) rfl dX12_doesRead_44 ?_
          exact h1 (Or.inr ⟨g17, Or.inr (by rw [← hx 3 (by omega)]; exact g33)⟩)
        · refine x_if_eq (tgt := 43) C0 (by decide) dX12_doesRead_36 (fun _ => ?_) (fun hkk => absurd (by decide) hkk)
          refine x_iconst (v := 0) C0 rfl dX12_doesRead_43 ?_
          refine x_zret C0 E (by decide) (by decide) rfl dX12_doesRead_44 ?_
          exact h0 (fun q => q.elim g11 (fun z => z.2.elim (fun y => g27 y) (fun y => g33 (by rw [hx 3 (by omega)]; exact y))))
theorem c_X12_doesTake {S : xTS} {R : xTR} {I : xTI} {J : xTJ} {post : xPost} (hM : isModel S R) {b k w : Nat} {fl x : xRow} (hb : b ≤ 2192) (hk : k < 8) (hw : w < 6) (hf : MFilm I fl) (hx : MHall I b x) (h1 : sTakes fl x w k → post (some (.int 1)) S R I J) (h0 : ¬ sTakes fl x w k → post (some (.int 0)) S R I J) : xSpec 4 yX12_doesTake cX12_doesTake 5 (some .boolean) 0 0 [.ref 135, .int (nI b), .int (nI w), .int (nI k)] S R I J post := by
  refine xSpec_of mt_X12_doesTake (Nat.le_of_ble_eq_true rfl) (fun G C0 hN hR E hI hZ => ?_)
  change XX G 0 0 0 [some (.ref 135), some (.int (nI b)), some (.int (nI w)), some (.int (nI k)), none] [] S R I J
  have hrest : ∀ v : Int32, (¬ v = 0 ↔ (sThing fl x k = x (4 + k) ∧ sIs fl x k = x (12 + k))) → XX G 0 0 46 [some (.ref 135), some (.int (nI b)), some (.int (nI w)), some (.int (nI k)), some (.int v)] [] S R I J := by
    intro v hv
    refine x_aload_n C0 rfl dX12_doesTake_46 ?_
    refine x_iload_n C0 rfl dX12_doesTake_47 ?_
    refine x_iload_n C0 rfl dX12_doesTake_48 ?_
    refine x_iload_n C0 rfl dX12_doesTake_49 ?_
    refine x_callV [_, _, _] C0 hN rfl (xRf_of hR (by decide) (Nat.zero_le _) (Nat.zero_le _)) mv_X12_doesRead wm_X12_313 dX12_doesTake_50 (isModel.k0 hM) rfl rfl (Nat.le_of_ble_eq_true rfl) (c_X12_doesRead hM hb (by omega) (by omega) hf hx (fun g50 => ?_) (fun g50 => ?_))
    · refine x_if_ne (tgt := 80) C0 (by decide) dX12_doesTake_53 (fun _ => ?_) (fun hkk => absurd hkk (by decide))
      refine x_iconst (v := 1) C0 rfl dX12_doesTake_80 ?_
      refine x_goto (tgt := 85) C0 (by decide) dX12_doesTake_81 ?_
      refine x_zret C0 E (by decide) (by decide) rfl dX12_doesTake_85 ?_
      exact h1 (Or.inl g50)
    · refine x_if_ne (tgt := 80) C0 (by decide) dX12_doesTake_53 (fun hkk => absurd (by decide) hkk) (fun _ => ?_)
      refine x_aload_n C0 rfl dX12_doesTake_56 ?_
      refine x_iload_n C0 rfl dX12_doesTake_57 ?_
      refine x_iload_n C0 rfl dX12_doesTake_58 ?_
      refine x_callV [_, _] C0 hN rfl (xRf_of hR (by decide) (Nat.zero_le _) (Nat.zero_le _)) mv_X12_isCut wm_X12_300 dX12_doesTake_59 (isModel.k0 hM) rfl rfl (Nat.le_of_ble_eq_true rfl) (c_X12_isCut hM (by omega) (fun g59 => ?_) (fun g59 => ?_))
      · refine x_if_ne (tgt := 84) C0 (by decide) dX12_doesTake_62 (fun _ => ?_) (fun hkk => absurd hkk (by decide))
        refine x_iconst (v := 0) C0 rfl dX12_doesTake_84 ?_
        refine x_zret C0 E (by decide) (by decide) rfl dX12_doesTake_85 ?_
        exact h0 (fun q => q.elim g50 (fun z => z.1 (by rw [← hx 3 (by omega)]; exact g59)))
      · refine x_if_ne (tgt := 84) C0 (by decide) dX12_doesTake_62 (fun hkk => absurd (by decide) hkk) (fun _ => ?_)
        refine x_aload_n C0 rfl dX12_doesTake_65 ?_
        refine x_iload_n C0 rfl dX12_doesTake_66 ?_
        refine x_iconst (v := nI 0) C0 rfl dX12_doesTake_67 ?_
        refine x_callV [_, _] C0 hN rfl (xRf_of hR (by decide) (Nat.zero_le _) (Nat.zero_le _)) mv_X12_watcherOf wm_X12_310 dX12_doesTake_68 (isModel.k0 hM) rfl rfl (Nat.le_of_ble_eq_true rfl) (c_X12_watcherOf hM (by omega) (by omega) ?_)
        refine x_topi (v := fl (37 + 3 * w)) (hf (37 + 3 * w + 0) (by omega)) ?_
        refine x_iconst (v := 3) C0 rfl dX12_doesTake_71 ?_
        refine x_icmp_ne (tgt := 80) C0 (by decide) dX12_doesTake_72 (fun g72 => ?_) (fun g72 => ?_)
        · refine x_iconst (v := 1) C0 rfl dX12_doesTake_80 ?_
          refine x_goto (tgt := 85) C0 (by decide) dX12_doesTake_81 ?_
          refine x_zret C0 E (by decide) (by decide) rfl dX12_doesTake_85 ?_
          exact h1 (Or.inr ⟨by rw [← hx 3 (by omega)]; exact g59, Or.inl g72⟩)
        · refine x_iload C0 rfl dX12_doesTake_75 ?_
          refine x_if_eq (tgt := 84) C0 (by decide) dX12_doesTake_77 (fun g77 => ?_) (fun g77 => ?_)
          · refine x_iconst (v := 0) C0 rfl dX12_doesTake_84 ?_
            refine x_zret C0 E (by decide) (by decide) rfl dX12_doesTake_85 ?_
            exact h0 (fun q => q.elim g50 (fun z => z.2.elim (fun y => y g72) (fun y => (hv.mpr y) g77)))
          · refine x_iconst (v := 1) C0 rfl dX12_doesTake_80 ?_
            refine x_goto (tgt := 85) C0 (by decide) dX12_doesTake_81 ?_
            refine x_zret C0 E (by decide) (by decide) rfl dX12_doesTake_85 ?_
            exact h1 (Or.inr ⟨by rw [← hx 3 (by omega)]; exact g59, Or.inr (hv.mp g77)⟩)
  refine x_aload_n C0 rfl dX12_doesTake_0 ?_
  refine x_iload_n C0 rfl dX12_doesTake_1 ?_
  refine x_iload_n C0 rfl dX12_doesTake_2 ?_
  refine x_callV [_, _] C0 hN rfl (xRf_of hR (by decide) (Nat.zero_le _) (Nat.zero_le _)) mv_X12_saidThing wm_X12_304 dX12_doesTake_3 (isModel.k0 hM) rfl rfl (Nat.le_of_ble_eq_true rfl) (c_X12_saidThing hM hb (by omega) hf hx ?_)
  refine x_aload_n C0 rfl dX12_doesTake_6 ?_
  refine x_getR C0 wf_X12_119 (isModel.k0 hM) rfl rfl (isModel.r24 hM) dX12_doesTake_7 ?_
  refine x_iload_n C0 rfl dX12_doesTake_10 ?_
  refine x_iconst (v := nI 4) C0 rfl dX12_doesTake_11 ?_
  refine x_iaddN C0 dX12_doesTake_12 ?_
  refine x_iload_n C0 rfl dX12_doesTake_13 ?_
  refine x_iaddN C0 dX12_doesTake_14 ?_
  refine x_ialoadN C0 (isModel.s24 hM) (by omega) (by omega) dX12_doesTake_15 ?_
  refine x_topi (hx.at (i := 4 + k) (by omega) (by omega)) ?_
  refine x_icmp_ne (tgt := 43) C0 (by decide) dX12_doesTake_16 (fun g16 => ?_) (fun g16 => ?_)
  · refine x_iconst (v := 0) C0 rfl dX12_doesTake_43 ?_
    refine x_istore (L' := [_, _, _, _, _]) C0 hN (by decide) rfl dX12_doesTake_44 ?_
    exact hrest 0 ⟨fun q => absurd rfl q, fun q => absurd q.1 g16⟩
  · refine x_aload_n C0 rfl dX12_doesTake_19 ?_
    refine x_iload_n C0 rfl dX12_doesTake_20 ?_
    refine x_iload_n C0 rfl dX12_doesTake_21 ?_
    refine x_callV [_, _] C0 hN rfl (xRf_of hR (by decide) (Nat.zero_le _) (Nat.zero_le _)) mv_X12_saidIs wm_X12_307 dX12_doesTake_22 (isModel.k0 hM) rfl rfl (Nat.le_of_ble_eq_true rfl) (c_X12_saidIs hM hb (by omega) hf hx ?_)
    refine x_aload_n C0 rfl dX12_doesTake_25 ?_
    refine x_getR C0 wf_X12_119 (isModel.k0 hM) rfl rfl (isModel.r24 hM) dX12_doesTake_26 ?_
    refine x_iload_n C0 rfl dX12_doesTake_29 ?_
    refine x_bipush (v := nI 12) C0 rfl dX12_doesTake_30 ?_
    refine x_iaddN C0 dX12_doesTake_32 ?_
    refine x_iload_n C0 rfl dX12_doesTake_33 ?_
    refine x_iaddN C0 dX12_doesTake_34 ?_
    refine x_ialoadN C0 (isModel.s24 hM) (by omega) (by omega) dX12_doesTake_35 ?_
    refine x_topi (hx.at (i := 12 + k) (by omega) (by omega)) ?_
    refine x_icmp_ne (tgt := 43) C0 (by decide) dX12_doesTake_36 (fun g36 => ?_) (fun g36 => ?_)
    · refine x_iconst (v := 0) C0 rfl dX12_doesTake_43 ?_
      refine x_istore (L' := [_, _, _, _, _]) C0 hN (by decide) rfl dX12_doesTake_44 ?_
      exact hrest 0 ⟨fun q => absurd rfl q, fun q => absurd q.2 g36⟩
    · refine x_iconst (v := 1) C0 rfl dX12_doesTake_39 ?_
      refine x_goto (tgt := 44) C0 (by decide) dX12_doesTake_40 ?_
      refine x_istore (L' := [_, _, _, _, _]) C0 hN (by decide) rfl dX12_doesTake_44 ?_
      exact hrest 1 ⟨fun _ => ⟨g16, g36⟩, fun _ => by decide⟩
theorem c_X12_doubtBy {S : xTS} {R : xTR} {I : xTI} {J : xTJ} {post : xPost} (hM : isModel S R) {w c o k : Nat} {fl : xRow} {lw : Option (List (Nat × Nat))} (hw : w < 6) (hc : c < 2) (ho : o < 2) (hk : k < 8) (hf : MFilm I fl) (hl : MLaw I fl lw) (hp : ∀ I', (∀ a, a ≠ 149 → a ≠ 150 → I' a = I a) → post (some (.int (sDq fl lw w k c o))) S R I' J) : xSpec 3 yX12_doubtBy cX12_doubtBy 6 (some .int) 0 0 [.ref 135, .int (nI w), .int (nI c), .int (nI o), .int (nI k)] S R I J post := by
  refine xSpec_of mt_X12_doubtBy (Nat.le_of_ble_eq_true rfl) (fun G C0 hN hR E hI hZ => ?_)
  change XX G 0 0 0 [some (.ref 135), some (.int (nI w)), some (.int (nI c)), some (.int (nI o)), some (.int (nI k)), none] [] S R I J
  have hend : ∀ (v : Int32) (I1 : xTI), lClamp v = sDq fl lw w k c o → (∀ a, a ≠ 149 → a ≠ 150 → I1 a = I a) → XX G 0 0 76 [some (.ref 135), some (.int (nI w)), some (.int (nI c)), some (.int (nI o)), some (.int (nI k)), some (.int v)] [] S R I1 J := by
    intro v I1 hv hI1
    refine x_iload C0 rfl dX12_doubtBy_76 ?_
    refine x_if_ge (tgt := 85) C0 (by decide) dX12_doubtBy_78 (fun g78 => ?_) (fun g78 => ?_)
    · refine x_iload C0 rfl dX12_doubtBy_85 ?_
      refine x_bipush (v := 9) C0 rfl dX12_doubtBy_87 ?_
      refine x_icmp_le (tgt := 97) C0 (by decide) dX12_doubtBy_89 (fun g89 => ?_) (fun g89 => ?_)
      · refine x_iload C0 rfl dX12_doubtBy_97 ?_
        refine x_iret C0 E (by decide) (by decide) dX12_doubtBy_99 ?_
        rw [lClamp, if_neg (i_nlt.mpr g78), if_neg (i_nlt.mpr g89)] at hv
        rw [hv]
        exact hp I1 hI1
      · refine x_bipush (v := 9) C0 rfl dX12_doubtBy_92 ?_
        refine x_goto (tgt := 99) C0 (by decide) dX12_doubtBy_94 ?_
        refine x_iret C0 E (by decide) (by decide) dX12_doubtBy_99 ?_
        rw [lClamp, if_neg (i_nlt.mpr g78), if_pos (i_nle.mp g89)] at hv
        rw [hv]
        exact hp I1 hI1
    · refine x_iconst (v := 0) C0 rfl dX12_doubtBy_81 ?_
      refine x_goto (tgt := 99) C0 (by decide) dX12_doubtBy_82 ?_
      refine x_iret C0 E (by decide) (by decide) dX12_doubtBy_99 ?_
      rw [lClamp, if_pos (i_nle.mp g78)] at hv
      rw [hv]
      exact hp I1 hI1
  have hrest : ∀ v : Int32, v = (if fl (37 + 3 * w) = 2 then 2 * nI c + nI o else nI o) → XX G 0 0 21 [some (.ref 135), some (.int (nI w)), some (.int (nI c)), some (.int (nI o)), some (.int (nI k)), some (.int v)] [] S R I J := by
    intro v hv
    cases lw with
    | none =>
      have e4 : I 141 4 = -1 := (hf 4 (by decide)).trans hl
      refine x_aload_n C0 rfl dX12_doubtBy_21 ?_
      refine x_getR C0 wf_X12_89 (isModel.k0 hM) rfl rfl (isModel.r10 hM) dX12_doubtBy_22 ?_
      refine x_iconst (v := nI 4) C0 rfl dX12_doubtBy_25 ?_
      refine x_ialoadN C0 (isModel.s10 hM) (by omega) (by omega) dX12_doubtBy_26 ?_
      refine x_topi e4 ?_
      refine x_if_lt (tgt := 76) C0 (by decide) dX12_doubtBy_27 (fun _ => ?_) (fun hkk => absurd ((by decide)) hkk)
      exact hend v I (by rw [hv]; rfl) (fun _ _ _ => rfl)
    | some cl =>
      obtain ⟨h4, hcd⟩ := hl
      have e4 : I 141 4 = nI 0 := (hf 4 (by decide)).trans h4
      have hcd2 : ∀ I2 : xTI, (∀ a, a ≠ 149 → I2 a = I a) → MCode I2 cl := fun I2 h2 => by
        unfold MCode
        rw [h2 142 (by decide), h2 143 (by decide)]
        exact hcd
      refine x_aload_n C0 rfl dX12_doubtBy_21 ?_
      refine x_getR C0 wf_X12_89 (isModel.k0 hM) rfl rfl (isModel.r10 hM) dX12_doubtBy_22 ?_
      refine x_iconst (v := nI 4) C0 rfl dX12_doubtBy_25 ?_
      refine x_ialoadN C0 (isModel.s10 hM) (by omega) (by omega) dX12_doubtBy_26 ?_
      refine x_topi e4 ?_
      refine x_if_lt (tgt := 76) C0 (by decide) dX12_doubtBy_27 (fun hkk => absurd hkk ((by decide))) (fun _ => ?_)
      refine x_aload_n C0 rfl dX12_doubtBy_30 ?_
      refine x_getR C0 wf_X12_113 (isModel.k0 hM) rfl rfl (isModel.r22 hM) dX12_doubtBy_31 ?_
      refine x_iconst (v := nI 0) C0 rfl dX12_doubtBy_34 ?_
      refine x_iload_n C0 rfl dX12_doubtBy_35 ?_
      refine x_iastoreN C0 (isModel.s22 hM) (by omega) (by omega) dX12_doubtBy_36 ?_
      refine x_aload_n C0 rfl dX12_doubtBy_37 ?_
      refine x_getR C0 wf_X12_113 (isModel.k0 hM) rfl rfl (isModel.r22 hM) dX12_doubtBy_38 ?_
      refine x_iconst (v := nI 1) C0 rfl dX12_doubtBy_41 ?_
      refine x_aload_n C0 rfl dX12_doubtBy_42 ?_
      refine x_iload_n C0 rfl dX12_doubtBy_43 ?_
      refine x_iconst (v := nI 1) C0 rfl dX12_doubtBy_44 ?_
      refine x_callV [_, _] C0 hN rfl (xRf_of hR (by decide) (Nat.zero_le _) (Nat.zero_le _)) mv_X12_watcherOf wm_X12_310 dX12_doubtBy_45 (isModel.k0 hM) rfl rfl (Nat.le_of_ble_eq_true rfl) (c_X12_watcherOf hM (by omega) (by omega) ?_)
      refine x_topi (v := fl (38 + 3 * w)) (by rw [u2_row _ _ _ (by decide), hf (37 + 3 * w + 1) (by omega), show 37 + 3 * w + 1 = 38 + 3 * w by omega]) ?_
      refine x_iastoreN C0 (isModel.s22 hM) (by omega) (by omega) dX12_doubtBy_48 ?_
      refine x_aload_n C0 rfl dX12_doubtBy_49 ?_
      refine x_getR C0 wf_X12_113 (isModel.k0 hM) rfl rfl (isModel.r22 hM) dX12_doubtBy_50 ?_
      refine x_iconst (v := nI 2) C0 rfl dX12_doubtBy_53 ?_
      refine x_iload_n C0 rfl dX12_doubtBy_54 ?_
      refine x_iastoreN C0 (isModel.s22 hM) (by omega) (by omega) dX12_doubtBy_55 ?_
      refine x_aload_n C0 rfl dX12_doubtBy_56 ?_
      refine x_getR C0 wf_X12_113 (isModel.k0 hM) rfl rfl (isModel.r22 hM) dX12_doubtBy_57 ?_
      refine x_iconst (v := nI 3) C0 rfl dX12_doubtBy_60 ?_
      refine x_iload C0 rfl dX12_doubtBy_61 ?_
      refine x_iastoreN C0 (isModel.s22 hM) (by omega) (by omega) dX12_doubtBy_63 ?_
      refine x_aload_n C0 rfl dX12_doubtBy_64 ?_
      refine x_aload_n C0 rfl dX12_doubtBy_65 ?_
      refine x_getR C0 wf_X12_89 (isModel.k0 hM) rfl rfl (isModel.r10 hM) dX12_doubtBy_66 ?_
      refine x_iconst (v := nI 4) C0 rfl dX12_doubtBy_69 ?_
      refine x_ialoadN C0 (isModel.s10 hM) (by omega) (by omega) dX12_doubtBy_70 ?_
      refine x_topi (v := nI 0) (by rw [u2_row _ _ _ (by decide), u2_row _ _ _ (by decide), u2_row _ _ _ (by decide), u2_row _ _ _ (by decide), e4]) ?_
      refine x_callV [_] C0 hN rfl (xRf_of hR (by decide) (Nat.zero_le _) (Nat.zero_le _)) mv_X12_worthAt wm_X12_332 dX12_doubtBy_71 (isModel.k0 hM) rfl rfl (Nat.le_of_ble_eq_true rfl) (c_X12_worthAt hM (hcd2 _ (fun a ha => by rw [u2_row _ _ _ ha, u2_row _ _ _ ha, u2_row _ _ _ ha, u2_row _ _ _ ha])) (lFacts fl w k c o) (fun i hi => ?_) (fun I2 hI2 => ?_))
      · rcases (show i = 0 ∨ i = 1 ∨ i = 2 ∨ i = 3 by omega) with rfl | rfl | rfl | rfl <;> simp [u2, lFacts]
      refine x_istore (L' := [_, _, _, _, _, _]) C0 hN (by decide) rfl dX12_doubtBy_74 ?_
      exact hend _ I2 rfl (fun a h1 h2 => by rw [hI2 a h2, u2_row _ _ _ h1, u2_row _ _ _ h1, u2_row _ _ _ h1, u2_row _ _ _ h1])
  refine x_aload_n C0 rfl dX12_doubtBy_0 ?_
  refine x_iload_n C0 rfl dX12_doubtBy_1 ?_
  refine x_iconst (v := nI 0) C0 rfl dX12_doubtBy_2 ?_
  refine x_callV [_, _] C0 hN rfl (xRf_of hR (by decide) (Nat.zero_le _) (Nat.zero_le _)) mv_X12_watcherOf wm_X12_310 dX12_doubtBy_3 (isModel.k0 hM) rfl rfl (Nat.le_of_ble_eq_true rfl) (c_X12_watcherOf hM (by omega) (by omega) ?_)
  refine x_topi (v := fl (37 + 3 * w)) (hf (37 + 3 * w + 0) (by omega)) ?_
  refine x_iconst (v := 2) C0 rfl dX12_doubtBy_6 ?_
  refine x_icmp_ne (tgt := 18) C0 (by decide) dX12_doubtBy_7 (fun g7 => ?_) (fun g7 => ?_)
  · refine x_iload_n C0 rfl dX12_doubtBy_18 ?_
    refine x_istore (L' := [_, _, _, _, _, _]) C0 hN (by decide) rfl dX12_doubtBy_19 ?_
    exact hrest _ (by rw [if_neg g7])
  · refine x_iconst (v := 2) C0 rfl dX12_doubtBy_10 ?_
    refine x_iload_n C0 rfl dX12_doubtBy_11 ?_
    refine x_imulN C0 dX12_doubtBy_12 ?_
    refine x_iload_n C0 rfl dX12_doubtBy_13 ?_
    refine x_iaddN C0 dX12_doubtBy_14 ?_
    refine x_goto (tgt := 19) C0 (by decide) dX12_doubtBy_15 ?_
    refine x_istore (L' := [_, _, _, _, _, _]) C0 hN (by decide) rfl dX12_doubtBy_19 ?_
    exact hrest _ (by rw [if_pos g7]; exact (two_nI c o).symm)
