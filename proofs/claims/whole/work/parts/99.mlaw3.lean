/-! THE LAW OF DOUBT IS READ: the reference, parts -/
theorem p_takePart0 {S : xTS} {R : xTR} (hM : isModel S R) {tp : Nat → Nat} {n c : Nat} {w : Nat} (hw : w = 5) : MPt S R tp n c yX12_takePart cX12_takePart 4 w 3 (pPart (tTok tp n) 0) 0 := by
  intro I J post e T A h0_ Q0_ hp
  refine xSpec_of mt_X12_takePart (Nat.le_of_ble_eq_true rfl) (fun G C0_ hN hR E hI hZ => ?_)
  change XX G 0 0 0 [some (.ref 135), some (.int (nI w)), none, none] [] S R I J
  have hc1000_ : c ≤ 1000 := Nat.le_trans T.1.1 T.1.2.1
  obtain ⟨a7_, a8_, ac, a9_⟩ := id A
  obtain ⟨k0_, k5_, kp, kc, k1_, k2_, kw, kn, ks⟩ := T.at ac
  have az : I 135 8 ≤ 0 := by rw [a8_, h0_]; exact Int32.le_refl _
  have hw9_ : ∀ i, wHr (tTok tp n) 22 4 e.1 = some i → i < 1000 := fun i h => by have := (wHr_is h).1; omega
  have hf79_ : ∀ I1_ s1_ l2_ l3_, RFr I I1_ → MAt I1_ c s1_ → ¬ s1_.2 = 0 → pPart (tTok tp n) 0 e = (s1_, e.2) → XX G 0 0 79 [some (.ref 135), some (.int (nI w)), some (.int l2_), some (.int l3_)] [] S R I1_ J := by
    intro I1_ s1_ l2_ l3_ f1_ A1_ z1_ el
    have gz : ¬ nI s1_.2 ≤ 0 := nI_nle (by omega) (by have := A1_.2.2.2; omega)
    refine x_aload_n C0_ rfl dX12_takePart_79 ?_
    refine x_getI C0_ wf_X12_165 (isModel.k0 hM) rfl dX12_takePart_80 ?_
    refine x_topi A1_.2.1 ?_
    refine x_if_le (tgt := 87) C0_ (by decide) dX12_takePart_83 (fun hkk => absurd hkk (gz)) (fun _ => ?_)
    refine x_vret C0_ E (by decide) (by decide) dX12_takePart_86 ?_
    refine hp I1_ (FrQ.of f1_) (by rw [el]; exact A1_) (by rw [el]; exact (Q0_.fr f1_ (fun y => absurd y z1_)).up (by omega))
  have h69_ : ∀ l2_ l3_, pStart (tTok tp n) e.1 → XX G 0 0 69 [some (.ref 135), some (.int (nI w)), some (.int l2_), some (.int l3_)] [] S R I J := by
    intro l2_ l3_ hs
    refine x_iload_n C0_ rfl dX12_takePart_69 ?_
    refine x_iconst (v := nI 5) C0_ rfl dX12_takePart_70 ?_
    refine x_icmp_ne (tgt := 79) C0_ (by decide) dX12_takePart_71 (fun hkk => absurd ((by rw [hw])) hkk) (fun _ => ?_)
    refine x_aload_n C0_ rfl dX12_takePart_74 ?_
    refine x_iconst (v := nI 5) C0_ rfl dX12_takePart_75 ?_
    refine x_callV [_] C0_ hN rfl (xRf_of hR (by omega) (Nat.zero_le _) (Nat.zero_le _)) mv_X12_wrong wm_X12_171 dX12_takePart_76 (isModel.k0 hM) rfl rfl (Nat.le_of_ble_eq_true rfl) (c_X12_wrong hM T A (by decide) (fun I1_ f1_ A1_ => ?_))
    exact hf79_ I1_ _ _ _ f1_ A1_ (pRef_ne (by decide)) (by rw [pPart_0, if_pos hs])
  by_cases hk : (tTok tp n e.1.1).1 = 2
  · have hs : pStart (tTok tp n) e.1 := ⟨h0_, Or.inl hk⟩
    refine x_aload_n C0_ rfl dX12_takePart_0 ?_
    refine x_getI C0_ wf_X12_165 (isModel.k0 hM) rfl dX12_takePart_1 ?_
    refine x_if_le (tgt := 8) C0_ (by decide) dX12_takePart_4 (fun _ => ?_) (fun hkk => absurd (az) hkk)
    refine x_aload_n C0_ rfl dX12_takePart_8 ?_
    refine x_getR C0_ wf_X12_24 (isModel.k0 hM) rfl rfl (isModel.r4 hM) dX12_takePart_9 ?_
    refine x_aload_n C0_ rfl dX12_takePart_12 ?_
    refine x_getI C0_ wf_X12_162 (isModel.k0 hM) rfl dX12_takePart_13 ?_
    refine x_topi a7_ ?_
    refine x_ialoadN C0_ (isModel.s4 hM) (by omega) (by omega) dX12_takePart_16 ?_
    refine x_topi k1_ ?_
    refine x_iconst (v := nI 2) C0_ rfl dX12_takePart_17 ?_
    refine x_icmp_ne (tgt := 25) C0_ (by decide) dX12_takePart_18 (fun hkk => absurd ((by rw [hk])) hkk) (fun _ => ?_)
    refine x_iconst (v := nI 1) C0_ rfl dX12_takePart_21 ?_
    refine x_goto (tgt := 26) C0_ (by decide) dX12_takePart_22 ?_
    refine x_istore_n (L' := [_, _, _, _]) C0_ hN (by decide) rfl dX12_takePart_26 ?_
    refine x_aload_n C0_ rfl dX12_takePart_27 ?_
    refine x_bipush (v := nI 22) C0_ rfl dX12_takePart_28 ?_
    refine x_iconst (v := nI 4) C0_ rfl dX12_takePart_30 ?_
    refine x_callV [_, _] C0_ hN rfl (xRf_of hR (by omega) (Nat.zero_le _) (Nat.zero_le _)) mv_X12_wordHere wm_X12_187 dX12_takePart_31 (isModel.k0 hM) rfl rfl (Nat.le_of_ble_eq_true rfl) (c_X12_wordHere hM T A (fr := 22) (m := 4) (by decide) ?_)
    have w0_ : wHr (tTok tp n) 22 4 e.1 = none := wHr_none (fun i _ y => by have := y.2.1; omega)
    rw [w0_]
    refine x_istore_n (L' := [_, _, _, _]) C0_ hN (by decide) rfl dX12_takePart_34 ?_
    refine x_iload_n C0_ rfl dX12_takePart_35 ?_
    refine x_if_ge (tgt := 69) C0_ (by decide) dX12_takePart_36 (fun hkk => absurd hkk ((show ¬ (0 : Int32) ≤ oI none by decide))) (fun _ => ?_)
    refine x_iload_n C0_ rfl dX12_takePart_39 ?_
    refine x_if_ne (tgt := 69) C0_ (by decide) dX12_takePart_40 (fun _ => ?_) (fun hkk => absurd hkk (by decide))
    exact h69_ _ _ hs
  · refine x_aload_n C0_ rfl dX12_takePart_0 ?_
    refine x_getI C0_ wf_X12_165 (isModel.k0 hM) rfl dX12_takePart_1 ?_
    refine x_if_le (tgt := 8) C0_ (by decide) dX12_takePart_4 (fun _ => ?_) (fun hkk => absurd (az) hkk)
    refine x_aload_n C0_ rfl dX12_takePart_8 ?_
    refine x_getR C0_ wf_X12_24 (isModel.k0 hM) rfl rfl (isModel.r4 hM) dX12_takePart_9 ?_
    refine x_aload_n C0_ rfl dX12_takePart_12 ?_
    refine x_getI C0_ wf_X12_162 (isModel.k0 hM) rfl dX12_takePart_13 ?_
    refine x_topi a7_ ?_
    refine x_ialoadN C0_ (isModel.s4 hM) (by omega) (by omega) dX12_takePart_16 ?_
    refine x_topi k1_ ?_
    refine x_iconst (v := nI 2) C0_ rfl dX12_takePart_17 ?_
    refine x_icmp_ne (tgt := 25) C0_ (by decide) dX12_takePart_18 (fun _ => ?_) (fun hkk => absurd hkk ((fun y => hk ((nI_eq (b := 2) (by omega) (by decide)).mp y))))
    refine x_iconst (v := nI 0) C0_ rfl dX12_takePart_25 ?_
    refine x_istore_n (L' := [_, _, _, _]) C0_ hN (by decide) rfl dX12_takePart_26 ?_
    refine x_aload_n C0_ rfl dX12_takePart_27 ?_
    refine x_bipush (v := nI 22) C0_ rfl dX12_takePart_28 ?_
    refine x_iconst (v := nI 4) C0_ rfl dX12_takePart_30 ?_
    refine x_callV [_, _] C0_ hN rfl (xRf_of hR (by omega) (Nat.zero_le _) (Nat.zero_le _)) mv_X12_wordHere wm_X12_187 dX12_takePart_31 (isModel.k0 hM) rfl rfl (Nat.le_of_ble_eq_true rfl) (c_X12_wordHere hM T A (fr := 22) (m := 4) (by decide) ?_)
    refine x_istore_n (L' := [_, _, _, _]) C0_ hN (by decide) rfl dX12_takePart_34 ?_
    refine x_iload_n C0_ rfl dX12_takePart_35 ?_
    refine x_if_ge (tgt := 69) C0_ (by decide) dX12_takePart_36 (fun g36_ => ?_) (fun g36_ => ?_)
    · exact h69_ _ _ ⟨h0_, Or.inr (Or.inl ((oI_ge hw9_).mp g36_))⟩
    · refine x_iload_n C0_ rfl dX12_takePart_39 ?_
      refine x_if_ne (tgt := 69) C0_ (by decide) dX12_takePart_40 (fun hkk => absurd (by decide) hkk) (fun _ => ?_)
      refine x_aload_n C0_ rfl dX12_takePart_43 ?_
      refine x_bipush (v := nI 40) C0_ rfl dX12_takePart_44 ?_
      refine x_callV [_] C0_ hN rfl (xRf_of hR (by omega) (Nat.zero_le _) (Nat.zero_le _)) mv_X12_isSign wm_X12_168 dX12_takePart_46 (isModel.k0 hM) rfl rfl (Nat.le_of_ble_eq_true rfl) (c_X12_isSign hM T A (by decide) (fun g46_ => ?_) (fun g46_ => ?_))
      · refine x_if_ne (tgt := 69) C0_ (by decide) dX12_takePart_49 (fun _ => ?_) (fun hkk => absurd hkk (by decide))
        exact h69_ _ _ ⟨h0_, Or.inr (Or.inr (Or.inr g46_))⟩
      · refine x_if_ne (tgt := 69) C0_ (by decide) dX12_takePart_49 (fun hkk => absurd (by decide) hkk) (fun _ => ?_)
        refine x_aload_n C0_ rfl dX12_takePart_52 ?_
        refine x_bipush (v := nI 19) C0_ rfl dX12_takePart_53 ?_
        refine x_callV [_] C0_ hN rfl (xRf_of hR (by omega) (Nat.zero_le _) (Nat.zero_le _)) mv_X12_isWord wm_X12_174 dX12_takePart_55 (isModel.k0 hM) rfl rfl (Nat.le_of_ble_eq_true rfl) (c_X12_isWord hM T A (by decide) (fun g55_ => ?_) (fun g55_ => ?_))
        · refine x_if_ne (tgt := 69) C0_ (by decide) dX12_takePart_58 (fun _ => ?_) (fun hkk => absurd hkk (by decide))
          exact h69_ _ _ ⟨h0_, Or.inr (Or.inr (Or.inl g55_))⟩
        · refine x_if_ne (tgt := 69) C0_ (by decide) dX12_takePart_58 (fun hkk => absurd (by decide) hkk) (fun _ => ?_)
          refine x_aload_n C0_ rfl dX12_takePart_61 ?_
          refine x_iconst (v := nI 1) C0_ rfl dX12_takePart_62 ?_
          refine x_callV [_] C0_ hN rfl (xRf_of hR (by omega) (Nat.zero_le _) (Nat.zero_le _)) mv_X12_wrong wm_X12_171 dX12_takePart_63 (isModel.k0 hM) rfl rfl (Nat.le_of_ble_eq_true rfl) (c_X12_wrong hM T A (by decide) (fun I1_ f1_ A1_ => ?_))
          refine x_goto (tgt := 79) C0_ (by decide) dX12_takePart_66 ?_
          have hns : ¬ pStart (tTok tp n) e.1 := fun y => by
            rcases y.2 with h | h | h | h
            · exact hk h
            · exact g36_ ((oI_ge hw9_).mpr h)
            · exact g55_ h
            · exact g46_ h
          exact hf79_ I1_ _ _ _ f1_ A1_ (pRef_ne (by decide)) (by rw [pPart_0, if_neg hns, pRef_ref (by decide)])
theorem p_takePartS {S : xTS} {R : xTR} (hM : isModel S R) {tp : Nat → Nat} {n c : Nat} {w d : Nat} (ihP : MPt S R tp n c yX12_takePart cX12_takePart 4 (w + 1) (3 + 5 * d) (pPart (tTok tp n) d) (4 * d)) (ihA : MPt S R tp n c yX12_whole cX12_whole 3 (w + 1) (3 + 5 * d + 4) (pAll (tTok tp n) (pPart (tTok tp n) d)) (4 * d + 4)) (hd5_ : d ≤ 5) (hw : w < 5) : MPt S R tp n c yX12_takePart cX12_takePart 4 w (3 + 5 * (d + 1)) (pPart (tTok tp n) (d + 1)) (4 * (d + 1)) := by
  intro I J post e T A h0_ Q0_ hp
  refine xSpec_of mt_X12_takePart (Nat.le_of_ble_eq_true rfl) (fun G C0_ hN hR E hI hZ => ?_)
  change XX G 0 0 0 [some (.ref 135), some (.int (nI w)), none, none] [] S R I J
  have hc1000_ : c ≤ 1000 := Nat.le_trans T.1.1 T.1.2.1
  obtain ⟨a7_, a8_, ac, a9_⟩ := id A
  obtain ⟨k0_, k5_, kp, kc, k1_, k2_, kw, kn, ks⟩ := T.at ac
  have az : I 135 8 ≤ 0 := by rw [a8_, h0_]; exact Int32.le_refl _
  have hw9_ : ∀ i, wHr (tTok tp n) 22 4 e.1 = some i → i < 1000 := fun i h => by have := (wHr_is h).1; omega
  have hf79_ : ∀ I1_ s1_ l2_ l3_, RFr I I1_ → MAt I1_ c s1_ → ¬ s1_.2 = 0 → pPart (tTok tp n) (d + 1) e = (s1_, e.2) → XX G 0 0 79 [some (.ref 135), some (.int (nI w)), some (.int l2_), some (.int l3_)] [] S R I1_ J := by
    intro I1_ s1_ l2_ l3_ f1_ A1_ z1_ el
    have gz : ¬ nI s1_.2 ≤ 0 := nI_nle (by omega) (by have := A1_.2.2.2; omega)
    refine x_aload_n C0_ rfl dX12_takePart_79 ?_
    refine x_getI C0_ wf_X12_165 (isModel.k0 hM) rfl dX12_takePart_80 ?_
    refine x_topi A1_.2.1 ?_
    refine x_if_le (tgt := 87) C0_ (by decide) dX12_takePart_83 (fun hkk => absurd hkk (gz)) (fun _ => ?_)
    refine x_vret C0_ E (by decide) (by decide) dX12_takePart_86 ?_
    refine hp I1_ (FrQ.of f1_) (by rw [el]; exact A1_) (by rw [el]; exact (Q0_.fr f1_ (fun y => absurd y z1_)).up (by omega))
  have up := pPart_up (q := (tTok tp n)) (d := d) (e := e)
  rw [if_neg (fun y => y h0_)] at up
  have e8_ : (eS pNext e).1.1 = e.1.1 + 1 := by rw [eNext h0_]
  have e7_ : (eS pNext e).2.length = e.2.length := rfl
  obtain ⟨z, ez, hz, hz3_⟩ := id Q0_
  obtain ⟨hzl, hle, hst⟩ := hz3_ h0_
  by_cases hk : (tTok tp n e.1.1).1 = 2
  · have hs : pStart (tTok tp n) e.1 := ⟨h0_, Or.inl hk⟩
    rw [if_pos hk] at up
    refine x_aload_n C0_ rfl dX12_takePart_0 ?_
    refine x_getI C0_ wf_X12_165 (isModel.k0 hM) rfl dX12_takePart_1 ?_
    refine x_if_le (tgt := 8) C0_ (by decide) dX12_takePart_4 (fun _ => ?_) (fun hkk => absurd (az) hkk)
    refine x_aload_n C0_ rfl dX12_takePart_8 ?_
    refine x_getR C0_ wf_X12_24 (isModel.k0 hM) rfl rfl (isModel.r4 hM) dX12_takePart_9 ?_
    refine x_aload_n C0_ rfl dX12_takePart_12 ?_
    refine x_getI C0_ wf_X12_162 (isModel.k0 hM) rfl dX12_takePart_13 ?_
    refine x_topi a7_ ?_
    refine x_ialoadN C0_ (isModel.s4 hM) (by omega) (by omega) dX12_takePart_16 ?_
    refine x_topi k1_ ?_
    refine x_iconst (v := nI 2) C0_ rfl dX12_takePart_17 ?_
    refine x_icmp_ne (tgt := 25) C0_ (by decide) dX12_takePart_18 (fun hkk => absurd ((by rw [hk])) hkk) (fun _ => ?_)
    refine x_iconst (v := nI 1) C0_ rfl dX12_takePart_21 ?_
    refine x_goto (tgt := 26) C0_ (by decide) dX12_takePart_22 ?_
    refine x_istore_n (L' := [_, _, _, _]) C0_ hN (by decide) rfl dX12_takePart_26 ?_
    refine x_aload_n C0_ rfl dX12_takePart_27 ?_
    refine x_bipush (v := nI 22) C0_ rfl dX12_takePart_28 ?_
    refine x_iconst (v := nI 4) C0_ rfl dX12_takePart_30 ?_
    refine x_callV [_, _] C0_ hN rfl (xRf_of hR (by omega) (Nat.zero_le _) (Nat.zero_le _)) mv_X12_wordHere wm_X12_187 dX12_takePart_31 (isModel.k0 hM) rfl rfl (Nat.le_of_ble_eq_true rfl) (c_X12_wordHere hM T A (fr := 22) (m := 4) (by decide) ?_)
    have w0_ : wHr (tTok tp n) 22 4 e.1 = none := wHr_none (fun i _ y => by have := y.2.1; omega)
    rw [w0_]
    refine x_istore_n (L' := [_, _, _, _]) C0_ hN (by decide) rfl dX12_takePart_34 ?_
    refine x_iload_n C0_ rfl dX12_takePart_35 ?_
    refine x_if_ge (tgt := 69) C0_ (by decide) dX12_takePart_36 (fun hkk => absurd hkk ((show ¬ (0 : Int32) ≤ oI none by decide))) (fun _ => ?_)
    refine x_iload_n C0_ rfl dX12_takePart_39 ?_
    refine x_if_ne (tgt := 69) C0_ (by decide) dX12_takePart_40 (fun _ => ?_) (fun hkk => absurd hkk (by decide))
    refine x_iload_n C0_ rfl dX12_takePart_69 ?_
    refine x_iconst (v := nI 5) C0_ rfl dX12_takePart_70 ?_
    refine x_icmp_ne (tgt := 79) C0_ (by decide) dX12_takePart_71 (fun _ => ?_) (fun hkk => absurd hkk ((fun y => by have := (nI_eq (a := w) (b := 5) (by omega) (by decide)).mp y; omega)))
    refine x_aload_n C0_ rfl dX12_takePart_79 ?_
    refine x_getI C0_ wf_X12_165 (isModel.k0 hM) rfl dX12_takePart_80 ?_
    refine x_if_le (tgt := 87) C0_ (by decide) dX12_takePart_83 (fun _ => ?_) (fun hkk => absurd (az) hkk)
    refine x_aload_n C0_ rfl dX12_takePart_87 ?_
    refine x_bipush (v := nI 19) C0_ rfl dX12_takePart_88 ?_
    refine x_callV [_] C0_ hN rfl (xRf_of hR (by omega) (Nat.zero_le _) (Nat.zero_le _)) mv_X12_hasWord wm_X12_177 dX12_takePart_90 (isModel.k0 hM) rfl rfl (Nat.le_of_ble_eq_true rfl) (c_X12_hasWord hM T A (i := 19) (by decide) (fun g _ _ _ => absurd (g.2.1.symm.trans hk) (by decide)) (fun g I1_ f1_ A1_ => ?_))
    have T1_ := T.fr f1_
    refine x_if_eq (tgt := 112) C0_ (by decide) dX12_takePart_93 (fun _ => ?_) (fun hkk => absurd (by decide) hkk)
    refine x_aload_n C0_ rfl dX12_takePart_112 ?_
    refine x_bipush (v := nI 40) C0_ rfl dX12_takePart_113 ?_
    refine x_callV [_] C0_ hN rfl (xRf_of hR (by omega) (Nat.zero_le _) (Nat.zero_le _)) mv_X12_hasSign wm_X12_270 dX12_takePart_115 (isModel.k0 hM) rfl rfl (Nat.le_of_ble_eq_true rfl) (c_X12_hasSign hM T1_ A1_ (d := 40) (by decide) (fun g _ _ _ => absurd (g.2.1.symm.trans hk) (by decide)) (fun g4_ I2_ f2_ A2_ => ?_))
    have f12_ := f1_.trans f2_
    have T2_ := T1_.fr f2_
    obtain ⟨a27_, a28_, -, -⟩ := id A2_
    obtain ⟨kn1_, kn2_⟩ := kn hk
    have ez2_ : I2_ 135 13 = nI z := by rw [f12_.2 13 (by decide) (by decide)]; exact ez
    have hcl := kc (by rw [hk]; decide)
    refine x_if_eq (tgt := 137) C0_ (by decide) dX12_takePart_118 (fun _ => ?_) (fun hkk => absurd (by decide) hkk)
    refine x_aload_n C0_ rfl dX12_takePart_137 ?_
    refine x_iload_n C0_ rfl dX12_takePart_138 ?_
    refine x_if_eq (tgt := 146) C0_ (by decide) dX12_takePart_139 (fun hkk => absurd hkk (by decide)) (fun _ => ?_)
    refine x_iconst (v := nI 1) C0_ rfl dX12_takePart_142 ?_
    refine x_goto (tgt := 147) C0_ (by decide) dX12_takePart_143 ?_
    refine x_iload_n C0_ rfl dX12_takePart_147 ?_
    refine x_if_eq (tgt := 164) C0_ (by decide) dX12_takePart_148 (fun hkk => absurd hkk (by decide)) (fun _ => ?_)
    refine x_aload_n C0_ rfl dX12_takePart_151 ?_
    refine x_getR C0_ wf_X12_30 (isModel.k0 hM) rfl rfl (isModel.r6 hM) dX12_takePart_152 ?_
    refine x_aload_n C0_ rfl dX12_takePart_155 ?_
    refine x_getI C0_ wf_X12_162 (isModel.k0 hM) rfl dX12_takePart_156 ?_
    refine x_topi a27_ ?_
    refine x_laloadN C0_ (isModel.s6 hM) (by omega) (by omega) dX12_takePart_159 ?_
    refine x_topl kn2_ ?_
    refine x_l2i C0_ dX12_takePart_160 ?_
    refine x_topi (l_int _) ?_
    refine x_goto (tgt := 165) C0_ (by decide) dX12_takePart_161 ?_
    refine x_callV [_, _] C0_ hN rfl (xRf_of hR (by omega) (Nat.zero_le _) (Nat.zero_le _)) mv_X12_emit wm_X12_257 dX12_takePart_165 (isModel.k0 hM) rfl rfl (Nat.le_of_ble_eq_true rfl) (c_X12_emit hM ez2_ (by omega) ?_)
    have A3_ : MAt (qPut I2_ z (nI 1) (nI (tTok tp n e.1.1).2.1)) c e.1 := qPut_at A2_
    refine x_aload_n C0_ rfl dX12_takePart_168 ?_
    refine x_dup C0_ rfl dX12_takePart_169 ?_
    refine x_getI C0_ wf_X12_162 (isModel.k0 hM) rfl dX12_takePart_170 ?_
    refine x_topi A3_.1 ?_
    refine x_iconst (v := nI 1) C0_ rfl dX12_takePart_173 ?_
    refine x_iadd C0_ dX12_takePart_174 ?_
    refine x_topi (nI_add e.1.1 1) ?_
    refine x_putI C0_ wf_X12_162 (isModel.k0 hM) rfl dX12_takePart_175 ?_
    refine x_vret C0_ E (by decide) (by decide) dX12_takePart_178 ?_
    have A4_ := A3_.next h0_ hcl
    have Q2_ : QE I2_ 0 e := Q0_.fr f12_ (fun y => ⟨y, Nat.le_refl _⟩)
    have Q3_ : QE (qPut I2_ z (nI 1) (nI (tTok tp n e.1.1).2.1)) 1 (eEm (1, (tTok tp n e.1.1).2.1) (eS pNext e)) := (Q2_.go h0_ ac hc1000_ RFr.rf).put ez2_ (by omega) (by decide) (fun _ => by omega) rfl rfl
    refine hp _ ((FrQ.of f12_).trans (qPut_fr.trans (FrQ.of (RFr.st (Or.inl rfl))))) (by rw [up]; exact A4_) ?_
    rw [up]
    exact (Q3_.fr (RFr.st (Or.inl rfl)) (fun y => ⟨y, Nat.le_refl _⟩)).up (by omega)
  · rw [if_neg hk] at up
    have h69_ : ∀ l2_ l3_, l2_ = 0 → l3_ = oI (wHr (tTok tp n) 22 4 e.1) → pStart (tTok tp n) e.1 → XX G 0 0 69 [some (.ref 135), some (.int (nI w)), some (.int l2_), some (.int l3_)] [] S R I J := by
      intro l2_ l3_ e2_ e3_ hs
      subst e2_
      refine x_iload_n C0_ rfl dX12_takePart_69 ?_
      refine x_iconst (v := nI 5) C0_ rfl dX12_takePart_70 ?_
      refine x_icmp_ne (tgt := 79) C0_ (by decide) dX12_takePart_71 (fun _ => ?_) (fun hkk => absurd hkk ((fun y => by have := (nI_eq (a := w) (b := 5) (by omega) (by decide)).mp y; omega)))
      refine x_aload_n C0_ rfl dX12_takePart_79 ?_
      refine x_getI C0_ wf_X12_165 (isModel.k0 hM) rfl dX12_takePart_80 ?_
      refine x_if_le (tgt := 87) C0_ (by decide) dX12_takePart_83 (fun _ => ?_) (fun hkk => absurd (az) hkk)
      refine x_aload_n C0_ rfl dX12_takePart_87 ?_
      refine x_bipush (v := nI 19) C0_ rfl dX12_takePart_88 ?_
      refine x_callV [_] C0_ hN rfl (xRf_of hR (by omega) (Nat.zero_le _) (Nat.zero_le _)) mv_X12_hasWord wm_X12_177 dX12_takePart_90 (isModel.k0 hM) rfl rfl (Nat.le_of_ble_eq_true rfl) (c_X12_hasWord hM T A (i := 19) (by decide) (fun g3_ I1_ f1_ A1_ => ?_) (fun g3_ I1_ f1_ A1_ => ?_))
      · refine x_if_eq (tgt := 112) C0_ (by decide) dX12_takePart_93 (fun hkk => absurd hkk (by decide)) (fun _ => ?_)
        have w0_ : ¬ wHr (tTok tp n) 22 4 e.1 ≠ none := fun y => by
          cases q9_ : wHr (tTok tp n) 22 4 e.1 with
          | none => exact y q9_
          | some f =>
            obtain ⟨b1_, b2_⟩ := wHr_is q9_
            exact absurd (wCd_inj 19 (by decide) (22 + f) (by omega) (g3_.2.2.symm.trans b2_.2.2)) (by omega)
        rw [if_neg w0_, if_pos g3_] at up
        have A1'_ : MAt I1_ c (eS pNext e).1 := A1_
        refine x_aload_n C0_ rfl dX12_takePart_96 ?_
        refine x_iload_n C0_ rfl dX12_takePart_97 ?_
        refine x_iconst (v := nI 1) C0_ rfl dX12_takePart_98 ?_
        refine x_iaddN C0_ dX12_takePart_99 ?_
        refine x_callV [_] C0_ hN rfl (xRf_of hR (by omega) (Nat.zero_le _) (Nat.zero_le _)) mv_X12_takePart wm_X12_276 dX12_takePart_100 (isModel.k0 hM) rfl rfl (Nat.le_of_ble_eq_true rfl) (ihP I1_ J _ (eS pNext e) (T.fr f1_) A1'_ (by rw [eNext h0_]) (Q0_.go h0_ ac hc1000_ f1_) (fun I3_ f3_ A3_ Q3_ => ?_))
        refine x_aload_n C0_ rfl dX12_takePart_103 ?_
        refine x_iconst (v := nI 3) C0_ rfl dX12_takePart_104 ?_
        refine x_iconst (v := nI 0) C0_ rfl dX12_takePart_105 ?_
        obtain ⟨z3_, ez3_, hz3_, -⟩ := id Q3_
        refine x_callV [_, _] C0_ hN rfl (xRf_of hR (by omega) (Nat.zero_le _) (Nat.zero_le _)) mv_X12_emit wm_X12_257 dX12_takePart_106 (isModel.k0 hM) rfl rfl (Nat.le_of_ble_eq_true rfl) (c_X12_emit hM ez3_ (by omega) ?_)
        refine x_goto (tgt := 178) C0_ (by decide) dX12_takePart_109 ?_
        refine x_vret C0_ E (by decide) (by decide) dX12_takePart_178 ?_
        have Q4_ : QE (qPut I3_ z3_ (nI 3) (nI 0)) (4 * d + 1) (eEm (3, 0) (pPart (tTok tp n) d (eS pNext e))) := Q3_.put ez3_ (by omega) (by omega) (fun y => ⟨stepQ (pPart_gr d) Q0_ h0_ y, Nat.le_trans A3_.2.2.1 hc1000_⟩) rfl rfl
        refine hp _ ((FrQ.of f1_).trans (f3_.trans qPut_fr)) (by rw [up]; exact qPut_at A3_) ?_
        rw [up]
        exact Q4_.up (by omega)
      · refine x_if_eq (tgt := 112) C0_ (by decide) dX12_takePart_93 (fun _ => ?_) (fun hkk => absurd (by decide) hkk)
        refine x_aload_n C0_ rfl dX12_takePart_112 ?_
        refine x_bipush (v := nI 40) C0_ rfl dX12_takePart_113 ?_
        refine x_callV [_] C0_ hN rfl (xRf_of hR (by omega) (Nat.zero_le _) (Nat.zero_le _)) mv_X12_hasSign wm_X12_270 dX12_takePart_115 (isModel.k0 hM) rfl rfl (Nat.le_of_ble_eq_true rfl) (c_X12_hasSign hM (T.fr f1_) A1_ (d := 40) (by decide) (fun g4_ I2_ f2_ A2_ => ?_) (fun g4_ I2_ f2_ A2_ => ?_))
        · refine x_if_eq (tgt := 137) C0_ (by decide) dX12_takePart_118 (fun hkk => absurd hkk (by decide)) (fun _ => ?_)
          have w0_ : ¬ wHr (tTok tp n) 22 4 e.1 ≠ none := fun y => by
            cases q9_ : wHr (tTok tp n) 22 4 e.1 with
            | none => exact y q9_
            | some f => exact absurd ((wHr_is q9_).2.2.1.symm.trans g4_.2.1) (by decide)
          rw [if_neg w0_, if_neg g3_, if_pos g4_] at up
          have A2'_ : MAt I2_ c (eS pNext e).1 := A2_
          have f12_ := f1_.trans f2_
          refine x_aload_n C0_ rfl dX12_takePart_121 ?_
          refine x_iload_n C0_ rfl dX12_takePart_122 ?_
          refine x_iconst (v := nI 1) C0_ rfl dX12_takePart_123 ?_
          refine x_iaddN C0_ dX12_takePart_124 ?_
          refine x_callV [_] C0_ hN rfl (xRf_of hR (by omega) (Nat.zero_le _) (Nat.zero_le _)) mv_X12_whole wm_X12_254 dX12_takePart_125 (isModel.k0 hM) rfl rfl (Nat.le_of_ble_eq_true rfl) (ihA I2_ J _ (eS pNext e) (T.fr f12_) A2'_ (by rw [eNext h0_]) (Q0_.go h0_ ac hc1000_ f12_) (fun I3_ f3_ A3_ Q3_ => ?_))
          refine x_aload_n C0_ rfl dX12_takePart_128 ?_
          refine x_bipush (v := nI 41) C0_ rfl dX12_takePart_129 ?_
          refine x_callV [_] C0_ hN rfl (xRf_of hR (by omega) (Nat.zero_le _) (Nat.zero_le _)) mv_X12_takeSign wm_X12_227 dX12_takePart_131 (isModel.k0 hM) rfl rfl (Nat.le_of_ble_eq_true rfl) (c_X12_takeSign hM ((T.fr f12_).frq f3_) A3_ (d := 41) (by decide) (fun I4_ f4_ A4_ => ?_))
          refine x_goto (tgt := 178) C0_ (by decide) dX12_takePart_134 ?_
          refine x_vret C0_ E (by decide) (by decide) dX12_takePart_178 ?_
          refine hp I4_ ((FrQ.of f12_).trans (f3_.trans (FrQ.of f4_))) (by rw [up]; exact A4_) ?_
          rw [up]
          exact (Q3_.fr f4_ (fun y => ⟨pz (f := pSign (tTok tp n) 41) (fun y => pSign_f y) y, pSign_mn _ _ _⟩)).up (by omega)
        · refine x_if_eq (tgt := 137) C0_ (by decide) dX12_takePart_118 (fun _ => ?_) (fun hkk => absurd (by decide) hkk)
          obtain ⟨f9_, ef9_⟩ : ∃ f, wHr (tTok tp n) 22 4 e.1 = some f := by
            cases q9_ : wHr (tTok tp n) 22 4 e.1 with
            | none =>
              rcases hs.2 with h | h | h | h
              · exact absurd h hk
              · exact absurd q9_ h
              · exact absurd h g3_
              · exact absurd h g4_
            | some f => exact ⟨f, rfl⟩
          rw [if_pos (by rw [ef9_]; exact fun y => by cases y), ef9_] at up
          have up : pPart (tTok tp n) (d + 1) e = eEm (2, f9_) (eS pNext e) := up
          rw [ef9_] at e3_
          have f12_ := f1_.trans f2_
          have ez2_ : I2_ 135 13 = nI z := by rw [f12_.2 13 (by decide) (by decide)]; exact ez
          have hcl := kc (by rw [(wHr_is ef9_).2.2.1]; decide)
          refine x_aload_n C0_ rfl dX12_takePart_137 ?_
          refine x_iload_n C0_ rfl dX12_takePart_138 ?_
          refine x_if_eq (tgt := 146) C0_ (by decide) dX12_takePart_139 (fun _ => ?_) (fun hkk => absurd (by decide) hkk)
          refine x_iconst (v := nI 2) C0_ rfl dX12_takePart_146 ?_
          refine x_iload_n C0_ rfl dX12_takePart_147 ?_
          refine x_if_eq (tgt := 164) C0_ (by decide) dX12_takePart_148 (fun _ => ?_) (fun hkk => absurd (by decide) hkk)
          refine x_iload_n C0_ rfl dX12_takePart_164 ?_
          refine x_topi (e3_.trans (rfl : oI (some f9_) = nI f9_)) ?_
          refine x_callV [_, _] C0_ hN rfl (xRf_of hR (by omega) (Nat.zero_le _) (Nat.zero_le _)) mv_X12_emit wm_X12_257 dX12_takePart_165 (isModel.k0 hM) rfl rfl (Nat.le_of_ble_eq_true rfl) (c_X12_emit hM ez2_ (by omega) ?_)
          have A3_ : MAt (qPut I2_ z (nI 2) (nI f9_)) c e.1 := qPut_at A2_
          refine x_aload_n C0_ rfl dX12_takePart_168 ?_
          refine x_dup C0_ rfl dX12_takePart_169 ?_
          refine x_getI C0_ wf_X12_162 (isModel.k0 hM) rfl dX12_takePart_170 ?_
          refine x_topi A3_.1 ?_
          refine x_iconst (v := nI 1) C0_ rfl dX12_takePart_173 ?_
          refine x_iadd C0_ dX12_takePart_174 ?_
          refine x_topi (nI_add e.1.1 1) ?_
          refine x_putI C0_ wf_X12_162 (isModel.k0 hM) rfl dX12_takePart_175 ?_
          refine x_vret C0_ E (by decide) (by decide) dX12_takePart_178 ?_
          have A4_ := A3_.next h0_ hcl
          have Q2_ : QE I2_ 0 e := Q0_.fr f12_ (fun y => ⟨y, Nat.le_refl _⟩)
          have Q3_ : QE (qPut I2_ z (nI 2) (nI f9_)) 1 (eEm (2, f9_) (eS pNext e)) := (Q2_.go h0_ ac hc1000_ RFr.rf).put ez2_ (by omega) (by decide) (fun _ => by omega) rfl rfl
          refine hp _ ((FrQ.of f12_).trans (qPut_fr.trans (FrQ.of (RFr.st (Or.inl rfl))))) (by rw [up]; exact A4_) ?_
          rw [up]
          exact (Q3_.fr (RFr.st (Or.inl rfl)) (fun y => ⟨y, Nat.le_refl _⟩)).up (by omega)
    refine x_aload_n C0_ rfl dX12_takePart_0 ?_
    refine x_getI C0_ wf_X12_165 (isModel.k0 hM) rfl dX12_takePart_1 ?_
    refine x_if_le (tgt := 8) C0_ (by decide) dX12_takePart_4 (fun _ => ?_) (fun hkk => absurd (az) hkk)
    refine x_aload_n C0_ rfl dX12_takePart_8 ?_
    refine x_getR C0_ wf_X12_24 (isModel.k0 hM) rfl rfl (isModel.r4 hM) dX12_takePart_9 ?_
    refine x_aload_n C0_ rfl dX12_takePart_12 ?_
    refine x_getI C0_ wf_X12_162 (isModel.k0 hM) rfl dX12_takePart_13 ?_
    refine x_topi a7_ ?_
    refine x_ialoadN C0_ (isModel.s4 hM) (by omega) (by omega) dX12_takePart_16 ?_
    refine x_topi k1_ ?_
    refine x_iconst (v := nI 2) C0_ rfl dX12_takePart_17 ?_
    refine x_icmp_ne (tgt := 25) C0_ (by decide) dX12_takePart_18 (fun _ => ?_) (fun hkk => absurd hkk ((fun y => hk ((nI_eq (b := 2) (by omega) (by decide)).mp y))))
    refine x_iconst (v := nI 0) C0_ rfl dX12_takePart_25 ?_
    refine x_istore_n (L' := [_, _, _, _]) C0_ hN (by decide) rfl dX12_takePart_26 ?_
    refine x_aload_n C0_ rfl dX12_takePart_27 ?_
    refine x_bipush (v := nI 22) C0_ rfl dX12_takePart_28 ?_
    refine x_iconst (v := nI 4) C0_ rfl dX12_takePart_30 ?_
    refine x_callV [_, _] C0_ hN rfl (xRf_of hR (by omega) (Nat.zero_le _) (Nat.zero_le _)) mv_X12_wordHere wm_X12_187 dX12_takePart_31 (isModel.k0 hM) rfl rfl (Nat.le_of_ble_eq_true rfl) (c_X12_wordHere hM T A (fr := 22) (m := 4) (by decide) ?_)
    refine x_istore_n (L' := [_, _, _, _]) C0_ hN (by decide) rfl dX12_takePart_34 ?_
    refine x_iload_n C0_ rfl dX12_takePart_35 ?_
    refine x_if_ge (tgt := 69) C0_ (by decide) dX12_takePart_36 (fun g36_ => ?_) (fun g36_ => ?_)
    · exact h69_ _ _ rfl rfl ⟨h0_, Or.inr (Or.inl ((oI_ge hw9_).mp g36_))⟩
    · refine x_iload_n C0_ rfl dX12_takePart_39 ?_
      refine x_if_ne (tgt := 69) C0_ (by decide) dX12_takePart_40 (fun hkk => absurd (by decide) hkk) (fun _ => ?_)
      refine x_aload_n C0_ rfl dX12_takePart_43 ?_
      refine x_bipush (v := nI 40) C0_ rfl dX12_takePart_44 ?_
      refine x_callV [_] C0_ hN rfl (xRf_of hR (by omega) (Nat.zero_le _) (Nat.zero_le _)) mv_X12_isSign wm_X12_168 dX12_takePart_46 (isModel.k0 hM) rfl rfl (Nat.le_of_ble_eq_true rfl) (c_X12_isSign hM T A (by decide) (fun g46_ => ?_) (fun g46_ => ?_))
      · refine x_if_ne (tgt := 69) C0_ (by decide) dX12_takePart_49 (fun _ => ?_) (fun hkk => absurd hkk (by decide))
        exact h69_ _ _ rfl rfl ⟨h0_, Or.inr (Or.inr (Or.inr g46_))⟩
      · refine x_if_ne (tgt := 69) C0_ (by decide) dX12_takePart_49 (fun hkk => absurd (by decide) hkk) (fun _ => ?_)
        refine x_aload_n C0_ rfl dX12_takePart_52 ?_
        refine x_bipush (v := nI 19) C0_ rfl dX12_takePart_53 ?_
        refine x_callV [_] C0_ hN rfl (xRf_of hR (by omega) (Nat.zero_le _) (Nat.zero_le _)) mv_X12_isWord wm_X12_174 dX12_takePart_55 (isModel.k0 hM) rfl rfl (Nat.le_of_ble_eq_true rfl) (c_X12_isWord hM T A (by decide) (fun g55_ => ?_) (fun g55_ => ?_))
        · refine x_if_ne (tgt := 69) C0_ (by decide) dX12_takePart_58 (fun _ => ?_) (fun hkk => absurd hkk (by decide))
          exact h69_ _ _ rfl rfl ⟨h0_, Or.inr (Or.inr (Or.inl g55_))⟩
        · refine x_if_ne (tgt := 69) C0_ (by decide) dX12_takePart_58 (fun hkk => absurd (by decide) hkk) (fun _ => ?_)
          refine x_aload_n C0_ rfl dX12_takePart_61 ?_
          refine x_iconst (v := nI 1) C0_ rfl dX12_takePart_62 ?_
          refine x_callV [_] C0_ hN rfl (xRf_of hR (by omega) (Nat.zero_le _) (Nat.zero_le _)) mv_X12_wrong wm_X12_171 dX12_takePart_63 (isModel.k0 hM) rfl rfl (Nat.le_of_ble_eq_true rfl) (c_X12_wrong hM T A (by decide) (fun I1_ f1_ A1_ => ?_))
          refine x_goto (tgt := 79) C0_ (by decide) dX12_takePart_66 ?_
          have hns : ¬ pStart (tTok tp n) e.1 := fun y => by
            rcases y.2 with h | h | h | h
            · exact hk h
            · exact g36_ ((oI_ge hw9_).mpr h)
            · exact g55_ h
            · exact g46_ h
          exact hf79_ I1_ _ _ _ f1_ A1_ (pRef_ne (by decide)) (by rw [pPart_bad hns])
theorem m_levels {S : xTS} {R : xTR} (hM : isModel S R) {tp : Nat → Nat} {n c : Nat} : ∀ d, d ≤ 5 → MPt S R tp n c yX12_takePart cX12_takePart 4 (5 - d) (3 + 5 * d) (pPart (tTok tp n) d) (4 * d) ∧ MPt S R tp n c yX12_whole cX12_whole 3 (5 - d) (3 + 5 * d + 4) (pAll (tTok tp n) (pPart (tTok tp n) d)) (4 * d + 4)
  | 0, _ => by
    have h := p_takePart0 (S := S) (R := R) (tp := tp) (n := n) (c := c) hM (w := 5) rfl
    exact ⟨h, p_X12_whole hM (pPart_gr 0) (pPart_fx 0) (pPart_mn 0) (by decide) (by decide) (p_X12_test hM (pPart_gr 0) (pPart_fx 0) (pPart_mn 0) (by decide) (by decide) (p_X12_sums hM (pPart_gr 0) (pPart_fx 0) (pPart_mn 0) (by decide) (by decide) (p_X12_products hM (pPart_gr 0) (pPart_fx 0) (pPart_mn 0) (by decide) (by decide) h)))⟩
  | d + 1, hd => by
    obtain ⟨h1_, h2_⟩ := m_levels hM (tp := tp) (n := n) (c := c) d (by omega)
    rw [show 5 - d = 5 - (d + 1) + 1 by omega] at h1_ h2_
    have h := p_takePartS hM h1_ h2_ (by omega) (by omega)
    exact ⟨h, p_X12_whole hM (pPart_gr _) (pPart_fx _) (pPart_mn _) (by omega) (by omega) (p_X12_test hM (pPart_gr _) (pPart_fx _) (pPart_mn _) (by omega) (by omega) (p_X12_sums hM (pPart_gr _) (pPart_fx _) (pPart_mn _) (by omega) (by omega) (p_X12_products hM (pPart_gr _) (pPart_fx _) (pPart_mn _) (by omega) (by omega) h)))⟩
