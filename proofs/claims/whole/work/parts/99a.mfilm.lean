/-! READING: the reference, star, doubts -/
def oN (a b : Bool) : Nat := (if a then 1 else 0) + (if b then 2 else 0)
theorem oN_0 (a b : Bool) : nI (oN a b) >>> (nI 0 &&& 31) &&& nI 1 = bI a := by cases a <;> cases b <;> decide
theorem oN_1 (a b : Bool) : nI (oN a b) >>> (nI 1 &&& 31) &&& nI 1 = bI b := by cases a <;> cases b <;> decide
theorem oN_s0 (a b : Bool) : nI (oN a b) ||| nI 1 <<< (nI 0 &&& 31) = nI (oN true b) := by cases a <;> cases b <;> decide
theorem oN_s1 (a b : Bool) : nI (oN a b) ||| nI 1 <<< (nI 1 &&& 31) = nI (oN a true) := by cases a <;> cases b <;> decide
/-- the law in the rows that are being read -/
def RLw (I : xTI) (lw : Option (List (Nat × Nat))) : Prop := match lw with
  | none => I 135 13 = nI 0
  | some cl => I 135 13 = nI (cl.length + 1) ∧ cl.length ≤ 1000 ∧ lSafe 24 cl 0 ∧ (∀ i (h : i < cl.length), I 142 (1100 + i) = nI cl[i].1 ∧ I 143 (1100 + i) = nI cl[i].2) ∧ I 142 (1100 + cl.length) = 0
theorem RLw.congr {I I' : xTI} {lw : Option (List (Nat × Nat))} (h : RLw I lw) (e1_ : I' 135 13 = I 135 13) (e2_ : I' 142 = I 142) (e3_ : I' 143 = I 143) : RLw I' lw := by
  cases lw with
  | none => exact e1_.trans h
  | some cl =>
    unfold RLw at h ⊢
    dsimp only at h ⊢
    rw [e1_, e2_, e3_]
    exact h
theorem RSt.law {I I' : xTI} {J : xTJ} {F : pF} {lo : Bool} (h : RSt I J F lo) (e1_ : I' 141 = u2 I 141 64 0 141) (e2_ : I' 147 = I 147) (e3_ : I' 135 19 = I 135 19) : RSt I' J F true := by
  obtain ⟨h1_, h2_, h3_, h4_, h5_⟩ := h
  refine ⟨h1_, h2_, fun i hi => ?_, e3_.trans h4_, h5_.congr e2_ rfl⟩
  rw [e1_, fRow_law (lo := lo)]
  by_cases e : i = 4
  · rw [if_pos e, u2_eq _ _ (by omega)]
  · rw [if_neg e, u2_off _ _ (by omega)]; exact h3_ i hi
theorem RSt.star {I I' : xTI} {J : xTJ} {F : pF} {lo : Bool} {v : Nat} (h : RSt I J F lo) (hv : v ≤ 8) (e1_ : I' 141 = u2 I 141 63 (nI v) 141) (e2_ : I' 147 = I 147) (e3_ : I' 135 19 = I 135 19) : RSt I' J (fStar F v) lo := by
  obtain ⟨h1_, h2_, h3_, h4_, h5_⟩ := h
  refine ⟨FOk_star h1_ hv, h2_, fun i hi => ?_, e3_.trans h4_, h5_.congr e2_ rfl⟩
  rw [e1_, fRow_star]
  by_cases e : i = 3
  · rw [if_pos e, u2_eq _ _ (by omega)]
  · rw [if_neg e, u2_off _ _ (by omega)]; exact h3_ i hi
theorem c_X12_readOnce {S : xTS} {R : xTR} {I : xTI} {J : xTJ} {post : xPost} (hM : isModel S R) {tp : Nat → Nat} {n c : Nat} (T : MRd I J tp n c) {s : pS} (A : MAt I c s) {F : pF} {st : Bool} {lw : Option (List (Nat × Nat))} (W : RSt I J F lw.isSome) (eo : I 135 20 = nI (oN st lw.isSome)) (L : RLw I lw) (h0_ : s.2 = 0) (hpS : pIsW (tTok tp n) 8 s → ∀ I', FrR I J I' J → MAt I' c (pNum (tTok tp n) 0 8 (pOnce (tTok tp n) st s)) → ((pNum (tTok tp n) 0 8 (pOnce (tTok tp n) st s)).2 = 0 → RSt I' J (fStar F ((tTok tp n) (s.1 + 1)).2.1) lw.isSome ∧ I' 135 20 = nI (oN true lw.isSome) ∧ RLw I' lw) → post none S R I' J) (hpD : pIsW (tTok tp n) 9 s → ∀ I', FrR I J I' J → MAt I' c (pAll (tTok tp n) (pPart (tTok tp n) 5) (pOnce (tTok tp n) lw.isSome s, [])).1 → ((pAll (tTok tp n) (pPart (tTok tp n) 5) (pOnce (tTok tp n) lw.isSome s, [])).1.2 = 0 → RSt I' J F true ∧ I' 135 20 = nI (oN st true) ∧ RLw I' (some (pAll (tTok tp n) (pPart (tTok tp n) 5) (pOnce (tTok tp n) lw.isSome s, [])).2)) → post none S R I' J) (hpN : ¬ pIsW (tTok tp n) 8 s → ¬ pIsW (tTok tp n) 9 s → ∀ I', RFr I I' → MAt I' c (pRef (tTok tp n) 1 s) → post none S R I' J) : xSpec 33 yX12_readOnce cX12_readOnce 2 none 0 0 [.ref 135] S R I J post := by
  refine xSpec_of mt_X12_readOnce (Nat.le_of_ble_eq_true rfl) (fun G C0_ hN hR E hI hZ => ?_)
  change XX G 0 0 0 [some (.ref 135), none] [] S R I J
  obtain ⟨a7_, a8_, ac, a9_⟩ := id A
  obtain ⟨k0_, k5_, kp, kc, k1_, k2_, kw, kn, ks⟩ := T.at ac
  have az := A.z
  have hc1000_ : c ≤ 1000 := Nat.le_trans T.1.1 T.1.2.1
  by_cases g8_ : pIsW (tTok tp n) 8 s
  · have hc := kc (by rw [g8_.2.1]; decide)
    have h37_ : ∀ I1_, RFr I I1_ → MAt I1_ c (if st = true then pRef (tTok tp n) 3 s else s) → XX G 0 0 37 [some (.ref 135), some (.int (nI 0))] [] S R I1_ J := by
      intro I1_ f1_ A1_
      have T1_ := T.fr f1_
      by_cases hb : st = true
      · rw [if_pos hb] at A1_
        have eO : pNum (tTok tp n) 0 8 (pOnce (tTok tp n) st s) = pRef (tTok tp n) 3 s := by
          unfold pOnce
          rw [if_pos hb, pNext_ref (by decide), pNum_f (pRef_ne (by decide))]
        have gz : ¬ nI (pRef (tTok tp n) 3 s).2 ≤ 0 := nI_nle (Nat.pos_of_ne_zero (pRef_ne (by decide))) (Nat.lt_trans A1_.2.2.2 (by decide))
        refine x_aload_n C0_ rfl dX12_readOnce_37 ?_
        refine x_getI C0_ wf_X12_165 (isModel.k0 hM) rfl dX12_readOnce_38 ?_
        refine x_topi A1_.2.1 ?_
        refine x_if_le (tgt := 45) C0_ (by decide) dX12_readOnce_41 (fun hkk => absurd hkk (gz)) (fun _ => ?_)
        refine x_vret C0_ E (by decide) (by decide) dX12_readOnce_44 ?_
        exact hpS g8_ I1_ (FrR.of f1_) (by rw [eO]; exact A1_) (fun y => absurd (by rw [← eO]; exact y) (pRef_ne (q := tTok tp n) (s := s) (c := 3) (by decide)))
      · rw [if_neg hb] at A1_
        have eO : pOnce (tTok tp n) st s = (s.1 + 1, 0) := by
          unfold pOnce
          rw [if_neg hb, pNext_0 h0_]
        rw [eO] at hpS
        have hb2_ : st = false := Bool.eq_false_iff.mpr hb
        refine x_aload_n C0_ rfl dX12_readOnce_37 ?_
        refine x_getI C0_ wf_X12_165 (isModel.k0 hM) rfl dX12_readOnce_38 ?_
        refine x_topi A1_.2.1 ?_
        refine x_if_le (tgt := 45) C0_ (by decide) dX12_readOnce_41 (fun _ => ?_) (fun hkk => absurd ((by rw [h0_]; exact Int32.le_refl _)) hkk)
        refine x_aload_n C0_ rfl dX12_readOnce_45 ?_
        refine x_dup C0_ rfl dX12_readOnce_46 ?_
        refine x_getI C0_ wf_X12_221 (isModel.k0 hM) rfl dX12_readOnce_47 ?_
        refine x_topi (v := nI (oN st lw.isSome)) (by rw [f1_.2 20 (by decide) (by decide)]; exact eo) ?_
        refine x_iconst (v := nI 1) C0_ rfl dX12_readOnce_50 ?_
        refine x_iload_n C0_ rfl dX12_readOnce_51 ?_
        refine x_ishl C0_ dX12_readOnce_52 ?_
        refine x_ior C0_ dX12_readOnce_53 ?_
        refine x_topi (oN_s0 st lw.isSome) ?_
        refine x_putI C0_ wf_X12_221 (isModel.k0 hM) rfl dX12_readOnce_54 ?_
        refine x_aload_n C0_ rfl dX12_readOnce_57 ?_
        refine x_dup C0_ rfl dX12_readOnce_58 ?_
        refine x_getI C0_ wf_X12_162 (isModel.k0 hM) rfl dX12_readOnce_59 ?_
        refine x_topi (v := nI s.1) (by rw [u2_off _ _ (by decide)]; exact A1_.1) ?_
        refine x_iconst (v := nI 1) C0_ rfl dX12_readOnce_62 ?_
        refine x_iadd C0_ dX12_readOnce_63 ?_
        refine x_topi (nI_add s.1 1) ?_
        refine x_putI C0_ wf_X12_162 (isModel.k0 hM) rfl dX12_readOnce_64 ?_
        have A2_ : MAt (u2 (u2 I1_ 135 20 (nI (oN true lw.isSome))) 135 7 (nI (s.1 + 1))) c (s.1 + 1, 0) := ⟨u2_same _ _ _ _, by rw [u2_off _ _ (by decide), u2_off _ _ (by decide), A1_.2.1, h0_], hc, (by decide : 0 < 20000)⟩
        have s2_ : ∀ a, a ≠ 135 → u2 (u2 I1_ 135 20 (nI (oN true lw.isSome))) 135 7 (nI (s.1 + 1)) a = I a := fun a h => by rw [u2_row _ _ _ h, u2_row _ _ _ h]; exact f1_.1 a h
        have t2_ : ∀ k, k ≠ 7 → k ≠ 8 → k ≠ 20 → u2 (u2 I1_ 135 20 (nI (oN true lw.isSome))) 135 7 (nI (s.1 + 1)) 135 k = I 135 k := fun k h1_ h2_ h3_ => by rw [u2_off _ _ h1_, u2_off _ _ h3_]; exact f1_.2 k h1_ h2_
        have o2_ : u2 (u2 I1_ 135 20 (nI (oN true lw.isSome))) 135 7 (nI (s.1 + 1)) 135 20 = nI (oN true lw.isSome) := by rw [u2_off _ _ (by decide), u2_same]
        generalize u2 (u2 I1_ 135 20 (nI (oN true lw.isSome))) 135 7 (nI (s.1 + 1)) = I2_ at A2_ s2_ t2_ o2_ ⊢
        have fr2_ : FrR I J I2_ J := ⟨fun a h _ _ _ _ => s2_ a h, fun k h1_ h2_ _ _ h3_ => t2_ k h1_ h2_ h3_, fun j _ => by rw [s2_ 141 (by decide)], fun j _ => by rw [s2_ 142 (by decide), s2_ 143 (by decide)]; exact ⟨rfl, rfl⟩, fun _ _ => rfl⟩
        refine x_iload_n C0_ rfl dX12_readOnce_67 ?_
        refine x_if_ne (tgt := 88) C0_ (by decide) dX12_readOnce_68 (fun hkk => absurd ((rfl : nI 0 = 0)) hkk) (fun _ => ?_)
        refine x_aload_n C0_ rfl dX12_readOnce_71 ?_
        refine x_getR C0_ wf_X12_89 (isModel.k0 hM) rfl rfl (isModel.r10 hM) dX12_readOnce_72 ?_
        refine x_bipush (v := nI 63) C0_ rfl dX12_readOnce_75 ?_
        refine x_aload_n C0_ rfl dX12_readOnce_77 ?_
        refine x_iconst (v := nI 0) C0_ rfl dX12_readOnce_78 ?_
        refine x_bipush (v := nI 8) C0_ rfl dX12_readOnce_79 ?_
        refine x_callV [_, _] C0_ hN rfl (xRf_of hR (by decide) (Nat.zero_le _) (Nat.zero_le _)) mv_X12_takeNumber wm_X12_183 dX12_readOnce_81 (isModel.k0 hM) rfl rfl (Nat.le_of_ble_eq_true rfl) (c_X12_takeNumber hM (T.frr fr2_) A2_ (lo := 0) (hi := 8) (by decide) (by decide) (fun v I3_ f3_ A3_ e3_ => ?_))
        refine x_iastoreN C0_ (isModel.s10 hM) (by omega) (by omega) dX12_readOnce_84 ?_
        refine x_goto (tgt := 110) C0_ (by decide) dX12_readOnce_85 ?_
        refine x_vret C0_ E (by decide) (by decide) dX12_readOnce_110 ?_
        have e141_ : u2 I3_ 141 63 v 141 = u2 I 141 63 v 141 := by rw [u2_at, u2_at, f3_.1 141 (by decide), s2_ 141 (by decide)]
        refine hpS g8_ _ ⟨fun a h1_ h2_ h3_ h4_ h5_ => ?_, fun k h1_ h2_ h3_ h4_ h5_ => ?_, fun j hj => ?_, fun j _ => ?_, fun _ _ => rfl⟩ ⟨?_, ?_, A3_.2.2.1, A3_.2.2.2⟩ (fun z => ?_)
        · rw [u2_row _ _ _ h2_, f3_.1 a h1_]; exact s2_ a h1_
        · rw [u2_row _ _ _ (by decide), f3_.2 k h1_ h2_]; exact t2_ k h1_ h2_ h5_
        · rw [e141_, u2_off _ _ (by omega)]
        · rw [u2_row _ _ _ (by decide), u2_row _ _ _ (by decide), f3_.1 142 (by decide), f3_.1 143 (by decide), s2_ 142 (by decide), s2_ 143 (by decide)]; exact ⟨rfl, rfl⟩
        · rw [u2_row _ _ _ (by decide)]; exact A3_.1
        · rw [u2_row _ _ _ (by decide)]; exact A3_.2.1
        · obtain ⟨-, ev, -, -, hi⟩ := e3_ z
          refine ⟨W.star hi (by rw [e141_, ev]) (by rw [u2_row _ _ _ (by decide), f3_.1 147 (by decide), s2_ 147 (by decide)]) (by rw [u2_row _ _ _ (by decide), f3_.2 19 (by decide) (by decide), t2_ 19 (by decide) (by decide) (by decide)]), by rw [u2_row _ _ _ (by decide), f3_.2 20 (by decide) (by decide)]; exact o2_, L.congr (by rw [u2_row _ _ _ (by decide), f3_.2 13 (by decide) (by decide), t2_ 13 (by decide) (by decide) (by decide)]) (by rw [u2_row _ _ _ (by decide), f3_.1 142 (by decide), s2_ 142 (by decide)]) (by rw [u2_row _ _ _ (by decide), f3_.1 143 (by decide), s2_ 143 (by decide)])⟩
    refine x_aload_n C0_ rfl dX12_readOnce_0 ?_
    refine x_bipush (v := nI 8) C0_ rfl dX12_readOnce_1 ?_
    refine x_iconst (v := nI 2) C0_ rfl dX12_readOnce_3 ?_
    refine x_callV [_, _] C0_ hN rfl (xRf_of hR (by decide) (Nat.zero_le _) (Nat.zero_le _)) mv_X12_wordHere wm_X12_187 dX12_readOnce_4 (isModel.k0 hM) rfl rfl (Nat.le_of_ble_eq_true rfl) (c_X12_wordHere hM T A (fr := 8) (m := 2) (by decide) ?_)
    refine x_topi (v := nI 0) (by rw [wHr_some (i := 0) (by decide) (by decide) g8_]; rfl) ?_
    refine x_istore_n (L' := [_, _]) C0_ hN (by decide) rfl dX12_readOnce_7 ?_
    refine x_iload_n C0_ rfl dX12_readOnce_8 ?_
    refine x_if_ge (tgt := 20) C0_ (by decide) dX12_readOnce_9 (fun _ => ?_) (fun hkk => absurd ((show (0 : Int32) ≤ nI 0 by decide)) hkk)
    refine x_aload_n C0_ rfl dX12_readOnce_20 ?_
    refine x_getI C0_ wf_X12_221 (isModel.k0 hM) rfl dX12_readOnce_21 ?_
    refine x_topi eo ?_
    refine x_iload_n C0_ rfl dX12_readOnce_24 ?_
    refine x_ishr C0_ dX12_readOnce_25 ?_
    refine x_iconst (v := nI 1) C0_ rfl dX12_readOnce_26 ?_
    refine x_iand C0_ dX12_readOnce_27 ?_
    refine x_topi (oN_0 st lw.isSome) ?_
    refine x_iconst (v := nI 1) C0_ rfl dX12_readOnce_28 ?_
    refine x_icmp_ne (tgt := 37) C0_ (by decide) dX12_readOnce_29 (fun g29_ => ?_) (fun g29_ => ?_)
    · refine h37_ I RFr.rf ?_
      rw [if_neg (fun z => g29_ (by rw [z]; rfl))]
      exact A
    · refine x_aload_n C0_ rfl dX12_readOnce_32 ?_
      refine x_iconst (v := nI 3) C0_ rfl dX12_readOnce_33 ?_
      refine x_callV [_] C0_ hN rfl (xRf_of hR (by decide) (Nat.zero_le _) (Nat.zero_le _)) mv_X12_wrong wm_X12_171 dX12_readOnce_34 (isModel.k0 hM) rfl rfl (Nat.le_of_ble_eq_true rfl) (c_X12_wrong hM T A (by decide) (fun I1_ f1_ A1_ => ?_))
      refine h37_ I1_ f1_ ?_
      rw [if_pos (show st = true by
        cases hh : st with
        | true => rfl
        | false => rw [hh] at g29_; exact absurd g29_ (by decide))]
      exact A1_
  by_cases g9_ : pIsW (tTok tp n) 9 s
  · have hc := kc (by rw [g9_.2.1]; decide)
    have h37_ : ∀ I1_, RFr I I1_ → MAt I1_ c (if lw.isSome = true then pRef (tTok tp n) 3 s else s) → XX G 0 0 37 [some (.ref 135), some (.int (nI 1))] [] S R I1_ J := by
      intro I1_ f1_ A1_
      have T1_ := T.fr f1_
      by_cases hb : lw.isSome = true
      · rw [if_pos hb] at A1_
        have eO : (pAll (tTok tp n) (pPart (tTok tp n) 5) (pOnce (tTok tp n) lw.isSome s, [])) = (pRef (tTok tp n) 3 s, []) := by
          unfold pOnce
          rw [if_pos hb, pNext_ref (by decide)]
          exact pAll_fx (pPart_fx 5) _ (pRef_ne (by decide))
        have gz : ¬ nI (pRef (tTok tp n) 3 s).2 ≤ 0 := nI_nle (Nat.pos_of_ne_zero (pRef_ne (by decide))) (Nat.lt_trans A1_.2.2.2 (by decide))
        refine x_aload_n C0_ rfl dX12_readOnce_37 ?_
        refine x_getI C0_ wf_X12_165 (isModel.k0 hM) rfl dX12_readOnce_38 ?_
        refine x_topi A1_.2.1 ?_
        refine x_if_le (tgt := 45) C0_ (by decide) dX12_readOnce_41 (fun hkk => absurd hkk (gz)) (fun _ => ?_)
        refine x_vret C0_ E (by decide) (by decide) dX12_readOnce_44 ?_
        exact hpD g9_ I1_ (FrR.of f1_) (by rw [eO]; exact A1_) (fun y => absurd (by rw [eO] at y; exact y) (pRef_ne (q := tTok tp n) (s := s) (c := 3) (by decide)))
      · rw [if_neg hb] at A1_
        have eO : pOnce (tTok tp n) lw.isSome s = (s.1 + 1, 0) := by
          unfold pOnce
          rw [if_neg hb, pNext_0 h0_]
        rw [eO] at hpD
        have hlw : lw = none := by
          cases lw with
          | none => rfl
          | some _ => exact absurd rfl hb
        subst hlw
        have eL : I 135 13 = nI 0 := L
        refine x_aload_n C0_ rfl dX12_readOnce_37 ?_
        refine x_getI C0_ wf_X12_165 (isModel.k0 hM) rfl dX12_readOnce_38 ?_
        refine x_topi A1_.2.1 ?_
        refine x_if_le (tgt := 45) C0_ (by decide) dX12_readOnce_41 (fun _ => ?_) (fun hkk => absurd ((by rw [h0_]; exact Int32.le_refl _)) hkk)
        refine x_aload_n C0_ rfl dX12_readOnce_45 ?_
        refine x_dup C0_ rfl dX12_readOnce_46 ?_
        refine x_getI C0_ wf_X12_221 (isModel.k0 hM) rfl dX12_readOnce_47 ?_
        refine x_topi (v := nI (oN st false)) (by rw [f1_.2 20 (by decide) (by decide)]; exact eo) ?_
        refine x_iconst (v := nI 1) C0_ rfl dX12_readOnce_50 ?_
        refine x_iload_n C0_ rfl dX12_readOnce_51 ?_
        refine x_ishl C0_ dX12_readOnce_52 ?_
        refine x_ior C0_ dX12_readOnce_53 ?_
        refine x_topi (oN_s1 st false) ?_
        refine x_putI C0_ wf_X12_221 (isModel.k0 hM) rfl dX12_readOnce_54 ?_
        refine x_aload_n C0_ rfl dX12_readOnce_57 ?_
        refine x_dup C0_ rfl dX12_readOnce_58 ?_
        refine x_getI C0_ wf_X12_162 (isModel.k0 hM) rfl dX12_readOnce_59 ?_
        refine x_topi (v := nI s.1) (by rw [u2_off _ _ (by decide)]; exact A1_.1) ?_
        refine x_iconst (v := nI 1) C0_ rfl dX12_readOnce_62 ?_
        refine x_iadd C0_ dX12_readOnce_63 ?_
        refine x_topi (nI_add s.1 1) ?_
        refine x_putI C0_ wf_X12_162 (isModel.k0 hM) rfl dX12_readOnce_64 ?_
        have A2_ : MAt (u2 (u2 I1_ 135 20 (nI (oN st true))) 135 7 (nI (s.1 + 1))) c (s.1 + 1, 0) := ⟨u2_same _ _ _ _, by rw [u2_off _ _ (by decide), u2_off _ _ (by decide), A1_.2.1, h0_], hc, (by decide : 0 < 20000)⟩
        have s2_ : ∀ a, a ≠ 135 → u2 (u2 I1_ 135 20 (nI (oN st true))) 135 7 (nI (s.1 + 1)) a = I a := fun a h => by rw [u2_row _ _ _ h, u2_row _ _ _ h]; exact f1_.1 a h
        have t2_ : ∀ k, k ≠ 7 → k ≠ 8 → k ≠ 20 → u2 (u2 I1_ 135 20 (nI (oN st true))) 135 7 (nI (s.1 + 1)) 135 k = I 135 k := fun k h1_ h2_ h3_ => by rw [u2_off _ _ h1_, u2_off _ _ h3_]; exact f1_.2 k h1_ h2_
        have o2_ : u2 (u2 I1_ 135 20 (nI (oN st true))) 135 7 (nI (s.1 + 1)) 135 20 = nI (oN st true) := by rw [u2_off _ _ (by decide), u2_same]
        generalize u2 (u2 I1_ 135 20 (nI (oN st true))) 135 7 (nI (s.1 + 1)) = I2_ at A2_ s2_ t2_ o2_ ⊢
        have e13_ : I2_ 135 13 = nI 0 := by rw [t2_ 13 (by decide) (by decide) (by decide)]; exact eL
        refine x_iload_n C0_ rfl dX12_readOnce_67 ?_
        refine x_if_ne (tgt := 88) C0_ (by decide) dX12_readOnce_68 (fun _ => ?_) (fun hkk => absurd hkk ((show ¬ nI 1 = 0 by decide)))
        refine x_aload_n C0_ rfl dX12_readOnce_88 ?_
        refine x_getR C0_ wf_X12_89 (isModel.k0 hM) rfl rfl (isModel.r10 hM) dX12_readOnce_89 ?_
        refine x_bipush (v := nI 64) C0_ rfl dX12_readOnce_92 ?_
        refine x_aload_n C0_ rfl dX12_readOnce_94 ?_
        refine x_getI C0_ wf_X12_218 (isModel.k0 hM) rfl dX12_readOnce_95 ?_
        refine x_topi e13_ ?_
        refine x_iastoreN C0_ (isModel.s10 hM) (by omega) (by omega) dX12_readOnce_98 ?_
        have s3_ : ∀ a, a ≠ 135 → a ≠ 141 → u2 I2_ 141 64 (nI 0) a = I a := fun a h h2_ => by rw [u2_row _ _ _ h2_]; exact s2_ a h
        have t3_ : ∀ k, u2 I2_ 141 64 (nI 0) 135 k = I2_ 135 k := fun k => by rw [u2_row _ _ _ (by decide)]
        have u3_ : u2 I2_ 141 64 (nI 0) 141 = u2 I 141 64 0 141 := by rw [u2_at, u2_at, s2_ 141 (by decide)]; rfl
        have A3_ : MAt (u2 I2_ 141 64 (nI 0)) c (s.1 + 1, 0) := ⟨by rw [t3_]; exact A2_.1, by rw [t3_]; exact A2_.2.1, A2_.2.2.1, A2_.2.2.2⟩
        generalize u2 I2_ 141 64 (nI 0) = I3_ at A3_ s3_ t3_ u3_ ⊢
        have fr3_ : FrR I J I3_ J := ⟨fun a h h2_ _ _ _ => s3_ a h h2_, fun k h1_ h2_ _ _ h3_ => (t3_ k).trans (t2_ k h1_ h2_ h3_), fun j _ => by rw [u3_, u2_off _ _ (by omega)], fun j _ => by rw [s3_ 142 (by decide) (by decide), s3_ 143 (by decide) (by decide)]; exact ⟨rfl, rfl⟩, fun _ _ => rfl⟩
        have Q3_ : QE I3_ 0 (((s.1 + 1, 0), []) : pE) := ⟨0, by rw [t3_]; exact e13_, Nat.zero_le _, fun _ => ⟨rfl, Nat.zero_le _, fun i hi => absurd hi (Nat.not_lt_zero i)⟩⟩
        refine x_aload_n C0_ rfl dX12_readOnce_99 ?_
        refine x_iconst (v := nI 0) C0_ rfl dX12_readOnce_100 ?_
        refine x_callV [_] C0_ hN rfl (xRf_of hR (by decide) (Nat.zero_le _) (Nat.zero_le _)) mv_X12_whole wm_X12_254 dX12_readOnce_101 (isModel.k0 hM) rfl rfl (Nat.le_of_ble_eq_true rfl) ((m_levels hM 5 (Nat.le_refl 5)).2 I3_ J _ ((s.1 + 1, 0), []) (T.frr fr3_) A3_ rfl Q3_ (fun I4_ f4_ A4_ Q4_ => ?_))
        obtain ⟨z, ez, hz, hz3_⟩ := id Q4_
        refine x_aload_n C0_ rfl dX12_readOnce_104 ?_
        refine x_iconst (v := nI 0) C0_ rfl dX12_readOnce_105 ?_
        refine x_iconst (v := nI 0) C0_ rfl dX12_readOnce_106 ?_
        refine x_callV [_, _] C0_ hN rfl (xRf_of hR (by decide) (Nat.zero_le _) (Nat.zero_le _)) mv_X12_emit wm_X12_257 dX12_readOnce_107 (isModel.k0 hM) rfl rfl (Nat.le_of_ble_eq_true rfl) (c_X12_emit hM ez (by omega) ?_)
        refine x_vret C0_ E (by decide) (by decide) dX12_readOnce_110 ?_
        have fq : FrQ I3_ (qPut I4_ z (nI 0) (nI 0)) := f4_.trans qPut_fr
        refine hpD g9_ _ ⟨fun a h1_ h2_ h3_ h4_ h5_ => ?_, fun k h1_ h2_ h3_ h4_ h5_ => ?_, fun j hj => ?_, fun j hj => ?_, fun _ _ => rfl⟩ (qPut_at A4_) (fun y => ?_)
        · rw [fq.1 a h1_ h3_ h4_]; exact s3_ a h1_ h2_
        · rw [fq.2.1 k h1_ h2_ h3_, t3_]; exact t2_ k h1_ h2_ h5_
        · rw [fq.1 141 (by decide) (by decide) (by decide), u3_, u2_off _ _ (by omega)]
        · obtain ⟨p1_, p2_⟩ := fq.2.2 j hj
          rw [p1_, p2_, s3_ 142 (by decide) (by decide), s3_ 143 (by decide) (by decide)]; exact ⟨rfl, rfl⟩
        · obtain ⟨l1_, l2_, l3_⟩ := hz3_ y
          have hnt := pAll_nt (q := (tTok tp n)) (pPart_nt (q := (tTok tp n)) (fun i => (tVal_lt (tp := tp) (n := n) (k := tP tp n i) T.1.2.2.1).2.1) 5) ((s.1 + 1, 0), []) rfl y
          obtain ⟨c9_, ec, lc⟩ := hnt
          refine ⟨W.law (by rw [fq.1 141 (by decide) (by decide) (by decide), u3_]) (by rw [fq.1 147 (by decide) (by decide) (by decide), s3_ 147 (by decide) (by decide)]) (by rw [fq.2.1 19 (by decide) (by decide) (by decide), t3_, t2_ 19 (by decide) (by decide) (by decide)]), by rw [fq.2.1 20 (by decide) (by decide) (by decide), t3_]; exact o2_, ?_⟩
          generalize pAll (tTok tp n) (pPart (tTok tp n) 5) ((s.1 + 1, 0), []) = e9_ at A4_ l1_ l2_ l3_ ec y
          have ec' : e9_.2 = c9_ := ec
          have hac := A4_.2.2.1
          refine ⟨by unfold qPut; rw [u2_same, l1_], by omega, ?_, fun i hi => ?_, ?_⟩
          · rw [ec']
            have := lc 0 [] (by decide) rfl
            rw [List.append_nil] at this
            exact this
          · rw [qPut_142, qPut_143, u2_off _ _ (by omega), u2_off _ _ (by omega)]
            exact l3_ i hi
          · rw [qPut_142, l1_, u2_same]
            rfl
    refine x_aload_n C0_ rfl dX12_readOnce_0 ?_
    refine x_bipush (v := nI 8) C0_ rfl dX12_readOnce_1 ?_
    refine x_iconst (v := nI 2) C0_ rfl dX12_readOnce_3 ?_
    refine x_callV [_, _] C0_ hN rfl (xRf_of hR (by decide) (Nat.zero_le _) (Nat.zero_le _)) mv_X12_wordHere wm_X12_187 dX12_readOnce_4 (isModel.k0 hM) rfl rfl (Nat.le_of_ble_eq_true rfl) (c_X12_wordHere hM T A (fr := 8) (m := 2) (by decide) ?_)
    refine x_topi (v := nI 1) (by rw [wHr_some (i := 1) (by decide) (by decide) g9_]; rfl) ?_
    refine x_istore_n (L' := [_, _]) C0_ hN (by decide) rfl dX12_readOnce_7 ?_
    refine x_iload_n C0_ rfl dX12_readOnce_8 ?_
    refine x_if_ge (tgt := 20) C0_ (by decide) dX12_readOnce_9 (fun _ => ?_) (fun hkk => absurd ((show (0 : Int32) ≤ nI 1 by decide)) hkk)
    refine x_aload_n C0_ rfl dX12_readOnce_20 ?_
    refine x_getI C0_ wf_X12_221 (isModel.k0 hM) rfl dX12_readOnce_21 ?_
    refine x_topi eo ?_
    refine x_iload_n C0_ rfl dX12_readOnce_24 ?_
    refine x_ishr C0_ dX12_readOnce_25 ?_
    refine x_iconst (v := nI 1) C0_ rfl dX12_readOnce_26 ?_
    refine x_iand C0_ dX12_readOnce_27 ?_
    refine x_topi (oN_1 st lw.isSome) ?_
    refine x_iconst (v := nI 1) C0_ rfl dX12_readOnce_28 ?_
    refine x_icmp_ne (tgt := 37) C0_ (by decide) dX12_readOnce_29 (fun g29_ => ?_) (fun g29_ => ?_)
    · refine h37_ I RFr.rf ?_
      rw [if_neg (fun z => g29_ (by rw [z]; rfl))]
      exact A
    · refine x_aload_n C0_ rfl dX12_readOnce_32 ?_
      refine x_iconst (v := nI 3) C0_ rfl dX12_readOnce_33 ?_
      refine x_callV [_] C0_ hN rfl (xRf_of hR (by decide) (Nat.zero_le _) (Nat.zero_le _)) mv_X12_wrong wm_X12_171 dX12_readOnce_34 (isModel.k0 hM) rfl rfl (Nat.le_of_ble_eq_true rfl) (c_X12_wrong hM T A (by decide) (fun I1_ f1_ A1_ => ?_))
      refine h37_ I1_ f1_ ?_
      rw [if_pos (show lw.isSome = true by
        cases hh : lw.isSome with
        | true => rfl
        | false => rw [hh] at g29_; exact absurd g29_ (by decide))]
      exact A1_
  refine x_aload_n C0_ rfl dX12_readOnce_0 ?_
  refine x_bipush (v := nI 8) C0_ rfl dX12_readOnce_1 ?_
  refine x_iconst (v := nI 2) C0_ rfl dX12_readOnce_3 ?_
  refine x_callV [_, _] C0_ hN rfl (xRf_of hR (by decide) (Nat.zero_le _) (Nat.zero_le _)) mv_X12_wordHere wm_X12_187 dX12_readOnce_4 (isModel.k0 hM) rfl rfl (Nat.le_of_ble_eq_true rfl) (c_X12_wordHere hM T A (fr := 8) (m := 2) (by decide) ?_)
  have w9_ : wHr (tTok tp n) 8 2 s = none := wHr_none (fun i hi y => by
    rcases (show i = 0 ∨ i = 1 by omega) with rfl | rfl
    · exact g8_ y
    · exact g9_ y)
  rw [w9_]
  refine x_istore_n (L' := [_, _]) C0_ hN (by decide) rfl dX12_readOnce_7 ?_
  refine x_iload_n C0_ rfl dX12_readOnce_8 ?_
  refine x_if_ge (tgt := 20) C0_ (by decide) dX12_readOnce_9 (fun hkk => absurd hkk ((show ¬ (0 : Int32) ≤ oI none by decide))) (fun _ => ?_)
  refine x_aload_n C0_ rfl dX12_readOnce_12 ?_
  refine x_iconst (v := nI 1) C0_ rfl dX12_readOnce_13 ?_
  refine x_callV [_] C0_ hN rfl (xRf_of hR (by decide) (Nat.zero_le _) (Nat.zero_le _)) mv_X12_wrong wm_X12_171 dX12_readOnce_14 (isModel.k0 hM) rfl rfl (Nat.le_of_ble_eq_true rfl) (c_X12_wrong hM T A (by decide) (fun I1_ f1_ A1_ => ?_))
  refine x_goto (tgt := 37) C0_ (by decide) dX12_readOnce_17 ?_
  refine x_aload_n C0_ rfl dX12_readOnce_37 ?_
  refine x_getI C0_ wf_X12_165 (isModel.k0 hM) rfl dX12_readOnce_38 ?_
  refine x_topi A1_.2.1 ?_
  refine x_if_le (tgt := 45) C0_ (by decide) dX12_readOnce_41 (fun hkk => absurd hkk ((nI_nle (Nat.pos_of_ne_zero (pRef_ne (by decide))) (Nat.lt_trans A1_.2.2.2 (by decide))))) (fun _ => ?_)
  refine x_vret C0_ E (by decide) (by decide) dX12_readOnce_44 ?_
  exact hpN g8_ g9_ I1_ f1_ A1_
