/-! READING: the reference, names -/
/-- what a name stands for: a THING's number, 20 + a WATCHER's, -1 -/
def nmA (F : pF) (v : Nat) : Int32 := match xIdx F.2.1 v F.1.1 with
  | some t => nI t
  | none => match xIdx F.2.2.1 v F.1.2.2.1 with
    | some w => nI (20 + w)
    | none => -1
def nmL (nm of : Nat → Nat) (v m : Nat) : Int32 := match xIdx nm v m with
  | some k => nI (of k)
  | none => -1
/-- the names told, in their order -/
def MNm (I : xTI) (J : xTJ) (a b m : Nat) (F : pF) : Prop := m ≤ 12 ∧ ∃ nm of : Nat → Nat, (∀ k, k < m → J a k = Int64.ofNat (cv (nm k)) ∧ nm k < 2 ^ 40 ∧ I b k = nI (of k) ∧ of k < 100) ∧ ∀ v, v < 2 ^ 40 → nmA F v = nmL nm of v m
theorem nmL_hit {nm of : Nat → Nat} {v k m : Nat} (h : xIdx nm v k = none) (g : nm k = v) (hk : k < m) : nmL nm of v m = nI (of k) := by
  unfold nmL
  have := xIdx_hit h g (m - 1 - k)
  rw [show k + 1 + (m - 1 - k) = m by omega] at this
  rw [this]
theorem nmL_no {nm of : Nat → Nat} {v m : Nat} (h : xIdx nm v m = none) : nmL nm of v m = -1 := by
  unfold nmL
  rw [h]
theorem c_X12_nameAtR {S : xTS} {R : xTR} {I : xTI} {J : xTJ} {post : xPost} (hM : isModel S R) {tp : Nat → Nat} {n c : Nat} (T : MRd I J tp n c) {s : pS} (A : MAt I c s) {m : Nat} {F : pF} (e : I 135 19 = nI m) (N9 : MNm I J 145 147 m F) (k1' : ((tTok tp n) s.1).1 = 1) (hp : post (some (.int (nmA F ((tTok tp n) s.1).2.1))) S R I J) : xSpec 1 yX12_nameAt cX12_nameAt 3 (some .int) 0 0 [.ref 135, .int 1] S R I J post := by
  refine xSpec_of mt_X12_nameAt (Nat.le_of_ble_eq_true rfl) (fun G C0 hN hR E hI hZ => ?_)
  change XX G 0 0 0 [some (.ref 135), some (.int 1), none] [] S R I J
  obtain ⟨a7, a8, ac, a9⟩ := id A
  obtain ⟨k0, k5, kp, kc, k1, k2, kw, kn, ks⟩ := T.at ac
  have az := A.z
  obtain ⟨hm, nm, of, hl, hn⟩ := N9
  obtain ⟨kw1, kw2⟩ := kw k1'
  rw [hn _ kw1] at hp
  have l1 := cv_lt ((tTok tp n) s.1).2.1
  have h2 : ∀ j k, k + j = m → xIdx nm ((tTok tp n) s.1).2.1 k = none → XX G 0 0 2 [some (.ref 135), some (.int 1), some (.int (nI k))] [] S R I J := by
    intro j
    induction j with
    | zero =>
      intro k hk hx
      have hk8 : k = m := by omega
      subst hk8
      refine x_iload_n C0 rfl dX12_nameAt_2 ?_
      refine x_iload_n C0 rfl dX12_nameAt_3 ?_
      refine x_if_eq (tgt := 14) C0 (by decide) dX12_nameAt_4 (fun hkk => absurd hkk (by decide)) (fun _ => ?_)
      refine x_aload_n C0 rfl dX12_nameAt_7 ?_
      refine x_getI C0 wf_X12_193 (isModel.k0 hM) rfl dX12_nameAt_8 ?_
      refine x_goto (tgt := 18) C0 (by decide) dX12_nameAt_11 ?_
      refine x_topi e ?_
      refine x_icmp_ge (tgt := 79) C0 (by decide) dX12_nameAt_18 (fun _ => ?_) (fun hkk => absurd ((Int32.le_refl _)) hkk)
      refine x_iconst (v := -1) C0 rfl dX12_nameAt_79 ?_
      refine x_iret C0 E (by decide) (by decide) dX12_nameAt_80 ?_
      rw [nmL_no hx] at hp
      exact hp
    | succ j ih =>
      intro k hk hx
      have ih := ih (k + 1) (by omega)
      obtain ⟨d1, d2, d3, -⟩ := hl k (by omega)
      have l2 := cv_lt (nm k)
      refine x_iload_n C0 rfl dX12_nameAt_2 ?_
      refine x_iload_n C0 rfl dX12_nameAt_3 ?_
      refine x_if_eq (tgt := 14) C0 (by decide) dX12_nameAt_4 (fun hkk => absurd hkk (by decide)) (fun _ => ?_)
      refine x_aload_n C0 rfl dX12_nameAt_7 ?_
      refine x_getI C0 wf_X12_193 (isModel.k0 hM) rfl dX12_nameAt_8 ?_
      refine x_goto (tgt := 18) C0 (by decide) dX12_nameAt_11 ?_
      refine x_topi e ?_
      refine x_icmp_ge (tgt := 79) C0 (by decide) dX12_nameAt_18 (fun hkk => absurd hkk ((nI_ge (by omega) (by omega)))) (fun _ => ?_)
      refine x_iload_n C0 rfl dX12_nameAt_21 ?_
      refine x_if_eq (tgt := 34) C0 (by decide) dX12_nameAt_22 (fun hkk => absurd hkk (by decide)) (fun _ => ?_)
      refine x_aload_n C0 rfl dX12_nameAt_25 ?_
      refine x_getR C0 wf_X12_101 (isModel.k0 hM) rfl rfl (isModel.r15 hM) dX12_nameAt_26 ?_
      refine x_iload_n C0 rfl dX12_nameAt_29 ?_
      refine x_laloadN C0 (isModel.s15 hM) (by omega) (by omega) dX12_nameAt_30 ?_
      refine x_goto (tgt := 40) C0 (by decide) dX12_nameAt_31 ?_
      refine x_topl d1 ?_
      refine x_aload_n C0 rfl dX12_nameAt_40 ?_
      refine x_getR C0 wf_X12_30 (isModel.k0 hM) rfl rfl (isModel.r6 hM) dX12_nameAt_41 ?_
      refine x_aload_n C0 rfl dX12_nameAt_44 ?_
      refine x_getI C0 wf_X12_162 (isModel.k0 hM) rfl dX12_nameAt_45 ?_
      refine x_topi a7 ?_
      refine x_laloadN C0 (isModel.s6 hM) (by omega) (by omega) dX12_nameAt_48 ?_
      refine x_topl kw2 ?_
      refine x_lcmp C0 dX12_nameAt_49 ?_
      refine x_if_ne (tgt := 73) C0 (by decide) dX12_nameAt_50 (fun g50 => ?_) (fun g50 => ?_)
      · refine x_iinc (v := nI (k + 1)) (L' := [_, _, _]) C0 hN rfl (by decide) (nI_inc k) rfl dX12_nameAt_73 ?_
        refine x_goto (tgt := 2) C0 (by decide) dX12_nameAt_76 ?_
        exact ih (xIdx_no hx (fun z => g50 ((lg_cmp_eq _ _).mpr (by rw [z]))))
      · refine x_iload_n C0 rfl dX12_nameAt_53 ?_
        refine x_if_eq (tgt := 66) C0 (by decide) dX12_nameAt_54 (fun hkk => absurd hkk (by decide)) (fun _ => ?_)
        refine x_aload_n C0 rfl dX12_nameAt_57 ?_
        refine x_getR C0 wf_X12_107 (isModel.k0 hM) rfl rfl (isModel.r17 hM) dX12_nameAt_58 ?_
        refine x_iload_n C0 rfl dX12_nameAt_61 ?_
        refine x_ialoadN C0 (isModel.s17 hM) (by omega) (by omega) dX12_nameAt_62 ?_
        refine x_goto (tgt := 72) C0 (by decide) dX12_nameAt_63 ?_
        refine x_topi d3 ?_
        refine x_iret C0 E (by decide) (by decide) dX12_nameAt_72 ?_
        have g := (cv_inj d2 kw1).mp ((l_inj (by omega) (by omega)).mp ((lg_cmp_eq _ _).mp g50))
        rw [nmL_hit hx g (by omega)] at hp
        exact hp
  refine x_iconst (v := nI 0) C0 rfl dX12_nameAt_0 ?_
  refine x_istore_n (L' := [_, _, _]) C0 hN (by decide) rfl dX12_nameAt_1 ?_
  exact h2 m 0 (by omega) rfl
theorem c_X12_nameAtN {S : xTS} {R : xTR} {I : xTI} {J : xTJ} {post : xPost} (hM : isModel S R) {tp : Nat → Nat} {n c : Nat} (T : MRd I J tp n c) {s : pS} (A : MAt I c s) {m : Nat} {F : pF} (e : I 135 18 = nI m) (N9 : MNm I J 144 146 m F) (k1' : ((tTok tp n) s.1).1 = 1) (hp : post (some (.int (nmA F ((tTok tp n) s.1).2.1))) S R I J) : xSpec 1 yX12_nameAt cX12_nameAt 3 (some .int) 0 0 [.ref 135, .int 0] S R I J post := by
  refine xSpec_of mt_X12_nameAt (Nat.le_of_ble_eq_true rfl) (fun G C0 hN hR E hI hZ => ?_)
  change XX G 0 0 0 [some (.ref 135), some (.int 0), none] [] S R I J
  obtain ⟨a7, a8, ac, a9⟩ := id A
  obtain ⟨k0, k5, kp, kc, k1, k2, kw, kn, ks⟩ := T.at ac
  have az := A.z
  obtain ⟨hm, nm, of, hl, hn⟩ := N9
  obtain ⟨kw1, kw2⟩ := kw k1'
  rw [hn _ kw1] at hp
  have l1 := cv_lt ((tTok tp n) s.1).2.1
  have h2 : ∀ j k, k + j = m → xIdx nm ((tTok tp n) s.1).2.1 k = none → XX G 0 0 2 [some (.ref 135), some (.int 0), some (.int (nI k))] [] S R I J := by
    intro j
    induction j with
    | zero =>
      intro k hk hx
      have hk8 : k = m := by omega
      subst hk8
      refine x_iload_n C0 rfl dX12_nameAt_2 ?_
      refine x_iload_n C0 rfl dX12_nameAt_3 ?_
      refine x_if_eq (tgt := 14) C0 (by decide) dX12_nameAt_4 (fun _ => ?_) (fun hkk => absurd (by decide) hkk)
      refine x_aload_n C0 rfl dX12_nameAt_14 ?_
      refine x_getI C0 wf_X12_196 (isModel.k0 hM) rfl dX12_nameAt_15 ?_
      refine x_topi e ?_
      refine x_icmp_ge (tgt := 79) C0 (by decide) dX12_nameAt_18 (fun _ => ?_) (fun hkk => absurd ((Int32.le_refl _)) hkk)
      refine x_iconst (v := -1) C0 rfl dX12_nameAt_79 ?_
      refine x_iret C0 E (by decide) (by decide) dX12_nameAt_80 ?_
      rw [nmL_no hx] at hp
      exact hp
    | succ j ih =>
      intro k hk hx
      have ih := ih (k + 1) (by omega)
      obtain ⟨d1, d2, d3, -⟩ := hl k (by omega)
      have l2 := cv_lt (nm k)
      refine x_iload_n C0 rfl dX12_nameAt_2 ?_
      refine x_iload_n C0 rfl dX12_nameAt_3 ?_
      refine x_if_eq (tgt := 14) C0 (by decide) dX12_nameAt_4 (fun _ => ?_) (fun hkk => absurd (by decide) hkk)
      refine x_aload_n C0 rfl dX12_nameAt_14 ?_
      refine x_getI C0 wf_X12_196 (isModel.k0 hM) rfl dX12_nameAt_15 ?_
      refine x_topi e ?_
      refine x_icmp_ge (tgt := 79) C0 (by decide) dX12_nameAt_18 (fun hkk => absurd hkk ((nI_ge (by omega) (by omega)))) (fun _ => ?_)
      refine x_iload_n C0 rfl dX12_nameAt_21 ?_
      refine x_if_eq (tgt := 34) C0 (by decide) dX12_nameAt_22 (fun _ => ?_) (fun hkk => absurd (by decide) hkk)
      refine x_aload_n C0 rfl dX12_nameAt_34 ?_
      refine x_getR C0 wf_X12_98 (isModel.k0 hM) rfl rfl (isModel.r14 hM) dX12_nameAt_35 ?_
      refine x_iload_n C0 rfl dX12_nameAt_38 ?_
      refine x_laloadN C0 (isModel.s14 hM) (by omega) (by omega) dX12_nameAt_39 ?_
      refine x_topl d1 ?_
      refine x_aload_n C0 rfl dX12_nameAt_40 ?_
      refine x_getR C0 wf_X12_30 (isModel.k0 hM) rfl rfl (isModel.r6 hM) dX12_nameAt_41 ?_
      refine x_aload_n C0 rfl dX12_nameAt_44 ?_
      refine x_getI C0 wf_X12_162 (isModel.k0 hM) rfl dX12_nameAt_45 ?_
      refine x_topi a7 ?_
      refine x_laloadN C0 (isModel.s6 hM) (by omega) (by omega) dX12_nameAt_48 ?_
      refine x_topl kw2 ?_
      refine x_lcmp C0 dX12_nameAt_49 ?_
      refine x_if_ne (tgt := 73) C0 (by decide) dX12_nameAt_50 (fun g50 => ?_) (fun g50 => ?_)
      · refine x_iinc (v := nI (k + 1)) (L' := [_, _, _]) C0 hN rfl (by decide) (nI_inc k) rfl dX12_nameAt_73 ?_
        refine x_goto (tgt := 2) C0 (by decide) dX12_nameAt_76 ?_
        exact ih (xIdx_no hx (fun z => g50 ((lg_cmp_eq _ _).mpr (by rw [z]))))
      · refine x_iload_n C0 rfl dX12_nameAt_53 ?_
        refine x_if_eq (tgt := 66) C0 (by decide) dX12_nameAt_54 (fun _ => ?_) (fun hkk => absurd (by decide) hkk)
        refine x_aload_n C0 rfl dX12_nameAt_66 ?_
        refine x_getR C0 wf_X12_104 (isModel.k0 hM) rfl rfl (isModel.r16 hM) dX12_nameAt_67 ?_
        refine x_iload_n C0 rfl dX12_nameAt_70 ?_
        refine x_ialoadN C0 (isModel.s16 hM) (by omega) (by omega) dX12_nameAt_71 ?_
        refine x_topi d3 ?_
        refine x_iret C0 E (by decide) (by decide) dX12_nameAt_72 ?_
        have g := (cv_inj d2 kw1).mp ((l_inj (by omega) (by omega)).mp ((lg_cmp_eq _ _).mp g50))
        rw [nmL_hit hx g (by omega)] at hp
        exact hp
  refine x_iconst (v := nI 0) C0 rfl dX12_nameAt_0 ?_
  refine x_istore_n (L' := [_, _, _]) C0 hN (by decide) rfl dX12_nameAt_1 ?_
  exact h2 m 0 (by omega) rfl
