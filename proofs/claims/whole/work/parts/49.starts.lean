/-! THE REFERENCE: a hall at its start -/
def inAt (I I' : xTI) (b : Nat) : Prop := (∀ a, a ≠ 151 → I' a = I a) ∧ ∀ j, (j < b ∨ b + 62 ≤ j) → I' 151 j = I 151 j
theorem inAt.rf {I : xTI} {b : Nat} : inAt I I b := ⟨fun _ _ => rfl, fun _ _ => rfl⟩
theorem inAt.trans {I I1 I2 : xTI} {b : Nat} (h : inAt I I1 b) (g : inAt I1 I2 b) : inAt I I2 b := ⟨fun a q => (g.1 a q).trans (h.1 a q), fun j q => (g.2 j q).trans (h.2 j q)⟩
theorem inAt.st {I : xTI} {b j : Nat} {v : Int32} (h : b ≤ j) (h2 : j < b + 62) : inAt I (u2 I 151 j v) b := ⟨fun a q => u2_row _ _ _ q, fun i q => u2_off _ _ (by omega)⟩
theorem sStart_up {fl : xRow} {k : Nat} (hk : k < 8) : sStart fl (k + 1) = upd (upd (sStart fl k) (4 + k) (fl (5 + 4 * k + 2))) (12 + k) (fl (5 + 4 * k + 3)) := by
  funext j
  by_cases e1 : j = 12 + k
  · rw [e1, upd_eq]
    unfold sStart
    rw [if_neg (by omega), if_neg (by omega), if_neg (by omega), if_pos (by omega)]
    congr 1
    omega
  · rw [upd_ne e1]
    by_cases e2 : j = 4 + k
    · rw [e2, upd_eq]
      unfold sStart
      rw [if_neg (by omega), if_neg (by omega), if_pos (by omega)]
      congr 1
      omega
    · rw [upd_ne e2]
      unfold sStart
      have h1 : (4 ≤ j ∧ j < 4 + (k + 1)) = (4 ≤ j ∧ j < 4 + k) := propext (by omega)
      have h2 : (12 ≤ j ∧ j < 12 + (k + 1)) = (12 ≤ j ∧ j < 12 + k) := propext (by omega)
      simp only [h1, h2]
def sBase : xRow := fun j => if 20 ≤ j ∧ j < 56 then -1 else 0
theorem sStart_base {fl : xRow} : sStart fl 0 = upd sBase 2 (((1 : Int32) <<< (fl 2 &&& 31)) - 1) := by
  funext j
  by_cases e : j = 2
  · rw [e, upd_eq]
    unfold sStart
    rw [if_pos rfl]
  · rw [upd_ne e]
    unfold sStart sBase
    rw [if_neg e]
    by_cases h : 20 ≤ j ∧ j < 56
    · rw [if_pos h, if_pos h]
    · rw [if_neg h, if_neg h, if_neg (by omega), if_neg (by omega)]
theorem c_X12_starts {S : xTS} {R : xTR} {I : xTI} {J : xTJ} {post : xPost} {b T N V : Nat} {fl : xRow} (hM : isModel S R) (wl : WFl fl T N V) (mF : MFilm I fl) (hb : b ≤ 2192) (hp : ∀ I', inAt I I' b → MHall I' b (sStart fl N) → post none S R I' J) : xSpec 2 yX12_starts cX12_starts 3 none 0 0 [.ref 135, .int (nI b)] S R I J post := by
  refine xSpec_of mt_X12_starts (Nat.le_of_ble_eq_true rfl) (fun G C0 hN hR E hI hZ => ?_)
  change XX G 0 0 0 [some (.ref 135), some (.int (nI b)), none] [] S R I J
  have hN8 := wl.2.2.2.1
  have hF1 : ∀ I1, inAt I I1 b → MFilm I1 fl := fun I1 s1 i hi => by rw [s1.1 141 (by decide)]; exact mF i hi
  have h57 : ∀ n k I1, k + n = N → inAt I I1 b → MHall I1 b (sStart fl k) → XX G 0 0 57 [some (.ref 135), some (.int (nI b)), some (.int (nI k))] [] S R I1 J := by
    intro n
    induction n with
    | zero =>
      intro k I1 hk s1 r1
      have hk8 : k = N := by omega
      subst hk8
      have eN1 : I1 141 1 = nI k := by rw [hF1 I1 s1 1 (by decide), wl.2.2.1]
      refine x_iload_n C0 rfl dX12_starts_57 ?_
      refine x_aload_n C0 rfl dX12_starts_58 ?_
      refine x_callV [] C0 hN rfl (xRf_of hR (by decide) (Nat.zero_le _) (Nat.zero_le _)) mv_X12_scenes wm_X12_285 dX12_starts_59 (isModel.k0 hM) rfl rfl (Nat.le_of_ble_eq_true rfl) (c_X12_scenes hM ?_)
      refine x_topi eN1 ?_
      refine x_icmp_ge (tgt := 116) C0 (by decide) dX12_starts_62 (fun _ => ?_) (fun hkk => absurd ((Int32.le_refl _)) hkk)
      refine x_vret C0 E (by decide) (by decide) dX12_starts_116 ?_
      exact hp I1 s1 r1
    | succ n ih =>
      intro k I1 hk s1 r1
      have mF1 := hF1 I1 s1
      have eN1 : I1 141 1 = nI N := by rw [mF1 1 (by decide), wl.2.2.1]
      have e2 := mF1 (5 + 4 * k + 2) (by omega)
      have e3 := mF1 (5 + 4 * k + 3) (by omega)
      refine x_iload_n C0 rfl dX12_starts_57 ?_
      refine x_aload_n C0 rfl dX12_starts_58 ?_
      refine x_callV [] C0 hN rfl (xRf_of hR (by decide) (Nat.zero_le _) (Nat.zero_le _)) mv_X12_scenes wm_X12_285 dX12_starts_59 (isModel.k0 hM) rfl rfl (Nat.le_of_ble_eq_true rfl) (c_X12_scenes hM ?_)
      refine x_topi eN1 ?_
      refine x_icmp_ge (tgt := 116) C0 (by decide) dX12_starts_62 (fun hkk => absurd hkk (nI_ge (by omega) (by omega))) (fun _ => ?_)
      refine x_aload_n C0 rfl dX12_starts_65 ?_
      refine x_getR C0 wf_X12_119 (isModel.k0 hM) rfl rfl (isModel.r24 hM) dX12_starts_66 ?_
      refine x_iload_n C0 rfl dX12_starts_69 ?_
      refine x_iconst (v := nI 4) C0 rfl dX12_starts_70 ?_
      refine x_iaddN C0 dX12_starts_71 ?_
      refine x_iload_n C0 rfl dX12_starts_72 ?_
      refine x_iaddN C0 dX12_starts_73 ?_
      refine x_aload_n C0 rfl dX12_starts_74 ?_
      refine x_getR C0 wf_X12_89 (isModel.k0 hM) rfl rfl (isModel.r10 hM) dX12_starts_75 ?_
      refine x_iconst (v := nI 5) C0 rfl dX12_starts_78 ?_
      refine x_iconst (v := nI 4) C0 rfl dX12_starts_79 ?_
      refine x_iload_n C0 rfl dX12_starts_80 ?_
      refine x_imulN C0 dX12_starts_81 ?_
      refine x_iaddN C0 dX12_starts_82 ?_
      refine x_iconst (v := nI 2) C0 rfl dX12_starts_83 ?_
      refine x_iaddN C0 dX12_starts_84 ?_
      refine x_ialoadN C0 (isModel.s10 hM) (by omega) (by omega) dX12_starts_85 ?_
      refine x_topi e2 ?_
      refine x_iastoreN C0 (isModel.s24 hM) (by omega) (by omega) dX12_starts_86 ?_
      refine x_aload_n C0 rfl dX12_starts_87 ?_
      refine x_getR C0 wf_X12_119 (isModel.k0 hM) rfl rfl (isModel.r24 hM) dX12_starts_88 ?_
      refine x_iload_n C0 rfl dX12_starts_91 ?_
      refine x_bipush (v := nI 12) C0 rfl dX12_starts_92 ?_
      refine x_iaddN C0 dX12_starts_94 ?_
      refine x_iload_n C0 rfl dX12_starts_95 ?_
      refine x_iaddN C0 dX12_starts_96 ?_
      refine x_aload_n C0 rfl dX12_starts_97 ?_
      refine x_getR C0 wf_X12_89 (isModel.k0 hM) rfl rfl (isModel.r10 hM) dX12_starts_98 ?_
      refine x_iconst (v := nI 5) C0 rfl dX12_starts_101 ?_
      refine x_iconst (v := nI 4) C0 rfl dX12_starts_102 ?_
      refine x_iload_n C0 rfl dX12_starts_103 ?_
      refine x_imulN C0 dX12_starts_104 ?_
      refine x_iaddN C0 dX12_starts_105 ?_
      refine x_iconst (v := nI 3) C0 rfl dX12_starts_106 ?_
      refine x_iaddN C0 dX12_starts_107 ?_
      refine x_ialoadN C0 (isModel.s10 hM) (by omega) (by omega) dX12_starts_108 ?_
      refine x_topi ((congrFun (u2_row _ _ _ (by decide)) _).trans e3) ?_
      refine x_iastoreN C0 (isModel.s24 hM) (by omega) (by omega) dX12_starts_109 ?_
      refine x_iinc (v := nI (k + 1)) (L' := [_, _, _]) C0 hN rfl (by decide) (nI_inc k) rfl dX12_starts_110 ?_
      refine x_goto (tgt := 57) C0 (by decide) dX12_starts_113 ?_
      refine ih (k + 1) _ (by omega) (s1.trans ((inAt.st (by omega) (by omega)).trans (inAt.st (by omega) (by omega)))) ?_
      rw [sStart_up (by omega)]
      exact (r1.upd (by omega) (by omega)).upd (by omega) (by omega)
  have h39 : ∀ I1, inAt I I1 b → MHall I1 b sBase → XX G 0 0 39 [some (.ref 135), some (.int (nI b)), some (.int (nI 62))] [] S R I1 J := by
    intro I1 s1 r1
    have eV1 : I1 141 2 = fl 2 := hF1 I1 s1 2 (by decide)
    refine x_aload_n C0 rfl dX12_starts_39 ?_
    refine x_getR C0 wf_X12_119 (isModel.k0 hM) rfl rfl (isModel.r24 hM) dX12_starts_40 ?_
    refine x_iload_n C0 rfl dX12_starts_43 ?_
    refine x_iconst (v := nI 2) C0 rfl dX12_starts_44 ?_
    refine x_iaddN C0 dX12_starts_45 ?_
    refine x_iconst (v := 1) C0 rfl dX12_starts_46 ?_
    refine x_aload_n C0 rfl dX12_starts_47 ?_
    refine x_callV [] C0 hN rfl (xRf_of hR (by decide) (Nat.zero_le _) (Nat.zero_le _)) mv_X12_watchers wm_X12_282 dX12_starts_48 (isModel.k0 hM) rfl rfl (Nat.le_of_ble_eq_true rfl) (c_X12_watchers hM ?_)
    refine x_topi eV1 ?_
    refine x_ishl C0 dX12_starts_51 ?_
    refine x_iconst (v := 1) C0 rfl dX12_starts_52 ?_
    refine x_isub C0 dX12_starts_53 ?_
    refine x_iastoreN C0 (isModel.s24 hM) (by omega) (by omega) dX12_starts_54 ?_
    refine x_iconst (v := nI 0) C0 rfl dX12_starts_55 ?_
    refine x_istore_n (L' := [_, _, _]) C0 hN (by decide) rfl dX12_starts_56 ?_
    refine h57 N 0 _ (by omega) (s1.trans (inAt.st (by omega) (by omega))) ?_
    rw [sStart_base]
    exact r1.upd (by omega) (by omega)
  have h2 : ∀ n j I1, j + n = 62 → inAt I I1 b → (∀ q, q < j → I1 151 (b + q) = sBase q) → XX G 0 0 2 [some (.ref 135), some (.int (nI b)), some (.int (nI j))] [] S R I1 J := by
    intro n
    induction n with
    | zero =>
      intro j I1 hj s1 r1
      have hj8 : j = 62 := by omega
      subst hj8
      refine x_iload_n C0 rfl dX12_starts_2 ?_
      refine x_bipush (v := nI 62) C0 rfl dX12_starts_3 ?_
      refine x_icmp_ge (tgt := 39) C0 (by decide) dX12_starts_5 (fun _ => ?_) (fun hkk => absurd ((Int32.le_refl _)) hkk)
      exact h39 I1 s1 r1
    | succ n ih =>
      intro j I1 hj s1 r1
      have up : ∀ v, sBase j = v → ∀ q, q < j + 1 → u2 I1 151 (b + j) v 151 (b + q) = sBase q := fun v hv q hq => by
        by_cases e : q = j
        · rw [e, u2_same, hv]
        · rw [u2_off _ _ (by omega)]; exact r1 q (by omega)
      refine x_iload_n C0 rfl dX12_starts_2 ?_
      refine x_bipush (v := nI 62) C0 rfl dX12_starts_3 ?_
      refine x_icmp_ge (tgt := 39) C0 (by decide) dX12_starts_5 (fun hkk => absurd hkk ((nI_ge (b := 62) (by omega) (by omega)))) (fun _ => ?_)
      refine x_aload_n C0 rfl dX12_starts_8 ?_
      refine x_getR C0 wf_X12_119 (isModel.k0 hM) rfl rfl (isModel.r24 hM) dX12_starts_9 ?_
      refine x_iload_n C0 rfl dX12_starts_12 ?_
      refine x_iload_n C0 rfl dX12_starts_13 ?_
      refine x_iaddN C0 dX12_starts_14 ?_
      refine x_iload_n C0 rfl dX12_starts_15 ?_
      refine x_bipush (v := nI 20) C0 rfl dX12_starts_16 ?_
      refine x_icmp_lt (tgt := 31) C0 (by decide) dX12_starts_18 (fun g18 => ?_) (fun g18 => ?_)
      · refine x_iconst (v := nI 0) C0 rfl dX12_starts_31 ?_
        refine x_iastoreN C0 (isModel.s24 hM) (by omega) (by omega) dX12_starts_32 ?_
        refine x_iinc (v := nI (j + 1)) (L' := [_, _, _]) C0 hN rfl (by decide) (nI_inc j) rfl dX12_starts_33 ?_
        refine x_goto (tgt := 2) C0 (by decide) dX12_starts_36 ?_
        exact ih (j + 1) _ (by omega) (s1.trans (inAt.st (by omega) (by omega))) (up _ (by unfold sBase; rw [if_neg (fun q => absurd q.1 (by have := (nI_lt_iff (by omega) (by omega)).mp g18; omega))]; rfl))
      · refine x_iload_n C0 rfl dX12_starts_21 ?_
        refine x_bipush (v := nI 56) C0 rfl dX12_starts_22 ?_
        refine x_icmp_ge (tgt := 31) C0 (by decide) dX12_starts_24 (fun g24 => ?_) (fun g24 => ?_)
        · refine x_iconst (v := nI 0) C0 rfl dX12_starts_31 ?_
          refine x_iastoreN C0 (isModel.s24 hM) (by omega) (by omega) dX12_starts_32 ?_
          refine x_iinc (v := nI (j + 1)) (L' := [_, _, _]) C0 hN rfl (by decide) (nI_inc j) rfl dX12_starts_33 ?_
          refine x_goto (tgt := 2) C0 (by decide) dX12_starts_36 ?_
          exact ih (j + 1) _ (by omega) (s1.trans (inAt.st (by omega) (by omega))) (up _ (by unfold sBase; rw [if_neg (fun q => absurd q.2 (by have := (nI_le_iff (by omega) (by omega)).mp g24; omega))]; rfl))
        · refine x_iconst (v := -1) C0 rfl dX12_starts_27 ?_
          refine x_goto (tgt := 32) C0 (by decide) dX12_starts_28 ?_
          refine x_iastoreN C0 (isModel.s24 hM) (by omega) (by omega) dX12_starts_32 ?_
          refine x_iinc (v := nI (j + 1)) (L' := [_, _, _]) C0 hN rfl (by decide) (nI_inc j) rfl dX12_starts_33 ?_
          refine x_goto (tgt := 2) C0 (by decide) dX12_starts_36 ?_
          exact ih (j + 1) _ (by omega) (s1.trans (inAt.st (by omega) (by omega))) (up _ (by unfold sBase; rw [if_pos ⟨Nat.le_of_not_lt (fun q => g18 ((nI_lt_iff (by omega) (by omega)).mpr q)), Nat.lt_of_not_le (fun q => g24 ((nI_le_iff (by omega) (by omega)).mpr q))⟩]))
  refine x_iconst (v := nI 0) C0 rfl dX12_starts_0 ?_
  refine x_istore_n (L' := [_, _, _]) C0 hN (by decide) rfl dX12_starts_1 ?_
  exact h2 62 0 I (by omega) inAt.rf (fun q hq => absurd hq (by omega))
