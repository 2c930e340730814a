/-! READING: the reference, a film -/
def FmR (I : xTI) (J : xTJ) (I' : xTI) (J' : xTJ) : Prop := (∀ a, a ≠ 135 → a ≠ 137 → a ≠ 138 → a ≠ 141 → a ≠ 142 → a ≠ 143 → a ≠ 147 → I' a = I a) ∧ (∀ k, k ≠ 0 → k ≠ 2 → k ≠ 3 → k ≠ 7 → k ≠ 8 → k ≠ 13 → k ≠ 19 → k ≠ 20 → I' 135 k = I 135 k) ∧ (∀ j, j < 60 → I' 141 j = I 141 j) ∧ (∀ j, j < 1100 → I' 142 j = I 142 j ∧ I' 143 j = I 143 j) ∧ (∀ a, a ≠ 139 → a ≠ 145 → J' a = J a)
theorem FmR.frr {I I1_ I2_ : xTI} {J J1_ J2_ : xTJ} (a : FmR I J I1_ J1_) (b : FrR I1_ J1_ I2_ J2_) : FmR I J I2_ J2_ := ⟨fun q h1_ h2_ h3_ h4_ h5_ h6_ h7_ => (b.1 q h1_ h4_ h5_ h6_ h7_).trans (a.1 q h1_ h2_ h3_ h4_ h5_ h6_ h7_), fun k h1_ h2_ h3_ h4_ h5_ h6_ h7_ h8_ => (b.2.1 k h4_ h5_ h6_ h7_ h8_).trans (a.2.1 k h1_ h2_ h3_ h4_ h5_ h6_ h7_ h8_), fun j h => (b.2.2.1 j h).trans (a.2.2.1 j h), fun j h => ⟨((b.2.2.2.1 j h).1).trans (a.2.2.2.1 j h).1, ((b.2.2.2.1 j h).2).trans (a.2.2.2.1 j h).2⟩, fun q h1_ h2_ => (b.2.2.2.2 q h2_).trans (a.2.2.2.2 q h1_ h2_)⟩
/-- how many codes there are -/
def cN (lw : Option (List (Nat × Nat))) : Nat := match lw with
  | none => 0
  | some cl => cl.length + 1
theorem RLw_n {I : xTI} {lw : Option (List (Nat × Nat))} (h : RLw I lw) : I 135 13 = nI (cN lw) := by
  cases lw with
  | none => exact h
  | some cl => exact h.1
theorem RLw_le {I : xTI} {lw : Option (List (Nat × Nat))} (h : RLw I lw) : cN lw ≤ 1001 := by
  cases lw with
  | none => exact Nat.zero_le _
  | some cl =>
    have := h.2.1
    show cl.length + 1 ≤ 1001
    omega
theorem RLw_law {I I' : xTI} {F : pF} {lw : Option (List (Nat × Nat))} (h : RLw I lw) (e : ∀ i, i < cN lw → I' 142 i = I 142 (1100 + i) ∧ I' 143 i = I 143 (1100 + i)) : MLaw I' (fRow F lw.isSome) lw := by
  cases lw with
  | none => exact (show fRow F false 4 = -1 from rfl)
  | some cl =>
    obtain ⟨a1_, a2_, a3_, a4_, a5_⟩ := h
    refine ⟨(show fRow F true 4 = 0 from rfl), fun i hi => ?_, ?_, a2_, a3_⟩
    · obtain ⟨b1_, b2_⟩ := e i (show i < cl.length + 1 by omega)
      rw [b1_, b2_]
      exact a4_ i hi
    · rw [(e cl.length (Nat.lt_succ_self _)).1]
      exact a5_
theorem fLine_mn {q : xTok} {m : pM} {s' : pS} (h1_ : pSign q 59 s' = (fLine q m).1) (h2_ : m.1.1 ≤ s'.1) (h3_ : (fLine q m).1.2 = 0) : m.1.1 + 1 ≤ (fLine q m).1.1 := by
  rw [← h1_] at h3_ ⊢
  have z := pz (f := pSign q 59) (fun y => pSign_f y) h3_
  unfold pSign at h3_ ⊢
  by_cases g : pIsC q 59 s'
  · rw [if_pos g, pNext_0 z]
    exact Nat.succ_le_succ h2_
  · rw [if_neg g] at h3_
    exact absurd h3_ (pRef_ne (by decide))
theorem c_X12_film {S : xTS} {R : xTR} {I : xTI} {J : xTJ} {post : xPost} (hM : isModel S R) {tp : Nat → Nat} {n : Nat} (T : MTp I tp n) (hw : ∀ i, i < 26 → J 140 i = Int64.ofNat (cv (wCd i))) {m : pM} (em : fAll (tTok tp n) = m) (hp0_ : ¬ m.1.2 = 0 → ∀ I' J', FmR I J I' J' → I' 135 2 = nI 0 → post (some (.int (nI m.1.2))) S R I' J') (hp1_ : m.1.2 = 0 → ∀ I' J', (∀ a, a ≠ 135 → a ≠ 137 → a ≠ 138 → a ≠ 141 → a ≠ 142 → a ≠ 143 → a ≠ 146 → a ≠ 147 → a ≠ 148 → a ≠ 151 → a ≠ 152 → I' a = I a) → (∀ a, a ≠ 139 → a ≠ 144 → a ≠ 145 → J' a = J a) → I' 135 2 = nI 0 → FOk m.2.1 → FDj m.2.1 → MFilm I' (fRow m.2.1 m.2.2.2.isSome) → MLaw I' (fRow m.2.1 m.2.2.2.isSome) m.2.2.2 → I' 135 18 = nI (m.2.1.1.1 + m.2.1.1.2.2.1) → MNm I' J' 144 146 (m.2.1.1.1 + m.2.1.1.2.2.1) m.2.1 → I' 135 25 = nI 0 → I' 148 0 = nI 0 → MHall I' 0 (sStart (fRow m.2.1 m.2.2.2.isSome) m.2.1.1.2.1) → (∀ i, i < 36 → I' 151 (62 + i) = -2) → (∀ k, k < 4 → I' 152 k = nI 0) → post (some (.int (nI m.1.2))) S R I' J') : xSpec 35 yX12_film cX12_film 2 (some .int) 0 0 [.ref 135] S R I J post := by
  refine xSpec_of mt_X12_film (Nat.le_of_ble_eq_true rfl) (fun G C0_ hN hR E hI hZ => ?_)
  change XX G 0 0 0 [some (.ref 135), none] [] S R I J
  have h62_ : ∀ I1_ J1_ c, FmR I J I1_ J1_ → I1_ 135 2 = nI 0 → MAt I1_ c m.1 → (m.1.2 = 0 → MRS I1_ J1_ m) → XX G 0 0 62 [some (.ref 135), none] [] S R I1_ J1_ := by
    intro I1_ J1_ c fm e2_ A1_ W1_
    have h74_ : m.1.2 = 0 → XX G 0 0 74 [some (.ref 135), none] [] S R I1_ J1_ := by
      intro z0_
      obtain ⟨⟨ok, dj, mfi, e19_, nm9_⟩, e20_, lw9_⟩ := W1_ z0_
      have e13_ := RLw_n lw9_
      have hcz := RLw_le lw9_
      have hmm := nm9_.1
      have h191_ : ∀ I4_ J4_ x1_, (∀ a, a ≠ 141 → a ≠ 142 → a ≠ 143 → a ≠ 146 → I4_ a = I1_ a) → (∀ i, i < 60 → I4_ 141 i = fRow m.2.1 m.2.2.2.isSome i) → (∀ i, i < cN m.2.2.2 → I4_ 142 i = I1_ 142 (1100 + i) ∧ I4_ 143 i = I1_ 143 (1100 + i)) → (∀ a, a ≠ 144 → J4_ a = J1_ a) → (∀ i, i < m.2.1.1.1 + m.2.1.1.2.2.1 → J4_ 144 i = J1_ 145 i ∧ I4_ 146 i = I1_ 147 i) → XX G 0 0 191 [some (.ref 135), x1_] [] S R I4_ J4_ := by
        intro I4_ J4_ x1_ s4_ mf4_ ml4_ sj4_ mn4_
        refine x_aload_n C0_ rfl dX12_film_191 ?_
        refine x_aload_n C0_ rfl dX12_film_192 ?_
        refine x_getI C0_ wf_X12_193 (isModel.k0 hM) rfl dX12_film_193 ?_
        refine x_topi (v := nI (m.2.1.1.1 + m.2.1.1.2.2.1)) (by rw [s4_ 135 (by decide) (by decide) (by decide) (by decide)]; exact e19_) ?_
        refine x_putI C0_ wf_X12_196 (isModel.k0 hM) rfl dX12_film_196 ?_
        have s5_ : ∀ a, a ≠ 135 → u2 I4_ 135 18 (nI (m.2.1.1.1 + m.2.1.1.2.2.1)) a = I4_ a := fun a h => u2_row _ _ _ h
        have t5_ : ∀ k, k ≠ 18 → u2 I4_ 135 18 (nI (m.2.1.1.1 + m.2.1.1.2.2.1)) 135 k = I1_ 135 k := fun k h => by rw [u2_off _ _ h, s4_ 135 (by decide) (by decide) (by decide) (by decide)]
        have e18_ : u2 I4_ 135 18 (nI (m.2.1.1.1 + m.2.1.1.2.2.1)) 135 18 = nI (m.2.1.1.1 + m.2.1.1.2.2.1) := u2_same _ _ _ _
        generalize u2 I4_ 135 18 (nI (m.2.1.1.1 + m.2.1.1.2.2.1)) = I5_ at s5_ t5_ e18_ ⊢
        have wl5_ := fRow_WFl (lo := m.2.2.2.isSome) ok
        have mF5_ : MFilm I5_ (fRow m.2.1 m.2.2.2.isSome) := fun i hi => by rw [s5_ 141 (by decide)]; exact mf4_ i hi
        refine x_aload_n C0_ rfl dX12_film_199 ?_
        refine x_callV [] C0_ hN rfl (xRf_of hR (by decide) (Nat.zero_le _) (Nat.zero_le _)) mv_X12_begins wm_X12_136 dX12_film_200 (isModel.k0 hM) rfl rfl (Nat.le_of_ble_eq_true rfl) (c_X12_begins hM wl5_ mF5_ (fun I6_ a1_ a2_ a3_ a4_ a5_ a6_ a7_ => ?_))
        refine x_iconst (v := nI 0) C0_ rfl dX12_film_203 ?_
        refine x_iret C0_ E (by decide) (by decide) dX12_film_204 ?_
        have r6_ : ∀ a, a ≠ 135 → a ≠ 148 → a ≠ 151 → a ≠ 152 → I6_ a = I4_ a := fun a h1_ h2_ h3_ h4_ => (a1_ a h1_ h2_ h3_ h4_).trans (s5_ a h1_)
        rw [z0_] at hp1_
        refine hp1_ rfl I6_ J4_ (fun a h1_ h2_ h3_ h4_ h5_ h6_ h7_ h8_ h9_ h10_ h11_ => ?_) (fun a h1_ h2_ h3_ => ?_) ?_ ok dj ?_ ?_ ?_ ?_ a3_ a4_ a5_ a6_ a7_
        · rw [r6_ a h1_ h9_ h10_ h11_, s4_ a h4_ h5_ h6_ h7_]; exact fm.1 a h1_ h2_ h3_ h4_ h5_ h6_ h8_
        · rw [sj4_ a h2_]; exact fm.2.2.2.2 a h1_ h3_
        · rw [a2_ 2 (by decide), t5_ 2 (by decide)]; exact e2_
        · exact fun i hi => by rw [r6_ 141 (by decide) (by decide) (by decide) (by decide)]; exact mf4_ i hi
        · exact RLw_law lw9_ (fun i hi => by rw [r6_ 142 (by decide) (by decide) (by decide) (by decide), r6_ 143 (by decide) (by decide) (by decide) (by decide)]; exact ml4_ i hi)
        · rw [a2_ 18 (by decide)]; exact e18_
        · obtain ⟨n1_, nmx, ofx, n2_, n3_⟩ := nm9_
          refine ⟨n1_, nmx, ofx, fun k hk => ?_, n3_⟩
          obtain ⟨b1_, b2_⟩ := mn4_ k hk
          rw [b1_, r6_ 146 (by decide) (by decide) (by decide) (by decide), b2_]
          exact n2_ k hk
      have h153_ : ∀ j k I4_ J4_, k + j = m.2.1.1.1 + m.2.1.1.2.2.1 → (∀ a, a ≠ 141 → a ≠ 142 → a ≠ 143 → a ≠ 146 → I4_ a = I1_ a) → (∀ i, i < 60 → I4_ 141 i = fRow m.2.1 m.2.2.2.isSome i) → (∀ i, i < cN m.2.2.2 → I4_ 142 i = I1_ 142 (1100 + i) ∧ I4_ 143 i = I1_ 143 (1100 + i)) → (∀ a, a ≠ 144 → J4_ a = J1_ a) → (∀ i, i < k → J4_ 144 i = J1_ 145 i ∧ I4_ 146 i = I1_ 147 i) → XX G 0 0 153 [some (.ref 135), some (.int (nI k))] [] S R I4_ J4_ := by
        intro j
        induction j with
        | zero =>
          intro k I4_ J4_ hk s4_ mf4_ ml4_ sj4_ mn4_
          have hk8_ : k = m.2.1.1.1 + m.2.1.1.2.2.1 := by omega
          have e194_ : I4_ 135 19 = nI (m.2.1.1.1 + m.2.1.1.2.2.1) := by rw [s4_ 135 (by decide) (by decide) (by decide) (by decide)]; exact e19_
          refine x_iload_n C0_ rfl dX12_film_153 ?_
          refine x_aload_n C0_ rfl dX12_film_154 ?_
          refine x_getI C0_ wf_X12_193 (isModel.k0 hM) rfl dX12_film_155 ?_
          refine x_topi e194_ ?_
          refine x_icmp_ge (tgt := 191) C0_ (by decide) dX12_film_158 (fun _ => ?_) (fun hkk => absurd ((by rw [hk8_]; exact Int32.le_refl _)) hkk)
          exact h191_ I4_ J4_ _ s4_ mf4_ ml4_ sj4_ (fun i hi => mn4_ i (by omega))
        | succ j ih =>
          intro k I4_ J4_ hk s4_ mf4_ ml4_ sj4_ mn4_
          have e194_ : I4_ 135 19 = nI (m.2.1.1.1 + m.2.1.1.2.2.1) := by rw [s4_ 135 (by decide) (by decide) (by decide) (by decide)]; exact e19_
          refine x_iload_n C0_ rfl dX12_film_153 ?_
          refine x_aload_n C0_ rfl dX12_film_154 ?_
          refine x_getI C0_ wf_X12_193 (isModel.k0 hM) rfl dX12_film_155 ?_
          refine x_topi e194_ ?_
          refine x_icmp_ge (tgt := 191) C0_ (by decide) dX12_film_158 (fun hkk => absurd hkk ((nI_ge (by omega) (by omega)))) (fun _ => ?_)
          refine x_aload_n C0_ rfl dX12_film_161 ?_
          refine x_getR C0_ wf_X12_98 (isModel.k0 hM) rfl rfl (isModel.r14 hM) dX12_film_162 ?_
          refine x_iload_n C0_ rfl dX12_film_165 ?_
          refine x_aload_n C0_ rfl dX12_film_166 ?_
          refine x_getR C0_ wf_X12_101 (isModel.k0 hM) rfl rfl (isModel.r15 hM) dX12_film_167 ?_
          refine x_iload_n C0_ rfl dX12_film_170 ?_
          refine x_laloadN C0_ (isModel.s15 hM) (by omega) (by omega) dX12_film_171 ?_
          refine x_lastoreN C0_ (isModel.s14 hM) (by omega) (by omega) dX12_film_172 ?_
          refine x_aload_n C0_ rfl dX12_film_173 ?_
          refine x_getR C0_ wf_X12_104 (isModel.k0 hM) rfl rfl (isModel.r16 hM) dX12_film_174 ?_
          refine x_iload_n C0_ rfl dX12_film_177 ?_
          refine x_aload_n C0_ rfl dX12_film_178 ?_
          refine x_getR C0_ wf_X12_107 (isModel.k0 hM) rfl rfl (isModel.r17 hM) dX12_film_179 ?_
          refine x_iload_n C0_ rfl dX12_film_182 ?_
          refine x_ialoadN C0_ (isModel.s17 hM) (by omega) (by omega) dX12_film_183 ?_
          refine x_iastoreN C0_ (isModel.s16 hM) (by omega) (by omega) dX12_film_184 ?_
          refine x_iinc (v := nI (k + 1)) (L' := [_, _]) C0_ hN rfl (by decide) (nI_inc k) rfl dX12_film_185 ?_
          refine x_goto (tgt := 153) C0_ (by decide) dX12_film_188 ?_
          refine ih (k + 1) _ _ (by omega) (fun a h1_ h2_ h3_ h4_ => ?_) (fun i hi => ?_) (fun i hi => ?_) (fun a h => ?_) (fun i hi => ?_)
          · rw [u2_row _ _ _ h4_]; exact s4_ a h1_ h2_ h3_ h4_
          · rw [u2_row _ _ _ (by decide)]; exact mf4_ i hi
          · rw [u2_row _ _ _ (by decide), u2_row _ _ _ (by decide)]; exact ml4_ i hi
          · rw [u2_row _ _ _ h]; exact sj4_ a h
          · by_cases e : i = k
            · rw [u2_eq _ _ e, u2_eq _ _ e, e, sj4_ 145 (by decide), s4_ 147 (by decide) (by decide) (by decide) (by decide)]; exact ⟨rfl, rfl⟩
            · rw [u2_off _ _ e, u2_off _ _ e]; exact mn4_ i (by omega)
      have h105_ : ∀ j k I4_, k + j = cN m.2.2.2 → (∀ a, a ≠ 141 → a ≠ 142 → a ≠ 143 → I4_ a = I1_ a) → (∀ i, i < 60 → I4_ 141 i = fRow m.2.1 m.2.2.2.isSome i) → (∀ i, i < k → I4_ 142 i = I1_ 142 (1100 + i) ∧ I4_ 143 i = I1_ 143 (1100 + i)) → (∀ i, 1100 ≤ i → I4_ 142 i = I1_ 142 i ∧ I4_ 143 i = I1_ 143 i) → XX G 0 0 105 [some (.ref 135), some (.int (nI k))] [] S R I4_ J1_ := by
        intro j
        induction j with
        | zero =>
          intro k I4_ hk s4_ mf4_ ml4_ mh4_
          have hk8_ : k = cN m.2.2.2 := by omega
          have e134_ : I4_ 135 13 = nI (cN m.2.2.2) := by rw [s4_ 135 (by decide) (by decide) (by decide)]; exact e13_
          refine x_iload_n C0_ rfl dX12_film_105 ?_
          refine x_aload_n C0_ rfl dX12_film_106 ?_
          refine x_getI C0_ wf_X12_218 (isModel.k0 hM) rfl dX12_film_107 ?_
          refine x_topi e134_ ?_
          refine x_icmp_ge (tgt := 151) C0_ (by decide) dX12_film_110 (fun _ => ?_) (fun hkk => absurd ((by rw [hk8_]; exact Int32.le_refl _)) hkk)
          refine x_iconst (v := nI 0) C0_ rfl dX12_film_151 ?_
          refine x_istore_n (L' := [_, _]) C0_ hN (by decide) rfl dX12_film_152 ?_
          exact h153_ _ 0 I4_ J1_ (Nat.zero_add _) (fun a h1_ h2_ h3_ _ => s4_ a h1_ h2_ h3_) mf4_ (fun i hi => ml4_ i (by omega)) (fun _ _ => rfl) (fun i hi => absurd hi (Nat.not_lt_zero i))
        | succ j ih =>
          intro k I4_ hk s4_ mf4_ ml4_ mh4_
          have e134_ : I4_ 135 13 = nI (cN m.2.2.2) := by rw [s4_ 135 (by decide) (by decide) (by decide)]; exact e13_
          refine x_iload_n C0_ rfl dX12_film_105 ?_
          refine x_aload_n C0_ rfl dX12_film_106 ?_
          refine x_getI C0_ wf_X12_218 (isModel.k0 hM) rfl dX12_film_107 ?_
          refine x_topi e134_ ?_
          refine x_icmp_ge (tgt := 151) C0_ (by decide) dX12_film_110 (fun hkk => absurd hkk ((nI_ge (by omega) (by omega)))) (fun _ => ?_)
          refine x_aload_n C0_ rfl dX12_film_113 ?_
          refine x_getR C0_ wf_X12_92 (isModel.k0 hM) rfl rfl (isModel.r11 hM) dX12_film_114 ?_
          refine x_iload_n C0_ rfl dX12_film_117 ?_
          refine x_aload_n C0_ rfl dX12_film_118 ?_
          refine x_getR C0_ wf_X12_92 (isModel.k0 hM) rfl rfl (isModel.r11 hM) dX12_film_119 ?_
          refine x_sipush (v := nI 1100) C0_ rfl dX12_film_122 ?_
          refine x_iload_n C0_ rfl dX12_film_125 ?_
          refine x_iaddN C0_ dX12_film_126 ?_
          refine x_ialoadN C0_ (isModel.s11 hM) (by omega) (by omega) dX12_film_127 ?_
          refine x_iastoreN C0_ (isModel.s11 hM) (by omega) (by omega) dX12_film_128 ?_
          refine x_aload_n C0_ rfl dX12_film_129 ?_
          refine x_getR C0_ wf_X12_95 (isModel.k0 hM) rfl rfl (isModel.r12 hM) dX12_film_130 ?_
          refine x_iload_n C0_ rfl dX12_film_133 ?_
          refine x_aload_n C0_ rfl dX12_film_134 ?_
          refine x_getR C0_ wf_X12_95 (isModel.k0 hM) rfl rfl (isModel.r12 hM) dX12_film_135 ?_
          refine x_sipush (v := nI 1100) C0_ rfl dX12_film_138 ?_
          refine x_iload_n C0_ rfl dX12_film_141 ?_
          refine x_iaddN C0_ dX12_film_142 ?_
          refine x_ialoadN C0_ (isModel.s12 hM) (by omega) (by omega) dX12_film_143 ?_
          refine x_iastoreN C0_ (isModel.s12 hM) (by omega) (by omega) dX12_film_144 ?_
          refine x_iinc (v := nI (k + 1)) (L' := [_, _]) C0_ hN rfl (by decide) (nI_inc k) rfl dX12_film_145 ?_
          refine x_goto (tgt := 105) C0_ (by decide) dX12_film_148 ?_
          refine ih (k + 1) _ (by omega) (fun a h1_ h2_ h3_ => ?_) (fun i hi => ?_) (fun i hi => ?_) (fun i hi => ?_)
          · rw [u2_row _ _ _ h3_, u2_row _ _ _ h2_]; exact s4_ a h1_ h2_ h3_
          · rw [u2_row _ _ _ (by decide), u2_row _ _ _ (by decide)]; exact mf4_ i hi
          · obtain ⟨b1_, b2_⟩ := mh4_ (1100 + k) (by omega)
            by_cases e : i = k
            · rw [u2_row _ (i := 142) _ _ (by decide), u2_eq _ _ e, u2_eq _ _ e, u2_row _ _ _ (by decide), e]; exact ⟨b1_, b2_⟩
            · rw [u2_row _ (i := 142) _ _ (by decide), u2_off _ _ e, u2_off _ _ e, u2_row _ _ _ (by decide)]; exact ml4_ i (by omega)
          · rw [u2_row _ (i := 142) _ _ (by decide), u2_off _ _ (by omega), u2_off _ _ (by omega), u2_row _ _ _ (by decide)]; exact mh4_ i hi
      have h76_ : ∀ j k I4_, k + j = 60 → (∀ a, a ≠ 141 → I4_ a = I1_ a) → (∀ i, i < k → I4_ 141 i = fRow m.2.1 m.2.2.2.isSome i) → (∀ i, i < 60 → I4_ 141 (60 + i) = fRow m.2.1 m.2.2.2.isSome i) → XX G 0 0 76 [some (.ref 135), some (.int (nI k))] [] S R I4_ J1_ := by
        intro j
        induction j with
        | zero =>
          intro k I4_ hk s4_ mf4_ mh4_
          have hk8_ : k = 60 := by omega
          subst hk8_
          refine x_iload_n C0_ rfl dX12_film_76 ?_
          refine x_bipush (v := nI 60) C0_ rfl dX12_film_77 ?_
          refine x_icmp_ge (tgt := 103) C0_ (by decide) dX12_film_79 (fun _ => ?_) (fun hkk => absurd ((Int32.le_refl _)) hkk)
          refine x_iconst (v := nI 0) C0_ rfl dX12_film_103 ?_
          refine x_istore_n (L' := [_, _]) C0_ hN (by decide) rfl dX12_film_104 ?_
          exact h105_ _ 0 I4_ (Nat.zero_add _) (fun a h1_ _ _ => s4_ a h1_) mf4_ (fun i hi => absurd hi (Nat.not_lt_zero i)) (fun i _ => by rw [s4_ 142 (by decide), s4_ 143 (by decide)]; exact ⟨rfl, rfl⟩)
        | succ j ih =>
          intro k I4_ hk s4_ mf4_ mh4_
          refine x_iload_n C0_ rfl dX12_film_76 ?_
          refine x_bipush (v := nI 60) C0_ rfl dX12_film_77 ?_
          refine x_icmp_ge (tgt := 103) C0_ (by decide) dX12_film_79 (fun hkk => absurd hkk ((nI_ge (b := 60) (by omega) (by omega)))) (fun _ => ?_)
          refine x_aload_n C0_ rfl dX12_film_82 ?_
          refine x_getR C0_ wf_X12_89 (isModel.k0 hM) rfl rfl (isModel.r10 hM) dX12_film_83 ?_
          refine x_iload_n C0_ rfl dX12_film_86 ?_
          refine x_aload_n C0_ rfl dX12_film_87 ?_
          refine x_getR C0_ wf_X12_89 (isModel.k0 hM) rfl rfl (isModel.r10 hM) dX12_film_88 ?_
          refine x_bipush (v := nI 60) C0_ rfl dX12_film_91 ?_
          refine x_iload_n C0_ rfl dX12_film_93 ?_
          refine x_iaddN C0_ dX12_film_94 ?_
          refine x_ialoadN C0_ (isModel.s10 hM) (by omega) (by omega) dX12_film_95 ?_
          refine x_iastoreN C0_ (isModel.s10 hM) (by omega) (by omega) dX12_film_96 ?_
          refine x_iinc (v := nI (k + 1)) (L' := [_, _]) C0_ hN rfl (by decide) (nI_inc k) rfl dX12_film_97 ?_
          refine x_goto (tgt := 76) C0_ (by decide) dX12_film_100 ?_
          refine ih (k + 1) _ (by omega) (fun a h1_ => ?_) (fun i hi => ?_) (fun i hi => ?_)
          · rw [u2_row _ _ _ h1_]; exact s4_ a h1_
          · by_cases e : i = k
            · rw [u2_eq _ _ e, mh4_ k (by omega), e]
            · rw [u2_off _ _ e]; exact mf4_ i (by omega)
          · rw [u2_off _ _ (by omega)]; exact mh4_ i hi
      refine x_iconst (v := nI 0) C0_ rfl dX12_film_74 ?_
      refine x_istore_n (L' := [_, _]) C0_ hN (by decide) rfl dX12_film_75 ?_
      exact h76_ 60 0 I1_ (by decide) (fun _ _ => rfl) (fun i hi => absurd hi (Nat.not_lt_zero i)) mfi
    refine x_aload_n C0_ rfl dX12_film_62 ?_
    refine x_getI C0_ wf_X12_165 (isModel.k0 hM) rfl dX12_film_63 ?_
    refine x_topi A1_.2.1 ?_
    refine x_if_le (tgt := 74) C0_ (by decide) dX12_film_66 (fun g66_ => ?_) (fun g66_ => ?_)
    · exact h74_ (by
        have := (nI_le_iff (b := 0) (by have := A1_.2.2.2; omega) (by decide)).mp g66_
        omega)
    · refine x_aload_n C0_ rfl dX12_film_69 ?_
      refine x_getI C0_ wf_X12_165 (isModel.k0 hM) rfl dX12_film_70 ?_
      refine x_topi A1_.2.1 ?_
      refine x_iret C0_ E (by decide) (by decide) dX12_film_73 ?_
      exact hp0_ (fun z => g66_ (by rw [z]; exact Int32.le_refl _)) I1_ J1_ fm e2_
  have h30_ : ∀ c j I1_ J1_ m1_, FmR I J I1_ J1_ → I1_ 135 2 = nI 0 → MRd I1_ J1_ tp n c → MAt I1_ c m1_.1 → (m1_.1.2 = 0 → MRS I1_ J1_ m1_) → (m1_.1.2 = 0 → c ≤ m1_.1.1 + j) → fLoop (tTok tp n) j m1_ = m → XX G 0 0 30 [some (.ref 135), none] [] S R I1_ J1_ := by
    intro c j
    induction j with
    | zero =>
      intro I1_ J1_ m1_ fm e2_ T1_ A1_ W1_ hc el
      have el : m1_ = m := el
      subst el
      obtain ⟨a7_, a8_, ac, a9_⟩ := id A1_
      obtain ⟨k0_, k5_, -, -, k1_, -, -, -, -⟩ := T1_.at ac
      have hK : m1_.1.2 = 0 → ((tTok tp n) m1_.1.1).1 = 0 := fun z => by
        have h1_ := hc z
        rw [show m1_.1.1 = c by omega]
        exact T1_.1.2.2.2.1
      refine x_aload_n C0_ rfl dX12_film_30 ?_
      refine x_getI C0_ wf_X12_165 (isModel.k0 hM) rfl dX12_film_31 ?_
      refine x_topi a8_ ?_
      refine x_if_ne (tgt := 62) C0_ (by decide) dX12_film_34 (fun g34_ => ?_) (fun g34_ => ?_)
      · exact h62_ I1_ J1_ c fm e2_ A1_ W1_
      · refine x_aload_n C0_ rfl dX12_film_37 ?_
        refine x_getR C0_ wf_X12_24 (isModel.k0 hM) rfl rfl (isModel.r4 hM) dX12_film_38 ?_
        refine x_aload_n C0_ rfl dX12_film_41 ?_
        refine x_getI C0_ wf_X12_162 (isModel.k0 hM) rfl dX12_film_42 ?_
        refine x_topi a7_ ?_
        refine x_ialoadN C0_ (isModel.s4 hM) (by omega) (by omega) dX12_film_45 ?_
        refine x_topi k1_ ?_
        refine x_if_eq (tgt := 62) C0_ (by decide) dX12_film_46 (fun _ => ?_) (fun hkk => absurd ((by rw [hK (A1_.z.mp g34_)]; rfl)) hkk)
        exact h62_ I1_ J1_ c fm e2_ A1_ W1_
    | succ j ih =>
      intro I1_ J1_ m1_ fm e2_ T1_ A1_ W1_ hc el
      have elu : fLoop (tTok tp n) (j + 1) m1_ = if m1_.1.2 = 0 ∧ ((tTok tp n) m1_.1.1).1 ≠ 0 then fLoop (tTok tp n) j (fLine (tTok tp n) m1_) else m1_ := rfl
      rw [elu] at el
      obtain ⟨a7_, a8_, ac, a9_⟩ := id A1_
      obtain ⟨k0_, k5_, -, -, k1_, -, -, -, -⟩ := T1_.at ac
      refine x_aload_n C0_ rfl dX12_film_30 ?_
      refine x_getI C0_ wf_X12_165 (isModel.k0 hM) rfl dX12_film_31 ?_
      refine x_topi a8_ ?_
      refine x_if_ne (tgt := 62) C0_ (by decide) dX12_film_34 (fun g34_ => ?_) (fun g34_ => ?_)
      · rw [if_neg (fun z => g34_ (A1_.z.mpr z.1))] at el
        subst el
        exact h62_ I1_ J1_ c fm e2_ A1_ W1_
      · refine x_aload_n C0_ rfl dX12_film_37 ?_
        refine x_getR C0_ wf_X12_24 (isModel.k0 hM) rfl rfl (isModel.r4 hM) dX12_film_38 ?_
        refine x_aload_n C0_ rfl dX12_film_41 ?_
        refine x_getI C0_ wf_X12_162 (isModel.k0 hM) rfl dX12_film_42 ?_
        refine x_topi a7_ ?_
        refine x_ialoadN C0_ (isModel.s4 hM) (by omega) (by omega) dX12_film_45 ?_
        refine x_topi k1_ ?_
        refine x_if_eq (tgt := 62) C0_ (by decide) dX12_film_46 (fun g46_ => ?_) (fun g46_ => ?_)
        · rw [if_neg (fun z => z.2 ((nI_eq (b := 0) (by omega) (by decide)).mp g46_))] at el
          subst el
          exact h62_ I1_ J1_ c fm e2_ A1_ W1_
        · refine x_aload_n C0_ rfl dX12_film_49 ?_
          have z0_ := A1_.z.mp g34_
          have g : m1_.1.2 = 0 ∧ ((tTok tp n) m1_.1.1).1 ≠ 0 := ⟨z0_, fun z => g46_ (by rw [z]; rfl)⟩
          rw [if_pos g] at el
          refine x_callV [] C0_ hN rfl (xRf_of hR (by decide) (Nat.zero_le _) (Nat.zero_le _)) mv_X12_readLine wm_X12_224 dX12_film_50 (isModel.k0 hM) rfl rfl (Nat.le_of_ble_eq_true rfl) (c_X12_readLine hM T1_ A1_ (F := m1_.2.1) (st := m1_.2.2.1) (lw := m1_.2.2.2) (W1_ z0_) z0_ (fun I2_ J2_ s2_ f2_ A2_ hs hl W2_ => ?_))
          refine x_aload_n C0_ rfl dX12_film_53 ?_
          refine x_bipush (v := nI 59) C0_ rfl dX12_film_54 ?_
          refine x_callV [_] C0_ hN rfl (xRf_of hR (by decide) (Nat.zero_le _) (Nat.zero_le _)) mv_X12_takeSign wm_X12_227 dX12_film_56 (isModel.k0 hM) rfl rfl (Nat.le_of_ble_eq_true rfl) (c_X12_takeSign hM (T1_.frr f2_) A2_ (d := 59) (by decide) (fun I3_ f3_ A3_ => ?_))
          refine x_goto (tgt := 30) C0_ (by decide) dX12_film_59 ?_
          rw [hs] at A3_
          refine ih I3_ J2_ (fLine (tTok tp n) m1_) (fm.frr (f2_.trans (FrR.of f3_))) ?_ ((T1_.frr f2_).fr f3_) A3_ (fun z => ?_) (fun z => ?_) el
          · rw [f3_.2 2 (by decide) (by decide), f2_.2.1 2 (by decide) (by decide) (by decide) (by decide) (by decide)]; exact e2_
          · have zs : s2_.2 = 0 := pz (f := pSign (tTok tp n) 59) (fun y => pSign_f y) (by rw [hs]; exact z)
            obtain ⟨b1_, b2_, b3_⟩ := W2_ zs
            exact ⟨b1_.rfr f3_, by rw [f3_.2 20 (by decide) (by decide)]; exact b2_, b3_.congr (f3_.2 13 (by decide) (by decide)) (f3_.1 142 (by decide)) (f3_.1 143 (by decide))⟩
          · have h1_ : m1_.1.1 + 1 ≤ (fLine (tTok tp n) m1_).1.1 := fLine_mn hs hl z
            have h2_ := hc z0_
            omega
  refine x_aload_n C0_ rfl dX12_film_0 ?_
  refine x_iconst (v := nI 0) C0_ rfl dX12_film_1 ?_
  refine x_putI C0_ wf_X12_1 (isModel.k0 hM) rfl dX12_film_2 ?_
  have T0_ : MTp (u2 I 135 0 (nI 0)) tp n := ⟨by rw [u2_off _ _ (by decide)]; exact T.1, T.2.1, fun i hi => by rw [u2_row _ _ _ (by decide)]; exact T.2.2 i hi⟩
  refine x_aload_n C0_ rfl dX12_film_5 ?_
  refine x_callV [] C0_ hN rfl (xRf_of hR (by decide) (Nat.zero_le _) (Nat.zero_le _)) mv_X12_cutAll wm_X12_215 dX12_film_6 (isModel.k0 hM) rfl rfl (Nat.le_of_ble_eq_true rfl) (c_X12_cutAll hM T0_ (fun I1_ J1_ c f1_ e2_ e3_ e7_ e8_ M1_ => ?_))
  refine x_aload_n C0_ rfl dX12_film_9 ?_
  refine x_iconst (v := nI 0) C0_ rfl dX12_film_10 ?_
  refine x_putI C0_ wf_X12_218 (isModel.k0 hM) rfl dX12_film_11 ?_
  refine x_aload_n C0_ rfl dX12_film_14 ?_
  refine x_iconst (v := nI 0) C0_ rfl dX12_film_15 ?_
  refine x_putI C0_ wf_X12_193 (isModel.k0 hM) rfl dX12_film_16 ?_
  refine x_aload_n C0_ rfl dX12_film_19 ?_
  refine x_iconst (v := nI 0) C0_ rfl dX12_film_20 ?_
  refine x_putI C0_ wf_X12_221 (isModel.k0 hM) rfl dX12_film_21 ?_
  have sa : ∀ a, a ≠ 135 → u2 (u2 (u2 I1_ 135 13 (nI 0)) 135 19 (nI 0)) 135 20 (nI 0) a = I1_ a := fun a h => by rw [u2_row _ _ _ h, u2_row _ _ _ h, u2_row _ _ _ h]
  have sk : ∀ k, k ≠ 13 → k ≠ 19 → k ≠ 20 → u2 (u2 (u2 I1_ 135 13 (nI 0)) 135 19 (nI 0)) 135 20 (nI 0) 135 k = I1_ 135 k := fun k h1_ h2_ h3_ => by rw [u2_off _ _ h3_, u2_off _ _ h2_, u2_off _ _ h1_]
  have s13_ : u2 (u2 (u2 I1_ 135 13 (nI 0)) 135 19 (nI 0)) 135 20 (nI 0) 135 13 = nI 0 := by rw [u2_off _ _ (by decide), u2_off _ _ (by decide), u2_same]
  have s19_ : u2 (u2 (u2 I1_ 135 13 (nI 0)) 135 19 (nI 0)) 135 20 (nI 0) 135 19 = nI 0 := by rw [u2_off _ _ (by decide), u2_same]
  have s20_ : u2 (u2 (u2 I1_ 135 13 (nI 0)) 135 19 (nI 0)) 135 20 (nI 0) 135 20 = nI 0 := u2_same _ _ _ _
  generalize u2 (u2 (u2 I1_ 135 13 (nI 0)) 135 19 (nI 0)) 135 20 (nI 0) = I2_ at sa sk s13_ s19_ s20_ ⊢
  refine x_aload_n C0_ rfl dX12_film_24 ?_
  refine x_bipush (v := nI 60) C0_ rfl dX12_film_25 ?_
  refine x_callV [_] C0_ hN rfl (xRf_of hR (by decide) (Nat.zero_le _) (Nat.zero_le _)) mv_X12_standsAsAlways wm_X12_132 dX12_film_27 (isModel.k0 hM) rfl rfl (Nat.le_of_ble_eq_true rfl) (c_X12_standsAsAlways hM (b := 60) (Nat.le_refl 60) (fun I3_ b1_ b2_ b3_ => ?_))
  have fm0_ : FmR I J I3_ J1_ := ⟨fun a h1_ h2_ h3_ h4_ h5_ h6_ h7_ => by rw [b1_ a h4_, sa a h1_, f1_.1 a h1_ h2_ h3_, u2_row _ _ _ h1_], fun k h1_ h2_ h3_ h4_ h5_ h6_ h7_ h8_ => by rw [b1_ 135 (by decide), sk k h6_ h7_ h8_, f1_.2.1 k h2_ h3_ h4_ h5_, u2_off _ _ h1_], fun j hj => by rw [b2_ j (Or.inl hj), sa 141 (by decide), f1_.1 141 (by decide) (by decide) (by decide), u2_row _ _ _ (by decide)], fun j hj => by rw [b1_ 142 (by decide), b1_ 143 (by decide), sa 142 (by decide), sa 143 (by decide), f1_.1 142 (by decide) (by decide) (by decide), f1_.1 143 (by decide) (by decide) (by decide), u2_row _ _ _ (by decide), u2_row _ _ _ (by decide)]; exact ⟨rfl, rfl⟩, fun a h1_ h2_ => f1_.2.2 a h1_⟩
  have k3_ : ∀ k, k ≠ 13 → k ≠ 19 → k ≠ 20 → I3_ 135 k = I1_ 135 k := fun k h1_ h2_ h3_ => by rw [b1_ 135 (by decide)]; exact sk k h1_ h2_ h3_
  have M3_ : MRd I3_ J1_ tp n c := ⟨M1_.congr (by rw [b1_ 137 (by decide), sa 137 (by decide)]) (by rw [b1_ 138 (by decide), sa 138 (by decide)]), fun i hi => by rw [f1_.2.2 140 (by decide)]; exact hw i hi⟩
  have A3_ : MAt I3_ c ((0, 0), F0', false, (none : Option (List (Nat × Nat)))).1 := ⟨by rw [k3_ 7 (by decide) (by decide) (by decide)]; exact e7_, by rw [k3_ 8 (by decide) (by decide) (by decide)]; exact e8_, Nat.zero_le _, (by decide : 0 < 20000)⟩
  have c1000_ : c ≤ 1000 := Nat.le_trans M1_.1 M1_.2.1
  refine h30_ c 1000 I3_ J1_ ((0, 0), F0', false, none) fm0_ (by rw [k3_ 2 (by decide) (by decide) (by decide)]; exact e2_) M3_ A3_ (fun _ => ⟨⟨F0_ok, ⟨by decide, by decide, fun v h => absurd rfl h⟩, fun i hi => b3_ i hi, by rw [b1_ 135 (by decide)]; exact s19_, (by decide : 0 ≤ 12), fun _ => 0, fun _ => 0, fun k hk => absurd hk (Nat.not_lt_zero k), fun v _ => rfl⟩, by rw [b1_ 135 (by decide)]; exact s20_, by show I3_ 135 13 = nI 0; rw [b1_ 135 (by decide)]; exact s13_⟩) (fun _ => by omega) em
