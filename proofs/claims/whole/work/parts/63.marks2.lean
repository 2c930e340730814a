/-! MARKS: the reference -/
def MMarks (I : xTI) (mk : Nat → Bool) (mx mt : Nat → xRow) : Prop := ∀ m, m < 4 → I 152 m = bI (mk m) ∧ (mk m = true → MHall I (98 * (1 + m)) (mx m) ∧ ∀ i, i < 36 → I 151 (98 * (1 + m) + 62 + i) = mt m i)
theorem MMarks.congr {I I' : xTI} {mk : Nat → Bool} {mx mt : Nat → xRow} (h : MMarks I mk mx mt) (e1 : I' 152 = I 152) (e2 : ∀ j, 98 ≤ j → j < 490 → I' 151 j = I 151 j) : MMarks I' mk mx mt := fun m hm => by
  obtain ⟨h1, h2⟩ := h m hm
  refine ⟨by rw [e1]; exact h1, fun g => ⟨fun i hi => ?_, fun i hi => ?_⟩⟩
  · rw [e2 _ (by omega) (by omega)]; exact (h2 g).1 i hi
  · rw [e2 _ (by omega) (by omega)]; exact (h2 g).2 i hi
theorem MMarks.md {I I' : xTI} {mk : Nat → Bool} {mx mt : Nat → xRow} (h : MMarks I mk mx mt) (q : MD I I') : MMarks I' mk mx mt := h.congr (q.1 152 (by decide) (by decide) (by decide) (by decide) (by decide) (by decide)) (fun j h1 h2 => q.2.2 j (by omega) h2)
theorem tMd.md {I I' : xTI} {td : xRow} (h : tMd I td) (q : MD I I') : tMd I' td := fun i hi => by rw [q.2.2 _ (by omega) (by omega)]; exact h i hi
theorem eMd.md {I I' : xTI} {T N V ev : Nat} {ln : Nat → Nat × Nat × Nat × Nat} (h : eMd I T N V ev ln) (q : MD I I') : eMd I' T N V ev ln := by
  unfold eMd
  rw [q.1 148 (by decide) (by decide) (by decide) (by decide) (by decide) (by decide)]
  exact h
theorem ucp98 {I : xTI} {fr to : Nat} {x : xRow} (h : MHall I fr x) : MHall (ucp I fr to 98) to x := fun i hi => by
  unfold ucp
  rw [if_pos ⟨rfl, by omega, by omega⟩, show fr + (to + i - to) = fr + i by omega]
  exact h i hi
theorem ucp98t {I : xTI} {fr to : Nat} {td : xRow} (h : ∀ i, i < 36 → I 151 (fr + 62 + i) = td i) : ∀ i, i < 36 → ucp I fr to 98 151 (to + 62 + i) = td i := fun i hi => by
  unfold ucp
  rw [if_pos ⟨rfl, by omega, by omega⟩, show fr + (to + 62 + i - to) = fr + 62 + i by omega]
  exact h i hi
theorem MMarks.lay {I I' : xTI} {k : Nat} {mk : Nat → Bool} {mx mt : Nat → xRow} {x td : xRow} (h : MMarks I mk mx mt) (e0 : I' 152 k = 1) (e1 : ∀ m, m ≠ k → I' 152 m = I 152 m) (r : MHall I' (98 * (1 + k)) x) (t : ∀ i, i < 36 → I' 151 (98 * (1 + k) + 62 + i) = td i) (s : ∀ j, 98 ≤ j → j < 490 → (j < 98 * (1 + k) ∨ 98 * (1 + k) + 98 ≤ j) → I' 151 j = I 151 j) : MMarks I' (mUp mk k true) (mUp mx k x) (mUp mt k td) := fun m hm => by
  unfold mUp
  by_cases g : m = k
  · subst g
    rw [if_pos rfl, if_pos rfl, if_pos rfl]
    exact ⟨e0, fun _ => ⟨r, t⟩⟩
  · rw [if_neg g, if_neg g, if_neg g]
    obtain ⟨h1, h2⟩ := h m hm
    refine ⟨by rw [e1 m g]; exact h1, fun g2 => ⟨fun i hi => ?_, fun i hi => ?_⟩⟩
    · rw [s _ (by omega) (by omega) (by omega)]; exact (h2 g2).1 i hi
    · rw [s _ (by omega) (by omega) (by omega)]; exact (h2 g2).2 i hi
theorem i_c3 {c : Int32} (h : c ≤ nI 3) : c < nI 4 := by
  rw [Int32.le_iff_toInt_le, show (nI 3).toInt = 3 from rfl] at h
  rw [Int32.lt_iff_toInt_lt, show (nI 4).toInt = 4 from rfl]
  omega
theorem i_m3 {c : Int32} (h : 0 ≤ c ∧ c < 4) : 0 ≤ c ∧ c ≤ nI 3 := by
  refine ⟨h.1, ?_⟩
  have h2 := h.2
  rw [Int32.lt_iff_toInt_lt, show (4 : Int32).toInt = 4 from rfl] at h2
  rw [Int32.le_iff_toInt_le, show (nI 3).toInt = 3 from rfl]
  omega
theorem c_X12_mark {S : xTS} {R : xTR} {I : xTI} {J : xTJ} {post : xPost} {T N V : Nat} {fl x : xRow} {lw : Option (List (Nat × Nat))} (hM : isModel S R) (C : MCore I fl lw T N V x) {td : xRow} {mk : Nat → Bool} {mx mt : Nat → xRow} {m y : Int32} (tM : tMd I td) (K : MMarks I mk mx mt) (h0 : (0 ≤ m ∧ m < 4 → ¬ y = 0 ∧ mk m.toNatClampNeg = false) → ∀ I', MQs I I' → post (some (.int 0)) S R I' J) (h1 : ∀ k, k < 4 → m = nI k → y = 0 → ∀ I', (∀ a, a ≠ 135 → a ≠ 151 → a ≠ 152 → I' a = I a) → (∀ j, j ≠ 0 → I' 135 j = I 135 j) → (∀ j, (j < 98 ∨ 490 ≤ j) → I' 151 j = I 151 j) → MMarks I' (mUp mk k true) (mUp mx k x) (mUp mt k td) → post (some (.int 1)) S R I' J) (h2 : ∀ k, k < 4 → m = nI k → ¬ y = 0 → mk k = true → ∀ I', (∀ a, a ≠ 135 → a ≠ 151 → I' a = I a) → (∀ j, j ≠ 0 → j ≠ 25 → I' 135 j = I 135 j) → I' 135 25 = 0 → (∀ j, 98 ≤ j → I' 151 j = I 151 j) → MHall I' 0 (mx k) → tMd I' (mt k) → post (some (.int 1)) S R I' J) : xSpec 2 yX12_mark cX12_mark 3 (some .boolean) 0 0 [.ref 135, .int m, .int y] S R I J post := by
  refine xSpec_of mt_X12_mark (Nat.le_of_ble_eq_true rfl) (fun G C0 hN hR E hI hZ => ?_)
  change XX G 0 0 0 [some (.ref 135), some (.int m), some (.int y)] [] S R I J
  refine x_aload_n C0 rfl dX12_mark_0 ?_
  refine x_iconst (v := nI 0) C0 rfl dX12_mark_1 ?_
  refine x_putI C0 wf_X12_1 (isModel.k0 hM) rfl dX12_mark_2 ?_
  have q1 := MQs.thrown (I := I) (v := nI 0)
  have C := C.mq q1
  have U0 : ∀ a, a ≠ 135 → u2 I 135 0 (nI 0) a = I a := fun a h => u2_row _ _ _ h
  generalize u2 I 135 0 (nI 0) = I1 at q1 C U0 ⊢
  obtain ⟨wl, mF, mL, mH, wx⟩ := id C
  have hT6 := wl.2.1
  have hN8 := wl.2.2.2.1
  have hV6 := wl.2.2.2.2.2.1
  have eT : I1 141 0 = nI T := (mF 0 (by decide)).trans wl.1
  have eN : I1 141 1 = nI N := (mF 1 (by decide)).trans wl.2.2.1
  have eV : I1 141 2 = nI V := (mF 2 (by decide)).trans wl.2.2.2.2.1
  have hb0 : 0 ≤ 2192 := by decide
  have K1 := K.md (MD.mq q1)
  have U1 : ∀ a, a ≠ 135 → I1 a = I a := U0
  have tM1 := tM.md (MD.mq q1)
  have h29 : ∀ k, k < 4 → m = nI k → (¬ y = 0 → mk k = true) → XX G 0 0 29 [some (.ref 135), some (.int (nI k)), some (.int y)] [] S R I1 J := by
    intro k hk em hmk
    obtain ⟨k1, k2⟩ := K1 k hk
    have eq1 : ∀ v, vp_nar .boolean v = v &&& 1 := fun v => rfl
    refine x_aload_n C0 rfl dX12_mark_29 ?_
    refine x_getR C0 wf_X12_122 (isModel.k0 hM) rfl rfl (isModel.r26 hM) dX12_mark_30 ?_
    refine x_iload_n C0 rfl dX12_mark_33 ?_
    refine x_iconst (v := 1) C0 rfl dX12_mark_34 ?_
    refine x_bastore C0 (isModel.s26 hM) (vp_in_nI hk (by decide)) dX12_mark_35 ?_
    rw [nI_clamp (by omega), show vp_nar .boolean 1 = 1 from rfl]
    refine x_aload_n C0 rfl dX12_mark_36 ?_
    refine x_iload_n C0 rfl dX12_mark_37 ?_
    refine x_if_eq (tgt := 50) C0 (by decide) dX12_mark_38 (fun g38 => ?_) (fun g38 => ?_)
    · refine x_iconst (v := nI 0) C0 rfl dX12_mark_50 ?_
      refine x_iload_n C0 rfl dX12_mark_51 ?_
      refine x_if_eq (tgt := 59) C0 (by decide) dX12_mark_52 (fun _ => ?_) (fun hkk => absurd (g38) hkk)
      refine x_bipush (v := nI 98) C0 rfl dX12_mark_59 ?_
      refine x_iconst (v := nI 1) C0 rfl dX12_mark_61 ?_
      refine x_iload_n C0 rfl dX12_mark_62 ?_
      refine x_iaddN C0 dX12_mark_63 ?_
      refine x_imulN C0 dX12_mark_64 ?_
      refine x_bipush (v := nI 98) C0 rfl dX12_mark_65 ?_
      refine x_callV [_, _, _] C0 hN rfl (xRf_of hR (by decide) (Nat.zero_le _) (Nat.zero_le _)) mv_X12_copies wm_X12_294 dX12_mark_67 (isModel.k0 hM) rfl rfl (Nat.le_of_ble_eq_true rfl) (c_X12_copies hM (Or.inl (by omega)) (by omega) (by omega) ?_)
      refine x_aload_n C0 rfl dX12_mark_70 ?_
      refine x_iload_n C0 rfl dX12_mark_71 ?_
      refine x_if_eq (tgt := 79) C0 (by decide) dX12_mark_72 (fun _ => ?_) (fun hkk => absurd (g38) hkk)
      refine x_aload_n C0 rfl dX12_mark_79 ?_
      refine x_getI C0 wf_X12_291 (isModel.k0 hM) rfl dX12_mark_80 ?_
      refine x_putI C0 wf_X12_291 (isModel.k0 hM) rfl dX12_mark_83 ?_
      refine x_iconst (v := nI 1) C0 rfl dX12_mark_86 ?_
      refine x_zret C0 E (by decide) (by decide) rfl dX12_mark_87 ?_
      have b1 : ∀ Z : xTI, ∀ v j, j ≠ 25 → u2 Z 135 25 v 135 j = Z 135 j := fun Z v j h => u2_off _ _ h
      have hb : MHall I1 0 x := mH
      refine h1 k hk em g38 _ (fun a a1 a2 a3 => ?_) (fun j hj => ?_) (fun j hj => ?_) (K1.lay ?_ (fun m hm => ?_) ?_ (fun i hi => ?_) (fun j a1 a2 a3 => ?_))
      · rw [u2_row _ _ _ a1, ucp_row _ a2, u2_row _ _ _ a3]; exact U1 a a1
      · by_cases g : j = 25
        · rw [g, u2_same, ucp_row _ (by decide), u2_row _ _ _ (by decide)]; exact q1.2.1 25 (by decide)
        · rw [u2_off _ _ g, ucp_row _ (by decide), u2_row _ _ _ (by decide)]; exact q1.2.1 j hj
      · rw [u2_row _ _ _ (by decide), ucp_off (by omega), u2_row _ _ _ (by decide)]; exact congrFun (U1 151 (by decide)) j
      · rw [u2_row _ _ _ (by decide), ucp_row _ (by decide), u2_same]
      · rw [u2_row _ _ _ (by decide), ucp_row _ (by decide), u2_off _ _ hm]
      · exact (ucp98 (hb.congr (u2_row _ _ _ (by decide)))).congr (u2_row _ _ _ (by decide))
      · have := ucp98t (I := u2 I1 152 k 1) (fr := 0) (to := 98 * (1 + k)) (td := td) (fun i hi => by rw [u2_row _ _ _ (by decide), show 0 + 62 + i = 62 + i by omega]; exact tM1 i hi) i hi
        rw [u2_row _ _ _ (by decide)]
        exact this
      · rw [u2_row _ _ _ (by decide), ucp_off (by omega), u2_row _ _ _ (by decide)]
    · refine x_bipush (v := nI 98) C0 rfl dX12_mark_41 ?_
      refine x_iconst (v := nI 1) C0 rfl dX12_mark_43 ?_
      refine x_iload_n C0 rfl dX12_mark_44 ?_
      refine x_iaddN C0 dX12_mark_45 ?_
      refine x_imulN C0 dX12_mark_46 ?_
      refine x_goto (tgt := 51) C0 (by decide) dX12_mark_47 ?_
      refine x_iload_n C0 rfl dX12_mark_51 ?_
      refine x_if_eq (tgt := 59) C0 (by decide) dX12_mark_52 (fun hkk => absurd hkk (g38)) (fun _ => ?_)
      refine x_iconst (v := nI 0) C0 rfl dX12_mark_55 ?_
      refine x_goto (tgt := 65) C0 (by decide) dX12_mark_56 ?_
      refine x_bipush (v := nI 98) C0 rfl dX12_mark_65 ?_
      refine x_callV [_, _, _] C0 hN rfl (xRf_of hR (by decide) (Nat.zero_le _) (Nat.zero_le _)) mv_X12_copies wm_X12_294 dX12_mark_67 (isModel.k0 hM) rfl rfl (Nat.le_of_ble_eq_true rfl) (c_X12_copies hM (Or.inr (by omega)) (by omega) (by omega) ?_)
      refine x_aload_n C0 rfl dX12_mark_70 ?_
      refine x_iload_n C0 rfl dX12_mark_71 ?_
      refine x_if_eq (tgt := 79) C0 (by decide) dX12_mark_72 (fun hkk => absurd hkk (g38)) (fun _ => ?_)
      refine x_iconst (v := nI 0) C0 rfl dX12_mark_75 ?_
      refine x_goto (tgt := 83) C0 (by decide) dX12_mark_76 ?_
      refine x_putI C0 wf_X12_291 (isModel.k0 hM) rfl dX12_mark_83 ?_
      refine x_iconst (v := nI 1) C0 rfl dX12_mark_86 ?_
      refine x_zret C0 E (by decide) (by decide) rfl dX12_mark_87 ?_
      have hmt := hmk g38
      refine h2 k hk em g38 hmt _ (fun a a1 a2 => ?_) (fun j hj h25 => ?_) (u2_same _ _ _ _) (fun j hj => ?_) ?_ (fun i hi => ?_)
      · by_cases g : a = 152
        · subst g
          rw [u2_row _ _ _ a1, ucp_row _ a2]
          funext j
          by_cases gj : j = k
          · rw [gj, u2_same]
            rw [hmt] at k1
            exact k1.symm.trans (congrFun (U1 152 (by decide)) k)
          · rw [u2_off _ _ gj]
            exact congrFun (U1 152 (by decide)) j
        · rw [u2_row _ _ _ a1, ucp_row _ a2, u2_row _ _ _ g]; exact U1 a a1
      · rw [u2_off _ _ h25, ucp_row _ (by decide), u2_row _ _ _ (by decide)]; exact q1.2.1 j hj
      · rw [u2_row _ _ _ (by decide), ucp_off (by omega), u2_row _ _ _ (by decide)]; exact congrFun (U1 151 (by decide)) j
      · exact (ucp98 ((k2 hmt).1.congr (u2_row _ _ _ (by decide)))).congr (u2_row _ _ _ (by decide))
      · have := ucp98t (I := u2 I1 152 k 1) (fr := 98 * (1 + k)) (to := 0) (td := mt k) (fun i hi => by rw [u2_row _ _ _ (by decide)]; exact (k2 hmt).2 i hi) i hi
        rw [show 0 + 62 + i = 62 + i by omega] at this
        rw [u2_row _ _ _ (by decide)]
        exact this
  refine x_iload_n C0 rfl dX12_mark_5 ?_
  refine x_iconst (v := 0) C0 rfl dX12_mark_6 ?_
  refine x_iconst (v := nI 3) C0 rfl dX12_mark_7 ?_
  refine x_callS [_, _, _] C0 (xRf_of hR (by decide) (Nat.zero_le _) (Nat.zero_le _)) ms_X12_within wm_X12_207 dX12_mark_8 rfl rfl (Nat.le_of_ble_eq_true rfl) (c_X12_within  (fun g8 => ?_) (fun g8 => ?_))
  · refine x_if_eq (tgt := 27) C0 (by decide) dX12_mark_11 (fun hkk => absurd hkk (by decide)) (fun _ => ?_)
    obtain ⟨k, hk, ek⟩ := nI_ofi (n := 4) (by decide) g8.1 (i_c3 g8.2)
    obtain ⟨k1, k2⟩ := K1 k hk
    refine x_iload_n C0 rfl dX12_mark_14 ?_
    refine x_if_eq (tgt := 29) C0 (by decide) dX12_mark_15 (fun g15 => ?_) (fun g15 => ?_)
    · subst ek
      exact h29 k hk rfl (fun z => absurd g15 z)
    · subst ek
      refine x_aload_n C0 rfl dX12_mark_18 ?_
      refine x_getR C0 wf_X12_122 (isModel.k0 hM) rfl rfl (isModel.r26 hM) dX12_mark_19 ?_
      refine x_iload_n C0 rfl dX12_mark_22 ?_
      refine x_baloadN C0 (isModel.s26 hM) (by omega) (by omega) dX12_mark_23 ?_
      refine x_topi k1 ?_
      refine x_if_ne (tgt := 29) C0 (by decide) dX12_mark_24 (fun g24 => ?_) (fun g24 => ?_)
      · refine h29 k hk rfl (fun _ => ?_)
        cases z : mk k
        · exact absurd (by rw [z]; rfl) g24
        · rfl
      · refine x_iconst (v := nI 0) C0 rfl dX12_mark_27 ?_
        refine x_zret C0 E (by decide) (by decide) rfl dX12_mark_28 ?_
        refine h0 (fun _ => ⟨g15, ?_⟩) I1 q1
        rw [nI_clamp (by omega)]
        cases z : mk k
        · rfl
        · rw [z] at g24; exact absurd g24 (by decide)
  · refine x_if_eq (tgt := 27) C0 (by decide) dX12_mark_11 (fun _ => ?_) (fun hkk => absurd (by decide) hkk)
    refine x_iconst (v := nI 0) C0 rfl dX12_mark_27 ?_
    refine x_zret C0 E (by decide) (by decide) rfl dX12_mark_28 ?_
    exact h0 (fun q => absurd (i_m3 q) g8) I1 q1
