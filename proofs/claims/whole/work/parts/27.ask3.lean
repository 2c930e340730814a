/-! THE QUESTIONS: scene, takes, blank, who, lone, mentions, fooled, clashes -/
def aBlank (fl x : xRow) (T : Nat) (i : Int32) : Int32 := if 0 ≤ i ∧ i < fl 2 then sSet (fun t => x (20 + 6 * i.toNatClampNeg + t) = -1) T else -1
theorem th_at {I : xTI} {h N w t : Nat} {x : xRow} (r : RHall I h x N) (hw : w < 6) (ht : t < 6) : I (h + 2) (6 * w + t) = x (20 + 6 * w + t) := by rw [r.2.2.2.2.2.1 (6 * w + t) (by omega), Nat.add_assoc]
theorem mth_at {I : xTI} {b w t : Nat} {x : xRow} (r : MHall I b x) (hw : w < 6) (ht : t < 6) : I 151 (b + 20 + 6 * w + t) = x (20 + 6 * w + t) := r.at (by omega) (by omega)
theorem th_three {x : xRow} {T N V w t : Nat} (wx : WFx x T N V) (hw : w < 6) (ht : t < 6) : x (20 + 6 * w + t) = -1 ∨ x (20 + 6 * w + t) = 0 ∨ x (20 + 6 * w + t) = 1 := (wx.2.2.2.2 w t hw ht).imp id (fun q => q.2.2)
theorem three_lt {v : Int32} (h : v = -1 ∨ v = 0 ∨ v = 1) : (v < 0 ↔ v = -1) := by rcases h with rfl | rfl | rfl <;> decide
theorem three_ge {v : Int32} (h : v = -1 ∨ v = 0 ∨ v = 1) : (0 ≤ v ↔ ¬ v = -1) := by rcases h with rfl | rfl | rfl <;> decide
theorem c_X11_blank {S : xTS} {R : xTR} {I : xTI} {J : xTJ} {post : xPost} {f T N V : Nat} {fl x : xRow} {lw : Option (List (Nat × Nat))} (hS : fixd S R) (hf : R 0 2 = some f) (C : FCore I f fl lw T N V x) {i : Int32} (hp : ∀ I', FQ I I' → post (some (.int (aBlank fl x T i))) S R I' J) : xSpec 2 yX11_blank cX11_blank 4 (some .int) 0 0 [.ref 0, .int i] S R I J post := by
  refine xSpec_of mt_X11_blank (Nat.le_of_ble_eq_true rfl) (fun G C0 hN hR E hI hZ => ?_)
  change XX G 0 0 0 [some (.ref 0), some (.int i), none, none] [] S R I J
  obtain ⟨hfm, wl, rF, rH, wx⟩ := id C
  have hF := hS.film hfm
  have hH := hS.hall (q := 33) (by decide)
  have hT6 := wl.2.1
  have hN8 := wl.2.2.2.1
  have hV6 := wl.2.2.2.2.2.1
  have eT : I f 0 = nI T := rF.1.trans wl.1
  have eN : I f 1 = nI N := rF.2.1.trans wl.2.2.1
  have eV : I f 2 = nI V := rF.2.2.1.trans wl.2.2.2.2.1
  have hfh : ∀ i j, i < 9 → j < 4 → f + i ≠ 33 + j := fun i j hi hj => hf_apart 33 (by decide) f hfm i hi j hj
  obtain ⟨fs0, fs1, fs2, fs3, fs4, fs5, fs6, fs7, fs8, fr4, fr5, fr6, fr7, fr8, fr9, fr10, fr11⟩ := id hF
  obtain ⟨hs0, hs1, hs2, hs3, hr4, hr5, hr6⟩ := id hH
  unfold aBlank at hp
  rw [← rF.2.2.1] at hp
  have h17 : ∀ a, a < V → i = nI a → (∀ I', FQ I I' → post (some (.int (sSet (fun t => x (20 + 6 * a + t) = -1) T))) S R I' J) → XX G 0 0 17 [some (.ref 0), some (.int (nI a)), some (.int 0), some (.int 0)] [] S R I J := by
    intro a ha ea hp
    skip
    have hloop : ∀ n t, t + n = T → XX G 0 0 17 [some (.ref 0), some (.int (nI a)), some (.int (sSet (fun t => x (20 + 6 * a + t) = -1) t)), some (.int (nI t))] [] S R I J := by
      intro n
      induction n with
      | zero =>
        intro t hn9
        have hn8 : t = T := by omega
        refine x_iload_n C0 rfl dX11_blank_17 ?_
        refine x_aload_n C0 rfl dX11_blank_18 ?_
        refine x_getR C0 wf_X11_26 (fixd.k0 hS) rfl rfl hf dX11_blank_19 ?_
        refine x_getI C0 wf_X11_280 (by assumption) rfl dX11_blank_22 ?_
        refine x_topi eT ?_
        refine x_icmp_ge (tgt := 53) C0 (by decide) dX11_blank_25 (fun _ => ?_) (fun hkk => absurd ((by rw [hn8]; exact Int32.le_refl _)) hkk)
        refine x_iload_n C0 rfl dX11_blank_53 ?_
        refine x_iret C0 E (by decide) (by decide) dX11_blank_54 ?_
        subst hn8
        exact hp I FQ.rf
      | succ n ih =>
        intro t hn9
        refine x_iload_n C0 rfl dX11_blank_17 ?_
        refine x_aload_n C0 rfl dX11_blank_18 ?_
        refine x_getR C0 wf_X11_26 (fixd.k0 hS) rfl rfl hf dX11_blank_19 ?_
        refine x_getI C0 wf_X11_280 (by assumption) rfl dX11_blank_22 ?_
        refine x_topi eT ?_
        refine x_icmp_ge (tgt := 53) C0 (by decide) dX11_blank_25 (fun hkk => absurd hkk (nI_ge (by omega) (by omega))) (fun _ => ?_)
        refine x_aload_n C0 rfl dX11_blank_28 ?_
        refine x_getR C0 wf_X11_46 (fixd.k0 hS) rfl rfl (fixd.now hS) dX11_blank_29 ?_
        refine x_iload_n C0 rfl dX11_blank_32 ?_
        refine x_iload_n C0 rfl dX11_blank_33 ?_
        refine x_callV [_, _] C0 hN rfl (xRf_of hR (by decide) (Nat.zero_le _) (Nat.zero_le _)) mv_X3_thought wm_X11_172 dX11_blank_34 (by assumption) rfl rfl (Nat.le_of_ble_eq_true rfl) (c_X3_thought hH (by omega) (by omega) ?_)
        refine x_iconst (v := -1) C0 rfl dX11_blank_37 ?_
        refine x_nexti (th_at rH (by omega) (by omega)) ?_
        refine x_icmp_ne (tgt := 47) C0 (by decide) dX11_blank_38 (fun g38 => ?_) (fun g38 => ?_)
        · refine x_iinc (v := nI (t + 1)) (L' := [_, _, _, _]) C0 hN rfl (by decide) (nI_inc t) rfl dX11_blank_47 ?_
          refine x_goto (tgt := 17) C0 (by decide) dX11_blank_50 ?_
          have := ih (t + 1) (by omega)
          rw [sSet_no g38] at this
          exact this
        · refine x_iload_n C0 rfl dX11_blank_41 ?_
          refine x_iconst (v := 1) C0 rfl dX11_blank_42 ?_
          refine x_iload_n C0 rfl dX11_blank_43 ?_
          refine x_ishl C0 dX11_blank_44 ?_
          refine x_ior C0 dX11_blank_45 ?_
          refine x_istore_n (L' := [_, _, _, _]) C0 hN (by decide) rfl dX11_blank_46 ?_
          refine x_iinc (v := nI (t + 1)) (L' := [_, _, _, _]) C0 hN rfl (by decide) (nI_inc t) rfl dX11_blank_47 ?_
          refine x_goto (tgt := 17) C0 (by decide) dX11_blank_50 ?_
          have := ih (t + 1) (by omega)
          rw [sSet_yes g38] at this
          exact this
    exact hloop T 0 (by omega)
  refine x_aload_n C0 rfl dX11_blank_0 ?_
  refine x_getR C0 wf_X11_26 (fixd.k0 hS) rfl rfl hf dX11_blank_1 ?_
  refine x_iload_n C0 rfl dX11_blank_4 ?_
  refine x_callV [_] C0 hN rfl (xRf_of hR (by decide) (Nat.zero_le _) (Nat.zero_le _)) mv_X2_hasWatcher wm_X11_144 dX11_blank_5 (by assumption) rfl rfl (Nat.le_of_ble_eq_true rfl) (c_X2_hasWatcher (by assumption) (fun g0 => ?_) (fun g0 => ?_))
  · refine x_if_ne (tgt := 13) C0 (by decide) dX11_blank_8 (fun _ => ?_) (fun hkk => absurd hkk (by decide))
    refine x_iconst (v := 0) C0 rfl dX11_blank_13 ?_
    refine x_istore_n (L' := [_, _, _, _]) C0 hN (by decide) rfl dX11_blank_14 ?_
    refine x_iconst (v := 0) C0 rfl dX11_blank_15 ?_
    refine x_istore_n (L' := [_, _, _, _]) C0 hN (by decide) rfl dX11_blank_16 ?_
    obtain ⟨a, ha, ea⟩ := nI_ofi' eV (by omega) g0
    rw [if_pos g0] at hp
    subst ea
    rw [nI_clamp (by omega)] at hp
    exact h17 a ha rfl hp
  · refine x_if_ne (tgt := 13) C0 (by decide) dX11_blank_8 (fun hkk => absurd (by decide) hkk) (fun _ => ?_)
    refine x_iconst (v := -1) C0 rfl dX11_blank_11 ?_
    refine x_iret C0 E (by decide) (by decide) dX11_blank_12 ?_
    rw [if_neg g0] at hp
    exact hp I FQ.rf
theorem c_X12_blank {S : xTS} {R : xTR} {I : xTI} {J : xTJ} {post : xPost} {T N V : Nat} {fl x : xRow} {lw : Option (List (Nat × Nat))} (hM : isModel S R) (C : MCore I fl lw T N V x) {i : Int32} (hp : ∀ I', MQs I I' → post (some (.int (aBlank fl x T i))) S R I' J) : xSpec 3 yX12_blank cX12_blank 4 (some .int) 0 0 [.ref 135, .int i] S R I J post := by
  refine xSpec_of mt_X12_blank (Nat.le_of_ble_eq_true rfl) (fun G C0 hN hR E hI hZ => ?_)
  change XX G 0 0 0 [some (.ref 135), some (.int i), none, none] [] S R I J
  refine x_aload_n C0 rfl dX12_blank_0 ?_
  refine x_iconst (v := nI 0) C0 rfl dX12_blank_1 ?_
  refine x_putI C0 wf_X12_1 (isModel.k0 hM) rfl dX12_blank_2 ?_
  have q1 := MQs.thrown (I := I) (v := nI 0)
  have C := C.mq q1
  generalize u2 I 135 0 (nI 0) = I1 at q1 C ⊢
  obtain ⟨wl, mF, mL, mH, wx⟩ := id C
  have hT6 := wl.2.1
  have hN8 := wl.2.2.2.1
  have hV6 := wl.2.2.2.2.2.1
  have eT : I1 141 0 = nI T := (mF 0 (by decide)).trans wl.1
  have eN : I1 141 1 = nI N := (mF 1 (by decide)).trans wl.2.2.1
  have eV : I1 141 2 = nI V := (mF 2 (by decide)).trans wl.2.2.2.2.1
  have hb0 : 0 ≤ 2192 := by decide
  unfold aBlank at hp
  rw [← mF 2 (by decide)] at hp
  have h17 : ∀ a, a < V → i = nI a → (∀ I', MQs I I' → post (some (.int (sSet (fun t => x (20 + 6 * a + t) = -1) T))) S R I' J) → XX G 0 0 19 [some (.ref 135), some (.int (nI a)), some (.int (nI 0)), some (.int (nI 0))] [] S R I1 J := by
    intro a ha ea hp
    have hloop : ∀ n t, t + n = T → XX G 0 0 19 [some (.ref 135), some (.int (nI a)), some (.int (sSet (fun t => x (20 + 6 * a + t) = -1) t)), some (.int (nI t))] [] S R I1 J := by
      intro n
      induction n with
      | zero =>
        intro t hn9
        have hn8 : t = T := by omega
        refine x_iload_n C0 rfl dX12_blank_19 ?_
        refine x_aload_n C0 rfl dX12_blank_20 ?_
        refine x_callV [] C0 hN rfl (xRf_of hR (by decide) (Nat.zero_le _) (Nat.zero_le _)) mv_X12_things wm_X12_297 dX12_blank_21 (isModel.k0 hM) rfl rfl (Nat.le_of_ble_eq_true rfl) (c_X12_things hM ?_)
        refine x_topi eT ?_
        refine x_icmp_ge (tgt := 53) C0 (by decide) dX12_blank_24 (fun _ => ?_) (fun hkk => absurd ((by rw [hn8]; exact Int32.le_refl _)) hkk)
        refine x_iload_n C0 rfl dX12_blank_53 ?_
        refine x_iret C0 E (by decide) (by decide) dX12_blank_54 ?_
        subst hn8
        exact hp I1 q1
      | succ n ih =>
        intro t hn9
        refine x_iload_n C0 rfl dX12_blank_19 ?_
        refine x_aload_n C0 rfl dX12_blank_20 ?_
        refine x_callV [] C0 hN rfl (xRf_of hR (by decide) (Nat.zero_le _) (Nat.zero_le _)) mv_X12_things wm_X12_297 dX12_blank_21 (isModel.k0 hM) rfl rfl (Nat.le_of_ble_eq_true rfl) (c_X12_things hM ?_)
        refine x_topi eT ?_
        refine x_icmp_ge (tgt := 53) C0 (by decide) dX12_blank_24 (fun hkk => absurd hkk (nI_ge (by omega) (by omega))) (fun _ => ?_)
        refine x_iload_n C0 rfl dX12_blank_27 ?_
        refine x_aload_n C0 rfl dX12_blank_28 ?_
        refine x_iconst (v := nI 0) C0 rfl dX12_blank_29 ?_
        refine x_iload_n C0 rfl dX12_blank_30 ?_
        refine x_iload_n C0 rfl dX12_blank_31 ?_
        refine x_callV [_, _, _] C0 hN rfl (xRf_of hR (by decide) (Nat.zero_le _) (Nat.zero_le _)) mv_X12_thoughtOf wm_X12_325 dX12_blank_32 (isModel.k0 hM) rfl rfl (Nat.le_of_ble_eq_true rfl) (c_X12_thoughtOf hM hb0 (by omega) (by omega) ?_)
        refine x_topi (mth_at mH (by omega) (by omega)) ?_
        refine x_if_ge (tgt := 44) C0 (by decide) dX12_blank_35 (fun g35 => ?_) (fun g35 => ?_)
        · refine x_iconst (v := 0) C0 rfl dX12_blank_44 ?_
          refine x_ior C0 dX12_blank_45 ?_
          refine x_istore_n (L' := [_, _, _, _]) C0 hN (by decide) rfl dX12_blank_46 ?_
          refine x_iinc (v := nI (t + 1)) (L' := [_, _, _, _]) C0 hN rfl (by decide) (nI_inc t) rfl dX12_blank_47 ?_
          refine x_goto (tgt := 19) C0 (by decide) dX12_blank_50 ?_
          have := ih (t + 1) (by omega)
          rw [sSet_no (fun q => absurd ((three_lt (th_three wx (by omega) (by omega))).mpr q) (i_nlt.mpr g35))] at this
          rw [Int32.or_zero]
          exact this
        · refine x_iconst (v := 1) C0 rfl dX12_blank_38 ?_
          refine x_iload_n C0 rfl dX12_blank_39 ?_
          refine x_ishl C0 dX12_blank_40 ?_
          refine x_goto (tgt := 45) C0 (by decide) dX12_blank_41 ?_
          refine x_ior C0 dX12_blank_45 ?_
          refine x_istore_n (L' := [_, _, _, _]) C0 hN (by decide) rfl dX12_blank_46 ?_
          refine x_iinc (v := nI (t + 1)) (L' := [_, _, _, _]) C0 hN rfl (by decide) (nI_inc t) rfl dX12_blank_47 ?_
          refine x_goto (tgt := 19) C0 (by decide) dX12_blank_50 ?_
          have := ih (t + 1) (by omega)
          rw [sSet_yes ((three_lt (th_three wx (by omega) (by omega))).mp (i_nle.mp g35))] at this
          exact this
    exact hloop T 0 (by omega)
  refine x_aload_n C0 rfl dX12_blank_5 ?_
  refine x_iload_n C0 rfl dX12_blank_6 ?_
  refine x_callV [_] C0 hN rfl (xRf_of hR (by decide) (Nat.zero_le _) (Nat.zero_le _)) mv_X12_isWatcher wm_X12_344 dX12_blank_7 (isModel.k0 hM) rfl rfl (Nat.le_of_ble_eq_true rfl) (c_X12_isWatcher hM (fun g0 => ?_) (fun g0 => ?_))
  · refine x_if_ne (tgt := 15) C0 (by decide) dX12_blank_10 (fun _ => ?_) (fun hkk => absurd hkk (by decide))
    refine x_iconst (v := nI 0) C0 rfl dX12_blank_15 ?_
    refine x_istore_n (L' := [_, _, _, _]) C0 hN (by decide) rfl dX12_blank_16 ?_
    refine x_iconst (v := nI 0) C0 rfl dX12_blank_17 ?_
    refine x_istore_n (L' := [_, _, _, _]) C0 hN (by decide) rfl dX12_blank_18 ?_
    obtain ⟨a, ha, ea⟩ := nI_ofi' eV (by omega) g0
    rw [if_pos g0] at hp
    subst ea
    rw [nI_clamp (by omega)] at hp
    exact h17 a ha rfl hp
  · refine x_if_ne (tgt := 15) C0 (by decide) dX12_blank_10 (fun hkk => absurd (by decide) hkk) (fun _ => ?_)
    refine x_iconst (v := -1) C0 rfl dX12_blank_13 ?_
    refine x_iret C0 E (by decide) (by decide) dX12_blank_14 ?_
    rw [if_neg g0] at hp
    exact hp I1 q1
def aWho (fl x : xRow) (V : Nat) (i c : Int32) : Int32 := if (0 ≤ i ∧ i < fl 0) ∧ (-1 ≤ c ∧ c ≤ 1) then sSet (fun w => xbit (x 2) w ∧ x (20 + 6 * w + i.toNatClampNeg) = c) V else -1
theorem c_X11_thinkers {S : xTS} {R : xTR} {I : xTI} {J : xTJ} {post : xPost} {f T N V : Nat} {fl x : xRow} {lw : Option (List (Nat × Nat))} (hS : fixd S R) (hf : R 0 2 = some f) (C : FCore I f fl lw T N V x) {a : Nat} {c : Int32} (ha : a < T) (hp : post (some (.int (sSet (fun w => xbit (x 2) w ∧ x (20 + 6 * w + a) = c) V))) S R I J) : xSpec 2 yX11_thinkers cX11_thinkers 5 (some .int) 0 0 [.ref 0, .int (nI a), .int c] S R I J post := by
  refine xSpec_of mt_X11_thinkers (Nat.le_of_ble_eq_true rfl) (fun G C0 hN hR E hI hZ => ?_)
  change XX G 0 0 0 [some (.ref 0), some (.int (nI a)), some (.int c), none, none] [] S R I J
  obtain ⟨hfm, wl, rF, rH, wx⟩ := id C
  have hF := hS.film hfm
  have hH := hS.hall (q := 33) (by decide)
  have hT6 := wl.2.1
  have hN8 := wl.2.2.2.1
  have hV6 := wl.2.2.2.2.2.1
  have eT : I f 0 = nI T := rF.1.trans wl.1
  have eN : I f 1 = nI N := rF.2.1.trans wl.2.2.1
  have eV : I f 2 = nI V := rF.2.2.1.trans wl.2.2.2.2.1
  have hfh : ∀ i j, i < 9 → j < 4 → f + i ≠ 33 + j := fun i j hi hj => hf_apart 33 (by decide) f hfm i hi j hj
  obtain ⟨fs0, fs1, fs2, fs3, fs4, fs5, fs6, fs7, fs8, fr4, fr5, fr6, fr7, fr8, fr9, fr10, fr11⟩ := id hF
  obtain ⟨hs0, hs1, hs2, hs3, hr4, hr5, hr6⟩ := id hH
  have hloop : ∀ n t, t + n = V → XX G 0 0 5 [some (.ref 0), some (.int (nI a)), some (.int c), some (.int (sSet (fun w => xbit (x 2) w ∧ x (20 + 6 * w + a) = c) t)), some (.int (nI t))] [] S R I J := by
    intro n
    induction n with
    | zero =>
      intro t hn9
      have hn8 : t = V := by omega
      refine x_iload C0 rfl dX11_thinkers_5 ?_
      refine x_aload_n C0 rfl dX11_thinkers_7 ?_
      refine x_getR C0 wf_X11_26 (fixd.k0 hS) rfl rfl hf dX11_thinkers_8 ?_
      refine x_getI C0 wf_X11_289 (by assumption) rfl dX11_thinkers_11 ?_
      refine x_topi eV ?_
      refine x_icmp_ge (tgt := 56) C0 (by decide) dX11_thinkers_14 (fun _ => ?_) (fun hkk => absurd ((by rw [hn8]; exact Int32.le_refl _)) hkk)
      refine x_iload_n C0 rfl dX11_thinkers_56 ?_
      refine x_iret C0 E (by decide) (by decide) dX11_thinkers_57 ?_
      subst hn8
      exact hp
    | succ n ih =>
      intro t hn9
      refine x_iload C0 rfl dX11_thinkers_5 ?_
      refine x_aload_n C0 rfl dX11_thinkers_7 ?_
      refine x_getR C0 wf_X11_26 (fixd.k0 hS) rfl rfl hf dX11_thinkers_8 ?_
      refine x_getI C0 wf_X11_289 (by assumption) rfl dX11_thinkers_11 ?_
      refine x_topi eV ?_
      refine x_icmp_ge (tgt := 56) C0 (by decide) dX11_thinkers_14 (fun hkk => absurd hkk (nI_ge (by omega) (by omega))) (fun _ => ?_)
      refine x_aload_n C0 rfl dX11_thinkers_17 ?_
      refine x_getR C0 wf_X11_46 (fixd.k0 hS) rfl rfl (fixd.now hS) dX11_thinkers_18 ?_
      refine x_iload C0 rfl dX11_thinkers_21 ?_
      refine x_callV [_] C0 hN rfl (xRf_of hR (by decide) (Nat.zero_le _) (Nat.zero_le _)) mv_X3_isIn wm_X11_165 dX11_thinkers_23 (by assumption) rfl rfl (Nat.le_of_ble_eq_true rfl) (c_X3_isIn (by assumption) (fun g23 => ?_) (fun g23 => ?_))
      · refine x_if_eq (tgt := 50) C0 (by decide) dX11_thinkers_26 (fun hkk => absurd hkk (by decide)) (fun _ => ?_)
        refine x_aload_n C0 rfl dX11_thinkers_29 ?_
        refine x_getR C0 wf_X11_46 (fixd.k0 hS) rfl rfl (fixd.now hS) dX11_thinkers_30 ?_
        refine x_iload C0 rfl dX11_thinkers_33 ?_
        refine x_iload_n C0 rfl dX11_thinkers_35 ?_
        refine x_callV [_, _] C0 hN rfl (xRf_of hR (by decide) (Nat.zero_le _) (Nat.zero_le _)) mv_X3_thought wm_X11_172 dX11_thinkers_36 (by assumption) rfl rfl (Nat.le_of_ble_eq_true rfl) (c_X3_thought hH (by omega) (by omega) ?_)
        refine x_iload_n C0 rfl dX11_thinkers_39 ?_
        refine x_nexti (th_at rH (by omega) (by omega)) ?_
        refine x_icmp_ne (tgt := 50) C0 (by decide) dX11_thinkers_40 (fun g40 => ?_) (fun g40 => ?_)
        · refine x_iinc (v := nI (t + 1)) (L' := [_, _, _, _, _]) C0 hN rfl (by decide) (nI_inc t) rfl dX11_thinkers_50 ?_
          refine x_goto (tgt := 5) C0 (by decide) dX11_thinkers_53 ?_
          have := ih (t + 1) (by omega)
          rw [sSet_no (fun q => g40 q.2)] at this
          exact this
        · refine x_iload_n C0 rfl dX11_thinkers_43 ?_
          refine x_iconst (v := 1) C0 rfl dX11_thinkers_44 ?_
          refine x_iload C0 rfl dX11_thinkers_45 ?_
          refine x_ishl C0 dX11_thinkers_47 ?_
          refine x_ior C0 dX11_thinkers_48 ?_
          refine x_istore_n (L' := [_, _, _, _, _]) C0 hN (by decide) rfl dX11_thinkers_49 ?_
          refine x_iinc (v := nI (t + 1)) (L' := [_, _, _, _, _]) C0 hN rfl (by decide) (nI_inc t) rfl dX11_thinkers_50 ?_
          refine x_goto (tgt := 5) C0 (by decide) dX11_thinkers_53 ?_
          have := ih (t + 1) (by omega)
          rw [sSet_yes (And.intro (by rw [← rH.2.2.1]; exact g23) g40)] at this
          exact this
      · refine x_if_eq (tgt := 50) C0 (by decide) dX11_thinkers_26 (fun _ => ?_) (fun hkk => absurd (by decide) hkk)
        refine x_iinc (v := nI (t + 1)) (L' := [_, _, _, _, _]) C0 hN rfl (by decide) (nI_inc t) rfl dX11_thinkers_50 ?_
        refine x_goto (tgt := 5) C0 (by decide) dX11_thinkers_53 ?_
        have := ih (t + 1) (by omega)
        rw [sSet_no (fun q => g23 (by rw [rH.2.2.1]; exact q.1))] at this
        exact this
  refine x_iconst (v := 0) C0 rfl dX11_thinkers_0 ?_
  refine x_istore_n (L' := [_, _, _, _, _]) C0 hN (by decide) rfl dX11_thinkers_1 ?_
  refine x_iconst (v := 0) C0 rfl dX11_thinkers_2 ?_
  refine x_istore (L' := [_, _, _, _, _]) C0 hN (by decide) rfl dX11_thinkers_3 ?_
  exact hloop V 0 (by omega)
theorem c_X11_who {S : xTS} {R : xTR} {I : xTI} {J : xTJ} {post : xPost} {f T N V : Nat} {fl x : xRow} {lw : Option (List (Nat × Nat))} (hS : fixd S R) (hf : R 0 2 = some f) (C : FCore I f fl lw T N V x) {i c : Int32} (hp : ∀ I', FQ I I' → post (some (.int (aWho fl x V i c))) S R I' J) : xSpec 3 yX11_who cX11_who 3 (some .int) 0 0 [.ref 0, .int i, .int c] S R I J post := by
  refine xSpec_of mt_X11_who (Nat.le_of_ble_eq_true rfl) (fun G C0 hN hR E hI hZ => ?_)
  change XX G 0 0 0 [some (.ref 0), some (.int i), some (.int c)] [] S R I J
  obtain ⟨hfm, wl, rF, rH, wx⟩ := id C
  have hF := hS.film hfm
  have hH := hS.hall (q := 33) (by decide)
  have hT6 := wl.2.1
  have hN8 := wl.2.2.2.1
  have hV6 := wl.2.2.2.2.2.1
  have eT : I f 0 = nI T := rF.1.trans wl.1
  have eN : I f 1 = nI N := rF.2.1.trans wl.2.2.1
  have eV : I f 2 = nI V := rF.2.2.1.trans wl.2.2.2.2.1
  have hfh : ∀ i j, i < 9 → j < 4 → f + i ≠ 33 + j := fun i j hi hj => hf_apart 33 (by decide) f hfm i hi j hj
  obtain ⟨fs0, fs1, fs2, fs3, fs4, fs5, fs6, fs7, fs8, fr4, fr5, fr6, fr7, fr8, fr9, fr10, fr11⟩ := id hF
  obtain ⟨hs0, hs1, hs2, hs3, hr4, hr5, hr6⟩ := id hH
  unfold aWho at hp
  rw [← rF.1] at hp
  refine x_aload_n C0 rfl dX11_who_0 ?_
  refine x_getR C0 wf_X11_26 (fixd.k0 hS) rfl rfl hf dX11_who_1 ?_
  refine x_iload_n C0 rfl dX11_who_4 ?_
  refine x_callV [_] C0 hN rfl (xRf_of hR (by decide) (Nat.zero_le _) (Nat.zero_le _)) mv_X2_hasThing wm_X11_187 dX11_who_5 (by assumption) rfl rfl (Nat.le_of_ble_eq_true rfl) (c_X2_hasThing (by assumption) (fun g0 => ?_) (fun g0 => ?_))
  · refine x_if_eq (tgt := 21) C0 (by decide) dX11_who_8 (fun hkk => absurd hkk (by decide)) (fun _ => ?_)
    refine x_iload_n C0 rfl dX11_who_11 ?_
    refine x_iconst (v := -1) C0 rfl dX11_who_12 ?_
    refine x_icmp_lt (tgt := 21) C0 (by decide) dX11_who_13 (fun g13 => ?_) (fun g13 => ?_)
    · refine x_iconst (v := -1) C0 rfl dX11_who_21 ?_
      refine x_iret C0 E (by decide) (by decide) dX11_who_22 ?_
      rw [if_neg (fun q => absurd q.2.1 (i_nle.mpr g13))] at hp
      exact hp I FQ.rf
    · refine x_iload_n C0 rfl dX11_who_16 ?_
      refine x_iconst (v := 1) C0 rfl dX11_who_17 ?_
      refine x_icmp_le (tgt := 23) C0 (by decide) dX11_who_18 (fun g18 => ?_) (fun g18 => ?_)
      · obtain ⟨a, ha, ea⟩ := nI_ofi' eT (by omega) g0
        rw [if_pos ⟨g0, i_nlt.mp g13, g18⟩] at hp
        subst ea
        rw [nI_clamp (by omega)] at hp
        refine x_aload_n C0 rfl dX11_who_23 ?_
        refine x_iload_n C0 rfl dX11_who_24 ?_
        refine x_iload_n C0 rfl dX11_who_25 ?_
        refine x_callV [_, _] C0 hN rfl (xRf_of hR (by decide) (Nat.zero_le _) (Nat.zero_le _)) mv_X11_thinkers wm_X11_328 dX11_who_26 (fixd.k0 hS) rfl rfl (Nat.le_of_ble_eq_true rfl) (c_X11_thinkers hS hf C (by omega) ?_)
        refine x_iret C0 E (by decide) (by decide) dX11_who_29 ?_
        exact hp I FQ.rf
      · refine x_iconst (v := -1) C0 rfl dX11_who_21 ?_
        refine x_iret C0 E (by decide) (by decide) dX11_who_22 ?_
        rw [if_neg (fun q => absurd q.2.2 (i_nle.mpr (by first | exact g18 | exact i_nle.mp g18)))] at hp
        exact hp I FQ.rf
  · refine x_if_eq (tgt := 21) C0 (by decide) dX11_who_8 (fun _ => ?_) (fun hkk => absurd (by decide) hkk)
    refine x_iconst (v := -1) C0 rfl dX11_who_21 ?_
    refine x_iret C0 E (by decide) (by decide) dX11_who_22 ?_
    rw [if_neg (fun q => g0 q.1)] at hp
    exact hp I FQ.rf
theorem c_X12_who {S : xTS} {R : xTR} {I : xTI} {J : xTJ} {post : xPost} {T N V : Nat} {fl x : xRow} {lw : Option (List (Nat × Nat))} (hM : isModel S R) (C : MCore I fl lw T N V x) {i c : Int32} (hp : ∀ I', MQs I I' → post (some (.int (aWho fl x V i c))) S R I' J) : xSpec 3 yX12_who cX12_who 5 (some .int) 0 0 [.ref 135, .int i, .int c] S R I J post := by
  refine xSpec_of mt_X12_who (Nat.le_of_ble_eq_true rfl) (fun G C0 hN hR E hI hZ => ?_)
  change XX G 0 0 0 [some (.ref 135), some (.int i), some (.int c), none, none] [] S R I J
  refine x_aload_n C0 rfl dX12_who_0 ?_
  refine x_iconst (v := nI 0) C0 rfl dX12_who_1 ?_
  refine x_putI C0 wf_X12_1 (isModel.k0 hM) rfl dX12_who_2 ?_
  have q1 := MQs.thrown (I := I) (v := nI 0)
  have C := C.mq q1
  generalize u2 I 135 0 (nI 0) = I1 at q1 C ⊢
  obtain ⟨wl, mF, mL, mH, wx⟩ := id C
  have hT6 := wl.2.1
  have hN8 := wl.2.2.2.1
  have hV6 := wl.2.2.2.2.2.1
  have eT : I1 141 0 = nI T := (mF 0 (by decide)).trans wl.1
  have eN : I1 141 1 = nI N := (mF 1 (by decide)).trans wl.2.2.1
  have eV : I1 141 2 = nI V := (mF 2 (by decide)).trans wl.2.2.2.2.1
  have hb0 : 0 ≤ 2192 := by decide
  unfold aWho at hp
  rw [← mF 0 (by decide)] at hp
  have h17 : ∀ a, a < T → i = nI a → (∀ I', MQs I I' → post (some (.int (sSet (fun w => xbit (x 2) w ∧ x (20 + 6 * w + a) = c) V))) S R I' J) → XX G 0 0 29 [some (.ref 135), some (.int (nI a)), some (.int c), some (.int (nI 0)), some (.int (nI 0))] [] S R I1 J := by
    intro a ha ea hp
    have hloop : ∀ n t, t + n = V → XX G 0 0 29 [some (.ref 135), some (.int (nI a)), some (.int c), some (.int (sSet (fun w => xbit (x 2) w ∧ x (20 + 6 * w + a) = c) t)), some (.int (nI t))] [] S R I1 J := by
      intro n
      induction n with
      | zero =>
        intro t hn9
        have hn8 : t = V := by omega
        refine x_iload C0 rfl dX12_who_29 ?_
        refine x_aload_n C0 rfl dX12_who_31 ?_
        refine x_callV [] C0 hN rfl (xRf_of hR (by decide) (Nat.zero_le _) (Nat.zero_le _)) mv_X12_watchers wm_X12_282 dX12_who_32 (isModel.k0 hM) rfl rfl (Nat.le_of_ble_eq_true rfl) (c_X12_watchers hM ?_)
        refine x_topi eV ?_
        refine x_icmp_ge (tgt := 77) C0 (by decide) dX12_who_35 (fun _ => ?_) (fun hkk => absurd ((by rw [hn8]; exact Int32.le_refl _)) hkk)
        refine x_iload_n C0 rfl dX12_who_77 ?_
        refine x_iret C0 E (by decide) (by decide) dX12_who_78 ?_
        subst hn8
        exact hp I1 q1
      | succ n ih =>
        intro t hn9
        refine x_iload C0 rfl dX12_who_29 ?_
        refine x_aload_n C0 rfl dX12_who_31 ?_
        refine x_callV [] C0 hN rfl (xRf_of hR (by decide) (Nat.zero_le _) (Nat.zero_le _)) mv_X12_watchers wm_X12_282 dX12_who_32 (isModel.k0 hM) rfl rfl (Nat.le_of_ble_eq_true rfl) (c_X12_watchers hM ?_)
        refine x_topi eV ?_
        refine x_icmp_ge (tgt := 77) C0 (by decide) dX12_who_35 (fun hkk => absurd hkk (nI_ge (by omega) (by omega))) (fun _ => ?_)
        refine x_iload_n C0 rfl dX12_who_38 ?_
        refine x_aload_n C0 rfl dX12_who_39 ?_
        refine x_iconst (v := nI 0) C0 rfl dX12_who_40 ?_
        refine x_iload C0 rfl dX12_who_41 ?_
        refine x_callV [_, _] C0 hN rfl (xRf_of hR (by decide) (Nat.zero_le _) (Nat.zero_le _)) mv_X12_isIn wm_X12_319 dX12_who_43 (isModel.k0 hM) rfl rfl (Nat.le_of_ble_eq_true rfl) (c_X12_isIn hM hb0 (fun g43 => ?_) (fun g43 => ?_))
        · refine x_if_eq (tgt := 68) C0 (by decide) dX12_who_46 (fun hkk => absurd hkk (by decide)) (fun _ => ?_)
          refine x_aload_n C0 rfl dX12_who_49 ?_
          refine x_iconst (v := nI 0) C0 rfl dX12_who_50 ?_
          refine x_iload C0 rfl dX12_who_51 ?_
          refine x_iload_n C0 rfl dX12_who_53 ?_
          refine x_callV [_, _, _] C0 hN rfl (xRf_of hR (by decide) (Nat.zero_le _) (Nat.zero_le _)) mv_X12_thoughtOf wm_X12_325 dX12_who_54 (isModel.k0 hM) rfl rfl (Nat.le_of_ble_eq_true rfl) (c_X12_thoughtOf hM hb0 (by omega) (by omega) ?_)
          refine x_iload_n C0 rfl dX12_who_57 ?_
          refine x_nexti (mth_at mH (by omega) (by omega)) ?_
          refine x_icmp_ne (tgt := 68) C0 (by decide) dX12_who_58 (fun g58 => ?_) (fun g58 => ?_)
          · refine x_iconst (v := 0) C0 rfl dX12_who_68 ?_
            refine x_ior C0 dX12_who_69 ?_
            refine x_istore_n (L' := [_, _, _, _, _]) C0 hN (by decide) rfl dX12_who_70 ?_
            refine x_iinc (v := nI (t + 1)) (L' := [_, _, _, _, _]) C0 hN rfl (by decide) (nI_inc t) rfl dX12_who_71 ?_
            refine x_goto (tgt := 29) C0 (by decide) dX12_who_74 ?_
            have := ih (t + 1) (by omega)
            rw [sSet_no (fun q => g58 q.2)] at this
            rw [Int32.or_zero]
            exact this
          · refine x_iconst (v := 1) C0 rfl dX12_who_61 ?_
            refine x_iload C0 rfl dX12_who_62 ?_
            refine x_ishl C0 dX12_who_64 ?_
            refine x_goto (tgt := 69) C0 (by decide) dX12_who_65 ?_
            refine x_ior C0 dX12_who_69 ?_
            refine x_istore_n (L' := [_, _, _, _, _]) C0 hN (by decide) rfl dX12_who_70 ?_
            refine x_iinc (v := nI (t + 1)) (L' := [_, _, _, _, _]) C0 hN rfl (by decide) (nI_inc t) rfl dX12_who_71 ?_
            refine x_goto (tgt := 29) C0 (by decide) dX12_who_74 ?_
            have := ih (t + 1) (by omega)
            rw [sSet_yes (And.intro (by rw [← mH 2 (by decide)]; exact g43) g58)] at this
            exact this
        · refine x_if_eq (tgt := 68) C0 (by decide) dX12_who_46 (fun _ => ?_) (fun hkk => absurd (by decide) hkk)
          refine x_iconst (v := 0) C0 rfl dX12_who_68 ?_
          refine x_ior C0 dX12_who_69 ?_
          refine x_istore_n (L' := [_, _, _, _, _]) C0 hN (by decide) rfl dX12_who_70 ?_
          refine x_iinc (v := nI (t + 1)) (L' := [_, _, _, _, _]) C0 hN rfl (by decide) (nI_inc t) rfl dX12_who_71 ?_
          refine x_goto (tgt := 29) C0 (by decide) dX12_who_74 ?_
          have := ih (t + 1) (by omega)
          rw [sSet_no (fun q => g43 (by rw [mH 2 (by decide)]; exact q.1))] at this
          rw [Int32.or_zero]
          exact this
    exact hloop V 0 (by omega)
  refine x_aload_n C0 rfl dX12_who_5 ?_
  refine x_iload_n C0 rfl dX12_who_6 ?_
  refine x_callV [_] C0 hN rfl (xRf_of hR (by decide) (Nat.zero_le _) (Nat.zero_le _)) mv_X12_isThing wm_X12_347 dX12_who_7 (isModel.k0 hM) rfl rfl (Nat.le_of_ble_eq_true rfl) (c_X12_isThing hM (fun g0 => ?_) (fun g0 => ?_))
  · refine x_if_eq (tgt := 22) C0 (by decide) dX12_who_10 (fun hkk => absurd hkk (by decide)) (fun _ => ?_)
    refine x_iload_n C0 rfl dX12_who_13 ?_
    refine x_iconst (v := -1) C0 rfl dX12_who_14 ?_
    refine x_iconst (v := nI 1) C0 rfl dX12_who_15 ?_
    refine x_callS [_, _, _] C0 (xRf_of hR (by decide) (Nat.zero_le _) (Nat.zero_le _)) ms_X12_within wm_X12_207 dX12_who_16 rfl rfl (Nat.le_of_ble_eq_true rfl) (c_X12_within  (fun g16 => ?_) (fun g16 => ?_))
    · refine x_if_ne (tgt := 24) C0 (by decide) dX12_who_19 (fun _ => ?_) (fun hkk => absurd hkk (by decide))
      refine x_iconst (v := nI 0) C0 rfl dX12_who_24 ?_
      refine x_istore_n (L' := [_, _, _, _, _]) C0 hN (by decide) rfl dX12_who_25 ?_
      refine x_iconst (v := nI 0) C0 rfl dX12_who_26 ?_
      refine x_istore (L' := [_, _, _, _, _]) C0 hN (by decide) rfl dX12_who_27 ?_
      obtain ⟨a, ha, ea⟩ := nI_ofi' eT (by omega) g0
      rw [if_pos ⟨g0, g16⟩] at hp
      subst ea
      rw [nI_clamp (by omega)] at hp
      exact h17 a ha rfl hp
    · refine x_if_ne (tgt := 24) C0 (by decide) dX12_who_19 (fun hkk => absurd (by decide) hkk) (fun _ => ?_)
      refine x_iconst (v := -1) C0 rfl dX12_who_22 ?_
      refine x_iret C0 E (by decide) (by decide) dX12_who_23 ?_
      rw [if_neg (fun q => g16 q.2)] at hp
      exact hp I1 q1
  · refine x_if_eq (tgt := 22) C0 (by decide) dX12_who_10 (fun _ => ?_) (fun hkk => absurd (by decide) hkk)
    refine x_iconst (v := -1) C0 rfl dX12_who_22 ?_
    refine x_iret C0 E (by decide) (by decide) dX12_who_23 ?_
    rw [if_neg (fun q => g0 q.1)] at hp
    exact hp I1 q1
def aMentions (fl x : xRow) (N : Nat) (i c : Int32) : Int32 := if (0 ≤ i ∧ i < fl 0) ∧ (0 ≤ c ∧ c ≤ 1) then sSet (fun k => sTc fl x c k = i) N else -1
theorem c_X11_mentions {S : xTS} {R : xTR} {I : xTI} {J : xTJ} {post : xPost} {f T N V : Nat} {fl x : xRow} {lw : Option (List (Nat × Nat))} (hS : fixd S R) (hf : R 0 2 = some f) (C : FCore I f fl lw T N V x) {i c : Int32} (hp : ∀ I', FQ I I' → post (some (.int (aMentions fl x N i c))) S R I' J) : xSpec 5 yX11_mentions cX11_mentions 5 (some .int) 0 0 [.ref 0, .int i, .int c] S R I J post := by
  refine xSpec_of mt_X11_mentions (Nat.le_of_ble_eq_true rfl) (fun G C0 hN hR E hI hZ => ?_)
  change XX G 0 0 0 [some (.ref 0), some (.int i), some (.int c), none, none] [] S R I J
  obtain ⟨hfm, wl, rF, rH, wx⟩ := id C
  have hF := hS.film hfm
  have hH := hS.hall (q := 33) (by decide)
  have hT6 := wl.2.1
  have hN8 := wl.2.2.2.1
  have hV6 := wl.2.2.2.2.2.1
  have eT : I f 0 = nI T := rF.1.trans wl.1
  have eN : I f 1 = nI N := rF.2.1.trans wl.2.2.1
  have eV : I f 2 = nI V := rF.2.2.1.trans wl.2.2.2.2.1
  have hfh : ∀ i j, i < 9 → j < 4 → f + i ≠ 33 + j := fun i j hi hj => hf_apart 33 (by decide) f hfm i hi j hj
  obtain ⟨fs0, fs1, fs2, fs3, fs4, fs5, fs6, fs7, fs8, fr4, fr5, fr6, fr7, fr8, fr9, fr10, fr11⟩ := id hF
  obtain ⟨hs0, hs1, hs2, hs3, hr4, hr5, hr6⟩ := id hH
  unfold aMentions at hp
  rw [← rF.1] at hp
  have h27 : (∀ I', FQ I I' → post (some (.int (sSet (fun k => sTc fl x c k = i) N))) S R I' J) → XX G 0 0 27 [some (.ref 0), some (.int i), some (.int c), some (.int 0), some (.int 0)] [] S R I J := by
    intro hp
    have hloop : ∀ n t, t + n = N → XX G 0 0 27 [some (.ref 0), some (.int i), some (.int c), some (.int (sSet (fun k => sTc fl x c k = i) t)), some (.int (nI t))] [] S R I J := by
      intro n
      induction n with
      | zero =>
        intro t hn9
        have hn8 : t = N := by omega
        refine x_iload C0 rfl dX11_mentions_27 ?_
        refine x_aload_n C0 rfl dX11_mentions_29 ?_
        refine x_getR C0 wf_X11_26 (fixd.k0 hS) rfl rfl hf dX11_mentions_30 ?_
        refine x_getI C0 wf_X11_239 (by assumption) rfl dX11_mentions_33 ?_
        refine x_topi eN ?_
        refine x_icmp_ge (tgt := 66) C0 (by decide) dX11_mentions_36 (fun _ => ?_) (fun hkk => absurd ((by rw [hn8]; exact Int32.le_refl _)) hkk)
        refine x_iload_n C0 rfl dX11_mentions_66 ?_
        refine x_iret C0 E (by decide) (by decide) dX11_mentions_67 ?_
        subst hn8
        exact hp I FQ.rf
      | succ n ih =>
        intro t hn9
        refine x_iload C0 rfl dX11_mentions_27 ?_
        refine x_aload_n C0 rfl dX11_mentions_29 ?_
        refine x_getR C0 wf_X11_26 (fixd.k0 hS) rfl rfl hf dX11_mentions_30 ?_
        refine x_getI C0 wf_X11_239 (by assumption) rfl dX11_mentions_33 ?_
        refine x_topi eN ?_
        refine x_icmp_ge (tgt := 66) C0 (by decide) dX11_mentions_36 (fun hkk => absurd hkk (nI_ge (by omega) (by omega))) (fun _ => ?_)
        refine x_aload_n C0 rfl dX11_mentions_39 ?_
        refine x_iload C0 rfl dX11_mentions_40 ?_
        refine x_iload_n C0 rfl dX11_mentions_42 ?_
        refine x_callV [_, _] C0 hN rfl (xRf_of hR (by decide) (Nat.zero_le _) (Nat.zero_le _)) mv_X11_claimOf wm_X11_283 dX11_mentions_43 (fixd.k0 hS) rfl rfl (Nat.le_of_ble_eq_true rfl) (c_X11_claimOf hS hf C (by omega) ?_)
        refine x_callS [_] C0 (xRf_of hR (by decide) (Nat.zero_le _) (Nat.zero_le _)) ms_X11_thingOf wm_X11_128 dX11_mentions_46 rfl rfl (Nat.le_of_ble_eq_true rfl) (c_X11_thingOf  ?_)
        refine x_iload_n C0 rfl dX11_mentions_49 ?_
        refine x_nexti (tOf_cl wl wx (by omega) c).1 ?_
        refine x_icmp_ne (tgt := 60) C0 (by decide) dX11_mentions_50 (fun g50 => ?_) (fun g50 => ?_)
        · refine x_iinc (v := nI (t + 1)) (L' := [_, _, _, _, _]) C0 hN rfl (by decide) (nI_inc t) rfl dX11_mentions_60 ?_
          refine x_goto (tgt := 27) C0 (by decide) dX11_mentions_63 ?_
          have := ih (t + 1) (by omega)
          rw [sSet_no g50] at this
          exact this
        · refine x_iload_n C0 rfl dX11_mentions_53 ?_
          refine x_iconst (v := 1) C0 rfl dX11_mentions_54 ?_
          refine x_iload C0 rfl dX11_mentions_55 ?_
          refine x_ishl C0 dX11_mentions_57 ?_
          refine x_ior C0 dX11_mentions_58 ?_
          refine x_istore_n (L' := [_, _, _, _, _]) C0 hN (by decide) rfl dX11_mentions_59 ?_
          refine x_iinc (v := nI (t + 1)) (L' := [_, _, _, _, _]) C0 hN rfl (by decide) (nI_inc t) rfl dX11_mentions_60 ?_
          refine x_goto (tgt := 27) C0 (by decide) dX11_mentions_63 ?_
          have := ih (t + 1) (by omega)
          rw [sSet_yes g50] at this
          exact this
    exact hloop N 0 (by omega)
  refine x_aload_n C0 rfl dX11_mentions_0 ?_
  refine x_getR C0 wf_X11_26 (fixd.k0 hS) rfl rfl hf dX11_mentions_1 ?_
  refine x_iload_n C0 rfl dX11_mentions_4 ?_
  refine x_callV [_] C0 hN rfl (xRf_of hR (by decide) (Nat.zero_le _) (Nat.zero_le _)) mv_X2_hasThing wm_X11_187 dX11_mentions_5 (by assumption) rfl rfl (Nat.le_of_ble_eq_true rfl) (c_X2_hasThing (by assumption) (fun g0 => ?_) (fun g0 => ?_))
  · refine x_if_eq (tgt := 20) C0 (by decide) dX11_mentions_8 (fun hkk => absurd hkk (by decide)) (fun _ => ?_)
    refine x_iload_n C0 rfl dX11_mentions_11 ?_
    refine x_if_lt (tgt := 20) C0 (by decide) dX11_mentions_12 (fun g12 => ?_) (fun g12 => ?_)
    · refine x_iconst (v := -1) C0 rfl dX11_mentions_20 ?_
      refine x_iret C0 E (by decide) (by decide) dX11_mentions_21 ?_
      rw [if_neg (fun q => absurd q.2.1 (i_nle.mpr g12))] at hp
      exact hp I FQ.rf
    · refine x_iload_n C0 rfl dX11_mentions_15 ?_
      refine x_iconst (v := 1) C0 rfl dX11_mentions_16 ?_
      refine x_icmp_le (tgt := 22) C0 (by decide) dX11_mentions_17 (fun g17 => ?_) (fun g17 => ?_)
      · refine x_iconst (v := 0) C0 rfl dX11_mentions_22 ?_
        refine x_istore_n (L' := [_, _, _, _, _]) C0 hN (by decide) rfl dX11_mentions_23 ?_
        refine x_iconst (v := 0) C0 rfl dX11_mentions_24 ?_
        refine x_istore (L' := [_, _, _, _, _]) C0 hN (by decide) rfl dX11_mentions_25 ?_
        rw [if_pos ⟨g0, i_nlt.mp g12, g17⟩] at hp
        exact h27 hp
      · refine x_iconst (v := -1) C0 rfl dX11_mentions_20 ?_
        refine x_iret C0 E (by decide) (by decide) dX11_mentions_21 ?_
        rw [if_neg (fun q => g17 q.2.2)] at hp
        exact hp I FQ.rf
  · refine x_if_eq (tgt := 20) C0 (by decide) dX11_mentions_8 (fun _ => ?_) (fun hkk => absurd (by decide) hkk)
    refine x_iconst (v := -1) C0 rfl dX11_mentions_20 ?_
    refine x_iret C0 E (by decide) (by decide) dX11_mentions_21 ?_
    rw [if_neg (fun q => g0 q.1)] at hp
    exact hp I FQ.rf
theorem c_X12_mentions {S : xTS} {R : xTR} {I : xTI} {J : xTJ} {post : xPost} {T N V : Nat} {fl x : xRow} {lw : Option (List (Nat × Nat))} (hM : isModel S R) (C : MCore I fl lw T N V x) {i c : Int32} (hp : ∀ I', MQs I I' → post (some (.int (aMentions fl x N i c))) S R I' J) : xSpec 3 yX12_mentions cX12_mentions 5 (some .int) 0 0 [.ref 135, .int i, .int c] S R I J post := by
  refine xSpec_of mt_X12_mentions (Nat.le_of_ble_eq_true rfl) (fun G C0 hN hR E hI hZ => ?_)
  change XX G 0 0 0 [some (.ref 135), some (.int i), some (.int c), none, none] [] S R I J
  refine x_aload_n C0 rfl dX12_mentions_0 ?_
  refine x_iconst (v := nI 0) C0 rfl dX12_mentions_1 ?_
  refine x_putI C0 wf_X12_1 (isModel.k0 hM) rfl dX12_mentions_2 ?_
  have q1 := MQs.thrown (I := I) (v := nI 0)
  have C := C.mq q1
  generalize u2 I 135 0 (nI 0) = I1 at q1 C ⊢
  obtain ⟨wl, mF, mL, mH, wx⟩ := id C
  have hT6 := wl.2.1
  have hN8 := wl.2.2.2.1
  have hV6 := wl.2.2.2.2.2.1
  have eT : I1 141 0 = nI T := (mF 0 (by decide)).trans wl.1
  have eN : I1 141 1 = nI N := (mF 1 (by decide)).trans wl.2.2.1
  have eV : I1 141 2 = nI V := (mF 2 (by decide)).trans wl.2.2.2.2.1
  have hb0 : 0 ≤ 2192 := by decide
  unfold aMentions at hp
  rw [← mF 0 (by decide)] at hp
  have h27 : (0 ≤ c ∧ c ≤ 1) → (∀ I', MQs I I' → post (some (.int (sSet (fun k => sTc fl x c k = i) N))) S R I' J) → XX G 0 0 29 [some (.ref 135), some (.int i), some (.int c), some (.int (nI 0)), some (.int (nI 0))] [] S R I1 J := by
    intro hc hp
    have hloop : ∀ n t, t + n = N → XX G 0 0 29 [some (.ref 135), some (.int i), some (.int c), some (.int (sSet (fun k => sTc fl x c k = i) t)), some (.int (nI t))] [] S R I1 J := by
      intro n
      induction n with
      | zero =>
        intro t hn9
        have hn8 : t = N := by omega
        refine x_iload C0 rfl dX12_mentions_29 ?_
        refine x_aload_n C0 rfl dX12_mentions_31 ?_
        refine x_callV [] C0 hN rfl (xRf_of hR (by decide) (Nat.zero_le _) (Nat.zero_le _)) mv_X12_scenes wm_X12_285 dX12_mentions_32 (isModel.k0 hM) rfl rfl (Nat.le_of_ble_eq_true rfl) (c_X12_scenes hM ?_)
        refine x_topi eN ?_
        refine x_icmp_ge (tgt := 82) C0 (by decide) dX12_mentions_35 (fun _ => ?_) (fun hkk => absurd ((by rw [hn8]; exact Int32.le_refl _)) hkk)
        refine x_iload_n C0 rfl dX12_mentions_82 ?_
        refine x_iret C0 E (by decide) (by decide) dX12_mentions_83 ?_
        subst hn8
        exact hp I1 q1
      | succ n ih =>
        intro t hn9
        refine x_iload C0 rfl dX12_mentions_29 ?_
        refine x_aload_n C0 rfl dX12_mentions_31 ?_
        refine x_callV [] C0 hN rfl (xRf_of hR (by decide) (Nat.zero_le _) (Nat.zero_le _)) mv_X12_scenes wm_X12_285 dX12_mentions_32 (isModel.k0 hM) rfl rfl (Nat.le_of_ble_eq_true rfl) (c_X12_scenes hM ?_)
        refine x_topi eN ?_
        refine x_icmp_ge (tgt := 82) C0 (by decide) dX12_mentions_35 (fun hkk => absurd hkk (nI_ge (by omega) (by omega))) (fun _ => ?_)
        refine x_iload_n C0 rfl dX12_mentions_38 ?_
        refine x_iload_n C0 rfl dX12_mentions_39 ?_
        refine x_if_ne (tgt := 53) C0 (by decide) dX12_mentions_40 (fun g40 => ?_) (fun g40 => ?_)
        · refine x_aload_n C0 rfl dX12_mentions_53 ?_
          refine x_getR C0 wf_X12_119 (isModel.k0 hM) rfl rfl (isModel.r24 hM) dX12_mentions_54 ?_
          refine x_iconst (v := nI 4) C0 rfl dX12_mentions_57 ?_
          refine x_iload C0 rfl dX12_mentions_58 ?_
          refine x_iaddN C0 dX12_mentions_60 ?_
          refine x_ialoadN C0 (isModel.s24 hM) (by omega) (by omega) dX12_mentions_61 ?_
          refine x_iload_n C0 rfl dX12_mentions_62 ?_
          refine x_icmp_ne (tgt := 73) C0 (by decide) dX12_mentions_63 (fun g63 => ?_) (fun g63 => ?_)
          · refine x_iconst (v := 0) C0 rfl dX12_mentions_73 ?_
            refine x_ior C0 dX12_mentions_74 ?_
            refine x_istore_n (L' := [_, _, _, _, _]) C0 hN (by decide) rfl dX12_mentions_75 ?_
            refine x_iinc (v := nI (t + 1)) (L' := [_, _, _, _, _]) C0 hN rfl (by decide) (nI_inc t) rfl dX12_mentions_76 ?_
            refine x_goto (tgt := 29) C0 (by decide) dX12_mentions_79 ?_
            have := ih (t + 1) (by omega)
            rw [sSet_no (fun q => g63 (by rw [mH.at (i := 4 + t) (by omega) (by omega)]; exact (show sTc fl x c t = x (4 + t) by unfold sTc; rw [if_neg g40]).symm.trans q))] at this
            rw [Int32.or_zero]
            exact this
          · refine x_iconst (v := 1) C0 rfl dX12_mentions_66 ?_
            refine x_iload C0 rfl dX12_mentions_67 ?_
            refine x_ishl C0 dX12_mentions_69 ?_
            refine x_goto (tgt := 74) C0 (by decide) dX12_mentions_70 ?_
            refine x_ior C0 dX12_mentions_74 ?_
            refine x_istore_n (L' := [_, _, _, _, _]) C0 hN (by decide) rfl dX12_mentions_75 ?_
            refine x_iinc (v := nI (t + 1)) (L' := [_, _, _, _, _]) C0 hN rfl (by decide) (nI_inc t) rfl dX12_mentions_76 ?_
            refine x_goto (tgt := 29) C0 (by decide) dX12_mentions_79 ?_
            have := ih (t + 1) (by omega)
            rw [sSet_yes ((show sTc fl x c t = x (4 + t) by unfold sTc; rw [if_neg g40]).trans ((mH.at (i := 4 + t) (by omega) (by omega)).symm.trans g63))] at this
            exact this
        · refine x_aload_n C0 rfl dX12_mentions_43 ?_
          refine x_iconst (v := nI 0) C0 rfl dX12_mentions_44 ?_
          refine x_iload C0 rfl dX12_mentions_45 ?_
          refine x_callV [_, _] C0 hN rfl (xRf_of hR (by decide) (Nat.zero_le _) (Nat.zero_le _)) mv_X12_saidThing wm_X12_304 dX12_mentions_47 (isModel.k0 hM) rfl rfl (Nat.le_of_ble_eq_true rfl) (c_X12_saidThing hM hb0 (by omega) mF mH ?_)
          refine x_goto (tgt := 62) C0 (by decide) dX12_mentions_50 ?_
          refine x_iload_n C0 rfl dX12_mentions_62 ?_
          refine x_icmp_ne (tgt := 73) C0 (by decide) dX12_mentions_63 (fun g63 => ?_) (fun g63 => ?_)
          · refine x_iconst (v := 0) C0 rfl dX12_mentions_73 ?_
            refine x_ior C0 dX12_mentions_74 ?_
            refine x_istore_n (L' := [_, _, _, _, _]) C0 hN (by decide) rfl dX12_mentions_75 ?_
            refine x_iinc (v := nI (t + 1)) (L' := [_, _, _, _, _]) C0 hN rfl (by decide) (nI_inc t) rfl dX12_mentions_76 ?_
            refine x_goto (tgt := 29) C0 (by decide) dX12_mentions_79 ?_
            have := ih (t + 1) (by omega)
            rw [sSet_no (fun q => g63 ((show sTc fl x c t = sThing fl x t by unfold sTc; rw [if_pos (by first | exact g40 | exact Classical.not_not.mp g40)]).symm.trans q))] at this
            rw [Int32.or_zero]
            exact this
          · refine x_iconst (v := 1) C0 rfl dX12_mentions_66 ?_
            refine x_iload C0 rfl dX12_mentions_67 ?_
            refine x_ishl C0 dX12_mentions_69 ?_
            refine x_goto (tgt := 74) C0 (by decide) dX12_mentions_70 ?_
            refine x_ior C0 dX12_mentions_74 ?_
            refine x_istore_n (L' := [_, _, _, _, _]) C0 hN (by decide) rfl dX12_mentions_75 ?_
            refine x_iinc (v := nI (t + 1)) (L' := [_, _, _, _, _]) C0 hN rfl (by decide) (nI_inc t) rfl dX12_mentions_76 ?_
            refine x_goto (tgt := 29) C0 (by decide) dX12_mentions_79 ?_
            have := ih (t + 1) (by omega)
            rw [sSet_yes ((show sTc fl x c t = sThing fl x t by unfold sTc; rw [if_pos (by first | exact g40 | exact Classical.not_not.mp g40)]).trans g63)] at this
            exact this
    exact hloop N 0 (by omega)
  refine x_aload_n C0 rfl dX12_mentions_5 ?_
  refine x_iload_n C0 rfl dX12_mentions_6 ?_
  refine x_callV [_] C0 hN rfl (xRf_of hR (by decide) (Nat.zero_le _) (Nat.zero_le _)) mv_X12_isThing wm_X12_347 dX12_mentions_7 (isModel.k0 hM) rfl rfl (Nat.le_of_ble_eq_true rfl) (c_X12_isThing hM (fun g0 => ?_) (fun g0 => ?_))
  · refine x_if_eq (tgt := 22) C0 (by decide) dX12_mentions_10 (fun hkk => absurd hkk (by decide)) (fun _ => ?_)
    refine x_iload_n C0 rfl dX12_mentions_13 ?_
    refine x_iconst (v := nI 0) C0 rfl dX12_mentions_14 ?_
    refine x_iconst (v := nI 1) C0 rfl dX12_mentions_15 ?_
    refine x_callS [_, _, _] C0 (xRf_of hR (by decide) (Nat.zero_le _) (Nat.zero_le _)) ms_X12_within wm_X12_207 dX12_mentions_16 rfl rfl (Nat.le_of_ble_eq_true rfl) (c_X12_within  (fun g16 => ?_) (fun g16 => ?_))
    · refine x_if_ne (tgt := 24) C0 (by decide) dX12_mentions_19 (fun _ => ?_) (fun hkk => absurd hkk (by decide))
      refine x_iconst (v := nI 0) C0 rfl dX12_mentions_24 ?_
      refine x_istore_n (L' := [_, _, _, _, _]) C0 hN (by decide) rfl dX12_mentions_25 ?_
      refine x_iconst (v := nI 0) C0 rfl dX12_mentions_26 ?_
      refine x_istore (L' := [_, _, _, _, _]) C0 hN (by decide) rfl dX12_mentions_27 ?_
      rw [if_pos ⟨g0, g16⟩] at hp
      exact h27 g16 hp
    · refine x_if_ne (tgt := 24) C0 (by decide) dX12_mentions_19 (fun hkk => absurd (by decide) hkk) (fun _ => ?_)
      refine x_iconst (v := -1) C0 rfl dX12_mentions_22 ?_
      refine x_iret C0 E (by decide) (by decide) dX12_mentions_23 ?_
      rw [if_neg (fun q => g16 q.2)] at hp
      exact hp I1 q1
  · refine x_if_eq (tgt := 22) C0 (by decide) dX12_mentions_10 (fun _ => ?_) (fun hkk => absurd (by decide) hkk)
    refine x_iconst (v := -1) C0 rfl dX12_mentions_22 ?_
    refine x_iret C0 E (by decide) (by decide) dX12_mentions_23 ?_
    rw [if_neg (fun q => g0 q.1)] at hp
    exact hp I1 q1
def aClashes (fl x : xRow) (N : Nat) : Int32 := sSet (fun k => sClash fl x k) N
theorem c_clash {fl x : xRow} {T N V k : Nat} (wl : WFl fl T N V) (wx : WFx x T N V) (hk : k < N) : cClash (sClaim fl x k) (2 * x (4 + k) + x (12 + k)) = nI (sClN fl x k) := by
  obtain ⟨t, b, ht, hb, e1, e2⟩ := wx.2.2.2.1 k hk
  refine clash_spec wl ?_ ht hb e1 e2 (by rw [e1, e2, two_nI'])
  by_cases h : xbit (x 3) k
  · exact Or.inl ⟨h, by unfold sClaim; rw [if_pos h]⟩
  · obtain ⟨t2, b2, ht2, hb2, e3, e4⟩ := sIs_two wl wx hk h
    exact Or.inr ⟨h, t2, b2, ht2, hb2, e3, e4, by unfold sClaim; rw [if_neg h, e3, e4, two_nI']⟩
theorem c_X11_clashes {S : xTS} {R : xTR} {I : xTI} {J : xTJ} {post : xPost} {f T N V : Nat} {fl x : xRow} {lw : Option (List (Nat × Nat))} (hS : fixd S R) (hf : R 0 2 = some f) (C : FCore I f fl lw T N V x) (hp : ∀ I', FQ I I' → post (some (.int (aClashes fl x N))) S R I' J) : xSpec 4 yX11_clashes cX11_clashes 3 (some .int) 0 0 [.ref 0] S R I J post := by
  refine xSpec_of mt_X11_clashes (Nat.le_of_ble_eq_true rfl) (fun G C0 hN hR E hI hZ => ?_)
  change XX G 0 0 0 [some (.ref 0), none, none] [] S R I J
  obtain ⟨hfm, wl, rF, rH, wx⟩ := id C
  have hF := hS.film hfm
  have hH := hS.hall (q := 33) (by decide)
  have hT6 := wl.2.1
  have hN8 := wl.2.2.2.1
  have hV6 := wl.2.2.2.2.2.1
  have eT : I f 0 = nI T := rF.1.trans wl.1
  have eN : I f 1 = nI N := rF.2.1.trans wl.2.2.1
  have eV : I f 2 = nI V := rF.2.2.1.trans wl.2.2.2.2.1
  have hfh : ∀ i j, i < 9 → j < 4 → f + i ≠ 33 + j := fun i j hi hj => hf_apart 33 (by decide) f hfm i hi j hj
  obtain ⟨fs0, fs1, fs2, fs3, fs4, fs5, fs6, fs7, fs8, fr4, fr5, fr6, fr7, fr8, fr9, fr10, fr11⟩ := id hF
  obtain ⟨hs0, hs1, hs2, hs3, hr4, hr5, hr6⟩ := id hH
  unfold aClashes at hp
  have hloop : ∀ n t, t + n = N → XX G 0 0 4 [some (.ref 0), some (.int (sSet (fun k => sClash fl x k) t)), some (.int (nI t))] [] S R I J := by
    intro n
    induction n with
    | zero =>
      intro t hn9
      have hn8 : t = N := by omega
      refine x_iload_n C0 rfl dX11_clashes_4 ?_
      refine x_aload_n C0 rfl dX11_clashes_5 ?_
      refine x_getR C0 wf_X11_26 (fixd.k0 hS) rfl rfl hf dX11_clashes_6 ?_
      refine x_getI C0 wf_X11_239 (by assumption) rfl dX11_clashes_9 ?_
      refine x_topi eN ?_
      refine x_icmp_ge (tgt := 49) C0 (by decide) dX11_clashes_12 (fun _ => ?_) (fun hkk => absurd ((by rw [hn8]; exact Int32.le_refl _)) hkk)
      refine x_iload_n C0 rfl dX11_clashes_49 ?_
      refine x_iret C0 E (by decide) (by decide) dX11_clashes_50 ?_
      subst hn8
      exact hp I FQ.rf
    | succ n ih =>
      intro t hn9
      refine x_iload_n C0 rfl dX11_clashes_4 ?_
      refine x_aload_n C0 rfl dX11_clashes_5 ?_
      refine x_getR C0 wf_X11_26 (fixd.k0 hS) rfl rfl hf dX11_clashes_6 ?_
      refine x_getI C0 wf_X11_239 (by assumption) rfl dX11_clashes_9 ?_
      refine x_topi eN ?_
      refine x_icmp_ge (tgt := 49) C0 (by decide) dX11_clashes_12 (fun hkk => absurd hkk (nI_ge (by omega) (by omega))) (fun _ => ?_)
      refine x_iload_n C0 rfl dX11_clashes_15 ?_
      refine x_aload_n C0 rfl dX11_clashes_16 ?_
      refine x_getR C0 wf_X11_26 (fixd.k0 hS) rfl rfl hf dX11_clashes_17 ?_
      refine x_aload_n C0 rfl dX11_clashes_20 ?_
      refine x_getR C0 wf_X11_46 (fixd.k0 hS) rfl rfl (fixd.now hS) dX11_clashes_21 ?_
      refine x_iload_n C0 rfl dX11_clashes_24 ?_
      refine x_callV [_, _] C0 hN rfl (xRf_of hR (by decide) (Nat.zero_le _) (Nat.zero_le _)) mv_X2_saying wm_X11_124 dX11_clashes_25 (by assumption) rfl rfl (Nat.le_of_ble_eq_true rfl) (c_sayV hF hH wl wx rF rH (by omega) ?_)
      refine x_aload_n C0 rfl dX11_clashes_28 ?_
      refine x_getR C0 wf_X11_46 (fixd.k0 hS) rfl rfl (fixd.now hS) dX11_clashes_29 ?_
      refine x_iload_n C0 rfl dX11_clashes_32 ?_
      refine x_callV [_] C0 hN rfl (xRf_of hR (by decide) (Nat.zero_le _) (Nat.zero_le _)) mv_X3_writing wm_X11_135 dX11_clashes_33 (by assumption) rfl rfl (Nat.le_of_ble_eq_true rfl) (c_X3_writing hH (by omega) ?_)
      refine x_topi (rH.2.2.2.2.1 t (by omega)) ?_
      refine x_callS [_, _] C0 (xRf_of hR (by decide) (Nat.zero_le _) (Nat.zero_le _)) ms_X2_clash wm_X11_322 dX11_clashes_36 rfl rfl (Nat.le_of_ble_eq_true rfl) (c_X2_clash  ?_)
      refine x_topi (c_clash wl wx (by omega)) ?_
      refine x_iload_n C0 rfl dX11_clashes_39 ?_
      refine x_ishl C0 dX11_clashes_40 ?_
      refine x_ior C0 dX11_clashes_41 ?_
      refine x_istore_n (L' := [_, _, _]) C0 hN (by decide) rfl dX11_clashes_42 ?_
      refine x_iinc (v := nI (t + 1)) (L' := [_, _, _]) C0 hN rfl (by decide) (nI_inc t) rfl dX11_clashes_43 ?_
      refine x_goto (tgt := 4) C0 (by decide) dX11_clashes_46 ?_
      have := ih (t + 1) (by omega)
      by_cases g : sClash fl x t
      · rw [sSet_yes g] at this
        rw [show nI (sClN fl x t) = 1 by unfold sClN; rw [if_pos g]; rfl]
        exact this
      · rw [sSet_no g] at this
        rw [show nI (sClN fl x t) = 0 by unfold sClN; rw [if_neg g]; rfl, Int32.zero_shiftLeft, Int32.or_zero]
        exact this
  refine x_iconst (v := 0) C0 rfl dX11_clashes_0 ?_
  refine x_istore_n (L' := [_, _, _]) C0 hN (by decide) rfl dX11_clashes_1 ?_
  refine x_iconst (v := 0) C0 rfl dX11_clashes_2 ?_
  refine x_istore_n (L' := [_, _, _]) C0 hN (by decide) rfl dX11_clashes_3 ?_
  exact hloop N 0 (by omega)
theorem c_X12_clashes {S : xTS} {R : xTR} {I : xTI} {J : xTJ} {post : xPost} {T N V : Nat} {fl x : xRow} {lw : Option (List (Nat × Nat))} (hM : isModel S R) (C : MCore I fl lw T N V x) (hp : ∀ I', MQs I I' → post (some (.int (aClashes fl x N))) S R I' J) : xSpec 5 yX12_clashes cX12_clashes 3 (some .int) 0 0 [.ref 135] S R I J post := by
  refine xSpec_of mt_X12_clashes (Nat.le_of_ble_eq_true rfl) (fun G C0 hN hR E hI hZ => ?_)
  change XX G 0 0 0 [some (.ref 135), none, none] [] S R I J
  refine x_aload_n C0 rfl dX12_clashes_0 ?_
  refine x_iconst (v := nI 0) C0 rfl dX12_clashes_1 ?_
  refine x_putI C0 wf_X12_1 (isModel.k0 hM) rfl dX12_clashes_2 ?_
  have q1 := MQs.thrown (I := I) (v := nI 0)
  have C := C.mq q1
  generalize u2 I 135 0 (nI 0) = I1 at q1 C ⊢
  obtain ⟨wl, mF, mL, mH, wx⟩ := id C
  have hT6 := wl.2.1
  have hN8 := wl.2.2.2.1
  have hV6 := wl.2.2.2.2.2.1
  have eT : I1 141 0 = nI T := (mF 0 (by decide)).trans wl.1
  have eN : I1 141 1 = nI N := (mF 1 (by decide)).trans wl.2.2.1
  have eV : I1 141 2 = nI V := (mF 2 (by decide)).trans wl.2.2.2.2.1
  have hb0 : 0 ≤ 2192 := by decide
  unfold aClashes at hp
  have hloop : ∀ n t, t + n = N → XX G 0 0 9 [some (.ref 135), some (.int (sSet (fun k => sClash fl x k) t)), some (.int (nI t))] [] S R I1 J := by
    intro n
    induction n with
    | zero =>
      intro t hn9
      have hn8 : t = N := by omega
      refine x_iload_n C0 rfl dX12_clashes_9 ?_
      refine x_aload_n C0 rfl dX12_clashes_10 ?_
      refine x_callV [] C0 hN rfl (xRf_of hR (by decide) (Nat.zero_le _) (Nat.zero_le _)) mv_X12_scenes wm_X12_285 dX12_clashes_11 (isModel.k0 hM) rfl rfl (Nat.le_of_ble_eq_true rfl) (c_X12_scenes hM ?_)
      refine x_topi eN ?_
      refine x_icmp_ge (tgt := 42) C0 (by decide) dX12_clashes_14 (fun _ => ?_) (fun hkk => absurd ((by rw [hn8]; exact Int32.le_refl _)) hkk)
      refine x_iload_n C0 rfl dX12_clashes_42 ?_
      refine x_iret C0 E (by decide) (by decide) dX12_clashes_43 ?_
      subst hn8
      exact hp I1 q1
    | succ n ih =>
      intro t hn9
      refine x_iload_n C0 rfl dX12_clashes_9 ?_
      refine x_aload_n C0 rfl dX12_clashes_10 ?_
      refine x_callV [] C0 hN rfl (xRf_of hR (by decide) (Nat.zero_le _) (Nat.zero_le _)) mv_X12_scenes wm_X12_285 dX12_clashes_11 (isModel.k0 hM) rfl rfl (Nat.le_of_ble_eq_true rfl) (c_X12_scenes hM ?_)
      refine x_topi eN ?_
      refine x_icmp_ge (tgt := 42) C0 (by decide) dX12_clashes_14 (fun hkk => absurd hkk (nI_ge (by omega) (by omega))) (fun _ => ?_)
      refine x_iload_n C0 rfl dX12_clashes_17 ?_
      refine x_aload_n C0 rfl dX12_clashes_18 ?_
      refine x_iconst (v := nI 0) C0 rfl dX12_clashes_19 ?_
      refine x_iload_n C0 rfl dX12_clashes_20 ?_
      refine x_callV [_, _] C0 hN rfl (xRf_of hR (by decide) (Nat.zero_le _) (Nat.zero_le _)) mv_X12_doesClash wm_X12_316 dX12_clashes_21 (isModel.k0 hM) rfl rfl (Nat.le_of_ble_eq_true rfl) (c_X12_doesClash hM hb0 (by omega) mF mH (fun g21 => ?_) (fun g21 => ?_))
      · refine x_if_eq (tgt := 33) C0 (by decide) dX12_clashes_24 (fun hkk => absurd hkk (by decide)) (fun _ => ?_)
        refine x_iconst (v := 1) C0 rfl dX12_clashes_27 ?_
        refine x_iload_n C0 rfl dX12_clashes_28 ?_
        refine x_ishl C0 dX12_clashes_29 ?_
        refine x_goto (tgt := 34) C0 (by decide) dX12_clashes_30 ?_
        refine x_ior C0 dX12_clashes_34 ?_
        refine x_istore_n (L' := [_, _, _]) C0 hN (by decide) rfl dX12_clashes_35 ?_
        refine x_iinc (v := nI (t + 1)) (L' := [_, _, _]) C0 hN rfl (by decide) (nI_inc t) rfl dX12_clashes_36 ?_
        refine x_goto (tgt := 9) C0 (by decide) dX12_clashes_39 ?_
        have := ih (t + 1) (by omega)
        rw [sSet_yes g21] at this
        exact this
      · refine x_if_eq (tgt := 33) C0 (by decide) dX12_clashes_24 (fun _ => ?_) (fun hkk => absurd (by decide) hkk)
        refine x_iconst (v := 0) C0 rfl dX12_clashes_33 ?_
        refine x_ior C0 dX12_clashes_34 ?_
        refine x_istore_n (L' := [_, _, _]) C0 hN (by decide) rfl dX12_clashes_35 ?_
        refine x_iinc (v := nI (t + 1)) (L' := [_, _, _]) C0 hN rfl (by decide) (nI_inc t) rfl dX12_clashes_36 ?_
        refine x_goto (tgt := 9) C0 (by decide) dX12_clashes_39 ?_
        have := ih (t + 1) (by omega)
        rw [sSet_no g21] at this
        rw [Int32.or_zero]
        exact this
  refine x_iconst (v := nI 0) C0 rfl dX12_clashes_5 ?_
  refine x_istore_n (L' := [_, _, _]) C0 hN (by decide) rfl dX12_clashes_6 ?_
  refine x_iconst (v := nI 0) C0 rfl dX12_clashes_7 ?_
  refine x_istore_n (L' := [_, _, _]) C0 hN (by decide) rfl dX12_clashes_8 ?_
  exact hloop N 0 (by omega)
