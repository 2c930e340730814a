/-! THE QUESTIONS: quarrels, sway -/
abbrev qEx (x : xRow) (a b T : Nat) : Prop := ∃ s, s < T ∧ (¬ x (20 + 6 * a + s) = -1 ∧ ¬ x (20 + 6 * b + s) = -1 ∧ ¬ x (20 + 6 * a + s) = x (20 + 6 * b + s))
theorem qEx_up {x : xRow} {a b t : Nat} (h : ¬ qEx x a b t) (q : ¬ (¬ x (20 + 6 * a + t) = -1 ∧ ¬ x (20 + 6 * b + t) = -1 ∧ ¬ x (20 + 6 * a + t) = x (20 + 6 * b + t))) : ¬ qEx x a b (t + 1) := by
  rintro ⟨s, hs, z⟩
  rcases Nat.lt_or_ge s t with g | g
  · exact h ⟨s, g, z⟩
  · have e : s = t := by omega
    subst e
    exact q z
def qRow (x : xRow) (T a : Nat) : Nat → Nat
  | 0 => 0
  | m + 1 => if xbit (x 2) a ∧ xbit (x 2) (a + 1 + m) ∧ qEx x a (a + 1 + m) T then qRow x T a m + 1 else qRow x T a m
theorem qRow_yes {x : xRow} {T a m : Nat} (h : xbit (x 2) a ∧ xbit (x 2) (a + 1 + m) ∧ qEx x a (a + 1 + m) T) : qRow x T a (m + 1) = qRow x T a m + 1 := by conv => lhs; unfold qRow; rw [if_pos h]
theorem qRow_no {x : xRow} {T a m : Nat} (h : ¬ (xbit (x 2) a ∧ xbit (x 2) (a + 1 + m) ∧ qEx x a (a + 1 + m) T)) : qRow x T a (m + 1) = qRow x T a m := by conv => lhs; unfold qRow; rw [if_neg h]
def qAll (x : xRow) (T V : Nat) : Nat → Nat
  | 0 => 0
  | a + 1 => qAll x T V a + qRow x T a (V - 1 - a)
theorem qAll_up {x : xRow} {T V a m : Nat} (h : a + 1 + m = V) : qAll x T V (a + 1) = qAll x T V a + qRow x T a m := by
  conv => lhs; unfold qAll
  rw [show V - 1 - a = m by omega]
def aQuarrels (x : xRow) (T V : Nat) : Int32 := nI (qAll x T V V)
theorem c_X11_quarrel {S : xTS} {R : xTR} {I : xTI} {J : xTJ} {post : xPost} {f T N V : Nat} {fl x : xRow} {lw : Option (List (Nat × Nat))} (hS : fixd S R) (hf : R 0 2 = some f) (C : FCore I f fl lw T N V x) {a b : Nat} (ha : a < V) (hb : b < V) (h1 : qEx x a b T → post (some (.int 1)) S R I J) (h0 : ¬ qEx x a b T → post (some (.int 0)) S R I J) : xSpec 2 yX11_quarrel cX11_quarrel 6 (some .boolean) 0 0 [.ref 0, .int (nI a), .int (nI b)] S R I J post := by
  refine xSpec_of mt_X11_quarrel (Nat.le_of_ble_eq_true rfl) (fun G C0 hN hR E hI hZ => ?_)
  change XX G 0 0 0 [some (.ref 0), some (.int (nI a)), some (.int (nI b)), none, none, none] [] S R I J
  obtain ⟨hfm, wl, rF, rH, wx⟩ := id C
  have hF := hS.film hfm
  have hH := hS.hall (q := 33) (by decide)
  have hT6 := wl.2.1
  have hN8 := wl.2.2.2.1
  have hV6 := wl.2.2.2.2.2.1
  have eT : I f 0 = nI T := rF.1.trans wl.1
  have eN : I f 1 = nI N := rF.2.1.trans wl.2.2.1
  have eV : I f 2 = nI V := rF.2.2.1.trans wl.2.2.2.2.1
  have hfh : ∀ i j, i < 9 → j < 4 → f + i ≠ 33 + j := fun i j hi hj => hf_apart 33 (by decide) f hfm i hi j hj
  obtain ⟨fs0, fs1, fs2, fs3, fs4, fs5, fs6, fs7, fs8, fr4, fr5, fr6, fr7, fr8, fr9, fr10, fr11⟩ := id hF
  obtain ⟨hs0, hs1, hs2, hs3, hr4, hr5, hr6⟩ := id hH
  have hloop : ∀ n t v4 v5, t + n = T → ¬ qEx x a b t → XX G 0 0 2 [some (.ref 0), some (.int (nI a)), some (.int (nI b)), some (.int (nI t)), v4, v5] [] S R I J := by
    intro n
    induction n with
    | zero =>
      intro t v4 v5 hn9 hq
      have hn8 : t = T := by omega
      refine x_iload_n C0 rfl dX11_quarrel_2 ?_
      refine x_aload_n C0 rfl dX11_quarrel_3 ?_
      refine x_getR C0 wf_X11_26 (fixd.k0 hS) rfl rfl hf dX11_quarrel_4 ?_
      refine x_getI C0 wf_X11_280 (by assumption) rfl dX11_quarrel_7 ?_
      refine x_topi eT ?_
      refine x_icmp_ge (tgt := 62) C0 (by decide) dX11_quarrel_10 (fun _ => ?_) (fun hkk => absurd ((by rw [hn8]; exact Int32.le_refl _)) hkk)
      refine x_iconst (v := 0) C0 rfl dX11_quarrel_62 ?_
      refine x_zret C0 E (by decide) (by decide) rfl dX11_quarrel_63 ?_
      subst hn8
      exact h0 hq
    | succ n ih =>
      intro t v4 v5 hn9 hq
      refine x_iload_n C0 rfl dX11_quarrel_2 ?_
      refine x_aload_n C0 rfl dX11_quarrel_3 ?_
      refine x_getR C0 wf_X11_26 (fixd.k0 hS) rfl rfl hf dX11_quarrel_4 ?_
      refine x_getI C0 wf_X11_280 (by assumption) rfl dX11_quarrel_7 ?_
      refine x_topi eT ?_
      refine x_icmp_ge (tgt := 62) C0 (by decide) dX11_quarrel_10 (fun hkk => absurd hkk (nI_ge (by omega) (by omega))) (fun _ => ?_)
      refine x_aload_n C0 rfl dX11_quarrel_13 ?_
      refine x_getR C0 wf_X11_46 (fixd.k0 hS) rfl rfl (fixd.now hS) dX11_quarrel_14 ?_
      refine x_iload_n C0 rfl dX11_quarrel_17 ?_
      refine x_iload_n C0 rfl dX11_quarrel_18 ?_
      refine x_callV [_, _] C0 hN rfl (xRf_of hR (by decide) (Nat.zero_le _) (Nat.zero_le _)) mv_X3_thought wm_X11_172 dX11_quarrel_19 (by assumption) rfl rfl (Nat.le_of_ble_eq_true rfl) (c_X3_thought hH (by omega) (by omega) ?_)
      refine x_topi (th_at rH (by omega) (by omega)) ?_
      refine x_istore (L' := [_, _, _, _, _, _]) C0 hN (by decide) rfl dX11_quarrel_22 ?_
      refine x_aload_n C0 rfl dX11_quarrel_24 ?_
      refine x_getR C0 wf_X11_46 (fixd.k0 hS) rfl rfl (fixd.now hS) dX11_quarrel_25 ?_
      refine x_iload_n C0 rfl dX11_quarrel_28 ?_
      refine x_iload_n C0 rfl dX11_quarrel_29 ?_
      refine x_callV [_, _] C0 hN rfl (xRf_of hR (by decide) (Nat.zero_le _) (Nat.zero_le _)) mv_X3_thought wm_X11_172 dX11_quarrel_30 (by assumption) rfl rfl (Nat.le_of_ble_eq_true rfl) (c_X3_thought hH (by omega) (by omega) ?_)
      refine x_topi (th_at rH (by omega) (by omega)) ?_
      refine x_istore (L' := [_, _, _, _, _, _]) C0 hN (by decide) rfl dX11_quarrel_33 ?_
      refine x_iload C0 rfl dX11_quarrel_35 ?_
      refine x_iconst (v := -1) C0 rfl dX11_quarrel_37 ?_
      refine x_icmp_eq (tgt := 56) C0 (by decide) dX11_quarrel_38 (fun g38 => ?_) (fun g38 => ?_)
      · refine x_iinc (v := nI (t + 1)) (L' := [_, _, _, _, _, _]) C0 hN rfl (by decide) (nI_inc t) rfl dX11_quarrel_56 ?_
        refine x_goto (tgt := 2) C0 (by decide) dX11_quarrel_59 ?_
        exact ih (t + 1) _ _ (by omega) (qEx_up hq (fun z => z.1 g38))
      · refine x_iload C0 rfl dX11_quarrel_41 ?_
        refine x_iconst (v := -1) C0 rfl dX11_quarrel_43 ?_
        refine x_icmp_eq (tgt := 56) C0 (by decide) dX11_quarrel_44 (fun g44 => ?_) (fun g44 => ?_)
        · refine x_iinc (v := nI (t + 1)) (L' := [_, _, _, _, _, _]) C0 hN rfl (by decide) (nI_inc t) rfl dX11_quarrel_56 ?_
          refine x_goto (tgt := 2) C0 (by decide) dX11_quarrel_59 ?_
          exact ih (t + 1) _ _ (by omega) (qEx_up hq (fun z => z.2.1 g44))
        · refine x_iload C0 rfl dX11_quarrel_47 ?_
          refine x_iload C0 rfl dX11_quarrel_49 ?_
          refine x_icmp_eq (tgt := 56) C0 (by decide) dX11_quarrel_51 (fun g51 => ?_) (fun g51 => ?_)
          · refine x_iinc (v := nI (t + 1)) (L' := [_, _, _, _, _, _]) C0 hN rfl (by decide) (nI_inc t) rfl dX11_quarrel_56 ?_
            refine x_goto (tgt := 2) C0 (by decide) dX11_quarrel_59 ?_
            exact ih (t + 1) _ _ (by omega) (qEx_up hq (fun z => z.2.2 g51))
          · refine x_iconst (v := 1) C0 rfl dX11_quarrel_54 ?_
            refine x_zret C0 E (by decide) (by decide) rfl dX11_quarrel_55 ?_
            exact h1 ⟨t, by omega, g38, g44, g51⟩
  refine x_iconst (v := 0) C0 rfl dX11_quarrel_0 ?_
  refine x_istore_n (L' := [_, _, _, _, _, _]) C0 hN (by decide) rfl dX11_quarrel_1 ?_
  exact hloop T 0 none none (by omega) (fun ⟨s, hs, _⟩ => absurd hs (by omega))
theorem c_X11_quarrels {S : xTS} {R : xTR} {I : xTI} {J : xTJ} {post : xPost} {f T N V : Nat} {fl x : xRow} {lw : Option (List (Nat × Nat))} (hS : fixd S R) (hf : R 0 2 = some f) (C : FCore I f fl lw T N V x) (hp : ∀ I', FQ I I' → post (some (.int (aQuarrels x T V))) S R I' J) : xSpec 3 yX11_quarrels cX11_quarrels 4 (some .int) 0 0 [.ref 0] S R I J post := by
  refine xSpec_of mt_X11_quarrels (Nat.le_of_ble_eq_true rfl) (fun G C0 hN hR E hI hZ => ?_)
  change XX G 0 0 0 [some (.ref 0), none, none, none] [] S R I J
  obtain ⟨hfm, wl, rF, rH, wx⟩ := id C
  have hF := hS.film hfm
  have hH := hS.hall (q := 33) (by decide)
  have hT6 := wl.2.1
  have hN8 := wl.2.2.2.1
  have hV6 := wl.2.2.2.2.2.1
  have eT : I f 0 = nI T := rF.1.trans wl.1
  have eN : I f 1 = nI N := rF.2.1.trans wl.2.2.1
  have eV : I f 2 = nI V := rF.2.2.1.trans wl.2.2.2.2.1
  have hfh : ∀ i j, i < 9 → j < 4 → f + i ≠ 33 + j := fun i j hi hj => hf_apart 33 (by decide) f hfm i hi j hj
  obtain ⟨fs0, fs1, fs2, fs3, fs4, fs5, fs6, fs7, fs8, fr4, fr5, fr6, fr7, fr8, fr9, fr10, fr11⟩ := id hF
  obtain ⟨hs0, hs1, hs2, hs3, hr4, hr5, hr6⟩ := id hH
  unfold aQuarrels at hp
  have hout : ∀ n a v3, a + n = V → XX G 0 0 4 [some (.ref 0), some (.int (nI (qAll x T V a))), some (.int (nI a)), v3] [] S R I J := by
    intro n
    induction n with
    | zero =>
      intro a v3 hn9
      have hn8 : a = V := by omega
      refine x_iload_n C0 rfl dX11_quarrels_4 ?_
      refine x_aload_n C0 rfl dX11_quarrels_5 ?_
      refine x_getR C0 wf_X11_26 (fixd.k0 hS) rfl rfl hf dX11_quarrels_6 ?_
      refine x_getI C0 wf_X11_289 (by assumption) rfl dX11_quarrels_9 ?_
      refine x_topi eV ?_
      refine x_icmp_ge (tgt := 76) C0 (by decide) dX11_quarrels_12 (fun _ => ?_) (fun hkk => absurd ((by rw [hn8]; exact Int32.le_refl _)) hkk)
      refine x_iload_n C0 rfl dX11_quarrels_76 ?_
      refine x_iret C0 E (by decide) (by decide) dX11_quarrels_77 ?_
      subst hn8
      exact hp I FQ.rf
    | succ n ih =>
      intro a v3 hn9
      have hin : ∀ p m, a + 1 + m + p = V → XX G 0 0 19 [some (.ref 0), some (.int (nI (qAll x T V a + qRow x T a m))), some (.int (nI a)), some (.int (nI (a + 1 + m)))] [] S R I J := by
        intro p
        induction p with
        | zero =>
          intro m hm9
          have hm8 : a + 1 + m = V := by omega
          refine x_iload_n C0 rfl dX11_quarrels_19 ?_
          refine x_aload_n C0 rfl dX11_quarrels_20 ?_
          refine x_getR C0 wf_X11_26 (fixd.k0 hS) rfl rfl hf dX11_quarrels_21 ?_
          refine x_getI C0 wf_X11_289 (by assumption) rfl dX11_quarrels_24 ?_
          refine x_topi eV ?_
          refine x_icmp_ge (tgt := 70) C0 (by decide) dX11_quarrels_27 (fun _ => ?_) (fun hkk => absurd ((by rw [hm8]; exact Int32.le_refl _)) hkk)
          refine x_iinc (v := nI (a + 1)) (L' := [_, _, _, _]) C0 hN rfl (by decide) (nI_inc a) rfl dX11_quarrels_70 ?_
          refine x_goto (tgt := 4) C0 (by decide) dX11_quarrels_73 ?_
          have := ih (a + 1) (some (.int (nI (a + 1 + m)))) (by omega)
          rw [qAll_up hm8] at this
          exact this
        | succ p ihp =>
          intro m hm9
          refine x_iload_n C0 rfl dX11_quarrels_19 ?_
          refine x_aload_n C0 rfl dX11_quarrels_20 ?_
          refine x_getR C0 wf_X11_26 (fixd.k0 hS) rfl rfl hf dX11_quarrels_21 ?_
          refine x_getI C0 wf_X11_289 (by assumption) rfl dX11_quarrels_24 ?_
          refine x_topi eV ?_
          refine x_icmp_ge (tgt := 70) C0 (by decide) dX11_quarrels_27 (fun hkk => absurd hkk (nI_ge (by omega) (by omega))) (fun _ => ?_)
          refine x_aload_n C0 rfl dX11_quarrels_30 ?_
          refine x_getR C0 wf_X11_46 (fixd.k0 hS) rfl rfl (fixd.now hS) dX11_quarrels_31 ?_
          refine x_iload_n C0 rfl dX11_quarrels_34 ?_
          refine x_callV [_] C0 hN rfl (xRf_of hR (by decide) (Nat.zero_le _) (Nat.zero_le _)) mv_X3_isIn wm_X11_165 dX11_quarrels_35 (by assumption) rfl rfl (Nat.le_of_ble_eq_true rfl) (c_X3_isIn hH (fun g35 => ?_) (fun g35 => ?_))
          · refine x_if_eq (tgt := 64) C0 (by decide) dX11_quarrels_38 (fun hkk => absurd hkk (by decide)) (fun _ => ?_)
            refine x_aload_n C0 rfl dX11_quarrels_41 ?_
            refine x_getR C0 wf_X11_46 (fixd.k0 hS) rfl rfl (fixd.now hS) dX11_quarrels_42 ?_
            refine x_iload_n C0 rfl dX11_quarrels_45 ?_
            refine x_callV [_] C0 hN rfl (xRf_of hR (by decide) (Nat.zero_le _) (Nat.zero_le _)) mv_X3_isIn wm_X11_165 dX11_quarrels_46 (by assumption) rfl rfl (Nat.le_of_ble_eq_true rfl) (c_X3_isIn hH (fun g46 => ?_) (fun g46 => ?_))
            · refine x_if_eq (tgt := 64) C0 (by decide) dX11_quarrels_49 (fun hkk => absurd hkk (by decide)) (fun _ => ?_)
              refine x_aload_n C0 rfl dX11_quarrels_52 ?_
              refine x_iload_n C0 rfl dX11_quarrels_53 ?_
              refine x_iload_n C0 rfl dX11_quarrels_54 ?_
              refine x_callV [_, _] C0 hN rfl (xRf_of hR (by decide) (Nat.zero_le _) (Nat.zero_le _)) mv_X11_quarrel wm_X11_295 dX11_quarrels_55 (fixd.k0 hS) rfl rfl (Nat.le_of_ble_eq_true rfl) (c_X11_quarrel hS hf C (by omega) (by omega) (fun g55 => ?_) (fun g55 => ?_))
              · refine x_if_eq (tgt := 64) C0 (by decide) dX11_quarrels_58 (fun hkk => absurd hkk (by decide)) (fun _ => ?_)
                refine x_iinc (v := nI (qAll x T V a + qRow x T a m + 1)) (L' := [_, _, _, _]) C0 hN rfl (by decide) (nI_inc _) rfl dX11_quarrels_61 ?_
                refine x_iinc (v := nI (a + 1 + m + 1)) (L' := [_, _, _, _]) C0 hN rfl (by decide) (nI_inc _) rfl dX11_quarrels_64 ?_
                refine x_goto (tgt := 19) C0 (by decide) dX11_quarrels_67 ?_
                have := ihp (m + 1) (by omega)
                rw [qRow_yes ⟨by rw [← rH.2.2.1]; exact g35, by rw [← rH.2.2.1]; exact g46, g55⟩] at this
                exact this
              · refine x_if_eq (tgt := 64) C0 (by decide) dX11_quarrels_58 (fun _ => ?_) (fun hkk => absurd (by decide) hkk)
                refine x_iinc (v := nI (a + 1 + m + 1)) (L' := [_, _, _, _]) C0 hN rfl (by decide) (nI_inc _) rfl dX11_quarrels_64 ?_
                refine x_goto (tgt := 19) C0 (by decide) dX11_quarrels_67 ?_
                have := ihp (m + 1) (by omega)
                rw [qRow_no (fun z => g55 z.2.2)] at this
                exact this
            · refine x_if_eq (tgt := 64) C0 (by decide) dX11_quarrels_49 (fun _ => ?_) (fun hkk => absurd (by decide) hkk)
              refine x_iinc (v := nI (a + 1 + m + 1)) (L' := [_, _, _, _]) C0 hN rfl (by decide) (nI_inc _) rfl dX11_quarrels_64 ?_
              refine x_goto (tgt := 19) C0 (by decide) dX11_quarrels_67 ?_
              have := ihp (m + 1) (by omega)
              rw [qRow_no (fun z => g46 (by rw [rH.2.2.1]; exact z.2.1))] at this
              exact this
          · refine x_if_eq (tgt := 64) C0 (by decide) dX11_quarrels_38 (fun _ => ?_) (fun hkk => absurd (by decide) hkk)
            refine x_iinc (v := nI (a + 1 + m + 1)) (L' := [_, _, _, _]) C0 hN rfl (by decide) (nI_inc _) rfl dX11_quarrels_64 ?_
            refine x_goto (tgt := 19) C0 (by decide) dX11_quarrels_67 ?_
            have := ihp (m + 1) (by omega)
            rw [qRow_no (fun z => g35 (by rw [rH.2.2.1]; exact z.1))] at this
            exact this
      refine x_iload_n C0 rfl dX11_quarrels_4 ?_
      refine x_aload_n C0 rfl dX11_quarrels_5 ?_
      refine x_getR C0 wf_X11_26 (fixd.k0 hS) rfl rfl hf dX11_quarrels_6 ?_
      refine x_getI C0 wf_X11_289 (by assumption) rfl dX11_quarrels_9 ?_
      refine x_topi eV ?_
      refine x_icmp_ge (tgt := 76) C0 (by decide) dX11_quarrels_12 (fun hkk => absurd hkk (nI_ge (by omega) (by omega))) (fun _ => ?_)
      refine x_iload_n C0 rfl dX11_quarrels_15 ?_
      refine x_iconst (v := 1) C0 rfl dX11_quarrels_16 ?_
      refine x_iadd C0 dX11_quarrels_17 ?_
      refine x_topi (show nI a + 1 = nI (a + 1) from (nI_succ a).symm) ?_
      refine x_istore_n (L' := [_, _, _, _]) C0 hN (by decide) rfl dX11_quarrels_18 ?_
      exact hin n 0 (by omega)
  refine x_iconst (v := 0) C0 rfl dX11_quarrels_0 ?_
  refine x_istore_n (L' := [_, _, _, _]) C0 hN (by decide) rfl dX11_quarrels_1 ?_
  refine x_iconst (v := 0) C0 rfl dX11_quarrels_2 ?_
  refine x_istore_n (L' := [_, _, _, _]) C0 hN (by decide) rfl dX11_quarrels_3 ?_
  exact hout V 0 none (by omega)
theorem c_X12_quarrels {S : xTS} {R : xTR} {I : xTI} {J : xTJ} {post : xPost} {T N V : Nat} {fl x : xRow} {lw : Option (List (Nat × Nat))} (hM : isModel S R) (C : MCore I fl lw T N V x) (hp : ∀ I', MQs I I' → post (some (.int (aQuarrels x T V))) S R I' J) : xSpec 2 yX12_quarrels cX12_quarrels 6 (some .int) 0 0 [.ref 135] S R I J post := by
  refine xSpec_of mt_X12_quarrels (Nat.le_of_ble_eq_true rfl) (fun G C0 hN hR E hI hZ => ?_)
  change XX G 0 0 0 [some (.ref 135), none, none, none, none, none] [] S R I J
  refine x_aload_n C0 rfl dX12_quarrels_0 ?_
  refine x_iconst (v := nI 0) C0 rfl dX12_quarrels_1 ?_
  refine x_putI C0 wf_X12_1 (isModel.k0 hM) rfl dX12_quarrels_2 ?_
  have q1 := MQs.thrown (I := I) (v := nI 0)
  have C := C.mq q1
  generalize u2 I 135 0 (nI 0) = I1 at q1 C ⊢
  obtain ⟨wl, mF, mL, mH, wx⟩ := id C
  have hT6 := wl.2.1
  have hN8 := wl.2.2.2.1
  have hV6 := wl.2.2.2.2.2.1
  have eT : I1 141 0 = nI T := (mF 0 (by decide)).trans wl.1
  have eN : I1 141 1 = nI N := (mF 1 (by decide)).trans wl.2.2.1
  have eV : I1 141 2 = nI V := (mF 2 (by decide)).trans wl.2.2.2.2.1
  have hb0 : 0 ≤ 2192 := by decide
  unfold aQuarrels at hp
  have hout : ∀ n a v3 v4 v5, a + n = V → XX G 0 0 9 [some (.ref 135), some (.int (nI (qAll x T V a))), some (.int (nI a)), v3, v4, v5] [] S R I1 J := by
    intro n
    induction n with
    | zero =>
      intro a v3 v4 v5 hn9
      have hn8 : a = V := by omega
      refine x_iload_n C0 rfl dX12_quarrels_9 ?_
      refine x_aload_n C0 rfl dX12_quarrels_10 ?_
      refine x_callV [] C0 hN rfl (xRf_of hR (by decide) (Nat.zero_le _) (Nat.zero_le _)) mv_X12_watchers wm_X12_282 dX12_quarrels_11 (isModel.k0 hM) rfl rfl (Nat.le_of_ble_eq_true rfl) (c_X12_watchers hM ?_)
      refine x_topi eV ?_
      refine x_icmp_ge (tgt := 137) C0 (by decide) dX12_quarrels_14 (fun _ => ?_) (fun hkk => absurd ((by rw [hn8]; exact Int32.le_refl _)) hkk)
      refine x_iload_n C0 rfl dX12_quarrels_137 ?_
      refine x_iret C0 E (by decide) (by decide) dX12_quarrels_138 ?_
      subst hn8
      exact hp I1 q1
    | succ n ih =>
      intro a v3 v4 v5 hn9
      have hin : ∀ p m v4 v5, a + 1 + m + p = V → XX G 0 0 21 [some (.ref 135), some (.int (nI (qAll x T V a + qRow x T a m))), some (.int (nI a)), some (.int (nI (a + 1 + m))), v4, v5] [] S R I1 J := by
        intro p
        induction p with
        | zero =>
          intro m v4 v5 hm9
          have hm8 : a + 1 + m = V := by omega
          refine x_iload_n C0 rfl dX12_quarrels_21 ?_
          refine x_aload_n C0 rfl dX12_quarrels_22 ?_
          refine x_callV [] C0 hN rfl (xRf_of hR (by decide) (Nat.zero_le _) (Nat.zero_le _)) mv_X12_watchers wm_X12_282 dX12_quarrels_23 (isModel.k0 hM) rfl rfl (Nat.le_of_ble_eq_true rfl) (c_X12_watchers hM ?_)
          refine x_topi eV ?_
          refine x_icmp_ge (tgt := 131) C0 (by decide) dX12_quarrels_26 (fun _ => ?_) (fun hkk => absurd ((by rw [hm8]; exact Int32.le_refl _)) hkk)
          refine x_iinc (v := nI (a + 1)) (L' := [_, _, _, _, _, _]) C0 hN rfl (by decide) (nI_inc a) rfl dX12_quarrels_131 ?_
          refine x_goto (tgt := 9) C0 (by decide) dX12_quarrels_134 ?_
          have := ih (a + 1) (some (.int (nI (a + 1 + m)))) v4 v5 (by omega)
          rw [qAll_up hm8] at this
          exact this
        | succ p ihp =>
          intro m v4 v5 hm9
          have h94 : ∀ v, ((v = nI 1 ∧ qEx x a (a + 1 + m) T) ∨ (v = nI 0 ∧ ¬ qEx x a (a + 1 + m) T)) → XX G 0 0 94 [some (.ref 135), some (.int (nI (qAll x T V a + qRow x T a m))), some (.int (nI a)), some (.int (nI (a + 1 + m))), some (.int v), some (.int (nI T))] [] S R I1 J := by
            intro v hv
            rcases hv with ⟨rfl, q⟩ | ⟨rfl, q⟩
            · refine x_iload_n C0 rfl dX12_quarrels_94 ?_
              refine x_iload C0 rfl dX12_quarrels_95 ?_
              refine x_if_eq (tgt := 122) C0 (by decide) dX12_quarrels_97 (fun hkk => absurd hkk (by decide)) (fun _ => ?_)
              refine x_aload_n C0 rfl dX12_quarrels_100 ?_
              refine x_iconst (v := nI 0) C0 rfl dX12_quarrels_101 ?_
              refine x_iload_n C0 rfl dX12_quarrels_102 ?_
              refine x_callV [_, _] C0 hN rfl (xRf_of hR (by decide) (Nat.zero_le _) (Nat.zero_le _)) mv_X12_isIn wm_X12_319 dX12_quarrels_103 (isModel.k0 hM) rfl rfl (Nat.le_of_ble_eq_true rfl) (c_X12_isIn hM hb0 (fun g103 => ?_) (fun g103 => ?_))
              · refine x_if_eq (tgt := 122) C0 (by decide) dX12_quarrels_106 (fun hkk => absurd hkk (by decide)) (fun _ => ?_)
                refine x_aload_n C0 rfl dX12_quarrels_109 ?_
                refine x_iconst (v := nI 0) C0 rfl dX12_quarrels_110 ?_
                refine x_iload_n C0 rfl dX12_quarrels_111 ?_
                refine x_callV [_, _] C0 hN rfl (xRf_of hR (by decide) (Nat.zero_le _) (Nat.zero_le _)) mv_X12_isIn wm_X12_319 dX12_quarrels_112 (isModel.k0 hM) rfl rfl (Nat.le_of_ble_eq_true rfl) (c_X12_isIn hM hb0 (fun g112 => ?_) (fun g112 => ?_))
                · refine x_if_eq (tgt := 122) C0 (by decide) dX12_quarrels_115 (fun hkk => absurd hkk (by decide)) (fun _ => ?_)
                  refine x_iconst (v := nI 1) C0 rfl dX12_quarrels_118 ?_
                  refine x_goto (tgt := 123) C0 (by decide) dX12_quarrels_119 ?_
                  refine x_iaddN C0 dX12_quarrels_123 ?_
                  refine x_istore_n (L' := [_, _, _, _, _, _]) C0 hN (by decide) rfl dX12_quarrels_124 ?_
                  refine x_iinc (v := nI (a + 1 + m + 1)) (L' := [_, _, _, _, _, _]) C0 hN rfl (by decide) (nI_inc _) rfl dX12_quarrels_125 ?_
                  refine x_goto (tgt := 21) C0 (by decide) dX12_quarrels_128 ?_
                  have := ihp (m + 1) (some (.int (nI 1))) (some (.int (nI T))) (by omega)
                  rw [qRow_yes ⟨by rw [← mH 2 (by decide)]; exact g103, by rw [← mH 2 (by decide)]; exact g112, q⟩] at this
                  exact this
                · refine x_if_eq (tgt := 122) C0 (by decide) dX12_quarrels_115 (fun _ => ?_) (fun hkk => absurd (by decide) hkk)
                  refine x_iconst (v := nI 0) C0 rfl dX12_quarrels_122 ?_
                  refine x_iaddN C0 dX12_quarrels_123 ?_
                  refine x_istore_n (L' := [_, _, _, _, _, _]) C0 hN (by decide) rfl dX12_quarrels_124 ?_
                  refine x_iinc (v := nI (a + 1 + m + 1)) (L' := [_, _, _, _, _, _]) C0 hN rfl (by decide) (nI_inc _) rfl dX12_quarrels_125 ?_
                  refine x_goto (tgt := 21) C0 (by decide) dX12_quarrels_128 ?_
                  have := ihp (m + 1) (some (.int (nI 1))) (some (.int (nI T))) (by omega)
                  rw [qRow_no (fun z => g112 (by rw [mH 2 (by decide)]; exact z.2.1))] at this
                  exact this
              · refine x_if_eq (tgt := 122) C0 (by decide) dX12_quarrels_106 (fun _ => ?_) (fun hkk => absurd (by decide) hkk)
                refine x_iconst (v := nI 0) C0 rfl dX12_quarrels_122 ?_
                refine x_iaddN C0 dX12_quarrels_123 ?_
                refine x_istore_n (L' := [_, _, _, _, _, _]) C0 hN (by decide) rfl dX12_quarrels_124 ?_
                refine x_iinc (v := nI (a + 1 + m + 1)) (L' := [_, _, _, _, _, _]) C0 hN rfl (by decide) (nI_inc _) rfl dX12_quarrels_125 ?_
                refine x_goto (tgt := 21) C0 (by decide) dX12_quarrels_128 ?_
                have := ihp (m + 1) (some (.int (nI 1))) (some (.int (nI T))) (by omega)
                rw [qRow_no (fun z => g103 (by rw [mH 2 (by decide)]; exact z.1))] at this
                exact this
            · refine x_iload_n C0 rfl dX12_quarrels_94 ?_
              refine x_iload C0 rfl dX12_quarrels_95 ?_
              refine x_if_eq (tgt := 122) C0 (by decide) dX12_quarrels_97 (fun _ => ?_) (fun hkk => absurd (by decide) hkk)
              refine x_iconst (v := nI 0) C0 rfl dX12_quarrels_122 ?_
              refine x_iaddN C0 dX12_quarrels_123 ?_
              refine x_istore_n (L' := [_, _, _, _, _, _]) C0 hN (by decide) rfl dX12_quarrels_124 ?_
              refine x_iinc (v := nI (a + 1 + m + 1)) (L' := [_, _, _, _, _, _]) C0 hN rfl (by decide) (nI_inc _) rfl dX12_quarrels_125 ?_
              refine x_goto (tgt := 21) C0 (by decide) dX12_quarrels_128 ?_
              have := ihp (m + 1) (some (.int (nI 0))) (some (.int (nI T))) (by omega)
              rw [qRow_no (fun z => q z.2.2)] at this
              exact this
          have hfl : ∀ p t v, t + p = T → ((v = nI 1 ∧ qEx x a (a + 1 + m) t) ∨ (v = nI 0 ∧ ¬ qEx x a (a + 1 + m) t)) → XX G 0 0 35 [some (.ref 135), some (.int (nI (qAll x T V a + qRow x T a m))), some (.int (nI a)), some (.int (nI (a + 1 + m))), some (.int v), some (.int (nI t))] [] S R I1 J := by
            intro p
            induction p with
            | zero =>
              intro t v ht9 hv
              have ht8 : t = T := by omega
              subst ht8
              refine x_iload C0 rfl dX12_quarrels_35 ?_
              refine x_aload_n C0 rfl dX12_quarrels_37 ?_
              refine x_callV [] C0 hN rfl (xRf_of hR (by decide) (Nat.zero_le _) (Nat.zero_le _)) mv_X12_things wm_X12_297 dX12_quarrels_38 (isModel.k0 hM) rfl rfl (Nat.le_of_ble_eq_true rfl) (c_X12_things hM ?_)
              refine x_topi eT ?_
              refine x_icmp_ge (tgt := 94) C0 (by decide) dX12_quarrels_41 (fun _ => ?_) (fun hkk => absurd ((Int32.le_refl _)) hkk)
              exact h94 v hv
            | succ p ihf =>
              intro t v ht9 hv
              rcases hv with ⟨rfl, q⟩ | ⟨rfl, q⟩
              · refine x_iload C0 rfl dX12_quarrels_35 ?_
                refine x_aload_n C0 rfl dX12_quarrels_37 ?_
                refine x_callV [] C0 hN rfl (xRf_of hR (by decide) (Nat.zero_le _) (Nat.zero_le _)) mv_X12_things wm_X12_297 dX12_quarrels_38 (isModel.k0 hM) rfl rfl (Nat.le_of_ble_eq_true rfl) (c_X12_things hM ?_)
                refine x_topi eT ?_
                refine x_icmp_ge (tgt := 94) C0 (by decide) dX12_quarrels_41 (fun hkk => absurd hkk (nI_ge (by omega) (by omega))) (fun _ => ?_)
                refine x_iload C0 rfl dX12_quarrels_44 ?_
                refine x_if_ne (tgt := 81) C0 (by decide) dX12_quarrels_46 (fun _ => ?_) (fun hkk => absurd hkk (by decide))
                refine x_iconst (v := nI 1) C0 rfl dX12_quarrels_81 ?_
                refine x_goto (tgt := 86) C0 (by decide) dX12_quarrels_82 ?_
                refine x_istore (L' := [_, _, _, _, _, _]) C0 hN (by decide) rfl dX12_quarrels_86 ?_
                refine x_iinc (v := nI (t + 1)) (L' := [_, _, _, _, _, _]) C0 hN rfl (by decide) (nI_inc t) rfl dX12_quarrels_88 ?_
                refine x_goto (tgt := 35) C0 (by decide) dX12_quarrels_91 ?_
                exact ihf (t + 1) _ (by omega) (Or.inl ⟨rfl, q.elim fun s z => ⟨s, Nat.lt_succ_of_lt z.1, z.2⟩⟩)
              · refine x_iload C0 rfl dX12_quarrels_35 ?_
                refine x_aload_n C0 rfl dX12_quarrels_37 ?_
                refine x_callV [] C0 hN rfl (xRf_of hR (by decide) (Nat.zero_le _) (Nat.zero_le _)) mv_X12_things wm_X12_297 dX12_quarrels_38 (isModel.k0 hM) rfl rfl (Nat.le_of_ble_eq_true rfl) (c_X12_things hM ?_)
                refine x_topi eT ?_
                refine x_icmp_ge (tgt := 94) C0 (by decide) dX12_quarrels_41 (fun hkk => absurd hkk (nI_ge (by omega) (by omega))) (fun _ => ?_)
                refine x_iload C0 rfl dX12_quarrels_44 ?_
                refine x_if_ne (tgt := 81) C0 (by decide) dX12_quarrels_46 (fun hkk => absurd (by decide) hkk) (fun _ => ?_)
                refine x_aload_n C0 rfl dX12_quarrels_49 ?_
                refine x_iconst (v := nI 0) C0 rfl dX12_quarrels_50 ?_
                refine x_iload_n C0 rfl dX12_quarrels_51 ?_
                refine x_iload C0 rfl dX12_quarrels_52 ?_
                refine x_callV [_, _, _] C0 hN rfl (xRf_of hR (by decide) (Nat.zero_le _) (Nat.zero_le _)) mv_X12_thoughtOf wm_X12_325 dX12_quarrels_54 (isModel.k0 hM) rfl rfl (Nat.le_of_ble_eq_true rfl) (c_X12_thoughtOf hM hb0 (by omega) (by omega) ?_)
                refine x_topi (mth_at mH (by omega) (by omega)) ?_
                refine x_if_lt (tgt := 85) C0 (by decide) dX12_quarrels_57 (fun g57 => ?_) (fun g57 => ?_)
                · refine x_iconst (v := nI 0) C0 rfl dX12_quarrels_85 ?_
                  refine x_istore (L' := [_, _, _, _, _, _]) C0 hN (by decide) rfl dX12_quarrels_86 ?_
                  refine x_iinc (v := nI (t + 1)) (L' := [_, _, _, _, _, _]) C0 hN rfl (by decide) (nI_inc t) rfl dX12_quarrels_88 ?_
                  refine x_goto (tgt := 35) C0 (by decide) dX12_quarrels_91 ?_
                  exact ihf (t + 1) _ (by omega) (Or.inr ⟨rfl, qEx_up q (fun z => z.1 ((three_lt (th_three wx (w := a) (t := t) (by omega) (by omega))).mp g57))⟩)
                · refine x_aload_n C0 rfl dX12_quarrels_60 ?_
                  refine x_iconst (v := nI 0) C0 rfl dX12_quarrels_61 ?_
                  refine x_iload_n C0 rfl dX12_quarrels_62 ?_
                  refine x_iload C0 rfl dX12_quarrels_63 ?_
                  refine x_callV [_, _, _] C0 hN rfl (xRf_of hR (by decide) (Nat.zero_le _) (Nat.zero_le _)) mv_X12_thoughtOf wm_X12_325 dX12_quarrels_65 (isModel.k0 hM) rfl rfl (Nat.le_of_ble_eq_true rfl) (c_X12_thoughtOf hM hb0 (by omega) (by omega) ?_)
                  refine x_topi (mth_at mH (by omega) (by omega)) ?_
                  refine x_iconst (v := 1) C0 rfl dX12_quarrels_68 ?_
                  refine x_aload_n C0 rfl dX12_quarrels_69 ?_
                  refine x_iconst (v := nI 0) C0 rfl dX12_quarrels_70 ?_
                  refine x_iload_n C0 rfl dX12_quarrels_71 ?_
                  refine x_iload C0 rfl dX12_quarrels_72 ?_
                  refine x_callV [_, _, _] C0 hN rfl (xRf_of hR (by decide) (Nat.zero_le _) (Nat.zero_le _)) mv_X12_thoughtOf wm_X12_325 dX12_quarrels_74 (isModel.k0 hM) rfl rfl (Nat.le_of_ble_eq_true rfl) (c_X12_thoughtOf hM hb0 (by omega) (by omega) ?_)
                  refine x_topi (mth_at mH (by omega) (by omega)) ?_
                  refine x_isub C0 dX12_quarrels_77 ?_
                  refine x_icmp_ne (tgt := 85) C0 (by decide) dX12_quarrels_78 (fun g78 => ?_) (fun g78 => ?_)
                  · refine x_iconst (v := nI 0) C0 rfl dX12_quarrels_85 ?_
                    refine x_istore (L' := [_, _, _, _, _, _]) C0 hN (by decide) rfl dX12_quarrels_86 ?_
                    refine x_iinc (v := nI (t + 1)) (L' := [_, _, _, _, _, _]) C0 hN rfl (by decide) (nI_inc t) rfl dX12_quarrels_88 ?_
                    refine x_goto (tgt := 35) C0 (by decide) dX12_quarrels_91 ?_
                    exact ihf (t + 1) _ (by omega) (Or.inr ⟨rfl, qEx_up q (fun z => g78 ((three_other (th_three wx (w := a + 1 + m) (t := t) (by omega) (by omega)) (th_three wx (w := a) (t := t) (by omega) (by omega)) (three_ge (th_three wx (w := a) (t := t) (by omega) (by omega)) |>.mp (i_nlt.mp g57))).mpr ⟨z.2.1, fun e => z.2.2 e.symm⟩))⟩)
                  · refine x_iconst (v := nI 1) C0 rfl dX12_quarrels_81 ?_
                    refine x_goto (tgt := 86) C0 (by decide) dX12_quarrels_82 ?_
                    refine x_istore (L' := [_, _, _, _, _, _]) C0 hN (by decide) rfl dX12_quarrels_86 ?_
                    refine x_iinc (v := nI (t + 1)) (L' := [_, _, _, _, _, _]) C0 hN rfl (by decide) (nI_inc t) rfl dX12_quarrels_88 ?_
                    refine x_goto (tgt := 35) C0 (by decide) dX12_quarrels_91 ?_
                    exact ihf (t + 1) _ (by omega) (Or.inl ⟨rfl, t, Nat.lt_succ_self t, three_ge (th_three wx (w := a) (t := t) (by omega) (by omega)) |>.mp (i_nlt.mp g57), ((three_other (th_three wx (w := a + 1 + m) (t := t) (by omega) (by omega)) (th_three wx (w := a) (t := t) (by omega) (by omega)) (three_ge (th_three wx (w := a) (t := t) (by omega) (by omega)) |>.mp (i_nlt.mp g57))).mp g78).1, fun e => ((three_other (th_three wx (w := a + 1 + m) (t := t) (by omega) (by omega)) (th_three wx (w := a) (t := t) (by omega) (by omega)) (three_ge (th_three wx (w := a) (t := t) (by omega) (by omega)) |>.mp (i_nlt.mp g57))).mp g78).2 e.symm⟩)
          refine x_iload_n C0 rfl dX12_quarrels_21 ?_
          refine x_aload_n C0 rfl dX12_quarrels_22 ?_
          refine x_callV [] C0 hN rfl (xRf_of hR (by decide) (Nat.zero_le _) (Nat.zero_le _)) mv_X12_watchers wm_X12_282 dX12_quarrels_23 (isModel.k0 hM) rfl rfl (Nat.le_of_ble_eq_true rfl) (c_X12_watchers hM ?_)
          refine x_topi eV ?_
          refine x_icmp_ge (tgt := 131) C0 (by decide) dX12_quarrels_26 (fun hkk => absurd hkk (nI_ge (by omega) (by omega))) (fun _ => ?_)
          refine x_iconst (v := nI 0) C0 rfl dX12_quarrels_29 ?_
          refine x_istore (L' := [_, _, _, _, _, _]) C0 hN (by decide) rfl dX12_quarrels_30 ?_
          refine x_iconst (v := nI 0) C0 rfl dX12_quarrels_32 ?_
          refine x_istore (L' := [_, _, _, _, _, _]) C0 hN (by decide) rfl dX12_quarrels_33 ?_
          exact hfl T 0 _ (by omega) (Or.inr ⟨rfl, fun ⟨s, hs, _⟩ => absurd hs (by omega)⟩)
      refine x_iload_n C0 rfl dX12_quarrels_9 ?_
      refine x_aload_n C0 rfl dX12_quarrels_10 ?_
      refine x_callV [] C0 hN rfl (xRf_of hR (by decide) (Nat.zero_le _) (Nat.zero_le _)) mv_X12_watchers wm_X12_282 dX12_quarrels_11 (isModel.k0 hM) rfl rfl (Nat.le_of_ble_eq_true rfl) (c_X12_watchers hM ?_)
      refine x_topi eV ?_
      refine x_icmp_ge (tgt := 137) C0 (by decide) dX12_quarrels_14 (fun hkk => absurd hkk (nI_ge (by omega) (by omega))) (fun _ => ?_)
      refine x_iload_n C0 rfl dX12_quarrels_17 ?_
      refine x_iconst (v := nI 1) C0 rfl dX12_quarrels_18 ?_
      refine x_iaddN C0 dX12_quarrels_19 ?_
      refine x_istore_n (L' := [_, _, _, _, _, _]) C0 hN (by decide) rfl dX12_quarrels_20 ?_
      exact hin n 0 v4 v5 (by omega)
  refine x_iconst (v := nI 0) C0 rfl dX12_quarrels_5 ?_
  refine x_istore_n (L' := [_, _, _, _, _, _]) C0 hN (by decide) rfl dX12_quarrels_6 ?_
  refine x_iconst (v := nI 0) C0 rfl dX12_quarrels_7 ?_
  refine x_istore_n (L' := [_, _, _, _, _, _]) C0 hN (by decide) rfl dX12_quarrels_8 ?_
  exact hout V 0 none none none (by omega)
def swB (fl x : xRow) (T a : Nat) (s : Nat × Int32) : Nat → Nat × Int32
  | 0 => s
  | b + 1 => if (a ≠ b ∧ xbit (x 2) a ∧ xbit (x 2) b) ∧ (swB fl x T a s b).1 < sCnt fl x a b T then (sCnt fl x a b T, nI (8 * a + b)) else swB fl x T a s b
theorem swB_yes {fl x : xRow} {T a b : Nat} {s : Nat × Int32} (h : (a ≠ b ∧ xbit (x 2) a ∧ xbit (x 2) b) ∧ (swB fl x T a s b).1 < sCnt fl x a b T) : swB fl x T a s (b + 1) = (sCnt fl x a b T, nI (8 * a + b)) := by conv => lhs; unfold swB; rw [if_pos h]
theorem swB_no {fl x : xRow} {T a b : Nat} {s : Nat × Int32} (h : ¬ ((a ≠ b ∧ xbit (x 2) a ∧ xbit (x 2) b) ∧ (swB fl x T a s b).1 < sCnt fl x a b T)) : swB fl x T a s (b + 1) = swB fl x T a s b := by conv => lhs; unfold swB; rw [if_neg h]
theorem swB_le {fl x : xRow} {T a : Nat} {s : Nat × Int32} (h : s.1 ≤ T) : ∀ b, (swB fl x T a s b).1 ≤ T
  | 0 => h
  | b + 1 => by
    by_cases g : (a ≠ b ∧ xbit (x 2) a ∧ xbit (x 2) b) ∧ (swB fl x T a s b).1 < sCnt fl x a b T
    · rw [swB_yes g]; exact sCnt_le fl x a b T
    · rw [swB_no g]; exact swB_le h b
def swA (fl x : xRow) (T V : Nat) : Nat → Nat × Int32
  | 0 => (0, -1)
  | a + 1 => swB fl x T a (swA fl x T V a) V
theorem swA_le {fl x : xRow} {T V : Nat} : ∀ a, (swA fl x T V a).1 ≤ T
  | 0 => Nat.zero_le _
  | a + 1 => swB_le (swA_le a) V
def aSway (fl x : xRow) (T V : Nat) : Int32 := (swA fl x T V V).2
theorem neg_le_small : ∀ n, n ≤ 6 → (-1 : Int32) ≤ nI n := by decide +kernel
theorem c_X11_sway {S : xTS} {R : xTR} {I : xTI} {J : xTJ} {post : xPost} {f T N V : Nat} {fl x : xRow} {lw : Option (List (Nat × Nat))} (hS : fixd S R) (hf : R 0 2 = some f) (C : FCore I f fl lw T N V x) (hp : ∀ I', FQ I I' → post (some (.int (aSway fl x T V))) S R I' J) : xSpec 4 yX11_sway cX11_sway 6 (some .int) 0 0 [.ref 0] S R I J post := by
  refine xSpec_of mt_X11_sway (Nat.le_of_ble_eq_true rfl) (fun G C0 hN hR E hI hZ => ?_)
  change XX G 0 0 0 [some (.ref 0), none, none, none, none, none] [] S R I J
  obtain ⟨hfm, wl, rF, rH, wx⟩ := id C
  have hF := hS.film hfm
  have hH := hS.hall (q := 33) (by decide)
  have hT6 := wl.2.1
  have hN8 := wl.2.2.2.1
  have hV6 := wl.2.2.2.2.2.1
  have eT : I f 0 = nI T := rF.1.trans wl.1
  have eN : I f 1 = nI N := rF.2.1.trans wl.2.2.1
  have eV : I f 2 = nI V := rF.2.2.1.trans wl.2.2.2.2.1
  have hfh : ∀ i j, i < 9 → j < 4 → f + i ≠ 33 + j := fun i j hi hj => hf_apart 33 (by decide) f hfm i hi j hj
  obtain ⟨fs0, fs1, fs2, fs3, fs4, fs5, fs6, fs7, fs8, fr4, fr5, fr6, fr7, fr8, fr9, fr10, fr11⟩ := id hF
  obtain ⟨hs0, hs1, hs2, hs3, hr4, hr5, hr6⟩ := id hH
  unfold aSway at hp
  have hout : ∀ n a v4 v5, a + n = V → XX G 0 0 6 [some (.ref 0), some (.int (nI (swA fl x T V a).1)), some (.int (swA fl x T V a).2), some (.int (nI a)), v4, v5] [] S R I J := by
    intro n
    induction n with
    | zero =>
      intro a v4 v5 hn9
      have hn8 : a = V := by omega
      refine x_iload_n C0 rfl dX11_sway_6 ?_
      refine x_aload_n C0 rfl dX11_sway_7 ?_
      refine x_getR C0 wf_X11_26 (fixd.k0 hS) rfl rfl hf dX11_sway_8 ?_
      refine x_getI C0 wf_X11_289 (by assumption) rfl dX11_sway_11 ?_
      refine x_topi eV ?_
      refine x_icmp_ge (tgt := 77) C0 (by decide) dX11_sway_14 (fun _ => ?_) (fun hkk => absurd ((by rw [hn8]; exact Int32.le_refl _)) hkk)
      refine x_iload_n C0 rfl dX11_sway_77 ?_
      refine x_iret C0 E (by decide) (by decide) dX11_sway_78 ?_
      subst hn8
      exact hp I FQ.rf
    | succ n ih =>
      intro a v4 v5 hn9
      have hin : ∀ p b v5, b + p = V → XX G 0 0 20 [some (.ref 0), some (.int (nI (swB fl x T a (swA fl x T V a) b).1)), some (.int (swB fl x T a (swA fl x T V a) b).2), some (.int (nI a)), some (.int (nI b)), v5] [] S R I J := by
        intro p
        induction p with
        | zero =>
          intro b v5 hm9
          have hm8 : b = V := by omega
          refine x_iload C0 rfl dX11_sway_20 ?_
          refine x_aload_n C0 rfl dX11_sway_22 ?_
          refine x_getR C0 wf_X11_26 (fixd.k0 hS) rfl rfl hf dX11_sway_23 ?_
          refine x_getI C0 wf_X11_289 (by assumption) rfl dX11_sway_26 ?_
          refine x_topi eV ?_
          refine x_icmp_ge (tgt := 71) C0 (by decide) dX11_sway_29 (fun _ => ?_) (fun hkk => absurd ((by rw [hm8]; exact Int32.le_refl _)) hkk)
          refine x_iinc (v := nI (a + 1)) (L' := [_, _, _, _, _, _]) C0 hN rfl (by decide) (nI_inc a) rfl dX11_sway_71 ?_
          refine x_goto (tgt := 6) C0 (by decide) dX11_sway_74 ?_
          subst hm8
          exact ih (a + 1) _ _ (by omega)
        | succ p ihp =>
          intro b v5 hm9
          have hle : (swB fl x T a (swA fl x T V a) b).1 ≤ T := swB_le (swA_le a) b
          have hneg : (∀ a' b', a' < V → b' < V → a' ≠ b' → nI a = nI a' → nI b = nI b' → xbit (x 2) a' → xbit (x 2) b' → False) → XX G 0 0 46 [some (.ref 0), some (.int (nI (swB fl x T a (swA fl x T V a) b).1)), some (.int (swB fl x T a (swA fl x T V a) b).2), some (.int (nI a)), some (.int (nI b)), v5] [.int (-1)] S R I J := by
            intro hno
            refine x_istore (L' := [_, _, _, _, _, _]) C0 hN (by decide) rfl dX11_sway_46 ?_
            refine x_iload C0 rfl dX11_sway_48 ?_
            refine x_iload_n C0 rfl dX11_sway_50 ?_
            refine x_icmp_le (tgt := 65) C0 (by decide) dX11_sway_51 (fun _ => ?_) (fun hkk => absurd (neg_le_small _ (by omega)) hkk)
            refine x_iinc (v := nI (b + 1)) (L' := [_, _, _, _, _, _]) C0 hN rfl (by decide) (nI_inc b) rfl dX11_sway_65 ?_
            refine x_goto (tgt := 20) C0 (by decide) dX11_sway_68 ?_
            have := ihp (b + 1) (some (.int (-1))) (by omega)
            rw [swB_no (fun z => hno a b (by omega) (by omega) z.1.1 rfl rfl z.1.2.1 z.1.2.2)] at this
            exact this
          have hpos : a ≠ b → xbit (x 2) a → xbit (x 2) b → XX G 0 0 46 [some (.ref 0), some (.int (nI (swB fl x T a (swA fl x T V a) b).1)), some (.int (swB fl x T a (swA fl x T V a) b).2), some (.int (nI a)), some (.int (nI b)), v5] [.int (nI (sCnt fl x a b T))] S R I J := by
            intro hab ia ib
            have hcl := sCnt_le fl x a b T
            refine x_istore (L' := [_, _, _, _, _, _]) C0 hN (by decide) rfl dX11_sway_46 ?_
            refine x_iload C0 rfl dX11_sway_48 ?_
            refine x_iload_n C0 rfl dX11_sway_50 ?_
            refine x_icmp_le (tgt := 65) C0 (by decide) dX11_sway_51 (fun g51 => ?_) (fun g51 => ?_)
            · refine x_iinc (v := nI (b + 1)) (L' := [_, _, _, _, _, _]) C0 hN rfl (by decide) (nI_inc b) rfl dX11_sway_65 ?_
              refine x_goto (tgt := 20) C0 (by decide) dX11_sway_68 ?_
              have := ihp (b + 1) (some (.int (nI (sCnt fl x a b T)))) (by omega)
              rw [swB_no (fun z => absurd ((nI_le_iff (by omega) (by omega)).mp g51) (Nat.not_le.mpr z.2))] at this
              exact this
            · refine x_iload C0 rfl dX11_sway_54 ?_
              refine x_istore_n (L' := [_, _, _, _, _, _]) C0 hN (by decide) rfl dX11_sway_56 ?_
              refine x_bipush (v := nI 8) C0 rfl dX11_sway_57 ?_
              refine x_iload_n C0 rfl dX11_sway_59 ?_
              refine x_imulN C0 dX11_sway_60 ?_
              refine x_iload C0 rfl dX11_sway_61 ?_
              refine x_iaddN C0 dX11_sway_63 ?_
              refine x_istore_n (L' := [_, _, _, _, _, _]) C0 hN (by decide) rfl dX11_sway_64 ?_
              refine x_iinc (v := nI (b + 1)) (L' := [_, _, _, _, _, _]) C0 hN rfl (by decide) (nI_inc b) rfl dX11_sway_65 ?_
              refine x_goto (tgt := 20) C0 (by decide) dX11_sway_68 ?_
              have := ihp (b + 1) (some (.int (nI (sCnt fl x a b T)))) (by omega)
              rw [swB_yes ⟨⟨hab, ia, ib⟩, Nat.lt_of_not_le (fun z => g51 ((nI_le_iff (by omega) (by omega)).mpr z))⟩] at this
              exact this
          refine x_iload C0 rfl dX11_sway_20 ?_
          refine x_aload_n C0 rfl dX11_sway_22 ?_
          refine x_getR C0 wf_X11_26 (fixd.k0 hS) rfl rfl hf dX11_sway_23 ?_
          refine x_getI C0 wf_X11_289 (by assumption) rfl dX11_sway_26 ?_
          refine x_topi eV ?_
          refine x_icmp_ge (tgt := 71) C0 (by decide) dX11_sway_29 (fun hkk => absurd hkk (nI_ge (by omega) (by omega))) (fun _ => ?_)
          refine x_aload_n C0 rfl dX11_sway_32 ?_
          refine x_getR C0 wf_X11_26 (fixd.k0 hS) rfl rfl hf dX11_sway_33 ?_
          refine x_aload_n C0 rfl dX11_sway_36 ?_
          refine x_getR C0 wf_X11_46 (fixd.k0 hS) rfl rfl (fixd.now hS) dX11_sway_37 ?_
          refine x_iload_n C0 rfl dX11_sway_40 ?_
          refine x_iload C0 rfl dX11_sway_41 ?_
          refine x_callV [_, _, _] C0 hN rfl (xRf_of hR (by decide) (Nat.zero_le _) (Nat.zero_le _)) mv_X2_persuasions wm_X11_292 dX11_sway_43 (by assumption) rfl rfl (Nat.le_of_ble_eq_true rfl) (c_X2_persuasions hF hH hfh wl wx rF rH (fun q => ?_) (fun a2 b2 ha2 hb2 hab ei ej ia ib => ?_))
          · exact hneg q
          · have e1 : a2 = a := ((nI_eq (by omega) (by omega)).mp ei).symm
            have e2 : b2 = b := ((nI_eq (by omega) (by omega)).mp ej).symm
            subst e1
            subst e2
            exact hpos hab ia ib
      refine x_iload_n C0 rfl dX11_sway_6 ?_
      refine x_aload_n C0 rfl dX11_sway_7 ?_
      refine x_getR C0 wf_X11_26 (fixd.k0 hS) rfl rfl hf dX11_sway_8 ?_
      refine x_getI C0 wf_X11_289 (by assumption) rfl dX11_sway_11 ?_
      refine x_topi eV ?_
      refine x_icmp_ge (tgt := 77) C0 (by decide) dX11_sway_14 (fun hkk => absurd hkk (nI_ge (by omega) (by omega))) (fun _ => ?_)
      refine x_iconst (v := 0) C0 rfl dX11_sway_17 ?_
      refine x_istore (L' := [_, _, _, _, _, _]) C0 hN (by decide) rfl dX11_sway_18 ?_
      exact hin V 0 v5 (by omega)
  refine x_iconst (v := 0) C0 rfl dX11_sway_0 ?_
  refine x_istore_n (L' := [_, _, _, _, _, _]) C0 hN (by decide) rfl dX11_sway_1 ?_
  refine x_iconst (v := -1) C0 rfl dX11_sway_2 ?_
  refine x_istore_n (L' := [_, _, _, _, _, _]) C0 hN (by decide) rfl dX11_sway_3 ?_
  refine x_iconst (v := 0) C0 rfl dX11_sway_4 ?_
  refine x_istore_n (L' := [_, _, _, _, _, _]) C0 hN (by decide) rfl dX11_sway_5 ?_
  exact hout V 0 none none (by omega)
theorem c_X12_sway {S : xTS} {R : xTR} {I : xTI} {J : xTJ} {post : xPost} {T N V : Nat} {fl x : xRow} {lw : Option (List (Nat × Nat))} (hM : isModel S R) (C : MCore I fl lw T N V x) (hp : ∀ I', MQs I I' → post (some (.int (aSway fl x T V))) S R I' J) : xSpec 3 yX12_sway cX12_sway 6 (some .int) 0 0 [.ref 135] S R I J post := by
  refine xSpec_of mt_X12_sway (Nat.le_of_ble_eq_true rfl) (fun G C0 hN hR E hI hZ => ?_)
  change XX G 0 0 0 [some (.ref 135), none, none, none, none, none] [] S R I J
  refine x_aload_n C0 rfl dX12_sway_0 ?_
  refine x_iconst (v := nI 0) C0 rfl dX12_sway_1 ?_
  refine x_putI C0 wf_X12_1 (isModel.k0 hM) rfl dX12_sway_2 ?_
  have q1 := MQs.thrown (I := I) (v := nI 0)
  have C := C.mq q1
  generalize u2 I 135 0 (nI 0) = I1 at q1 C ⊢
  obtain ⟨wl, mF, mL, mH, wx⟩ := id C
  have hT6 := wl.2.1
  have hN8 := wl.2.2.2.1
  have hV6 := wl.2.2.2.2.2.1
  have eT : I1 141 0 = nI T := (mF 0 (by decide)).trans wl.1
  have eN : I1 141 1 = nI N := (mF 1 (by decide)).trans wl.2.2.1
  have eV : I1 141 2 = nI V := (mF 2 (by decide)).trans wl.2.2.2.2.1
  have hb0 : 0 ≤ 2192 := by decide
  unfold aSway at hp
  have hout : ∀ n a I2 v4 v5, a + n = V → MQs I1 I2 → XX G 0 0 11 [some (.ref 135), some (.int (swA fl x T V a).2), some (.int (nI (swA fl x T V a).1)), some (.int (nI a)), v4, v5] [] S R I2 J := by
    intro n
    induction n with
    | zero =>
      intro a I2 v4 v5 hn9 s1
      have hn8 : a = V := by omega
      have eV2 : I2 141 2 = nI V := by rw [(C.mq s1).2.1 2 (by decide), wl.2.2.2.2.1]
      refine x_iload_n C0 rfl dX12_sway_11 ?_
      refine x_aload_n C0 rfl dX12_sway_12 ?_
      refine x_callV [] C0 hN rfl (xRf_of hR (by decide) (Nat.zero_le _) (Nat.zero_le _)) mv_X12_watchers wm_X12_282 dX12_sway_13 (isModel.k0 hM) rfl rfl (Nat.le_of_ble_eq_true rfl) (c_X12_watchers hM ?_)
      refine x_topi eV2 ?_
      refine x_icmp_ge (tgt := 121) C0 (by decide) dX12_sway_16 (fun _ => ?_) (fun hkk => absurd ((by rw [hn8]; exact Int32.le_refl _)) hkk)
      refine x_iload_n C0 rfl dX12_sway_121 ?_
      refine x_iret C0 E (by decide) (by decide) dX12_sway_122 ?_
      subst hn8
      exact hp I2 (q1.trans s1)
    | succ n ih =>
      intro a I2 v4 v5 hn9 s1
      have hin : ∀ p b I2 v5, b + p = V → MQs I1 I2 → XX G 0 0 22 [some (.ref 135), some (.int (swB fl x T a (swA fl x T V a) b).2), some (.int (nI (swB fl x T a (swA fl x T V a) b).1)), some (.int (nI a)), some (.int (nI b)), v5] [] S R I2 J := by
        intro p
        induction p with
        | zero =>
          intro b I2 v5 hm9 s1
          have hm8 : b = V := by omega
          have eV2 : I2 141 2 = nI V := by rw [(C.mq s1).2.1 2 (by decide), wl.2.2.2.2.1]
          refine x_iload C0 rfl dX12_sway_22 ?_
          refine x_aload_n C0 rfl dX12_sway_24 ?_
          refine x_callV [] C0 hN rfl (xRf_of hR (by decide) (Nat.zero_le _) (Nat.zero_le _)) mv_X12_watchers wm_X12_282 dX12_sway_25 (isModel.k0 hM) rfl rfl (Nat.le_of_ble_eq_true rfl) (c_X12_watchers hM ?_)
          refine x_topi eV2 ?_
          refine x_icmp_ge (tgt := 115) C0 (by decide) dX12_sway_28 (fun _ => ?_) (fun hkk => absurd ((by rw [hm8]; exact Int32.le_refl _)) hkk)
          refine x_iinc (v := nI (a + 1)) (L' := [_, _, _, _, _, _]) C0 hN rfl (by decide) (nI_inc a) rfl dX12_sway_115 ?_
          refine x_goto (tgt := 11) C0 (by decide) dX12_sway_118 ?_
          subst hm8
          exact ih (a + 1) I2 _ _ (by omega) s1
        | succ p ihp =>
          intro b I2 v5 hm9 s1
          have hle : (swB fl x T a (swA fl x T V a) b).1 ≤ T := swB_le (swA_le a) b
          have hcl := sCnt_le fl x a b T
          obtain ⟨-, mF2, mL2, mH2, -⟩ := C.mq s1
          have s2 : MQs I1 (ucp I2 0 2058 62) := s1.trans (MQs.copy (by decide))
          obtain ⟨-, mF3, mL3, mH3, -⟩ := C.mq s2
          have eV2 : I2 141 2 = nI V := by rw [mF2 2 (by decide), wl.2.2.2.2.1]
          refine x_iload C0 rfl dX12_sway_22 ?_
          refine x_aload_n C0 rfl dX12_sway_24 ?_
          refine x_callV [] C0 hN rfl (xRf_of hR (by decide) (Nat.zero_le _) (Nat.zero_le _)) mv_X12_watchers wm_X12_282 dX12_sway_25 (isModel.k0 hM) rfl rfl (Nat.le_of_ble_eq_true rfl) (c_X12_watchers hM ?_)
          refine x_topi eV2 ?_
          refine x_icmp_ge (tgt := 115) C0 (by decide) dX12_sway_28 (fun hkk => absurd hkk (nI_ge (by omega) (by omega))) (fun _ => ?_)
          refine x_iload_n C0 rfl dX12_sway_31 ?_
          refine x_iload C0 rfl dX12_sway_32 ?_
          refine x_icmp_eq (tgt := 109) C0 (by decide) dX12_sway_34 (fun g34 => ?_) (fun g34 => ?_)
          · refine x_iinc (v := nI (b + 1)) (L' := [_, _, _, _, _, _]) C0 hN rfl (by decide) (nI_inc b) rfl dX12_sway_109 ?_
            refine x_goto (tgt := 22) C0 (by decide) dX12_sway_112 ?_
            have := ihp (b + 1) I2 (v5) (by omega) s1
            rw [swB_no (fun z => z.1.1 ((nI_eq (by omega) (by omega)).mp g34))] at this
            exact this
          · refine x_aload_n C0 rfl dX12_sway_37 ?_
            refine x_iconst (v := nI 0) C0 rfl dX12_sway_38 ?_
            refine x_iload_n C0 rfl dX12_sway_39 ?_
            refine x_callV [_, _] C0 hN rfl (xRf_of hR (by decide) (Nat.zero_le _) (Nat.zero_le _)) mv_X12_isIn wm_X12_319 dX12_sway_40 (isModel.k0 hM) rfl rfl (Nat.le_of_ble_eq_true rfl) (c_X12_isIn hM hb0 (fun g40 => ?_) (fun g40 => ?_))
            · refine x_if_eq (tgt := 109) C0 (by decide) dX12_sway_43 (fun hkk => absurd hkk (by decide)) (fun _ => ?_)
              refine x_aload_n C0 rfl dX12_sway_46 ?_
              refine x_iconst (v := nI 0) C0 rfl dX12_sway_47 ?_
              refine x_iload C0 rfl dX12_sway_48 ?_
              refine x_callV [_, _] C0 hN rfl (xRf_of hR (by decide) (Nat.zero_le _) (Nat.zero_le _)) mv_X12_isIn wm_X12_319 dX12_sway_50 (isModel.k0 hM) rfl rfl (Nat.le_of_ble_eq_true rfl) (c_X12_isIn hM hb0 (fun g50 => ?_) (fun g50 => ?_))
              · refine x_if_eq (tgt := 109) C0 (by decide) dX12_sway_53 (fun hkk => absurd hkk (by decide)) (fun _ => ?_)
                refine x_aload_n C0 rfl dX12_sway_56 ?_
                refine x_iconst (v := nI 0) C0 rfl dX12_sway_57 ?_
                refine x_sipush (v := nI 2058) C0 rfl dX12_sway_58 ?_
                refine x_bipush (v := nI 62) C0 rfl dX12_sway_61 ?_
                refine x_callV [_, _, _] C0 hN rfl (xRf_of hR (by decide) (Nat.zero_le _) (Nat.zero_le _)) mv_X12_copies wm_X12_294 dX12_sway_63 (isModel.k0 hM) rfl rfl (Nat.le_of_ble_eq_true rfl) (c_X12_copies hM (Or.inl (by omega)) (by omega) (by omega) ?_)
                refine x_aload_n C0 rfl dX12_sway_66 ?_
                refine x_sipush (v := nI 2058) C0 rfl dX12_sway_67 ?_
                refine x_iload_n C0 rfl dX12_sway_70 ?_
                refine x_iload C0 rfl dX12_sway_71 ?_
                refine x_callV [_, _, _] C0 hN rfl (xRf_of hR (by decide) (Nat.zero_le _) (Nat.zero_le _)) mv_X12_talks wm_X12_360 dX12_sway_73 (isModel.k0 hM) rfl rfl (Nat.le_of_ble_eq_true rfl) (c_X12_talks hM (by decide) wl wx mF3 (ucp_hall mH2 62 (by decide)) (by omega) (by omega) (fun I4 e4 s4 r4 => ?_))
                refine x_istore (L' := [_, _, _, _, _, _]) C0 hN (by decide) rfl dX12_sway_76 ?_
                refine x_iload C0 rfl dX12_sway_78 ?_
                refine x_iload_n C0 rfl dX12_sway_80 ?_
                refine x_icmp_le (tgt := 94) C0 (by decide) dX12_sway_81 (fun g81 => ?_) (fun g81 => ?_)
                · refine x_iload_n C0 rfl dX12_sway_94 ?_
                  refine x_istore_n (L' := [_, _, _, _, _, _]) C0 hN (by decide) rfl dX12_sway_95 ?_
                  refine x_iload C0 rfl dX12_sway_96 ?_
                  refine x_iload_n C0 rfl dX12_sway_98 ?_
                  refine x_icmp_le (tgt := 107) C0 (by decide) dX12_sway_99 (fun g99 => ?_) (fun g99 => ?_)
                  · refine x_iload_n C0 rfl dX12_sway_107 ?_
                    refine x_istore_n (L' := [_, _, _, _, _, _]) C0 hN (by decide) rfl dX12_sway_108 ?_
                    refine x_iinc (v := nI (b + 1)) (L' := [_, _, _, _, _, _]) C0 hN rfl (by decide) (nI_inc b) rfl dX12_sway_109 ?_
                    refine x_goto (tgt := 22) C0 (by decide) dX12_sway_112 ?_
                    have := ihp (b + 1) I4 (some (.int (nI (sCnt fl x a b T)))) (by omega) (s2.trans (MQs.same s4 (by decide)))
                    rw [swB_no (fun z => absurd ((nI_le_iff (by omega) (by omega)).mp g81) (Nat.not_le.mpr z.2))] at this
                    exact this
                  · refine x_iload C0 rfl dX12_sway_102 ?_
                    refine x_goto (tgt := 108) C0 (by decide) dX12_sway_104 ?_
                    refine x_istore_n (L' := [_, _, _, _, _, _]) C0 hN (by decide) rfl dX12_sway_108 ?_
                    refine x_iinc (v := nI (b + 1)) (L' := [_, _, _, _, _, _]) C0 hN rfl (by decide) (nI_inc b) rfl dX12_sway_109 ?_
                    refine x_goto (tgt := 22) C0 (by decide) dX12_sway_112 ?_
                    exact absurd g81 g99
                · refine x_bipush (v := nI 8) C0 rfl dX12_sway_84 ?_
                  refine x_iload_n C0 rfl dX12_sway_86 ?_
                  refine x_imulN C0 dX12_sway_87 ?_
                  refine x_iload C0 rfl dX12_sway_88 ?_
                  refine x_iaddN C0 dX12_sway_90 ?_
                  refine x_goto (tgt := 95) C0 (by decide) dX12_sway_91 ?_
                  refine x_istore_n (L' := [_, _, _, _, _, _]) C0 hN (by decide) rfl dX12_sway_95 ?_
                  refine x_iload C0 rfl dX12_sway_96 ?_
                  refine x_iload_n C0 rfl dX12_sway_98 ?_
                  refine x_icmp_le (tgt := 107) C0 (by decide) dX12_sway_99 (fun g99 => ?_) (fun g99 => ?_)
                  · refine x_iload_n C0 rfl dX12_sway_107 ?_
                    refine x_istore_n (L' := [_, _, _, _, _, _]) C0 hN (by decide) rfl dX12_sway_108 ?_
                    refine x_iinc (v := nI (b + 1)) (L' := [_, _, _, _, _, _]) C0 hN rfl (by decide) (nI_inc b) rfl dX12_sway_109 ?_
                    refine x_goto (tgt := 22) C0 (by decide) dX12_sway_112 ?_
                    exact absurd g99 g81
                  · refine x_iload C0 rfl dX12_sway_102 ?_
                    refine x_goto (tgt := 108) C0 (by decide) dX12_sway_104 ?_
                    refine x_istore_n (L' := [_, _, _, _, _, _]) C0 hN (by decide) rfl dX12_sway_108 ?_
                    refine x_iinc (v := nI (b + 1)) (L' := [_, _, _, _, _, _]) C0 hN rfl (by decide) (nI_inc b) rfl dX12_sway_109 ?_
                    refine x_goto (tgt := 22) C0 (by decide) dX12_sway_112 ?_
                    have := ihp (b + 1) I4 (some (.int (nI (sCnt fl x a b T)))) (by omega) (s2.trans (MQs.same s4 (by decide)))
                    rw [swB_yes ⟨⟨fun e => g34 (by rw [e]), by rw [← mH2 2 (by decide)]; exact g40, by rw [← mH2 2 (by decide)]; exact g50⟩, Nat.lt_of_not_le (fun z => g81 ((nI_le_iff (by omega) (by omega)).mpr z))⟩] at this
                    exact this
              · refine x_if_eq (tgt := 109) C0 (by decide) dX12_sway_53 (fun _ => ?_) (fun hkk => absurd (by decide) hkk)
                refine x_iinc (v := nI (b + 1)) (L' := [_, _, _, _, _, _]) C0 hN rfl (by decide) (nI_inc b) rfl dX12_sway_109 ?_
                refine x_goto (tgt := 22) C0 (by decide) dX12_sway_112 ?_
                have := ihp (b + 1) I2 (v5) (by omega) s1
                rw [swB_no (fun z => g50 (by rw [mH2 2 (by decide)]; exact z.1.2.2))] at this
                exact this
            · refine x_if_eq (tgt := 109) C0 (by decide) dX12_sway_43 (fun _ => ?_) (fun hkk => absurd (by decide) hkk)
              refine x_iinc (v := nI (b + 1)) (L' := [_, _, _, _, _, _]) C0 hN rfl (by decide) (nI_inc b) rfl dX12_sway_109 ?_
              refine x_goto (tgt := 22) C0 (by decide) dX12_sway_112 ?_
              have := ihp (b + 1) I2 (v5) (by omega) s1
              rw [swB_no (fun z => g40 (by rw [mH2 2 (by decide)]; exact z.1.2.1))] at this
              exact this
      refine x_iload_n C0 rfl dX12_sway_11 ?_
      refine x_aload_n C0 rfl dX12_sway_12 ?_
      refine x_callV [] C0 hN rfl (xRf_of hR (by decide) (Nat.zero_le _) (Nat.zero_le _)) mv_X12_watchers wm_X12_282 dX12_sway_13 (isModel.k0 hM) rfl rfl (Nat.le_of_ble_eq_true rfl) (c_X12_watchers hM ?_)
      refine x_topi (show I2 141 2 = nI V by rw [(C.mq s1).2.1 2 (by decide), wl.2.2.2.2.1]) ?_
      refine x_icmp_ge (tgt := 121) C0 (by decide) dX12_sway_16 (fun hkk => absurd hkk (nI_ge (by omega) (by omega))) (fun _ => ?_)
      refine x_iconst (v := nI 0) C0 rfl dX12_sway_19 ?_
      refine x_istore (L' := [_, _, _, _, _, _]) C0 hN (by decide) rfl dX12_sway_20 ?_
      exact hin V 0 I2 v5 (by omega) s1
  refine x_iconst (v := -1) C0 rfl dX12_sway_5 ?_
  refine x_istore_n (L' := [_, _, _, _, _, _]) C0 hN (by decide) rfl dX12_sway_6 ?_
  refine x_iconst (v := nI 0) C0 rfl dX12_sway_7 ?_
  refine x_istore_n (L' := [_, _, _, _, _, _]) C0 hN (by decide) rfl dX12_sway_8 ?_
  refine x_iconst (v := nI 0) C0 rfl dX12_sway_9 ?_
  refine x_istore_n (L' := [_, _, _, _, _, _]) C0 hN (by decide) rfl dX12_sway_10 ?_
  exact hout V 0 I1 none none (by omega) MQs.rf
