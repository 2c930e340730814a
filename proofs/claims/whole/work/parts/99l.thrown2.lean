/-! RESTS OF THE CLASS: it may throw -/
theorem v_X11_rests {S : xTS} {R : xTR} {I : xTI} {J : xTJ} {post : xPost} {le cu lo wh : Int32} (hp : rGood le cu lo wh → post (some (.int (rAns le cu lo wh))) S R I J) : vSpec 6 yX11_rests cX11_rests 7 (some .int) [.ref 0, .int le, .int cu, .int lo, .int wh] S R I J post (¬ rGood le cu lo wh) := by
  refine vSpec_of (n := 4) mt_X11_rests (Nat.le_of_ble_eq_true rfl) (fun G C0_ hN hR E hT => ?_)
  change XX G 0 0 0 [some (.ref 0), some (.int le), some (.int cu), some (.int lo), some (.int wh), none, none] [] S R I J
  have kt : ¬ rGood le cu lo wh → ∀ L, XX G 0 0 27 L [] S R I J := fun h L => x_throwX C0_ E hT hR h dX11_rests_27 dX11_rests_30 dX11_rests_31 dX11_rests_34
  have ku : ¬ rGood le cu lo wh → ∀ L, XX G 0 0 109 L [] S R I J := fun h L => x_throwX C0_ E hT hR h dX11_rests_109 dX11_rests_112 dX11_rests_113 dX11_rests_116
  have h41_ : rMay le cu lo wh → ∀ n k, k + n = 4 → rF le cu lo wh k = -1 → XX G 0 0 41 [some (.ref 0), some (.int le), some (.int cu), some (.int lo), some (.int wh), some (.int (nI (rN le cu lo k))), some (.int (nI k))] [] S R I J := by
    intro hm n
    induction n with
    | zero =>
      intro k hk hf
      have hk4_ : k = 4 := by omega
      subst hk4_
      refine x_iload C0_ rfl dX11_rests_41 ?_
      refine x_iconst (v := nI 4) C0_ rfl dX11_rests_43 ?_
      refine x_icmp_ge (tgt := 100) C0_ (by decide) dX11_rests_44 (fun _ => ?_) (fun hkk => absurd ((Int32.le_refl _)) hkk)
      refine x_iload C0_ rfl dX11_rests_100 ?_
      refine x_iconst (v := -1) C0_ rfl dX11_rests_102 ?_
      refine x_icmp_ne (tgt := 109) C0_ (by decide) dX11_rests_103 (fun g103_ => ?_) (fun g103_ => ?_)
      · exact ku (fun q => q.2.elim (fun z => g103_ ((r_m1 hm.2.2.2).mp z)) (fun z => absurd (hf ▸ z) (by decide))) _
      · refine x_iload C0_ rfl dX11_rests_106 ?_
        refine x_iretX C0_ E (by decide) (by decide) dX11_rests_108 ?_
        have hw : wh < 0 := (r_m1 hm.2.2.2).mpr g103_
        have hq := hp ⟨hm, Or.inl hw⟩
        unfold rAns at hq
        rw [if_pos hw] at hq
        exact hq
    | succ n ih =>
      intro k hk hf
      obtain ⟨-, -, q3_, q4_⟩ := r_half k (by omega)
      have ih := ih (k + 1) (by omega)
      refine x_iload C0_ rfl dX11_rests_41 ?_
      refine x_iconst (v := nI 4) C0_ rfl dX11_rests_43 ?_
      refine x_icmp_ge (tgt := 100) C0_ (by decide) dX11_rests_44 (fun hkk => absurd hkk ((nI_ge (b := 4) (by omega) (by omega)))) (fun _ => ?_)
      refine x_iload C0_ rfl dX11_rests_47 ?_
      refine x_iconst (v := 1) C0_ rfl dX11_rests_49 ?_
      refine x_ishr C0_ dX11_rests_50 ?_
      refine x_topi q3_ ?_
      refine x_iload C0_ rfl dX11_rests_51 ?_
      refine x_iconst (v := 1) C0_ rfl dX11_rests_53 ?_
      refine x_iand C0_ dX11_rests_54 ?_
      refine x_topi q4_ ?_
      refine x_iload_n C0_ rfl dX11_rests_55 ?_
      refine x_iload_n C0_ rfl dX11_rests_56 ?_
      refine x_iload_n C0_ rfl dX11_rests_57 ?_
      refine x_callS [_, _, _, _, _] C0_ (xRf_of hR (by decide) (Nat.zero_le _) (Nat.zero_le _)) ms_X11_rest wm_X11_349 dX11_rests_58 rfl rfl (Nat.le_of_ble_eq_true rfl) (c_X11_rest  (fun g58_ => ?_) (fun g58_ => ?_))
      · refine x_if_eq (tgt := 94) C0_ (by decide) dX11_rests_61 (fun hkk => absurd hkk (by decide)) (fun _ => ?_)
        refine x_iload C0_ rfl dX11_rests_64 ?_
        refine x_iconst (v := 1) C0_ rfl dX11_rests_66 ?_
        refine x_iand C0_ dX11_rests_67 ?_
        refine x_topi q4_ ?_
        refine x_iload C0_ rfl dX11_rests_68 ?_
        refine x_iconst (v := 1) C0_ rfl dX11_rests_70 ?_
        refine x_ishr C0_ dX11_rests_71 ?_
        refine x_topi q3_ ?_
        refine x_iload_n C0_ rfl dX11_rests_72 ?_
        refine x_iload_n C0_ rfl dX11_rests_73 ?_
        refine x_iload_n C0_ rfl dX11_rests_74 ?_
        refine x_callS [_, _, _, _, _] C0_ (xRf_of hR (by decide) (Nat.zero_le _) (Nat.zero_le _)) ms_X11_rest wm_X11_349 dX11_rests_75 rfl rfl (Nat.le_of_ble_eq_true rfl) (c_X11_rest  (fun g75_ => ?_) (fun g75_ => ?_))
        · refine x_if_eq (tgt := 94) C0_ (by decide) dX11_rests_78 (fun hkk => absurd hkk (by decide)) (fun _ => ?_)
          refine x_iload C0_ rfl dX11_rests_81 ?_
          refine x_iload C0_ rfl dX11_rests_83 ?_
          refine x_icmp_ne (tgt := 91) C0_ (by decide) dX11_rests_85 (fun g85_ => ?_) (fun g85_ => ?_)
          · refine x_iinc (v := nI (rN le cu lo k + 1)) (L' := [_, _, _, _, _, _, _]) C0_ hN rfl (by decide) (nI_inc (rN le cu lo k)) rfl dX11_rests_91 ?_
            refine x_iinc (v := nI (k + 1)) (L' := [_, _, _, _, _, _, _]) C0_ hN rfl (by decide) (nI_inc k) rfl dX11_rests_94 ?_
            refine x_goto (tgt := 41) C0_ (by decide) dX11_rests_97 ?_
            have hok : rOk le cu lo k := ⟨g58_, g75_⟩
            rw [rN_yes hok, rF_no (fun z => g85_ z.2)] at ih
            exact ih hf
          · refine x_iload C0_ rfl dX11_rests_88 ?_
            refine x_iretX C0_ E (by decide) (by decide) dX11_rests_90 ?_
            have hok : rOk le cu lo k := ⟨g58_, g75_⟩
            have hh := rF_hit (wh := wh) hok g85_ (3 - k) (by omega)
            rw [show k + 1 + (3 - k) = 4 by omega] at hh
            have hw : ¬ wh < 0 := by
              rw [← g85_]
              exact i_nlt.mpr ((nI_le_iff (a := 0) (by decide) (by have := rN_le (le := le) (cu := cu) (lo := lo) k; omega)).mpr (Nat.zero_le _))
            have hq := hp ⟨hm, Or.inr (by rw [hh]; exact (nI_le_iff (a := 0) (by decide) (by omega)).mpr (Nat.zero_le _))⟩
            unfold rAns at hq
            rw [if_neg hw, hh] at hq
            exact hq
        · refine x_if_eq (tgt := 94) C0_ (by decide) dX11_rests_78 (fun _ => ?_) (fun hkk => absurd (by decide) hkk)
          refine x_iinc (v := nI (k + 1)) (L' := [_, _, _, _, _, _, _]) C0_ hN rfl (by decide) (nI_inc k) rfl dX11_rests_94 ?_
          refine x_goto (tgt := 41) C0_ (by decide) dX11_rests_97 ?_
          have hok : ¬ rOk le cu lo k := fun z => g75_ z.2
          rw [rN_no hok, rF_no (fun z => hok z.1)] at ih
          exact ih hf
      · refine x_if_eq (tgt := 94) C0_ (by decide) dX11_rests_61 (fun _ => ?_) (fun hkk => absurd (by decide) hkk)
        refine x_iinc (v := nI (k + 1)) (L' := [_, _, _, _, _, _, _]) C0_ hN rfl (by decide) (nI_inc k) rfl dX11_rests_94 ?_
        refine x_goto (tgt := 41) C0_ (by decide) dX11_rests_97 ?_
        have hok : ¬ rOk le cu lo k := fun z => g58_ z.1
        rw [rN_no hok, rF_no (fun z => hok z.1)] at ih
        exact ih hf
  refine x_iload_n C0_ rfl dX11_rests_0 ?_
  refine x_callS [_] C0_ (xRf_of hR (by decide) (Nat.zero_le _) (Nat.zero_le _)) ms_X11_isDigit wm_X11_343 dX11_rests_1 rfl rfl (Nat.le_of_ble_eq_true rfl) (c_X11_isDigit  (fun g1_ => ?_) (fun g1_ => ?_))
  · refine x_if_eq (tgt := 27) C0_ (by decide) dX11_rests_4 (fun hkk => absurd hkk (by decide)) (fun _ => ?_)
    refine x_iload_n C0_ rfl dX11_rests_7 ?_
    refine x_callS [_] C0_ (xRf_of hR (by decide) (Nat.zero_le _) (Nat.zero_le _)) ms_X11_isDigit wm_X11_343 dX11_rests_8 rfl rfl (Nat.le_of_ble_eq_true rfl) (c_X11_isDigit  (fun g8_ => ?_) (fun g8_ => ?_))
    · refine x_if_eq (tgt := 27) C0_ (by decide) dX11_rests_11 (fun hkk => absurd hkk (by decide)) (fun _ => ?_)
      refine x_iload_n C0_ rfl dX11_rests_14 ?_
      refine x_callS [_] C0_ (xRf_of hR (by decide) (Nat.zero_le _) (Nat.zero_le _)) ms_X11_isDigit wm_X11_343 dX11_rests_15 rfl rfl (Nat.le_of_ble_eq_true rfl) (c_X11_isDigit  (fun g15_ => ?_) (fun g15_ => ?_))
      · refine x_if_eq (tgt := 27) C0_ (by decide) dX11_rests_18 (fun hkk => absurd hkk (by decide)) (fun _ => ?_)
        refine x_iload C0_ rfl dX11_rests_21 ?_
        refine x_iconst (v := -1) C0_ rfl dX11_rests_23 ?_
        refine x_icmp_ge (tgt := 35) C0_ (by decide) dX11_rests_24 (fun g24_ => ?_) (fun g24_ => ?_)
        · refine x_iconst (v := 0) C0_ rfl dX11_rests_35 ?_
          refine x_istore (L' := [_, _, _, _, _, _, _]) C0_ hN (by decide) rfl dX11_rests_36 ?_
          refine x_iconst (v := 0) C0_ rfl dX11_rests_38 ?_
          refine x_istore (L' := [_, _, _, _, _, _, _]) C0_ hN (by decide) rfl dX11_rests_39 ?_
          exact h41_ ⟨g1_, g8_, g15_, g24_⟩ 4 0 (by omega) rfl
        · exact kt (fun q => g24_ q.1.2.2.2) _
      · refine x_if_eq (tgt := 27) C0_ (by decide) dX11_rests_18 (fun _ => ?_) (fun hkk => absurd (by decide) hkk)
        exact kt (fun q => g15_ q.1.2.2.1) _
    · refine x_if_eq (tgt := 27) C0_ (by decide) dX11_rests_11 (fun _ => ?_) (fun hkk => absurd (by decide) hkk)
      exact kt (fun q => g8_ q.1.2.1) _
  · refine x_if_eq (tgt := 27) C0_ (by decide) dX11_rests_4 (fun _ => ?_) (fun hkk => absurd (by decide) hkk)
    exact kt (fun q => g1_ q.1.1) _
