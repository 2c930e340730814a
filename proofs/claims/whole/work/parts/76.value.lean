/-! THE LAW OF DOUBT IS WORKED OUT: the class -/
theorem cE_ops : ∀ c, c < 11 → 4 ≤ c → cE (c, 0) ≤ -6 ∧ ¬ cE (c, 0) = -5 ∧ ¬ -5 < cE (c, 0) := by decide +kernel
theorem c_X4_fact {S : xTS} {R : xTR} {I : xTI} {J : xTJ} {post : xPost} {f : Nat} {a b c d : Int32} (hf : f < 4) (hp : post (some (.int (if f = 0 then a else if f = 1 then b else if f = 2 then c else d))) S R I J) : xSpec 1 yX4_fact cX4_fact 5 (some .int) 0 0 [.int (cE (2, f)), .int a, .int b, .int c, .int d] S R I J post := by
  refine xSpec_of mt_X4_fact (Nat.le_of_ble_eq_true rfl) (fun G C0 hN hR E hI hZ => ?_)
  change XX G 0 0 0 [some (.int (cE (2, f))), some (.int a), some (.int b), some (.int c), some (.int d)] [] S R I J
  rcases (show f = 0 ∨ f = 1 ∨ f = 2 ∨ f = 3 by omega) with rfl | rfl | rfl | rfl
  · refine x_iload_n C0 rfl dX4_fact_0 ?_
    refine x_tabIn (tgt := 28) C0 (by decide) (by decide) (by rfl) (by decide) dX4_fact_1 ?_
    refine x_iload_n C0 rfl dX4_fact_28 ?_
    refine x_iret C0 E (by decide) (by decide) dX4_fact_29 ?_
    exact hp
  · refine x_iload_n C0 rfl dX4_fact_0 ?_
    refine x_tabIn (tgt := 30) C0 (by decide) (by decide) (by rfl) (by decide) dX4_fact_1 ?_
    refine x_iload_n C0 rfl dX4_fact_30 ?_
    refine x_iret C0 E (by decide) (by decide) dX4_fact_31 ?_
    exact hp
  · refine x_iload_n C0 rfl dX4_fact_0 ?_
    refine x_tabIn (tgt := 32) C0 (by decide) (by decide) (by rfl) (by decide) dX4_fact_1 ?_
    refine x_iload_n C0 rfl dX4_fact_32 ?_
    refine x_iret C0 E (by decide) (by decide) dX4_fact_33 ?_
    exact hp
  · refine x_iload_n C0 rfl dX4_fact_0 ?_
    refine x_tabOut (tgt := 34) C0 (Or.inl (by decide)) (by decide) dX4_fact_1 ?_
    refine x_iload C0 rfl dX4_fact_34 ?_
    refine x_iret C0 E (by decide) (by decide) dX4_fact_36 ?_
    exact hp
theorem c_X4_both {S : xTS} {R : xTR} {I : xTI} {J : xTJ} {post : xPost} {c : Nat} {a b : Int32} (h4 : 4 ≤ c) (h10 : c ≤ 10) (hp : post (some (.int (lBoth c a b))) S R I J) : xSpec 1 yX4_both cX4_both 3 (some .int) 0 0 [.int (cE (c, 0)), .int a, .int b] S R I J post := by
  refine xSpec_of mt_X4_both (Nat.le_of_ble_eq_true rfl) (fun G C0 hN hR E hI hZ => ?_)
  change XX G 0 0 0 [some (.int (cE (c, 0))), some (.int a), some (.int b)] [] S R I J
  rcases (show c = 4 ∨ c = 5 ∨ c = 6 ∨ c = 7 ∨ c = 8 ∨ c = 9 ∨ c = 10 by omega) with rfl | rfl | rfl | rfl | rfl | rfl | rfl
  · refine x_iload_n C0 rfl dX4_both_0 ?_
    refine x_tabIn (tgt := 44) C0 (by decide) (by decide) (by rfl) (by decide) dX4_both_1 ?_
    refine x_iload_n C0 rfl dX4_both_44 ?_
    refine x_iload_n C0 rfl dX4_both_45 ?_
    refine x_iadd C0 dX4_both_46 ?_
    refine x_iret C0 E (by decide) (by decide) dX4_both_47 ?_
    exact hp
  · refine x_iload_n C0 rfl dX4_both_0 ?_
    refine x_tabIn (tgt := 48) C0 (by decide) (by decide) (by rfl) (by decide) dX4_both_1 ?_
    refine x_iload_n C0 rfl dX4_both_48 ?_
    refine x_iload_n C0 rfl dX4_both_49 ?_
    refine x_isub C0 dX4_both_50 ?_
    refine x_iret C0 E (by decide) (by decide) dX4_both_51 ?_
    exact hp
  · refine x_iload_n C0 rfl dX4_both_0 ?_
    refine x_tabIn (tgt := 40) C0 (by decide) (by decide) (by rfl) (by decide) dX4_both_1 ?_
    refine x_iload_n C0 rfl dX4_both_40 ?_
    refine x_iload_n C0 rfl dX4_both_41 ?_
    refine x_imul C0 dX4_both_42 ?_
    refine x_iret C0 E (by decide) (by decide) dX4_both_43 ?_
    exact hp
  · refine x_iload_n C0 rfl dX4_both_0 ?_
    refine x_tabIn (tgt := 52) C0 (by decide) (by decide) (by rfl) (by decide) dX4_both_1 ?_
    refine x_iload_n C0 rfl dX4_both_52 ?_
    refine x_iload_n C0 rfl dX4_both_53 ?_
    refine x_icmp_ge (tgt := 61) C0 (by decide) dX4_both_54 (fun h54 => ?_) (fun h54 => ?_)
    · refine x_iconst (v := 0) C0 rfl dX4_both_61 ?_
      refine x_iret C0 E (by decide) (by decide) dX4_both_62 ?_
      have e : lBoth 7 a b = 0 := by
        show (if a < b then 1 else 0) = _
        rw [if_neg (i_nlt.mpr h54)]
      rw [e] at hp; exact hp
    · refine x_iconst (v := 1) C0 rfl dX4_both_57 ?_
      refine x_goto (tgt := 62) C0 (by decide) dX4_both_58 ?_
      refine x_iret C0 E (by decide) (by decide) dX4_both_62 ?_
      have e : lBoth 7 a b = 1 := by
        show (if a < b then 1 else 0) = _
        rw [if_pos (i_nle.mp h54)]
      rw [e] at hp; exact hp
  · refine x_iload_n C0 rfl dX4_both_0 ?_
    refine x_tabIn (tgt := 63) C0 (by decide) (by decide) (by rfl) (by decide) dX4_both_1 ?_
    refine x_iload_n C0 rfl dX4_both_63 ?_
    refine x_iload_n C0 rfl dX4_both_64 ?_
    refine x_icmp_ne (tgt := 72) C0 (by decide) dX4_both_65 (fun h65 => ?_) (fun h65 => ?_)
    · refine x_iconst (v := 0) C0 rfl dX4_both_72 ?_
      refine x_iret C0 E (by decide) (by decide) dX4_both_73 ?_
      have e : lBoth 8 a b = 0 := by
        show (if a = b then 1 else 0) = _
        rw [if_neg h65]
      rw [e] at hp; exact hp
    · refine x_iconst (v := 1) C0 rfl dX4_both_68 ?_
      refine x_goto (tgt := 73) C0 (by decide) dX4_both_69 ?_
      refine x_iret C0 E (by decide) (by decide) dX4_both_73 ?_
      have e : lBoth 8 a b = 1 := by
        show (if a = b then 1 else 0) = _
        rw [if_pos h65]
      rw [e] at hp; exact hp
  · refine x_iload_n C0 rfl dX4_both_0 ?_
    refine x_tabIn (tgt := 74) C0 (by decide) (by decide) (by rfl) (by decide) dX4_both_1 ?_
    refine x_iload_n C0 rfl dX4_both_74 ?_
    refine x_if_eq (tgt := 86) C0 (by decide) dX4_both_75 (fun h75 => ?_) (fun h75 => ?_)
    · refine x_iconst (v := 0) C0 rfl dX4_both_86 ?_
      refine x_iret C0 E (by decide) (by decide) dX4_both_87 ?_
      have e : lBoth 9 a b = 0 := by
        show (if ¬ a = 0 ∧ ¬ b = 0 then 1 else 0) = _
        rw [if_neg (fun z => z.1 h75)]
      rw [e] at hp; exact hp
    · refine x_iload_n C0 rfl dX4_both_78 ?_
      refine x_if_eq (tgt := 86) C0 (by decide) dX4_both_79 (fun h79 => ?_) (fun h79 => ?_)
      · refine x_iconst (v := 0) C0 rfl dX4_both_86 ?_
        refine x_iret C0 E (by decide) (by decide) dX4_both_87 ?_
        have e : lBoth 9 a b = 0 := by
          show (if ¬ a = 0 ∧ ¬ b = 0 then 1 else 0) = _
          rw [if_neg (fun z => z.2 h79)]
        rw [e] at hp; exact hp
      · refine x_iconst (v := 1) C0 rfl dX4_both_82 ?_
        refine x_goto (tgt := 87) C0 (by decide) dX4_both_83 ?_
        refine x_iret C0 E (by decide) (by decide) dX4_both_87 ?_
        have e : lBoth 9 a b = 1 := by
          show (if ¬ a = 0 ∧ ¬ b = 0 then 1 else 0) = _
          rw [if_pos ⟨h75, h79⟩]
        rw [e] at hp; exact hp
  · refine x_iload_n C0 rfl dX4_both_0 ?_
    refine x_tabOut (tgt := 88) C0 (Or.inl (by decide)) (by decide) dX4_both_1 ?_
    refine x_iload_n C0 rfl dX4_both_88 ?_
    refine x_if_ne (tgt := 96) C0 (by decide) dX4_both_89 (fun h89 => ?_) (fun h89 => ?_)
    · refine x_iconst (v := 1) C0 rfl dX4_both_96 ?_
      refine x_goto (tgt := 101) C0 (by decide) dX4_both_97 ?_
      refine x_iret C0 E (by decide) (by decide) dX4_both_101 ?_
      have e : lBoth 10 a b = 1 := by
        show (if ¬ a = 0 ∨ ¬ b = 0 then 1 else 0) = _
        rw [if_pos (Or.inl h89)]
      rw [e] at hp; exact hp
    · refine x_iload_n C0 rfl dX4_both_92 ?_
      refine x_if_eq (tgt := 100) C0 (by decide) dX4_both_93 (fun h93 => ?_) (fun h93 => ?_)
      · refine x_iconst (v := 0) C0 rfl dX4_both_100 ?_
        refine x_iret C0 E (by decide) (by decide) dX4_both_101 ?_
        have e : lBoth 10 a b = 0 := by
          show (if ¬ a = 0 ∨ ¬ b = 0 then 1 else 0) = _
          rw [if_neg (fun z => z.elim (fun y => y h89) (fun y => y h93))]
        rw [e] at hp; exact hp
      · refine x_iconst (v := 1) C0 rfl dX4_both_96 ?_
        refine x_goto (tgt := 101) C0 (by decide) dX4_both_97 ?_
        refine x_iret C0 E (by decide) (by decide) dX4_both_101 ?_
        have e : lBoth 10 a b = 1 := by
          show (if ¬ a = 0 ∨ ¬ b = 0 then 1 else 0) = _
          rw [if_pos (Or.inr h93)]
        rw [e] at hp; exact hp
theorem c_X4_value {S : xTS} {R : xTR} {I : xTI} {J : xTJ} {post : xPost} (hS : fixd S R) {cl : List (Nat × Nat)} (hl : CLw I cl) (h1000 : cl.length ≤ 1000) (sf : lSafe 24 cl 0) {a b c d : Int32} (hp : ∀ I', (∀ q, q ≠ 6 → I' q = I q) → post (some (.int (lVal (fun i => if i = 0 then a else if i = 1 then b else if i = 2 then c else d) cl))) S R I' J) : xSpec 2 yX4_value cX4_value 8 (some .int) 0 0 [.ref 4, .int a, .int b, .int c, .int d] S R I J post := by
  refine xSpec_of mt_X4_value (Nat.le_of_ble_eq_true rfl) (fun G C0 hN hR E hI hZ => ?_)
  change XX G 0 0 0 [some (.ref 4), some (.int a), some (.int b), some (.int c), some (.int d), none, none, none] [] S R I J
  have s4 := hS.sLaw
  have s5 := hS.sCode
  have s6 := hS.sVals
  have r4 := hS.rCode
  have r6 := hS.rVals
  obtain ⟨hl1, hl2⟩ := hl
  have h6 : ∀ r i h y I1 v7, i + r.length = cl.length → (∀ j (hj : j < r.length), I 5 (i + j) = cE r[j]) → lSafe 24 r h → (∀ q, q ≠ 6 → I1 q = I q) → (∀ j, j < h → I1 6 j = y j) → h ≤ 24 → (lRun (fun i => if i = 0 then a else if i = 1 then b else if i = 2 then c else d) r (y, h)).1 0 = lVal (fun i => if i = 0 then a else if i = 1 then b else if i = 2 then c else d) cl → XX G 0 0 6 [some (.ref 4), some (.int a), some (.int b), some (.int c), some (.int d), some (.int (nI h)), some (.int (nI i)), v7] [] S R I1 J := by
    intro r
    induction r with
    | nil =>
      intro i h y I1 v7 hi hc sf s1 hy h24 el
      have hh : h = 1 := sf
      subst hh
      have e4 : I1 4 1 = nI cl.length := by rw [s1 4 (by decide)]; exact hl1
      have hi8 : i = cl.length := by simpa using hi
      refine x_iload C0 rfl dX4_value_6 ?_
      refine x_aload_n C0 rfl dX4_value_8 ?_
      refine x_getI C0 wf_X4_18 (by assumption) rfl dX4_value_9 ?_
      refine x_topi e4 ?_
      refine x_icmp_ge (tgt := 153) C0 (by decide) dX4_value_12 (fun _ => ?_) (fun hkk => absurd ((by rw [hi8]; exact Int32.le_refl _)) hkk)
      refine x_aload_n C0 rfl dX4_value_153 ?_
      refine x_getR C0 wf_X4_15 (by assumption) rfl rfl (by assumption) dX4_value_154 ?_
      refine x_iconst (v := nI 0) C0 rfl dX4_value_157 ?_
      refine x_callS [_, _] C0 (xRf_of hR (by decide) (Nat.zero_le _) (Nat.zero_le _)) ms_X8_get wm_X4_105 dX4_value_158 rfl rfl (Nat.le_of_ble_eq_true rfl) (c_X8_get s6 (by decide) (by decide) ?_)
      refine x_iret C0 E (by decide) (by decide) dX4_value_161 ?_
      rw [hy 0 (by decide)]
      rw [← el] at hp
      exact hp I1 s1
    | cons c0 r ih =>
      intro i h y I1 v7 hi hc sf s1 hy h24 el
      have hlen : (c0 :: r).length = r.length + 1 := rfl
      have e4 : I1 4 1 = nI cl.length := by rw [s1 4 (by decide)]; exact hl1
      have e5 : I1 5 i = cE c0 := by rw [s1 5 (by decide)]; exact hc 0 (by rw [hlen]; omega)
      have hc' : ∀ j (hj : j < r.length), I 5 (i + 1 + j) = cE r[j] := fun j hj => by
        have := hc (j + 1) (by rw [hlen]; omega)
        rw [show i + (j + 1) = i + 1 + j by omega] at this
        exact this
      obtain ⟨o1, o10, n1, n2, sf2⟩ := sf
      have ih := fun h y I1 v7 => ih (i + 1) h y I1 v7 (by omega) hc'
      have el2 : lRun (fun i => if i = 0 then a else if i = 1 then b else if i = 2 then c else d) (c0 :: r) (y, h) = lRun (fun i => if i = 0 then a else if i = 1 then b else if i = 2 then c else d) r (lStep (fun i => if i = 0 then a else if i = 1 then b else if i = 2 then c else d) c0 (y, h)) := rfl
      rw [el2] at el
      have up6 : ∀ q v z, q < 24 → (∀ j, j < z → j ≠ q → I1 6 j = y j) → ∀ j, j < z → u2 I1 6 q v 6 j = upd y q v j := fun q v z hq hz j hj => by
        by_cases e : j = q
        · rw [e, u2_same, upd_eq]
        · rw [u2_off _ _ e, upd_ne e]; exact hz j hj e
      have hs6 : ∀ q v, ∀ p, p ≠ 6 → u2 I1 6 q v p = I p := fun q v p hp => by rw [u2_row _ _ _ hp]; exact s1 p hp
      obtain ⟨o, g⟩ := c0
      rcases (show o = 1 ∨ o = 2 ∨ o = 3 ∨ (4 ≤ o ∧ o ≤ 10) by omega) with ho | ho | ho | ho
      · subst ho
        have hg := n1 rfl
        obtain ⟨hh, sf3⟩ := sf2
        have ec : cE (1, g) = nI g := rfl
        rw [ec] at e5
        refine x_iload C0 rfl dX4_value_6 ?_
        refine x_aload_n C0 rfl dX4_value_8 ?_
        refine x_getI C0 wf_X4_18 (by assumption) rfl dX4_value_9 ?_
        refine x_topi e4 ?_
        refine x_icmp_ge (tgt := 153) C0 (by decide) dX4_value_12 (fun hkk => absurd hkk ((nI_ge (by omega) (by omega)))) (fun _ => ?_)
        refine x_aload_n C0 rfl dX4_value_15 ?_
        refine x_getR C0 wf_X4_9 (by assumption) rfl rfl (by assumption) dX4_value_16 ?_
        refine x_iload C0 rfl dX4_value_19 ?_
        refine x_callS [_, _] C0 (xRf_of hR (by decide) (Nat.zero_le _) (Nat.zero_le _)) ms_X8_get wm_X4_105 dX4_value_21 rfl rfl (Nat.le_of_ble_eq_true rfl) (c_X8_get s5 (by omega) (by decide) ?_)
        refine x_topi e5 ?_
        refine x_istore (L' := [_, _, _, _, _, _, _, _]) C0 hN (by decide) rfl dX4_value_24 ?_
        refine x_iload C0 rfl dX4_value_26 ?_
        refine x_bipush (v := -5) C0 rfl dX4_value_28 ?_
        refine x_icmp_le (tgt := 68) C0 (by decide) dX4_value_30 (fun hkk => absurd hkk ((fun z => absurd z (i_nle.mpr (by rw [Int32.lt_iff_toInt_lt, nI_toInt (by omega), show (-5 : Int32).toInt = -5 from rfl]; omega))))) (fun _ => ?_)
        refine x_aload_n C0 rfl dX4_value_33 ?_
        refine x_getR C0 wf_X4_15 (by assumption) rfl rfl (by assumption) dX4_value_34 ?_
        refine x_iload C0 rfl dX4_value_37 ?_
        refine x_iload C0 rfl dX4_value_39 ?_
        refine x_if_lt (tgt := 49) C0 (by decide) dX4_value_41 (fun hkk => absurd hkk (nI_pos (by omega))) (fun _ => ?_)
        refine x_iload C0 rfl dX4_value_44 ?_
        refine x_goto (tgt := 59) C0 (by decide) dX4_value_46 ?_
        refine x_callS [_, _, _] C0 (xRf_of hR (by decide) (Nat.zero_le _) (Nat.zero_le _)) ms_X8_set wm_X4_22 dX4_value_59 rfl rfl (Nat.le_of_ble_eq_true rfl) (c_X8_set s6 (by omega) (by decide) ?_)
        refine x_iinc (v := nI (h + 1)) (L' := [_, _, _, _, _, _, _, _]) C0 hN rfl (by decide) (nI_inc h) rfl dX4_value_62 ?_
        refine x_goto (tgt := 147) C0 (by decide) dX4_value_65 ?_
        refine x_iinc (v := nI (i + 1)) (L' := [_, _, _, _, _, _, _, _]) C0 hN rfl (by decide) (nI_inc i) rfl dX4_value_147 ?_
        refine x_goto (tgt := 6) C0 (by decide) dX4_value_150 ?_
        exact ih (h + 1) (upd y h (nI g)) _ _ sf3 (hs6 _ _) (up6 h _ _ (by omega) (fun j hj e => hy j (by omega))) (by omega) el
      · subst ho
        have hg := n2 rfl
        obtain ⟨hh, sf3⟩ := sf2
        have fneg : ∀ f, f < 4 → cE (2, f) < 0 ∧ ¬ cE (2, f) ≤ -5 := by decide +kernel
        obtain ⟨fn1, fn2⟩ := fneg g hg
        refine x_iload C0 rfl dX4_value_6 ?_
        refine x_aload_n C0 rfl dX4_value_8 ?_
        refine x_getI C0 wf_X4_18 (by assumption) rfl dX4_value_9 ?_
        refine x_topi e4 ?_
        refine x_icmp_ge (tgt := 153) C0 (by decide) dX4_value_12 (fun hkk => absurd hkk ((nI_ge (by omega) (by omega)))) (fun _ => ?_)
        refine x_aload_n C0 rfl dX4_value_15 ?_
        refine x_getR C0 wf_X4_9 (by assumption) rfl rfl (by assumption) dX4_value_16 ?_
        refine x_iload C0 rfl dX4_value_19 ?_
        refine x_callS [_, _] C0 (xRf_of hR (by decide) (Nat.zero_le _) (Nat.zero_le _)) ms_X8_get wm_X4_105 dX4_value_21 rfl rfl (Nat.le_of_ble_eq_true rfl) (c_X8_get s5 (by omega) (by decide) ?_)
        refine x_topi e5 ?_
        refine x_istore (L' := [_, _, _, _, _, _, _, _]) C0 hN (by decide) rfl dX4_value_24 ?_
        refine x_iload C0 rfl dX4_value_26 ?_
        refine x_bipush (v := -5) C0 rfl dX4_value_28 ?_
        refine x_icmp_le (tgt := 68) C0 (by decide) dX4_value_30 (fun hkk => absurd hkk (fn2)) (fun _ => ?_)
        refine x_aload_n C0 rfl dX4_value_33 ?_
        refine x_getR C0 wf_X4_15 (by assumption) rfl rfl (by assumption) dX4_value_34 ?_
        refine x_iload C0 rfl dX4_value_37 ?_
        refine x_iload C0 rfl dX4_value_39 ?_
        refine x_if_lt (tgt := 49) C0 (by decide) dX4_value_41 (fun _ => ?_) (fun hkk => absurd (fn1) hkk)
        refine x_iload C0 rfl dX4_value_49 ?_
        refine x_iload_n C0 rfl dX4_value_51 ?_
        refine x_iload_n C0 rfl dX4_value_52 ?_
        refine x_iload_n C0 rfl dX4_value_53 ?_
        refine x_iload C0 rfl dX4_value_54 ?_
        refine x_callS [_, _, _, _, _] C0 (xRf_of hR (by decide) (Nat.zero_le _) (Nat.zero_le _)) ms_X4_fact wm_X4_109 dX4_value_56 rfl rfl (Nat.le_of_ble_eq_true rfl) (c_X4_fact hg ?_)
        refine x_callS [_, _, _] C0 (xRf_of hR (by decide) (Nat.zero_le _) (Nat.zero_le _)) ms_X8_set wm_X4_22 dX4_value_59 rfl rfl (Nat.le_of_ble_eq_true rfl) (c_X8_set s6 (by omega) (by decide) ?_)
        refine x_iinc (v := nI (h + 1)) (L' := [_, _, _, _, _, _, _, _]) C0 hN rfl (by decide) (nI_inc h) rfl dX4_value_62 ?_
        refine x_goto (tgt := 147) C0 (by decide) dX4_value_65 ?_
        refine x_iinc (v := nI (i + 1)) (L' := [_, _, _, _, _, _, _, _]) C0 hN rfl (by decide) (nI_inc i) rfl dX4_value_147 ?_
        refine x_goto (tgt := 6) C0 (by decide) dX4_value_150 ?_
        exact ih (h + 1) (upd y h _) _ _ sf3 (hs6 _ _) (up6 h _ _ (by omega) (fun j hj e => hy j (by omega))) (by omega) el
      · subst ho
        obtain ⟨hh, sf3⟩ := sf2
        have ec : cE (3, g) = -5 := rfl
        rw [ec] at e5
        have hsub : nI h - nI 1 = nI (h - 1) := nI_subn hh
        have hyh := hy (h - 1) (by omega)
        refine x_iload C0 rfl dX4_value_6 ?_
        refine x_aload_n C0 rfl dX4_value_8 ?_
        refine x_getI C0 wf_X4_18 (by assumption) rfl dX4_value_9 ?_
        refine x_topi e4 ?_
        refine x_icmp_ge (tgt := 153) C0 (by decide) dX4_value_12 (fun hkk => absurd hkk ((nI_ge (by omega) (by omega)))) (fun _ => ?_)
        refine x_aload_n C0 rfl dX4_value_15 ?_
        refine x_getR C0 wf_X4_9 (by assumption) rfl rfl (by assumption) dX4_value_16 ?_
        refine x_iload C0 rfl dX4_value_19 ?_
        refine x_callS [_, _] C0 (xRf_of hR (by decide) (Nat.zero_le _) (Nat.zero_le _)) ms_X8_get wm_X4_105 dX4_value_21 rfl rfl (Nat.le_of_ble_eq_true rfl) (c_X8_get s5 (by omega) (by decide) ?_)
        refine x_topi e5 ?_
        refine x_istore (L' := [_, _, _, _, _, _, _, _]) C0 hN (by decide) rfl dX4_value_24 ?_
        refine x_iload C0 rfl dX4_value_26 ?_
        refine x_bipush (v := -5) C0 rfl dX4_value_28 ?_
        refine x_icmp_le (tgt := 68) C0 (by decide) dX4_value_30 (fun _ => ?_) (fun hkk => absurd ((Int32.le_refl _)) hkk)
        refine x_iload C0 rfl dX4_value_68 ?_
        refine x_bipush (v := -5) C0 rfl dX4_value_70 ?_
        refine x_icmp_ne (tgt := 108) C0 (by decide) dX4_value_72 (fun hkk => absurd (rfl) hkk) (fun _ => ?_)
        refine x_aload_n C0 rfl dX4_value_75 ?_
        refine x_getR C0 wf_X4_15 (by assumption) rfl rfl (by assumption) dX4_value_76 ?_
        refine x_iload C0 rfl dX4_value_79 ?_
        refine x_iconst (v := nI 1) C0 rfl dX4_value_81 ?_
        refine x_isub C0 dX4_value_82 ?_
        refine x_topi hsub ?_
        refine x_aload_n C0 rfl dX4_value_83 ?_
        refine x_getR C0 wf_X4_15 (by assumption) rfl rfl (by assumption) dX4_value_84 ?_
        refine x_iload C0 rfl dX4_value_87 ?_
        refine x_iconst (v := nI 1) C0 rfl dX4_value_89 ?_
        refine x_isub C0 dX4_value_90 ?_
        refine x_topi hsub ?_
        refine x_callS [_, _] C0 (xRf_of hR (by decide) (Nat.zero_le _) (Nat.zero_le _)) ms_X8_get wm_X4_105 dX4_value_91 rfl rfl (Nat.le_of_ble_eq_true rfl) (c_X8_get s6 (by omega) (by decide) ?_)
        refine x_topi hyh ?_
        refine x_if_ne (tgt := 101) C0 (by decide) dX4_value_94 (fun g94 => ?_) (fun g94 => ?_)
        · refine x_iconst (v := 0) C0 rfl dX4_value_101 ?_
          refine x_callS [_, _, _] C0 (xRf_of hR (by decide) (Nat.zero_le _) (Nat.zero_le _)) ms_X8_set wm_X4_22 dX4_value_102 rfl rfl (Nat.le_of_ble_eq_true rfl) (c_X8_set s6 (by omega) (by decide) ?_)
          refine x_goto (tgt := 147) C0 (by decide) dX4_value_105 ?_
          refine x_iinc (v := nI (i + 1)) (L' := [_, _, _, _, _, _, _, _]) C0 hN rfl (by decide) (nI_inc i) rfl dX4_value_147 ?_
          refine x_goto (tgt := 6) C0 (by decide) dX4_value_150 ?_
          exact ih h (upd y (h - 1) 0) _ _ sf3 (hs6 _ _) (up6 (h - 1) _ _ (by omega) (fun j hj e => hy j hj)) h24 (by
            have e9 : lStep (fun i => if i = 0 then a else if i = 1 then b else if i = 2 then c else d) (3, g) (y, h) = (upd y (h - 1) 0, h) := by
              show (upd y (h - 1) (if y (h - 1) = 0 then 1 else 0), h) = _
              rw [if_neg g94]
            rw [e9] at el
            exact el)
        · refine x_iconst (v := 1) C0 rfl dX4_value_97 ?_
          refine x_goto (tgt := 102) C0 (by decide) dX4_value_98 ?_
          refine x_callS [_, _, _] C0 (xRf_of hR (by decide) (Nat.zero_le _) (Nat.zero_le _)) ms_X8_set wm_X4_22 dX4_value_102 rfl rfl (Nat.le_of_ble_eq_true rfl) (c_X8_set s6 (by omega) (by decide) ?_)
          refine x_goto (tgt := 147) C0 (by decide) dX4_value_105 ?_
          refine x_iinc (v := nI (i + 1)) (L' := [_, _, _, _, _, _, _, _]) C0 hN rfl (by decide) (nI_inc i) rfl dX4_value_147 ?_
          refine x_goto (tgt := 6) C0 (by decide) dX4_value_150 ?_
          exact ih h (upd y (h - 1) 1) _ _ sf3 (hs6 _ _) (up6 (h - 1) _ _ (by omega) (fun j hj e => hy j hj)) h24 (by
            have e9 : lStep (fun i => if i = 0 then a else if i = 1 then b else if i = 2 then c else d) (3, g) (y, h) = (upd y (h - 1) 1, h) := by
              show (upd y (h - 1) (if y (h - 1) = 0 then 1 else 0), h) = _
              rw [if_pos g94]
            rw [e9] at el
            exact el)
      · obtain ⟨h4, h10⟩ := ho
        rw [if_neg (show ¬ (o, g).1 ≤ 2 by show ¬ o ≤ 2; omega), if_neg (show ¬ (o, g).1 = 3 by show ¬ o = 3; omega)] at sf2
        obtain ⟨hh, sf3⟩ := sf2
        obtain ⟨q1, q2, q3⟩ := cE_ops o (by omega) h4
        have ec : cE (o, g) = cE (o, 0) := by
          have g1 : ¬ o = 1 := by omega
          have g2 : ¬ o = 2 := by omega
          simp only [cE, if_neg g1, if_neg g2]
        rw [ec] at e5
        have hdec : nI h + Int32.ofInt (-1) = nI (h - 1) := by
          have := nI_decr (h - 1)
          rw [show h - 1 + 1 = h by omega] at this
          exact this
        have hsub : nI (h - 1) - nI 1 = nI (h - 2) := nI_subn (by omega)
        have y1 := hy (h - 1) (by omega)
        have y2 := hy (h - 2) (by omega)
        refine x_iload C0 rfl dX4_value_6 ?_
        refine x_aload_n C0 rfl dX4_value_8 ?_
        refine x_getI C0 wf_X4_18 (by assumption) rfl dX4_value_9 ?_
        refine x_topi e4 ?_
        refine x_icmp_ge (tgt := 153) C0 (by decide) dX4_value_12 (fun hkk => absurd hkk ((nI_ge (by omega) (by omega)))) (fun _ => ?_)
        refine x_aload_n C0 rfl dX4_value_15 ?_
        refine x_getR C0 wf_X4_9 (by assumption) rfl rfl (by assumption) dX4_value_16 ?_
        refine x_iload C0 rfl dX4_value_19 ?_
        refine x_callS [_, _] C0 (xRf_of hR (by decide) (Nat.zero_le _) (Nat.zero_le _)) ms_X8_get wm_X4_105 dX4_value_21 rfl rfl (Nat.le_of_ble_eq_true rfl) (c_X8_get s5 (by omega) (by decide) ?_)
        refine x_topi e5 ?_
        refine x_istore (L' := [_, _, _, _, _, _, _, _]) C0 hN (by decide) rfl dX4_value_24 ?_
        refine x_iload C0 rfl dX4_value_26 ?_
        refine x_bipush (v := -5) C0 rfl dX4_value_28 ?_
        refine x_icmp_le (tgt := 68) C0 (by decide) dX4_value_30 (fun _ => ?_) (fun hkk => absurd ((i_nlt.mp q3)) hkk)
        refine x_iload C0 rfl dX4_value_68 ?_
        refine x_bipush (v := -5) C0 rfl dX4_value_70 ?_
        refine x_icmp_ne (tgt := 108) C0 (by decide) dX4_value_72 (fun _ => ?_) (fun hkk => absurd hkk (q2))
        refine x_iinc (v := nI (h - 1)) (L' := [_, _, _, _, _, _, _, _]) C0 hN rfl (by decide) hdec rfl dX4_value_108 ?_
        refine x_aload_n C0 rfl dX4_value_111 ?_
        refine x_getR C0 wf_X4_15 (by assumption) rfl rfl (by assumption) dX4_value_112 ?_
        refine x_iload C0 rfl dX4_value_115 ?_
        refine x_iconst (v := nI 1) C0 rfl dX4_value_117 ?_
        refine x_isub C0 dX4_value_118 ?_
        refine x_topi hsub ?_
        refine x_iload C0 rfl dX4_value_119 ?_
        refine x_aload_n C0 rfl dX4_value_121 ?_
        refine x_getR C0 wf_X4_15 (by assumption) rfl rfl (by assumption) dX4_value_122 ?_
        refine x_iload C0 rfl dX4_value_125 ?_
        refine x_iconst (v := nI 1) C0 rfl dX4_value_127 ?_
        refine x_isub C0 dX4_value_128 ?_
        refine x_topi hsub ?_
        refine x_callS [_, _] C0 (xRf_of hR (by decide) (Nat.zero_le _) (Nat.zero_le _)) ms_X8_get wm_X4_105 dX4_value_129 rfl rfl (Nat.le_of_ble_eq_true rfl) (c_X8_get s6 (by omega) (by decide) ?_)
        refine x_topi y2 ?_
        refine x_aload_n C0 rfl dX4_value_132 ?_
        refine x_getR C0 wf_X4_15 (by assumption) rfl rfl (by assumption) dX4_value_133 ?_
        refine x_iload C0 rfl dX4_value_136 ?_
        refine x_callS [_, _] C0 (xRf_of hR (by decide) (Nat.zero_le _) (Nat.zero_le _)) ms_X8_get wm_X4_105 dX4_value_138 rfl rfl (Nat.le_of_ble_eq_true rfl) (c_X8_get s6 (by omega) (by decide) ?_)
        refine x_topi y1 ?_
        refine x_callS [_, _, _] C0 (xRf_of hR (by decide) (Nat.zero_le _) (Nat.zero_le _)) ms_X4_both wm_X4_113 dX4_value_141 rfl rfl (Nat.le_of_ble_eq_true rfl) (c_X4_both h4 h10 ?_)
        refine x_callS [_, _, _] C0 (xRf_of hR (by decide) (Nat.zero_le _) (Nat.zero_le _)) ms_X8_set wm_X4_22 dX4_value_144 rfl rfl (Nat.le_of_ble_eq_true rfl) (c_X8_set s6 (by omega) (by decide) ?_)
        refine x_iinc (v := nI (i + 1)) (L' := [_, _, _, _, _, _, _, _]) C0 hN rfl (by decide) (nI_inc i) rfl dX4_value_147 ?_
        refine x_goto (tgt := 6) C0 (by decide) dX4_value_150 ?_
        exact ih (h - 1) (upd y (h - 2) (lBoth o (y (h - 2)) (y (h - 1)))) _ _ sf3 (hs6 _ _) (up6 (h - 2) _ _ (by omega) (fun j hj e => hy j (by omega))) (by omega) (by
          have e9 : lStep (fun i => if i = 0 then a else if i = 1 then b else if i = 2 then c else d) (o, g) (y, h) = (upd y (h - 2) (lBoth o (y (h - 2)) (y (h - 1))), h - 1) := by
            unfold lStep
            dsimp only
            rw [if_neg (by omega), if_neg (by omega), if_neg (by omega)]
          rw [e9] at el
          exact el)
  refine x_iconst (v := nI 0) C0 rfl dX4_value_0 ?_
  refine x_istore (L' := [_, _, _, _, _, _, _, _]) C0 hN (by decide) rfl dX4_value_1 ?_
  refine x_iconst (v := nI 0) C0 rfl dX4_value_3 ?_
  refine x_istore (L' := [_, _, _, _, _, _, _, _]) C0 hN (by decide) rfl dX4_value_4 ?_
  exact h6 cl 0 0 (fun _ => 0) I none (by omega) (fun j hj => by rw [Nat.zero_add]; exact hl2 j hj) sf (fun _ _ => rfl) (fun j hj => absurd hj (by omega)) (by decide) rfl
