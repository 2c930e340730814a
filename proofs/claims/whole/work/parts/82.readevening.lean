/-! AN EVENING IS READ, evening; the class -/
def VAt (R : xTR) (I : xTI) (J : xTJ) (tp : Nat → Nat) (n h : Nat) (F : pF) (m : pV) : Prop := TAt R I J tp n m.1 ∧ (m.1.2 = 0 → CEv I h F m.2.1 m.2.2)
theorem c_X7_readEvening {S : xTS} {R : xTR} {I : xTI} {J : xTJ} {post : xPost} (hS : fixd S R) {tp : Nat → Nat} {n : Nat} (T : CTp I tp n) (ro : wOr (R 1 7)) {g : Nat} (hg : 7 ≤ g) (hF : isFilm S R g) {F : pF} (ok : FOk F) (C : CFm I J g F) {h : Nat} (h25 : h = 25 ∨ h = 29) (hg16 : g ≤ 16) {m9 : pV} (em : evAll (tTok tp n) F = m9) (hp : ∀ R' I' J', FrH h R I J R' I' J' → wOr (R' 1 7) → m9.1.2 < 20000 → (m9.1.2 = 0 → CEv I' h F m9.2.1 m9.2.2) → post (some (.int (nI m9.1.2))) S R' I' J') : xSpec 8 yX7_readEvening cX7_readEvening 5 (some .int) 0 0 [.ref 3, .ref 1, .ref g, .ref h] S R I J post := by
  refine xSpec_of mt_X7_readEvening (Nat.le_of_ble_eq_true rfl) (fun G C0 hN hR E hI hZ => ?_)
  change XX G 0 0 0 [some (.ref 3), some (.ref 1), some (.ref g), some (.ref h), none] [] S R I J
  have s1 := hS.sTape
  have s2 := hS.sSigns
  have r0 := hS.rSigns
  obtain ⟨t1, t2, t3⟩ := id T
  have hh25 : 25 ≤ h := by omega
  have zh := (fixd.eve hS h25).1
  have zt := hS.sTape
  have h39 : ∀ R1 I1 J1 v4, FrH h R I J R1 I1 J1 → VAt R1 I1 J1 tp n h F m9 → XX G 0 0 39 [some (.ref 3), some (.ref 1), some (.ref g), some (.ref h), v4] [] S R1 I1 J1 := by
    intro R1 I1 J1 v4 f1 M1
    have A1 := M1.1
    refine x_aload_n C0 rfl dX7_readEvening_39 ?_
    refine x_getI C0 wf_X7_82 (by assumption) rfl dX7_readEvening_40 ?_
    refine x_topi A1.1 ?_
    refine x_iret C0 E (by decide) (by decide) dX7_readEvening_43 ?_
    exact hp R1 I1 J1 f1 A1.2.2.1 A1.2.1 M1.2
  have h12 : ∀ j k R1 I1 J1 m, k + j = 1000 → FrH h R I J R1 I1 J1 → VAt R1 I1 J1 tp n h F m → evLoop (tTok tp n) F j m = m9 → XX G 0 0 12 [some (.ref 3), some (.ref 1), some (.ref g), some (.ref h), some (.int (nI k))] [] S R1 I1 J1 := by
    intro j
    induction j with
    | zero =>
      intro k R1 I1 J1 m hk f1 M1 el
      have hk8 : k = 1000 := by omega
      subst hk8
      refine x_iload C0 rfl dX7_readEvening_12 ?_
      refine x_sipush (v := nI 1000) C0 rfl dX7_readEvening_14 ?_
      refine x_icmp_ge (tgt := 39) C0 (by decide) dX7_readEvening_17 (fun _ => ?_) (fun hkk => absurd ((Int32.le_refl _)) hkk)
      exact h39 R1 I1 J1 _ f1 (by rw [← el]; exact M1)
    | succ j ih =>
      intro k R1 I1 J1 m hk f1 M1 el
      have elu : evLoop (tTok tp n) F (j + 1) m = if m.1.2 = 0 ∧ ((tTok tp n) m.1.1).1 ≠ 0 then evLoop (tTok tp n) F j (evLine (tTok tp n) F m) else m := rfl
      rw [elu] at el
      have hS1 := hS.frh f1
      have T1 := T.frh hh25 f1
      have C1 := C.frh hg hg16 hh25 f1
      have hF1 := hF.of (fun k => f1.2.2.2 g k (Or.inl (by omega)))
      have A1 := M1.1
      have ih := fun R2 I2 J2 m => ih (k + 1) R2 I2 J2 m (by omega)
      refine x_iload C0 rfl dX7_readEvening_12 ?_
      refine x_sipush (v := nI 1000) C0 rfl dX7_readEvening_14 ?_
      refine x_icmp_ge (tgt := 39) C0 (by decide) dX7_readEvening_17 (fun hkk => absurd hkk ((nI_ge (b := 1000) (by omega) (by omega)))) (fun _ => ?_)
      refine x_aload_n C0 rfl dX7_readEvening_20 ?_
      refine x_callV [] C0 hN rfl (xRf_of hR (by decide) (Nat.zero_le _) (Nat.zero_le _)) mv_X9_goesOn wm_X7_35 dX7_readEvening_21 (by assumption) rfl rfl (Nat.le_of_ble_eq_true rfl) (c_X9_goesOn hS1 T1 A1 (fun g21 => ?_) (fun g21 => ?_))
      · refine x_if_eq (tgt := 39) C0 (by decide) dX7_readEvening_24 (fun hkk => absurd hkk (by decide)) (fun _ => ?_)
        refine x_aload_n C0 rfl dX7_readEvening_27 ?_
        refine x_aload_n C0 rfl dX7_readEvening_28 ?_
        refine x_aload_n C0 rfl dX7_readEvening_29 ?_
        rw [if_pos g21] at el
        refine x_callS [_, _, _] C0 (xRf_of hR (by decide) (Nat.zero_le _) (Nat.zero_le _)) ms_X7_readEveningLine wm_X7_198 dX7_readEvening_30 rfl rfl (Nat.le_of_ble_eq_true rfl) (c_X7_readEveningLine hS1 T1 A1 hg hF1 ok C1 h25 hg16 (M1.2 g21.1) (fun R2 I2 J2 f2 A2 e2 => ?_))
        refine x_iinc (v := nI (k + 1)) (L' := [_, _, _, _, _]) C0 hN rfl (by decide) (nI_inc k) rfl dX7_readEvening_33 ?_
        refine x_goto (tgt := 12) C0 (by decide) dX7_readEvening_36 ?_
        exact ih R2 I2 J2 _ (f1.trans f2) ⟨A2, e2⟩ el
      · refine x_if_eq (tgt := 39) C0 (by decide) dX7_readEvening_24 (fun _ => ?_) (fun hkk => absurd (by decide) hkk)
        rw [if_neg g21] at el
        exact h39 R1 I1 J1 _ f1 (by rw [← el]; exact M1)
  refine x_aload_n C0 rfl dX7_readEvening_0 ?_
  refine x_iconst (v := nI 0) C0 rfl dX7_readEvening_1 ?_
  refine x_putI C0 wf_X7_193 zh rfl dX7_readEvening_2 ?_
  refine x_aload_n C0 rfl dX7_readEvening_5 ?_
  have s2 : ∀ a, a ≠ h → u2 I h 0 (nI 0) a = I a := fun a y => u2_row _ _ _ y
  have f0 : FrH h R I J R (u2 I h 0 (nI 0)) J := ⟨fun a h1 y => s2 a (by omega), by rw [s2 1 (by omega)], fun _ _ => rfl, fun _ _ _ => rfl⟩
  have e0 : u2 I h 0 (nI 0) h 0 = nI 0 := u2_same _ _ _ _
  generalize u2 I h 0 (nI 0) = I2 at s2 f0 e0 ⊢
  refine x_callV [] C0 hN rfl (xRf_of hR (by decide) (Nat.zero_le _) (Nat.zero_le _)) mv_X9_begin wm_X7_30 dX7_readEvening_6 (by assumption) rfl rfl (Nat.le_of_ble_eq_true rfl) (c_X9_begin hS (T.frh hh25 f0) ro (fun R3 I3 J3 f3 A3 => ?_))
  refine x_iconst (v := nI 0) C0 rfl dX7_readEvening_9 ?_
  refine x_istore (L' := [_, _, _, _, _]) C0 hN (by decide) rfl dX7_readEvening_10 ?_
  refine h12 1000 0 R3 I3 J3 ((0, 0), 0, fun _ => (0, 0, 0, 0)) (by decide) (f0.trans (FrH.tfr f3)) ⟨A3, fun _ => ⟨by decide, ?_, fun i hi => absurd hi (Nat.not_lt_zero i)⟩⟩ em
  rw [f3.1 h (by omega)]
  exact e0
