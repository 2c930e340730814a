/-! THE LAW'S OWN evening; the class -/
theorem c_X11_evening {S : xTS} {R : xTR} {I : xTI} {J : xTJ} {post : xPost} (hS : fixd S R) {tp : Nat → Nat} {n : Nat} (T : CTp I tp n) (ro : wOr (R 1 7)) {g : Nat} (hgm : g ∈ [7, 16]) (hf : R 0 2 = some g) {F : pF} (ok : FOk F) (C : CFm I J g F) {e h : Nat} (he : R 0 4 = some e) (hh : R 0 5 = some h) (h25 : h = 25 ∨ h = 29) {m9 : pV} (em : evAll (tTok tp n) F = m9) (h0 : ¬ m9.1.2 = 0 → ∀ R' I' J', (∀ a, a ≠ 1 → (a < h ∨ h + 4 ≤ a) → I' a = I a) → I' 1 1 = 0 → (∀ a, a ≠ 1 → J' a = J a) → (∀ a k, a ≠ 1 ∨ k ≠ 7 → R' a k = R a k) → wOr (R' 1 7) → post (some (.int (nI m9.1.2))) S R' I' J') (h1 : m9.1.2 = 0 → ∀ R' I' J', (∀ a, a ≠ 1 → (a < h ∨ h + 4 ≤ a) → I' a = I a) → I' 1 1 = 0 → (∀ a, a ≠ 1 → J' a = J a) → (∀ a k, (a ≠ 1 ∨ k ≠ 7) → (a ≠ 0 ∨ (k ≠ 4 ∧ k ≠ 5)) → R' a k = R a k) → R' 0 4 = some h → R' 0 5 = some e → wOr (R' 1 7) → CEv I' h F m9.2.1 m9.2.2 → post (some (.int (nI m9.1.2))) S R' I' J') : xSpec 9 yX11_evening cX11_evening 3 (some .int) 0 0 [.ref 0] S R I J post := by
  refine xSpec_of mt_X11_evening (Nat.le_of_ble_eq_true rfl) (fun G C0 hN hR E hI hZ => ?_)
  change XX G 0 0 0 [some (.ref 0), none, none] [] S R I J
  have s1 := hS.sTape
  have s2 := hS.sSigns
  have r0 := hS.rSigns
  obtain ⟨t1, t2, t3⟩ := id T
  have hg7 : 7 ≤ g ∧ g ≤ 16 := by
    rcases List.mem_cons.mp hgm with rfl | h
    · decide
    · rcases List.mem_cons.mp h with rfl | h
      · decide
      · cases h
  have hgF := hS.film hgm
  have k0 := hS.k0
  have zr := hS.sReader
  have h25' : 25 ≤ h := by omega
  refine x_aload_n C0 rfl dX11_evening_0 ?_
  refine x_getR C0 wf_X11_19 k0 rfl rfl (fixd.reader hS) dX11_evening_1 ?_
  refine x_aload_n C0 rfl dX11_evening_4 ?_
  refine x_getR C0 wf_X11_12 k0 rfl rfl (fixd.tape hS) dX11_evening_5 ?_
  refine x_aload_n C0 rfl dX11_evening_8 ?_
  refine x_getR C0 wf_X11_26 k0 rfl rfl hf dX11_evening_9 ?_
  refine x_aload_n C0 rfl dX11_evening_12 ?_
  refine x_getR C0 wf_X11_40 k0 rfl rfl hh dX11_evening_13 ?_
  refine x_callV [_, _, _] C0 hN rfl (xRf_of hR (by decide) (Nat.zero_le _) (Nat.zero_le _)) mv_X7_readEvening wm_X11_116 dX11_evening_16 zr rfl rfl (Nat.le_of_ble_eq_true rfl) (c_X7_readEvening hS T ro hg7.1 hgF ok C h25 hg7.2 em (fun R1 I1 J1 f1 ro1 lt1 e1 => ?_))
  have hS1 := hS.frh f1
  have k01 := hS1.k0
  have zt1 := hS1.sTape
  have r01 : ∀ k, R1 0 k = R 0 k := fun k => f1.2.2.2 0 k (Or.inl (by decide))
  refine x_istore_n (L' := [_, _, _]) C0 hN (by decide) rfl dX11_evening_19 ?_
  refine x_aload_n C0 rfl dX11_evening_20 ?_
  refine x_getR C0 wf_X11_12 k01 rfl rfl (fixd.tape hS1) dX11_evening_21 ?_
  refine x_iconst (v := nI 0) C0 rfl dX11_evening_24 ?_
  refine x_putI C0 wf_X11_89 (by assumption) rfl dX11_evening_25 ?_
  refine x_iload_n C0 rfl dX11_evening_28 ?_
  refine x_if_ne (tgt := 50) C0 (by decide) dX11_evening_29 (fun g29 => ?_) (fun g29 => ?_)
  · refine x_iload_n C0 rfl dX11_evening_50 ?_
    refine x_iret C0 E (by decide) (by decide) dX11_evening_51 ?_
    refine h0 (fun z => g29 (by rw [z]; rfl)) R1 _ J1 (fun a a1 y => ?_) (u2_same _ _ _ _) f1.2.2.1 f1.2.2.2 ro1
    rw [u2_row _ _ _ a1]
    exact f1.1 a a1 y
  · refine x_aload_n C0 rfl dX11_evening_32 ?_
    refine x_getR C0 wf_X11_36 k01 rfl rfl ((r01 4).trans he) dX11_evening_33 ?_
    refine x_astore_n (L' := [_, _, _]) C0 hN (by decide) rfl dX11_evening_36 ?_
    refine x_aload_n C0 rfl dX11_evening_37 ?_
    refine x_aload_n C0 rfl dX11_evening_38 ?_
    refine x_getR C0 wf_X11_40 k01 rfl rfl ((r01 5).trans hh) dX11_evening_39 ?_
    refine x_putQ (r := some h) C0 wf_X11_36 k01 rfl dX11_evening_42 ?_
    refine x_aload_n C0 rfl dX11_evening_45 ?_
    refine x_aload_n C0 rfl dX11_evening_46 ?_
    refine x_putQ (r := some e) C0 wf_X11_40 k01 rfl dX11_evening_47 ?_
    refine x_iload_n C0 rfl dX11_evening_50 ?_
    refine x_iret C0 E (by decide) (by decide) dX11_evening_51 ?_
    have z0 : m9.1.2 = 0 := (nI_eq (b := 0) (Nat.lt_trans lt1 (by decide)) (by decide)).mp g29
    have hR2 : ∀ a k, a ≠ 0 ∨ (k ≠ 4 ∧ k ≠ 5) → u2 (u2 R1 0 4 (some h)) 0 5 (some e) a k = R1 a k := fun a k y => by
      unfold u2
      rw [if_neg (by omega), if_neg (by omega)]
    refine h1 z0 _ _ J1 (fun a a1 y => ?_) (u2_same _ _ _ _) f1.2.2.1 (fun a k y1 y2 => by rw [hR2 a k y2]; exact f1.2.2.2 a k y1) (by rw [u2_off _ _ (by decide), u2_same]) (u2_same _ _ _ _) (by rw [hR2 1 7 (by omega)]; exact ro1) ((e1 z0).congr (fun j _ => u2_row _ _ _ (by omega)))
    rw [u2_row _ _ _ a1]
    exact f1.1 a a1 y
