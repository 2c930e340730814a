/-! THE LAW: deeds, what is told, marks, the tape -/
theorem again_ok {F : pF} {q : Nat} {x : xRow} (h : okH F q x) (hq : q < 1000) : ∀ v, x 1 + 1 = v → ¬ v = -1 := by
  obtain ⟨-, r, hr, e⟩ := h
  intro v hv z
  rw [e] at hv
  rw [← hv] at z
  have h2_ : nI (r + 1) = -1 := (nI_add r 1).symm.trans z
  have h3_ : (0 : Int32) ≤ nI (r + 1) := (nI_le_iff (a := 0) (by decide) (by omega)).mpr (Nat.zero_le _)
  rw [h2_] at h3_
  exact absurd h3_ (by decide)
theorem law_6 {G : xG} {rt : Option FieldType} {cells slots L i : Nat} {xs : Nat → Int32} {x5_ x6_ : Option Value} {R : xTR} {I : xTI} {J : xTJ} {f g e h : Nat} {tp : Nat → Nat} {n : Nat} {F : pF} {lw : Option (List (Nat × Nat))} {x : xRow} {us : Nat → xRow} {u : Nat} {td : xRow} {mk : Nat → Bool} {mx mt : Nat → xRow} {ev : Nat} {ln : Nat → Nat × Nat × Nat × Nat} {q : Nat} (C0_ : XC G RL cL_law rt) (hN : xnL G 7) (hX : xScr G L xs) (hRm : xRm G cells slots) (hi : i + 7 ≤ L) (hL : L ≤ 3584) (hq : q < 1000) (H : WL R I J f g e h tp n F lw x us u td mk mx mt ev ln q) (k : xNext G cells slots i q) : XX G cells slots 492 [some (.ref 10300), some (.ref 0), some (.ref 135), some (.ref 155), some (.int (nI i)), x5_, x6_] [] SALL R I J := by
  have hr := H.1.1
  have hS : fixd SALL R := ⟨rfl, hr.2.2.2.2.2.2.2.2.2⟩
  have hM := hS.model
  have hf := hr.2.2.2.2.1
  refine x_aload_n C0_ rfl dL_law_492 ?_
  refine x_callV [] C0_ hN rfl (hRm _ (by decide)).le mv_X11_show wm_L_48 dL_law_493 (fixd.k0 hS) rfl rfl (Nat.le_of_ble_eq_true rfl) (c_X11_show hS hf H.1.2.2.1 H.1.2.2.2.2.2.1 (fun I1_ q1_ => ?_))
  have M1_ := H.hiFD q1_.1
  refine x_aload_n C0_ rfl dL_law_496 ?_
  refine x_callV [] C0_ hN rfl (hRm _ (by decide)).le mv_X12_show wm_L_51 dL_law_497 (isModel.k0 hM) rfl rfl (Nat.le_of_ble_eq_true rfl) (c_X12_show hM M1_.1 M1_.2.2.2.2.1 (fun I2_ q2_ => ?_))
  refine x_icmp_eq (tgt := 1479) C0_ (by decide) dL_law_500 (fun _ => ?_) (fun hkk => absurd (rfl) hkk)
  exact k _ _ _ _ _ _ _ (Nat.le_succ _) (Nat.le_add_right _ _) ⟨_, _, _, _, _, _, _, _, _, _, _, _, _, _, _, _, _, H.deed (dShow_good H.1.2.1 H.2.2.1) q1_ q2_⟩
theorem law_8 {G : xG} {rt : Option FieldType} {cells slots L i : Nat} {xs : Nat → Int32} {x5_ x6_ : Option Value} {R : xTR} {I : xTI} {J : xTJ} {f g e h : Nat} {tp : Nat → Nat} {n : Nat} {F : pF} {lw : Option (List (Nat × Nat))} {x : xRow} {us : Nat → xRow} {u : Nat} {td : xRow} {mk : Nat → Bool} {mx mt : Nat → xRow} {ev : Nat} {ln : Nat → Nat × Nat × Nat × Nat} {q : Nat} (C0_ : XC G RL cL_law rt) (hN : xnL G 7) (hX : xScr G L xs) (hRm : xRm G cells slots) (hi : i + 7 ≤ L) (hL : L ≤ 3584) (hq : q < 1000) (H : WL R I J f g e h tp n F lw x us u td mk mx mt ev ln q) (k : xNext G cells slots i q) : XX G cells slots 570 [some (.ref 10300), some (.ref 0), some (.ref 135), some (.ref 155), some (.int (nI i)), x5_, x6_] [] SALL R I J := by
  have hr := H.1.1
  have hS : fixd SALL R := ⟨rfl, hr.2.2.2.2.2.2.2.2.2⟩
  have hM := hS.model
  have hf := hr.2.2.2.2.1
  refine x_aload_n C0_ rfl dL_law_570 ?_
  refine x_aload_n C0_ rfl dL_law_571 ?_
  refine x_iload C0_ rfl dL_law_572 ?_
  refine x_iconst (v := nI 1) C0_ rfl dL_law_574 ?_
  refine x_iaddN C0_ dL_law_575 ?_
  refine x_scr C0_ hX (by omega) hL dL_law_576 ?_
  refine x_callV [_] C0_ hN rfl (hRm _ (by decide)).le mv_X11_cut wm_L_57 dL_law_577 (fixd.k0 hS) rfl rfl (Nat.le_of_ble_eq_true rfl) (c_X11_cut hS hf H.1.2.2.1 H.1.2.2.2.2.2.1 (fun I1_ q1_ => ?_))
  have M1_ := H.hiFD q1_.1
  refine x_aload_n C0_ rfl dL_law_580 ?_
  refine x_aload_n C0_ rfl dL_law_581 ?_
  refine x_iload C0_ rfl dL_law_582 ?_
  refine x_iconst (v := nI 1) C0_ rfl dL_law_584 ?_
  refine x_iaddN C0_ dL_law_585 ?_
  refine x_scr C0_ hX (by omega) hL dL_law_586 ?_
  refine x_callV [_] C0_ hN rfl (hRm _ (by decide)).le mv_X12_cut wm_L_61 dL_law_587 (isModel.k0 hM) rfl rfl (Nat.le_of_ble_eq_true rfl) (c_X12_cut hM M1_.1 M1_.2.2.2.2.1 (fun I2_ q2_ => ?_))
  refine x_icmp_eq (tgt := 1479) C0_ (by decide) dL_law_590 (fun _ => ?_) (fun hkk => absurd (rfl) hkk)
  exact k _ _ _ _ _ _ _ (Nat.le_succ _) (Nat.le_add_right _ _) ⟨_, _, _, _, _, _, _, _, _, _, _, _, _, _, _, _, _, H.deed (dCut_good H.1.2.1 H.2.2.1) q1_ q2_⟩
theorem law_9 {G : xG} {rt : Option FieldType} {cells slots L i : Nat} {xs : Nat → Int32} {x5_ x6_ : Option Value} {R : xTR} {I : xTI} {J : xTJ} {f g e h : Nat} {tp : Nat → Nat} {n : Nat} {F : pF} {lw : Option (List (Nat × Nat))} {x : xRow} {us : Nat → xRow} {u : Nat} {td : xRow} {mk : Nat → Bool} {mx mt : Nat → xRow} {ev : Nat} {ln : Nat → Nat × Nat × Nat × Nat} {q : Nat} (C0_ : XC G RL cL_law rt) (hN : xnL G 7) (hX : xScr G L xs) (hRm : xRm G cells slots) (hi : i + 7 ≤ L) (hL : L ≤ 3584) (hq : q < 1000) (H : WL R I J f g e h tp n F lw x us u td mk mx mt ev ln q) (k : xNext G cells slots i q) : XX G cells slots 595 [some (.ref 10300), some (.ref 0), some (.ref 135), some (.ref 155), some (.int (nI i)), x5_, x6_] [] SALL R I J := by
  have hr := H.1.1
  have hS : fixd SALL R := ⟨rfl, hr.2.2.2.2.2.2.2.2.2⟩
  have hM := hS.model
  have hf := hr.2.2.2.2.1
  refine x_aload_n C0_ rfl dL_law_595 ?_
  refine x_aload_n C0_ rfl dL_law_596 ?_
  refine x_iload C0_ rfl dL_law_597 ?_
  refine x_iconst (v := nI 1) C0_ rfl dL_law_599 ?_
  refine x_iaddN C0_ dL_law_600 ?_
  refine x_scr C0_ hX (by omega) hL dL_law_601 ?_
  refine x_aload_n C0_ rfl dL_law_602 ?_
  refine x_iload C0_ rfl dL_law_603 ?_
  refine x_iconst (v := nI 2) C0_ rfl dL_law_605 ?_
  refine x_iaddN C0_ dL_law_606 ?_
  refine x_scr C0_ hX (by omega) hL dL_law_607 ?_
  refine x_callV [_, _] C0_ hN rfl (hRm _ (by decide)).le mv_X11_talk wm_L_62 dL_law_608 (fixd.k0 hS) rfl rfl (Nat.le_of_ble_eq_true rfl) (c_X11_talk hS hf H.1.2.2.1 H.1.2.2.2.2.2.1 (fun I1_ q1_ => ?_))
  have M1_ := H.hiFD q1_.1
  refine x_aload_n C0_ rfl dL_law_611 ?_
  refine x_aload_n C0_ rfl dL_law_612 ?_
  refine x_iload C0_ rfl dL_law_613 ?_
  refine x_iconst (v := nI 1) C0_ rfl dL_law_615 ?_
  refine x_iaddN C0_ dL_law_616 ?_
  refine x_scr C0_ hX (by omega) hL dL_law_617 ?_
  refine x_aload_n C0_ rfl dL_law_618 ?_
  refine x_iload C0_ rfl dL_law_619 ?_
  refine x_iconst (v := nI 2) C0_ rfl dL_law_621 ?_
  refine x_iaddN C0_ dL_law_622 ?_
  refine x_scr C0_ hX (by omega) hL dL_law_623 ?_
  refine x_callV [_, _] C0_ hN rfl (hRm _ (by decide)).le mv_X12_talk wm_L_65 dL_law_624 (isModel.k0 hM) rfl rfl (Nat.le_of_ble_eq_true rfl) (c_X12_talk hM M1_.1 M1_.2.2.2.2.1 (fun I2_ q2_ => ?_))
  refine x_icmp_eq (tgt := 1479) C0_ (by decide) dL_law_627 (fun _ => ?_) (fun hkk => absurd (rfl) hkk)
  exact k _ _ _ _ _ _ _ (Nat.le_succ _) (Nat.le_add_right _ _) ⟨_, _, _, _, _, _, _, _, _, _, _, _, _, _, _, _, _, H.deed (dTalk_good H.1.2.1 H.2.2.1) q1_ q2_⟩
theorem law_10 {G : xG} {rt : Option FieldType} {cells slots L i : Nat} {xs : Nat → Int32} {x5_ x6_ : Option Value} {R : xTR} {I : xTI} {J : xTJ} {f g e h : Nat} {tp : Nat → Nat} {n : Nat} {F : pF} {lw : Option (List (Nat × Nat))} {x : xRow} {us : Nat → xRow} {u : Nat} {td : xRow} {mk : Nat → Bool} {mx mt : Nat → xRow} {ev : Nat} {ln : Nat → Nat × Nat × Nat × Nat} {q : Nat} (C0_ : XC G RL cL_law rt) (hN : xnL G 7) (hX : xScr G L xs) (hRm : xRm G cells slots) (hi : i + 7 ≤ L) (hL : L ≤ 3584) (hq : q < 1000) (H : WL R I J f g e h tp n F lw x us u td mk mx mt ev ln q) (k : xNext G cells slots i q) : XX G cells slots 632 [some (.ref 10300), some (.ref 0), some (.ref 135), some (.ref 155), some (.int (nI i)), x5_, x6_] [] SALL R I J := by
  have hr := H.1.1
  have hS : fixd SALL R := ⟨rfl, hr.2.2.2.2.2.2.2.2.2⟩
  have hM := hS.model
  have hf := hr.2.2.2.2.1
  refine x_aload_n C0_ rfl dL_law_632 ?_
  refine x_callV [] C0_ hN rfl (hRm _ (by decide)).le mv_X11_again wm_L_66 dL_law_633 (fixd.k0 hS) rfl rfl (Nat.le_of_ble_eq_true rfl) (c_X11_again hS hf H.1.2.2.1 (again_ok H.2.2.1 hq) H.1.2.2.2.2.2.1 (fun I1_ q1_ => ?_))
  have M1_ := H.hiFD q1_.1
  refine x_aload_n C0_ rfl dL_law_636 ?_
  refine x_callV [] C0_ hN rfl (hRm _ (by decide)).le mv_X12_again wm_L_69 dL_law_637 (isModel.k0 hM) rfl rfl (Nat.le_of_ble_eq_true rfl) (c_X12_again hM M1_.1 M1_.2.2.2.2.1 (fun I2_ q2_ => ?_))
  refine x_icmp_eq (tgt := 1479) C0_ (by decide) dL_law_640 (fun _ => ?_) (fun hkk => absurd (rfl) hkk)
  exact k _ _ _ _ _ _ _ (Nat.le_succ _) (Nat.le_add_right _ _) ⟨_, _, _, _, _, _, _, _, _, _, _, _, _, _, _, _, _, H.deed (dAgain_good H.2.2.1) q1_ q2_⟩
theorem law_7 {G : xG} {rt : Option FieldType} {cells slots L i : Nat} {xs : Nat → Int32} {x5_ x6_ : Option Value} {R : xTR} {I : xTI} {J : xTJ} {f g e h : Nat} {tp : Nat → Nat} {n : Nat} {F : pF} {lw : Option (List (Nat × Nat))} {x : xRow} {us : Nat → xRow} {u : Nat} {td : xRow} {mk : Nat → Bool} {mx mt : Nat → xRow} {ev : Nat} {ln : Nat → Nat × Nat × Nat × Nat} {q : Nat} (C0_ : XC G RL cL_law rt) (hN : xnL G 7) (hX : xScr G L xs) (hRm : xRm G cells slots) (hi : i + 7 ≤ L) (hL : L ≤ 3584) (hq : q < 1000) (H : WL R I J f g e h tp n F lw x us u td mk mx mt ev ln q) (k : xNext G cells slots i q) : XX G cells slots 505 [some (.ref 10300), some (.ref 0), some (.ref 135), some (.ref 155), some (.int (nI i)), x5_, x6_] [] SALL R I J := by
  have hr := H.1.1
  have hS : fixd SALL R := ⟨rfl, hr.2.2.2.2.2.2.2.2.2⟩
  have hM := hS.model
  have hf := hr.2.2.2.2.1
  by_cases hz : xs (i + 3) = 0
  ·
    refine x_aload_n C0_ rfl dL_law_505 ?_
    refine x_aload_n C0_ rfl dL_law_506 ?_
    refine x_iload C0_ rfl dL_law_507 ?_
    refine x_iconst (v := nI 1) C0_ rfl dL_law_509 ?_
    refine x_iaddN C0_ dL_law_510 ?_
    refine x_scr C0_ hX (by omega) hL dL_law_511 ?_
    refine x_aload_n C0_ rfl dL_law_512 ?_
    refine x_iload C0_ rfl dL_law_513 ?_
    refine x_iconst (v := nI 2) C0_ rfl dL_law_515 ?_
    refine x_iaddN C0_ dL_law_516 ?_
    refine x_scr C0_ hX (by omega) hL dL_law_517 ?_
    refine x_aload_n C0_ rfl dL_law_518 ?_
    refine x_iload C0_ rfl dL_law_519 ?_
    refine x_iconst (v := nI 3) C0_ rfl dL_law_521 ?_
    refine x_iaddN C0_ dL_law_522 ?_
    refine x_scr C0_ hX (by omega) hL dL_law_523 ?_
    refine x_if_eq (tgt := 531) C0_ (by decide) dL_law_524 (fun _ => ?_) (fun hkk => absurd (hz) hkk)
    refine x_iconst (v := nI 0) C0_ rfl dL_law_531 ?_
    refine x_callV [_, _, _] C0_ hN rfl (hRm _ (by decide)).le mv_X11_write wm_L_52 dL_law_532 (fixd.k0 hS) rfl rfl (Nat.le_of_ble_eq_true rfl) (c_X11_write hS hf H.1.2.2.1 H.1.2.2.2.2.2.1 (fun I1_ q1_ => ?_))
    have M1_ := H.hiFD q1_.1
    refine x_aload_n C0_ rfl dL_law_535 ?_
    refine x_aload_n C0_ rfl dL_law_536 ?_
    refine x_iload C0_ rfl dL_law_537 ?_
    refine x_iconst (v := nI 1) C0_ rfl dL_law_539 ?_
    refine x_iaddN C0_ dL_law_540 ?_
    refine x_scr C0_ hX (by omega) hL dL_law_541 ?_
    refine x_aload_n C0_ rfl dL_law_542 ?_
    refine x_iload C0_ rfl dL_law_543 ?_
    refine x_iconst (v := nI 2) C0_ rfl dL_law_545 ?_
    refine x_iaddN C0_ dL_law_546 ?_
    refine x_scr C0_ hX (by omega) hL dL_law_547 ?_
    refine x_aload_n C0_ rfl dL_law_548 ?_
    refine x_iload C0_ rfl dL_law_549 ?_
    refine x_iconst (v := nI 3) C0_ rfl dL_law_551 ?_
    refine x_iaddN C0_ dL_law_552 ?_
    refine x_scr C0_ hX (by omega) hL dL_law_553 ?_
    refine x_if_eq (tgt := 561) C0_ (by decide) dL_law_554 (fun _ => ?_) (fun hkk => absurd (hz) hkk)
    refine x_iconst (v := nI 0) C0_ rfl dL_law_561 ?_
    refine x_callV [_, _, _] C0_ hN rfl (hRm _ (by decide)).le mv_X12_write wm_L_56 dL_law_562 (isModel.k0 hM) rfl rfl (Nat.le_of_ble_eq_true rfl) (c_X12_write hM M1_.1 M1_.2.2.2.2.1 (fun I2_ q2_ => ?_))
    refine x_icmp_eq (tgt := 1479) C0_ (by decide) dL_law_565 (fun _ => ?_) (fun hkk => absurd (rfl) hkk)
    exact k _ _ _ _ _ _ _ (Nat.le_succ _) (Nat.le_add_right _ _) ⟨_, _, _, _, _, _, _, _, _, _, _, _, _, _, _, _, _, H.deed (dWrite_good H.1.2.1 H.2.2.1) q1_ q2_⟩
  ·
    refine x_aload_n C0_ rfl dL_law_505 ?_
    refine x_aload_n C0_ rfl dL_law_506 ?_
    refine x_iload C0_ rfl dL_law_507 ?_
    refine x_iconst (v := nI 1) C0_ rfl dL_law_509 ?_
    refine x_iaddN C0_ dL_law_510 ?_
    refine x_scr C0_ hX (by omega) hL dL_law_511 ?_
    refine x_aload_n C0_ rfl dL_law_512 ?_
    refine x_iload C0_ rfl dL_law_513 ?_
    refine x_iconst (v := nI 2) C0_ rfl dL_law_515 ?_
    refine x_iaddN C0_ dL_law_516 ?_
    refine x_scr C0_ hX (by omega) hL dL_law_517 ?_
    refine x_aload_n C0_ rfl dL_law_518 ?_
    refine x_iload C0_ rfl dL_law_519 ?_
    refine x_iconst (v := nI 3) C0_ rfl dL_law_521 ?_
    refine x_iaddN C0_ dL_law_522 ?_
    refine x_scr C0_ hX (by omega) hL dL_law_523 ?_
    refine x_if_eq (tgt := 531) C0_ (by decide) dL_law_524 (fun hkk => absurd hkk (hz)) (fun _ => ?_)
    refine x_iconst (v := nI 1) C0_ rfl dL_law_527 ?_
    refine x_goto (tgt := 532) C0_ (by decide) dL_law_528 ?_
    refine x_callV [_, _, _] C0_ hN rfl (hRm _ (by decide)).le mv_X11_write wm_L_52 dL_law_532 (fixd.k0 hS) rfl rfl (Nat.le_of_ble_eq_true rfl) (c_X11_write hS hf H.1.2.2.1 H.1.2.2.2.2.2.1 (fun I1_ q1_ => ?_))
    have M1_ := H.hiFD q1_.1
    refine x_aload_n C0_ rfl dL_law_535 ?_
    refine x_aload_n C0_ rfl dL_law_536 ?_
    refine x_iload C0_ rfl dL_law_537 ?_
    refine x_iconst (v := nI 1) C0_ rfl dL_law_539 ?_
    refine x_iaddN C0_ dL_law_540 ?_
    refine x_scr C0_ hX (by omega) hL dL_law_541 ?_
    refine x_aload_n C0_ rfl dL_law_542 ?_
    refine x_iload C0_ rfl dL_law_543 ?_
    refine x_iconst (v := nI 2) C0_ rfl dL_law_545 ?_
    refine x_iaddN C0_ dL_law_546 ?_
    refine x_scr C0_ hX (by omega) hL dL_law_547 ?_
    refine x_aload_n C0_ rfl dL_law_548 ?_
    refine x_iload C0_ rfl dL_law_549 ?_
    refine x_iconst (v := nI 3) C0_ rfl dL_law_551 ?_
    refine x_iaddN C0_ dL_law_552 ?_
    refine x_scr C0_ hX (by omega) hL dL_law_553 ?_
    refine x_if_eq (tgt := 561) C0_ (by decide) dL_law_554 (fun hkk => absurd hkk (hz)) (fun _ => ?_)
    refine x_iconst (v := nI 1) C0_ rfl dL_law_557 ?_
    refine x_goto (tgt := 562) C0_ (by decide) dL_law_558 ?_
    refine x_callV [_, _, _] C0_ hN rfl (hRm _ (by decide)).le mv_X12_write wm_L_56 dL_law_562 (isModel.k0 hM) rfl rfl (Nat.le_of_ble_eq_true rfl) (c_X12_write hM M1_.1 M1_.2.2.2.2.1 (fun I2_ q2_ => ?_))
    refine x_icmp_eq (tgt := 1479) C0_ (by decide) dL_law_565 (fun _ => ?_) (fun hkk => absurd (rfl) hkk)
    exact k _ _ _ _ _ _ _ (Nat.le_succ _) (Nat.le_add_right _ _) ⟨_, _, _, _, _, _, _, _, _, _, _, _, _, _, _, _, _, H.deed (dWrite_good H.1.2.1 H.2.2.1) q1_ q2_⟩
theorem law_15 {G : xG} {rt : Option FieldType} {cells slots L i : Nat} {xs : Nat → Int32} {x5_ x6_ : Option Value} {R : xTR} {I : xTI} {J : xTJ} {f g e h : Nat} {tp : Nat → Nat} {n : Nat} {F : pF} {lw : Option (List (Nat × Nat))} {x : xRow} {us : Nat → xRow} {u : Nat} {td : xRow} {mk : Nat → Bool} {mx mt : Nat → xRow} {ev : Nat} {ln : Nat → Nat × Nat × Nat × Nat} {q : Nat} (C0_ : XC G RL cL_law rt) (hN : xnL G 7) (hX : xScr G L xs) (hRm : xRm G cells slots) (hi : i + 7 ≤ L) (hL : L ≤ 3584) (hq : q < 1000) (H : WL R I J f g e h tp n F lw x us u td mk mx mt ev ln q) (k : xNext G cells slots i q) : XX G cells slots 745 [some (.ref 10300), some (.ref 0), some (.ref 135), some (.ref 155), some (.int (nI i)), x5_, x6_] [] SALL R I J := by
  have hr := H.1.1
  have hS : fixd SALL R := ⟨rfl, hr.2.2.2.2.2.2.2.2.2⟩
  have hM := hS.model
  have hf := hr.2.2.2.2.1
  by_cases hz : xs (i + 3) = 0
  ·
    refine x_aload_n C0_ rfl dL_law_745 ?_
    refine x_aload_n C0_ rfl dL_law_746 ?_
    refine x_iload C0_ rfl dL_law_747 ?_
    refine x_iconst (v := nI 1) C0_ rfl dL_law_749 ?_
    refine x_iaddN C0_ dL_law_750 ?_
    refine x_scr C0_ hX (by omega) hL dL_law_751 ?_
    refine x_aload_n C0_ rfl dL_law_752 ?_
    refine x_iload C0_ rfl dL_law_753 ?_
    refine x_iconst (v := nI 2) C0_ rfl dL_law_755 ?_
    refine x_iaddN C0_ dL_law_756 ?_
    refine x_scr C0_ hX (by omega) hL dL_law_757 ?_
    refine x_aload_n C0_ rfl dL_law_758 ?_
    refine x_iload C0_ rfl dL_law_759 ?_
    refine x_iconst (v := nI 3) C0_ rfl dL_law_761 ?_
    refine x_iaddN C0_ dL_law_762 ?_
    refine x_scr C0_ hX (by omega) hL dL_law_763 ?_
    refine x_if_eq (tgt := 771) C0_ (by decide) dL_law_764 (fun _ => ?_) (fun hkk => absurd (hz) hkk)
    refine x_iconst (v := nI 0) C0_ rfl dL_law_771 ?_
    refine x_callV [_, _, _] C0_ hN rfl (hRm _ (by decide)).le mv_X11_forge wm_L_88 dL_law_772 (fixd.k0 hS) rfl rfl (Nat.le_of_ble_eq_true rfl) (c_X11_forge hS hf H.1.2.2.1 (fun I1_ q1_ => ?_))
    have H1_ := H.fq q1_
    refine x_aload_n C0_ rfl dL_law_775 ?_
    refine x_aload_n C0_ rfl dL_law_776 ?_
    refine x_iload C0_ rfl dL_law_777 ?_
    refine x_iconst (v := nI 1) C0_ rfl dL_law_779 ?_
    refine x_iaddN C0_ dL_law_780 ?_
    refine x_scr C0_ hX (by omega) hL dL_law_781 ?_
    refine x_aload_n C0_ rfl dL_law_782 ?_
    refine x_iload C0_ rfl dL_law_783 ?_
    refine x_iconst (v := nI 2) C0_ rfl dL_law_785 ?_
    refine x_iaddN C0_ dL_law_786 ?_
    refine x_scr C0_ hX (by omega) hL dL_law_787 ?_
    refine x_aload_n C0_ rfl dL_law_788 ?_
    refine x_iload C0_ rfl dL_law_789 ?_
    refine x_iconst (v := nI 3) C0_ rfl dL_law_791 ?_
    refine x_iaddN C0_ dL_law_792 ?_
    refine x_scr C0_ hX (by omega) hL dL_law_793 ?_
    refine x_if_eq (tgt := 801) C0_ (by decide) dL_law_794 (fun _ => ?_) (fun hkk => absurd (hz) hkk)
    refine x_iconst (v := nI 0) C0_ rfl dL_law_801 ?_
    refine x_callV [_, _, _] C0_ hN rfl (hRm _ (by decide)).le mv_X12_forge wm_L_92 dL_law_802 (isModel.k0 hM) rfl rfl (Nat.le_of_ble_eq_true rfl) (c_X12_forge hM H1_.2.1.1 (fun I2_ q2_ => ?_))
    have H2_ := H1_.mq q2_
    refine x_icmp_eq (tgt := 1479) C0_ (by decide) dL_law_805 (fun _ => ?_) (fun hkk => absurd (rfl) hkk)
    exact k _ _ _ _ _ _ _ (Nat.le_succ _) (Nat.le_add_right _ _) ⟨_, _, _, _, _, _, _, _, _, _, _, _, _, _, _, _, _, H2_.up⟩
  ·
    refine x_aload_n C0_ rfl dL_law_745 ?_
    refine x_aload_n C0_ rfl dL_law_746 ?_
    refine x_iload C0_ rfl dL_law_747 ?_
    refine x_iconst (v := nI 1) C0_ rfl dL_law_749 ?_
    refine x_iaddN C0_ dL_law_750 ?_
    refine x_scr C0_ hX (by omega) hL dL_law_751 ?_
    refine x_aload_n C0_ rfl dL_law_752 ?_
    refine x_iload C0_ rfl dL_law_753 ?_
    refine x_iconst (v := nI 2) C0_ rfl dL_law_755 ?_
    refine x_iaddN C0_ dL_law_756 ?_
    refine x_scr C0_ hX (by omega) hL dL_law_757 ?_
    refine x_aload_n C0_ rfl dL_law_758 ?_
    refine x_iload C0_ rfl dL_law_759 ?_
    refine x_iconst (v := nI 3) C0_ rfl dL_law_761 ?_
    refine x_iaddN C0_ dL_law_762 ?_
    refine x_scr C0_ hX (by omega) hL dL_law_763 ?_
    refine x_if_eq (tgt := 771) C0_ (by decide) dL_law_764 (fun hkk => absurd hkk (hz)) (fun _ => ?_)
    refine x_iconst (v := nI 1) C0_ rfl dL_law_767 ?_
    refine x_goto (tgt := 772) C0_ (by decide) dL_law_768 ?_
    refine x_callV [_, _, _] C0_ hN rfl (hRm _ (by decide)).le mv_X11_forge wm_L_88 dL_law_772 (fixd.k0 hS) rfl rfl (Nat.le_of_ble_eq_true rfl) (c_X11_forge hS hf H.1.2.2.1 (fun I1_ q1_ => ?_))
    have H1_ := H.fq q1_
    refine x_aload_n C0_ rfl dL_law_775 ?_
    refine x_aload_n C0_ rfl dL_law_776 ?_
    refine x_iload C0_ rfl dL_law_777 ?_
    refine x_iconst (v := nI 1) C0_ rfl dL_law_779 ?_
    refine x_iaddN C0_ dL_law_780 ?_
    refine x_scr C0_ hX (by omega) hL dL_law_781 ?_
    refine x_aload_n C0_ rfl dL_law_782 ?_
    refine x_iload C0_ rfl dL_law_783 ?_
    refine x_iconst (v := nI 2) C0_ rfl dL_law_785 ?_
    refine x_iaddN C0_ dL_law_786 ?_
    refine x_scr C0_ hX (by omega) hL dL_law_787 ?_
    refine x_aload_n C0_ rfl dL_law_788 ?_
    refine x_iload C0_ rfl dL_law_789 ?_
    refine x_iconst (v := nI 3) C0_ rfl dL_law_791 ?_
    refine x_iaddN C0_ dL_law_792 ?_
    refine x_scr C0_ hX (by omega) hL dL_law_793 ?_
    refine x_if_eq (tgt := 801) C0_ (by decide) dL_law_794 (fun hkk => absurd hkk (hz)) (fun _ => ?_)
    refine x_iconst (v := nI 1) C0_ rfl dL_law_797 ?_
    refine x_goto (tgt := 802) C0_ (by decide) dL_law_798 ?_
    refine x_callV [_, _, _] C0_ hN rfl (hRm _ (by decide)).le mv_X12_forge wm_L_92 dL_law_802 (isModel.k0 hM) rfl rfl (Nat.le_of_ble_eq_true rfl) (c_X12_forge hM H1_.2.1.1 (fun I2_ q2_ => ?_))
    have H2_ := H1_.mq q2_
    refine x_icmp_eq (tgt := 1479) C0_ (by decide) dL_law_805 (fun _ => ?_) (fun hkk => absurd (rfl) hkk)
    exact k _ _ _ _ _ _ _ (Nat.le_succ _) (Nat.le_add_right _ _) ⟨_, _, _, _, _, _, _, _, _, _, _, _, _, _, _, _, _, H2_.up⟩
theorem law_11 {G : xG} {rt : Option FieldType} {cells slots L i : Nat} {xs : Nat → Int32} {x5_ x6_ : Option Value} {R : xTR} {I : xTI} {J : xTJ} {f g e h : Nat} {tp : Nat → Nat} {n : Nat} {F : pF} {lw : Option (List (Nat × Nat))} {x : xRow} {us : Nat → xRow} {u : Nat} {td : xRow} {mk : Nat → Bool} {mx mt : Nat → xRow} {ev : Nat} {ln : Nat → Nat × Nat × Nat × Nat} {q : Nat} (C0_ : XC G RL cL_law rt) (hN : xnL G 7) (hX : xScr G L xs) (hRm : xRm G cells slots) (hi : i + 7 ≤ L) (hL : L ≤ 3584) (hq : q < 1000) (H : WL R I J f g e h tp n F lw x us u td mk mx mt ev ln q) (k : xNext G cells slots i q) : XX G cells slots 645 [some (.ref 10300), some (.ref 0), some (.ref 135), some (.ref 155), some (.int (nI i)), x5_, x6_] [] SALL R I J := by
  have hr := H.1.1
  have hS : fixd SALL R := ⟨rfl, hr.2.2.2.2.2.2.2.2.2⟩
  have hM := hS.model
  have hf := hr.2.2.2.2.1
  by_cases hu : u = 0
  ·
    refine x_aload_n C0_ rfl dL_law_645 ?_
    refine x_callV [] C0_ hN rfl (hRm _ (by decide)).le mv_X11_undo wm_L_70 dL_law_646 (fixd.k0 hS) rfl rfl (Nat.le_of_ble_eq_true rfl) (c_X11_undo hS hf H.1.2.2.1 H.1.2.2.2.2.2.1 (fun _ => ?_) (fun v hv => absurd hu (by omega)))
    refine x_aload_n C0_ rfl dL_law_649 ?_
    refine x_callV [] C0_ hN rfl (hRm _ (by decide)).le mv_X12_undo wm_L_74 dL_law_650 (isModel.k0 hM) rfl rfl (Nat.le_of_ble_eq_true rfl) (c_X12_undo hM H.2.1.1 H.2.1.2.2.2.2.1 (fun _ I2_ q2_ => ?_) (fun v hv => absurd hu (by omega)))
    refine x_icmp_eq (tgt := 1479) C0_ (by decide) dL_law_653 (fun _ => ?_) (fun hkk => absurd (rfl) hkk)
    exact k _ _ _ _ _ _ _ (Nat.le_succ _) (Nat.le_add_right _ _) ⟨_, _, _, _, _, _, _, _, _, _, _, _, _, _, _, _, _, (H.mq q2_).up⟩
  · obtain ⟨v0_, hv0_⟩ : ∃ v, u = v + 1 := ⟨u - 1, by omega⟩
    refine x_aload_n C0_ rfl dL_law_645 ?_
    refine x_callV [] C0_ hN rfl (hRm _ (by decide)).le mv_X11_undo wm_L_70 dL_law_646 (fixd.k0 hS) rfl rfl (Nat.le_of_ble_eq_true rfl) (c_X11_undo hS hf H.1.2.2.1 H.1.2.2.2.2.2.1 (fun z => absurd z hu) (fun v hv I1_ a1_ a2_ a3_ => ?_))
    have M1_ := H.hiFD a1_
    refine x_aload_n C0_ rfl dL_law_649 ?_
    refine x_callV [] C0_ hN rfl (hRm _ (by decide)).le mv_X12_undo wm_L_74 dL_law_650 (isModel.k0 hM) rfl rfl (Nat.le_of_ble_eq_true rfl) (c_X12_undo hM M1_.1 M1_.2.2.2.2.1 (fun z => absurd z hu) (fun v2_ hv2_ I2_ b1_ b2_ b3_ => ?_))
    have e2_ : v2_ = v := by omega
    subst e2_
    refine x_icmp_eq (tgt := 1479) C0_ (by decide) dL_law_653 (fun _ => ?_) (fun hkk => absurd (rfl) hkk)
    exact k _ _ _ _ _ _ _ (Nat.le_succ _) (Nat.le_add_right _ _) ⟨_, _, _, _, _, _, _, _, _, _, _, _, _, _, _, _, _, H.undo hv a1_ a2_ a3_ b1_ b2_ b3_⟩
theorem law_24 {G : xG} {rt : Option FieldType} {cells slots L i : Nat} {xs : Nat → Int32} {x5_ x6_ : Option Value} {R : xTR} {I : xTI} {J : xTJ} {f g e h : Nat} {tp : Nat → Nat} {n : Nat} {F : pF} {lw : Option (List (Nat × Nat))} {x : xRow} {us : Nat → xRow} {u : Nat} {td : xRow} {mk : Nat → Bool} {mx mt : Nat → xRow} {ev : Nat} {ln : Nat → Nat × Nat × Nat × Nat} {q : Nat} (C0_ : XC G RL cL_law rt) (hN : xnL G 7) (hX : xScr G L xs) (hRm : xRm G cells slots) (hi : i + 7 ≤ L) (hL : L ≤ 3584) (hq : q < 1000) (H : WL R I J f g e h tp n F lw x us u td mk mx mt ev ln q) (k : xNext G cells slots i q) : XX G cells slots 998 [some (.ref 10300), some (.ref 0), some (.ref 135), some (.ref 155), some (.int (nI i)), x5_, x6_] [] SALL R I J := by
  have hr := H.1.1
  have hS : fixd SALL R := ⟨rfl, hr.2.2.2.2.2.2.2.2.2⟩
  have hM := hS.model
  have hf := hr.2.2.2.2.1
  have k6_ := H.1.2.1.1
  have v6_ := H.1.2.1.2.2.1
  by_cases ht : tellOk (fRow F lw.isSome) (xs (i + 1)) (xs (i + 2)) (xs (i + 3))
  ·
    refine x_aload_n C0_ rfl dL_law_998 ?_
    refine x_aload_n C0_ rfl dL_law_999 ?_
    refine x_iload C0_ rfl dL_law_1000 ?_
    refine x_iconst (v := nI 1) C0_ rfl dL_law_1002 ?_
    refine x_iaddN C0_ dL_law_1003 ?_
    refine x_scr C0_ hX (by omega) hL dL_law_1004 ?_
    refine x_aload_n C0_ rfl dL_law_1005 ?_
    refine x_iload C0_ rfl dL_law_1006 ?_
    refine x_iconst (v := nI 2) C0_ rfl dL_law_1008 ?_
    refine x_iaddN C0_ dL_law_1009 ?_
    refine x_scr C0_ hX (by omega) hL dL_law_1010 ?_
    refine x_aload_n C0_ rfl dL_law_1011 ?_
    refine x_iload C0_ rfl dL_law_1012 ?_
    refine x_iconst (v := nI 3) C0_ rfl dL_law_1014 ?_
    refine x_iaddN C0_ dL_law_1015 ?_
    refine x_scr C0_ hX (by omega) hL dL_law_1016 ?_
    refine x_callV [_, _, _] C0_ hN rfl (hRm _ (by decide)).le mv_X11_tell wm_L_125 dL_law_1017 (fixd.k0 hS) rfl rfl (Nat.le_of_ble_eq_true rfl) (c_X11_tell hS hf H.1.2.2.1 (fun a b ha hb ea eb _ => ?_) (fun z => absurd ht z))
    have M1_ := H.2.1.hi (I' := u2 I 108 (6 * a + b) (xs (i + 3) + 2)) (J' := J) (fun z hz => u2_row _ _ _ (by omega)) (fun _ _ => rfl)
    refine x_aload_n C0_ rfl dL_law_1020 ?_
    refine x_aload_n C0_ rfl dL_law_1021 ?_
    refine x_iload C0_ rfl dL_law_1022 ?_
    refine x_iconst (v := nI 1) C0_ rfl dL_law_1024 ?_
    refine x_iaddN C0_ dL_law_1025 ?_
    refine x_scr C0_ hX (by omega) hL dL_law_1026 ?_
    refine x_aload_n C0_ rfl dL_law_1027 ?_
    refine x_iload C0_ rfl dL_law_1028 ?_
    refine x_iconst (v := nI 2) C0_ rfl dL_law_1030 ?_
    refine x_iaddN C0_ dL_law_1031 ?_
    refine x_scr C0_ hX (by omega) hL dL_law_1032 ?_
    refine x_aload_n C0_ rfl dL_law_1033 ?_
    refine x_iload C0_ rfl dL_law_1034 ?_
    refine x_iconst (v := nI 3) C0_ rfl dL_law_1036 ?_
    refine x_iaddN C0_ dL_law_1037 ?_
    refine x_scr C0_ hX (by omega) hL dL_law_1038 ?_
    refine x_callV [_, _, _] C0_ hN rfl (hRm _ (by decide)).le mv_X12_tell wm_L_129 dL_law_1039 (isModel.k0 hM) rfl rfl (Nat.le_of_ble_eq_true rfl) (c_X12_tell hM M1_.1 (fun a2_ b2_ I2_ q2_ ha2_ hb2_ ea2_ eb2_ _ => ?_) (fun _ _ z => absurd ht z))
    have e1_ : a2_ = a := (nI_eq (by omega) (by omega)).mp (ea2_.symm.trans ea)
    have e2_ : b2_ = b := (nI_eq (by omega) (by omega)).mp (eb2_.symm.trans eb)
    subst e1_
    subst e2_
    refine x_icmp_eq (tgt := 1479) C0_ (by decide) dL_law_1042 (fun _ => ?_) (fun hkk => absurd (rfl) hkk)
    exact k _ _ _ _ _ _ _ (Nat.le_succ _) (Nat.le_add_right _ _) ⟨_, _, _, _, _, _, _, _, _, _, _, _, _, _, _, _, _, H.tell (by omega) ht.2 q2_⟩
  ·
    refine x_aload_n C0_ rfl dL_law_998 ?_
    refine x_aload_n C0_ rfl dL_law_999 ?_
    refine x_iload C0_ rfl dL_law_1000 ?_
    refine x_iconst (v := nI 1) C0_ rfl dL_law_1002 ?_
    refine x_iaddN C0_ dL_law_1003 ?_
    refine x_scr C0_ hX (by omega) hL dL_law_1004 ?_
    refine x_aload_n C0_ rfl dL_law_1005 ?_
    refine x_iload C0_ rfl dL_law_1006 ?_
    refine x_iconst (v := nI 2) C0_ rfl dL_law_1008 ?_
    refine x_iaddN C0_ dL_law_1009 ?_
    refine x_scr C0_ hX (by omega) hL dL_law_1010 ?_
    refine x_aload_n C0_ rfl dL_law_1011 ?_
    refine x_iload C0_ rfl dL_law_1012 ?_
    refine x_iconst (v := nI 3) C0_ rfl dL_law_1014 ?_
    refine x_iaddN C0_ dL_law_1015 ?_
    refine x_scr C0_ hX (by omega) hL dL_law_1016 ?_
    refine x_callV [_, _, _] C0_ hN rfl (hRm _ (by decide)).le mv_X11_tell wm_L_125 dL_law_1017 (fixd.k0 hS) rfl rfl (Nat.le_of_ble_eq_true rfl) (c_X11_tell hS hf H.1.2.2.1 (fun a b _ _ _ _ z => absurd z ht) (fun _ => ?_))
    refine x_aload_n C0_ rfl dL_law_1020 ?_
    refine x_aload_n C0_ rfl dL_law_1021 ?_
    refine x_iload C0_ rfl dL_law_1022 ?_
    refine x_iconst (v := nI 1) C0_ rfl dL_law_1024 ?_
    refine x_iaddN C0_ dL_law_1025 ?_
    refine x_scr C0_ hX (by omega) hL dL_law_1026 ?_
    refine x_aload_n C0_ rfl dL_law_1027 ?_
    refine x_iload C0_ rfl dL_law_1028 ?_
    refine x_iconst (v := nI 2) C0_ rfl dL_law_1030 ?_
    refine x_iaddN C0_ dL_law_1031 ?_
    refine x_scr C0_ hX (by omega) hL dL_law_1032 ?_
    refine x_aload_n C0_ rfl dL_law_1033 ?_
    refine x_iload C0_ rfl dL_law_1034 ?_
    refine x_iconst (v := nI 3) C0_ rfl dL_law_1036 ?_
    refine x_iaddN C0_ dL_law_1037 ?_
    refine x_scr C0_ hX (by omega) hL dL_law_1038 ?_
    refine x_callV [_, _, _] C0_ hN rfl (hRm _ (by decide)).le mv_X12_tell wm_L_129 dL_law_1039 (isModel.k0 hM) rfl rfl (Nat.le_of_ble_eq_true rfl) (c_X12_tell hM H.2.1.1 (fun a2_ b2_ I2_ q2_ _ _ _ _ z => absurd z ht) (fun I2_ q2_ _ => ?_))
    refine x_icmp_eq (tgt := 1479) C0_ (by decide) dL_law_1042 (fun _ => ?_) (fun hkk => absurd (rfl) hkk)
    exact k _ _ _ _ _ _ _ (Nat.le_succ _) (Nat.le_add_right _ _) ⟨_, _, _, _, _, _, _, _, _, _, _, _, _, _, _, _, _, (H.mq q2_).up⟩
theorem law_36 {G : xG} {rt : Option FieldType} {cells slots L i : Nat} {xs : Nat → Int32} {x5_ x6_ : Option Value} {R : xTR} {I : xTI} {J : xTJ} {f g e h : Nat} {tp : Nat → Nat} {n : Nat} {F : pF} {lw : Option (List (Nat × Nat))} {x : xRow} {us : Nat → xRow} {u : Nat} {td : xRow} {mk : Nat → Bool} {mx mt : Nat → xRow} {ev : Nat} {ln : Nat → Nat × Nat × Nat × Nat} {q : Nat} (C0_ : XC G RL cL_law rt) (hN : xnL G 7) (hX : xScr G L xs) (hRm : xRm G cells slots) (hi : i + 7 ≤ L) (hL : L ≤ 3584) (hq : q < 1000) (H : WL R I J f g e h tp n F lw x us u td mk mx mt ev ln q) (k : xNext G cells slots i q) : XX G cells slots 1401 [some (.ref 10300), some (.ref 0), some (.ref 135), some (.ref 155), some (.int (nI i)), x5_, x6_] [] SALL R I J := by
  have hr := H.1.1
  have hS : fixd SALL R := ⟨rfl, hr.2.2.2.2.2.2.2.2.2⟩
  have hM := hS.model
  have hf := hr.2.2.2.2.1
  by_cases hm : 0 ≤ xs (i + 1) ∧ xs (i + 1) < 4
  · obtain ⟨m, hm4_, em⟩ := nI_ofi (n := 4) (by decide) hm.1 hm.2
    have ec : (xs (i + 1)).toNatClampNeg = m := by rw [em]; exact nI_clamp (by omega)
    have eu : ∀ k2_, k2_ < 4 → xs (i + 1) = nI k2_ → k2_ = m := fun k2_ h2_ e2_ => (nI_eq (by omega) (by omega)).mp (e2_.symm.trans em)
    by_cases hz : xs (i + 2) = 0
    ·
      refine x_aload_n C0_ rfl dL_law_1401 ?_
      refine x_aload_n C0_ rfl dL_law_1402 ?_
      refine x_iload C0_ rfl dL_law_1403 ?_
      refine x_iconst (v := nI 1) C0_ rfl dL_law_1405 ?_
      refine x_iaddN C0_ dL_law_1406 ?_
      refine x_scr C0_ hX (by omega) hL dL_law_1407 ?_
      refine x_aload_n C0_ rfl dL_law_1408 ?_
      refine x_iload C0_ rfl dL_law_1409 ?_
      refine x_iconst (v := nI 2) C0_ rfl dL_law_1411 ?_
      refine x_iaddN C0_ dL_law_1412 ?_
      refine x_scr C0_ hX (by omega) hL dL_law_1413 ?_
      refine x_if_eq (tgt := 1421) C0_ (by decide) dL_law_1414 (fun _ => ?_) (fun hkk => absurd (hz) hkk)
      refine x_iconst (v := nI 0) C0_ rfl dL_law_1421 ?_
      refine x_callV [_, _] C0_ hN rfl (hRm _ (by decide)).le mv_X11_mark wm_L_180 dL_law_1422 (fixd.k0 hS) rfl rfl (Nat.le_of_ble_eq_true rfl) (c_X11_mark hS hf H.1.2.2.1 H.1.2.2.2.2.2.2.1 H.1.2.2.2.2.2.2.2.1 (fun z => absurd rfl (z hm).1) (fun k2_ hk2_ e2_ _ I1_ a1_ a2_ => ?_) (fun k2_ hk2_ e2_ z => absurd rfl z))
      have M1_ := H.2.1.hi (I' := I1_) (J' := J) (fun z hz => a1_ z (Or.inr hz)) (fun _ _ => rfl)
      have e3_ := eu k2_ hk2_ e2_
      subst e3_
      refine x_aload_n C0_ rfl dL_law_1425 ?_
      refine x_aload_n C0_ rfl dL_law_1426 ?_
      refine x_iload C0_ rfl dL_law_1427 ?_
      refine x_iconst (v := nI 1) C0_ rfl dL_law_1429 ?_
      refine x_iaddN C0_ dL_law_1430 ?_
      refine x_scr C0_ hX (by omega) hL dL_law_1431 ?_
      refine x_aload_n C0_ rfl dL_law_1432 ?_
      refine x_iload C0_ rfl dL_law_1433 ?_
      refine x_iconst (v := nI 2) C0_ rfl dL_law_1435 ?_
      refine x_iaddN C0_ dL_law_1436 ?_
      refine x_scr C0_ hX (by omega) hL dL_law_1437 ?_
      refine x_if_eq (tgt := 1445) C0_ (by decide) dL_law_1438 (fun _ => ?_) (fun hkk => absurd (hz) hkk)
      refine x_iconst (v := nI 0) C0_ rfl dL_law_1445 ?_
      refine x_callV [_, _] C0_ hN rfl (hRm _ (by decide)).le mv_X12_mark wm_L_184 dL_law_1446 (isModel.k0 hM) rfl rfl (Nat.le_of_ble_eq_true rfl) (c_X12_mark hM M1_.1 M1_.2.2.2.2.2.1 M1_.2.2.2.2.2.2.1 (fun z => absurd rfl (z hm).1) (fun k3_ hk3_ e3_ _ I2_ b1_ b2_ b3_ b4_ => ?_) (fun k3_ hk3_ e3_ z => absurd rfl z))
      have e4_ := eu k3_ hk3_ e3_
      subst e4_
      refine x_icmp_eq (tgt := 1479) C0_ (by decide) dL_law_1449 (fun _ => ?_) (fun hkk => absurd (rfl) hkk)
      exact k _ _ _ _ _ _ _ (Nat.le_succ _) (Nat.le_add_right _ _) ⟨_, _, _, _, _, _, _, _, _, _, _, _, _, _, _, _, _, H.mark hk2_ a1_ a2_ b1_ b2_ b3_ b4_⟩
    · by_cases hk : mk m = true
      ·
        refine x_aload_n C0_ rfl dL_law_1401 ?_
        refine x_aload_n C0_ rfl dL_law_1402 ?_
        refine x_iload C0_ rfl dL_law_1403 ?_
        refine x_iconst (v := nI 1) C0_ rfl dL_law_1405 ?_
        refine x_iaddN C0_ dL_law_1406 ?_
        refine x_scr C0_ hX (by omega) hL dL_law_1407 ?_
        refine x_aload_n C0_ rfl dL_law_1408 ?_
        refine x_iload C0_ rfl dL_law_1409 ?_
        refine x_iconst (v := nI 2) C0_ rfl dL_law_1411 ?_
        refine x_iaddN C0_ dL_law_1412 ?_
        refine x_scr C0_ hX (by omega) hL dL_law_1413 ?_
        refine x_if_eq (tgt := 1421) C0_ (by decide) dL_law_1414 (fun hkk => absurd hkk (hz)) (fun _ => ?_)
        refine x_iconst (v := nI 1) C0_ rfl dL_law_1417 ?_
        refine x_goto (tgt := 1422) C0_ (by decide) dL_law_1418 ?_
        refine x_callV [_, _] C0_ hN rfl (hRm _ (by decide)).le mv_X11_mark wm_L_180 dL_law_1422 (fixd.k0 hS) rfl rfl (Nat.le_of_ble_eq_true rfl) (c_X11_mark hS hf H.1.2.2.1 H.1.2.2.2.2.2.2.1 H.1.2.2.2.2.2.2.2.1 (fun z => by have z2_ := (z hm).2; rw [ec, hk] at z2_; cases z2_) (fun k2_ hk2_ e2_ z => absurd z (by decide)) (fun k2_ hk2_ e2_ _ hkk I1_ a1_ a2_ a3_ a4_ a5_ => ?_))
        have M1_ := H.2.1.hi (I' := I1_) (J' := J) (fun z hz => a1_ z (by omega) (by omega) (by omega)) (fun _ _ => rfl)
        have e3_ := eu k2_ hk2_ e2_
        subst e3_
        refine x_aload_n C0_ rfl dL_law_1425 ?_
        refine x_aload_n C0_ rfl dL_law_1426 ?_
        refine x_iload C0_ rfl dL_law_1427 ?_
        refine x_iconst (v := nI 1) C0_ rfl dL_law_1429 ?_
        refine x_iaddN C0_ dL_law_1430 ?_
        refine x_scr C0_ hX (by omega) hL dL_law_1431 ?_
        refine x_aload_n C0_ rfl dL_law_1432 ?_
        refine x_iload C0_ rfl dL_law_1433 ?_
        refine x_iconst (v := nI 2) C0_ rfl dL_law_1435 ?_
        refine x_iaddN C0_ dL_law_1436 ?_
        refine x_scr C0_ hX (by omega) hL dL_law_1437 ?_
        refine x_if_eq (tgt := 1445) C0_ (by decide) dL_law_1438 (fun hkk => absurd hkk (hz)) (fun _ => ?_)
        refine x_iconst (v := nI 1) C0_ rfl dL_law_1441 ?_
        refine x_goto (tgt := 1446) C0_ (by decide) dL_law_1442 ?_
        refine x_callV [_, _] C0_ hN rfl (hRm _ (by decide)).le mv_X12_mark wm_L_184 dL_law_1446 (isModel.k0 hM) rfl rfl (Nat.le_of_ble_eq_true rfl) (c_X12_mark hM M1_.1 M1_.2.2.2.2.2.1 M1_.2.2.2.2.2.2.1 (fun z => by have z2_ := (z hm).2; rw [ec, hk] at z2_; cases z2_) (fun k3_ hk3_ e3_ z => absurd z (by decide)) (fun k3_ hk3_ e3_ _ _ I2_ b1_ b2_ b3_ b4_ b5_ b6_ => ?_))
        have e4_ := eu k3_ hk3_ e3_
        subst e4_
        refine x_icmp_eq (tgt := 1479) C0_ (by decide) dL_law_1449 (fun _ => ?_) (fun hkk => absurd (rfl) hkk)
        exact k _ _ _ _ _ _ _ (Nat.le_succ _) (Nat.le_add_right _ _) ⟨_, _, _, _, _, _, _, _, _, _, _, _, _, _, _, _, _, H.back hk2_ hkk a1_ a2_ a3_ a4_ a5_ b1_ b2_ b3_ b4_ b5_ b6_⟩
      ·
        refine x_aload_n C0_ rfl dL_law_1401 ?_
        refine x_aload_n C0_ rfl dL_law_1402 ?_
        refine x_iload C0_ rfl dL_law_1403 ?_
        refine x_iconst (v := nI 1) C0_ rfl dL_law_1405 ?_
        refine x_iaddN C0_ dL_law_1406 ?_
        refine x_scr C0_ hX (by omega) hL dL_law_1407 ?_
        refine x_aload_n C0_ rfl dL_law_1408 ?_
        refine x_iload C0_ rfl dL_law_1409 ?_
        refine x_iconst (v := nI 2) C0_ rfl dL_law_1411 ?_
        refine x_iaddN C0_ dL_law_1412 ?_
        refine x_scr C0_ hX (by omega) hL dL_law_1413 ?_
        refine x_if_eq (tgt := 1421) C0_ (by decide) dL_law_1414 (fun hkk => absurd hkk (hz)) (fun _ => ?_)
        refine x_iconst (v := nI 1) C0_ rfl dL_law_1417 ?_
        refine x_goto (tgt := 1422) C0_ (by decide) dL_law_1418 ?_
        refine x_callV [_, _] C0_ hN rfl (hRm _ (by decide)).le mv_X11_mark wm_L_180 dL_law_1422 (fixd.k0 hS) rfl rfl (Nat.le_of_ble_eq_true rfl) (c_X11_mark hS hf H.1.2.2.1 H.1.2.2.2.2.2.2.1 H.1.2.2.2.2.2.2.2.1 (fun _ => ?_) (fun k2_ hk2_ e2_ z => absurd z (by decide)) (fun k2_ hk2_ e2_ _ z => absurd (by rw [← eu k2_ hk2_ e2_]; exact z) hk))
        refine x_aload_n C0_ rfl dL_law_1425 ?_
        refine x_aload_n C0_ rfl dL_law_1426 ?_
        refine x_iload C0_ rfl dL_law_1427 ?_
        refine x_iconst (v := nI 1) C0_ rfl dL_law_1429 ?_
        refine x_iaddN C0_ dL_law_1430 ?_
        refine x_scr C0_ hX (by omega) hL dL_law_1431 ?_
        refine x_aload_n C0_ rfl dL_law_1432 ?_
        refine x_iload C0_ rfl dL_law_1433 ?_
        refine x_iconst (v := nI 2) C0_ rfl dL_law_1435 ?_
        refine x_iaddN C0_ dL_law_1436 ?_
        refine x_scr C0_ hX (by omega) hL dL_law_1437 ?_
        refine x_if_eq (tgt := 1445) C0_ (by decide) dL_law_1438 (fun hkk => absurd hkk (hz)) (fun _ => ?_)
        refine x_iconst (v := nI 1) C0_ rfl dL_law_1441 ?_
        refine x_goto (tgt := 1446) C0_ (by decide) dL_law_1442 ?_
        refine x_callV [_, _] C0_ hN rfl (hRm _ (by decide)).le mv_X12_mark wm_L_184 dL_law_1446 (isModel.k0 hM) rfl rfl (Nat.le_of_ble_eq_true rfl) (c_X12_mark hM H.2.1.1 H.2.1.2.2.2.2.2.1 H.2.1.2.2.2.2.2.2.1 (fun _ I2_ q2_ => ?_) (fun k3_ hk3_ e3_ z => absurd z (by decide)) (fun k3_ hk3_ e3_ _ z => absurd (by rw [← eu k3_ hk3_ e3_]; exact z) hk))
        refine x_icmp_eq (tgt := 1479) C0_ (by decide) dL_law_1449 (fun _ => ?_) (fun hkk => absurd (rfl) hkk)
        exact k _ _ _ _ _ _ _ (Nat.le_succ _) (Nat.le_add_right _ _) ⟨_, _, _, _, _, _, _, _, _, _, _, _, _, _, _, _, _, (H.mq q2_).up⟩
  · have ek : ∀ k2_, k2_ < 4 → ¬ xs (i + 1) = nI k2_ := fun k2_ h2_ e2_ => hm (by rw [e2_]; exact ⟨(nI_le_iff (a := 0) (by decide) (by omega)).mpr (Nat.zero_le _), (nI_lt_iff (b := 4) (by omega) (by decide)).mpr h2_⟩)
    by_cases hz : xs (i + 2) = 0
    ·
      refine x_aload_n C0_ rfl dL_law_1401 ?_
      refine x_aload_n C0_ rfl dL_law_1402 ?_
      refine x_iload C0_ rfl dL_law_1403 ?_
      refine x_iconst (v := nI 1) C0_ rfl dL_law_1405 ?_
      refine x_iaddN C0_ dL_law_1406 ?_
      refine x_scr C0_ hX (by omega) hL dL_law_1407 ?_
      refine x_aload_n C0_ rfl dL_law_1408 ?_
      refine x_iload C0_ rfl dL_law_1409 ?_
      refine x_iconst (v := nI 2) C0_ rfl dL_law_1411 ?_
      refine x_iaddN C0_ dL_law_1412 ?_
      refine x_scr C0_ hX (by omega) hL dL_law_1413 ?_
      refine x_if_eq (tgt := 1421) C0_ (by decide) dL_law_1414 (fun _ => ?_) (fun hkk => absurd (hz) hkk)
      refine x_iconst (v := nI 0) C0_ rfl dL_law_1421 ?_
      refine x_callV [_, _] C0_ hN rfl (hRm _ (by decide)).le mv_X11_mark wm_L_180 dL_law_1422 (fixd.k0 hS) rfl rfl (Nat.le_of_ble_eq_true rfl) (c_X11_mark hS hf H.1.2.2.1 H.1.2.2.2.2.2.2.1 H.1.2.2.2.2.2.2.2.1 (fun _ => ?_) (fun k2_ hk2_ e2_ => absurd e2_ (ek k2_ hk2_)) (fun k2_ hk2_ e2_ => absurd e2_ (ek k2_ hk2_)))
      refine x_aload_n C0_ rfl dL_law_1425 ?_
      refine x_aload_n C0_ rfl dL_law_1426 ?_
      refine x_iload C0_ rfl dL_law_1427 ?_
      refine x_iconst (v := nI 1) C0_ rfl dL_law_1429 ?_
      refine x_iaddN C0_ dL_law_1430 ?_
      refine x_scr C0_ hX (by omega) hL dL_law_1431 ?_
      refine x_aload_n C0_ rfl dL_law_1432 ?_
      refine x_iload C0_ rfl dL_law_1433 ?_
      refine x_iconst (v := nI 2) C0_ rfl dL_law_1435 ?_
      refine x_iaddN C0_ dL_law_1436 ?_
      refine x_scr C0_ hX (by omega) hL dL_law_1437 ?_
      refine x_if_eq (tgt := 1445) C0_ (by decide) dL_law_1438 (fun _ => ?_) (fun hkk => absurd (hz) hkk)
      refine x_iconst (v := nI 0) C0_ rfl dL_law_1445 ?_
      refine x_callV [_, _] C0_ hN rfl (hRm _ (by decide)).le mv_X12_mark wm_L_184 dL_law_1446 (isModel.k0 hM) rfl rfl (Nat.le_of_ble_eq_true rfl) (c_X12_mark hM H.2.1.1 H.2.1.2.2.2.2.2.1 H.2.1.2.2.2.2.2.2.1 (fun _ I2_ q2_ => ?_) (fun k2_ hk2_ e2_ => absurd e2_ (ek k2_ hk2_)) (fun k2_ hk2_ e2_ => absurd e2_ (ek k2_ hk2_)))
      refine x_icmp_eq (tgt := 1479) C0_ (by decide) dL_law_1449 (fun _ => ?_) (fun hkk => absurd (rfl) hkk)
      exact k _ _ _ _ _ _ _ (Nat.le_succ _) (Nat.le_add_right _ _) ⟨_, _, _, _, _, _, _, _, _, _, _, _, _, _, _, _, _, (H.mq q2_).up⟩
    ·
      refine x_aload_n C0_ rfl dL_law_1401 ?_
      refine x_aload_n C0_ rfl dL_law_1402 ?_
      refine x_iload C0_ rfl dL_law_1403 ?_
      refine x_iconst (v := nI 1) C0_ rfl dL_law_1405 ?_
      refine x_iaddN C0_ dL_law_1406 ?_
      refine x_scr C0_ hX (by omega) hL dL_law_1407 ?_
      refine x_aload_n C0_ rfl dL_law_1408 ?_
      refine x_iload C0_ rfl dL_law_1409 ?_
      refine x_iconst (v := nI 2) C0_ rfl dL_law_1411 ?_
      refine x_iaddN C0_ dL_law_1412 ?_
      refine x_scr C0_ hX (by omega) hL dL_law_1413 ?_
      refine x_if_eq (tgt := 1421) C0_ (by decide) dL_law_1414 (fun hkk => absurd hkk (hz)) (fun _ => ?_)
      refine x_iconst (v := nI 1) C0_ rfl dL_law_1417 ?_
      refine x_goto (tgt := 1422) C0_ (by decide) dL_law_1418 ?_
      refine x_callV [_, _] C0_ hN rfl (hRm _ (by decide)).le mv_X11_mark wm_L_180 dL_law_1422 (fixd.k0 hS) rfl rfl (Nat.le_of_ble_eq_true rfl) (c_X11_mark hS hf H.1.2.2.1 H.1.2.2.2.2.2.2.1 H.1.2.2.2.2.2.2.2.1 (fun _ => ?_) (fun k2_ hk2_ e2_ => absurd e2_ (ek k2_ hk2_)) (fun k2_ hk2_ e2_ => absurd e2_ (ek k2_ hk2_)))
      refine x_aload_n C0_ rfl dL_law_1425 ?_
      refine x_aload_n C0_ rfl dL_law_1426 ?_
      refine x_iload C0_ rfl dL_law_1427 ?_
      refine x_iconst (v := nI 1) C0_ rfl dL_law_1429 ?_
      refine x_iaddN C0_ dL_law_1430 ?_
      refine x_scr C0_ hX (by omega) hL dL_law_1431 ?_
      refine x_aload_n C0_ rfl dL_law_1432 ?_
      refine x_iload C0_ rfl dL_law_1433 ?_
      refine x_iconst (v := nI 2) C0_ rfl dL_law_1435 ?_
      refine x_iaddN C0_ dL_law_1436 ?_
      refine x_scr C0_ hX (by omega) hL dL_law_1437 ?_
      refine x_if_eq (tgt := 1445) C0_ (by decide) dL_law_1438 (fun hkk => absurd hkk (hz)) (fun _ => ?_)
      refine x_iconst (v := nI 1) C0_ rfl dL_law_1441 ?_
      refine x_goto (tgt := 1446) C0_ (by decide) dL_law_1442 ?_
      refine x_callV [_, _] C0_ hN rfl (hRm _ (by decide)).le mv_X12_mark wm_L_184 dL_law_1446 (isModel.k0 hM) rfl rfl (Nat.le_of_ble_eq_true rfl) (c_X12_mark hM H.2.1.1 H.2.1.2.2.2.2.2.1 H.2.1.2.2.2.2.2.2.1 (fun _ I2_ q2_ => ?_) (fun k2_ hk2_ e2_ => absurd e2_ (ek k2_ hk2_)) (fun k2_ hk2_ e2_ => absurd e2_ (ek k2_ hk2_)))
      refine x_icmp_eq (tgt := 1479) C0_ (by decide) dL_law_1449 (fun _ => ?_) (fun hkk => absurd (rfl) hkk)
      exact k _ _ _ _ _ _ _ (Nat.le_succ _) (Nat.le_add_right _ _) ⟨_, _, _, _, _, _, _, _, _, _, _, _, _, _, _, _, _, (H.mq q2_).up⟩
theorem law_0 {G : xG} {rt : Option FieldType} {cells slots L i : Nat} {xs : Nat → Int32} {x5_ x6_ : Option Value} {R : xTR} {I : xTI} {J : xTJ} {f g e h : Nat} {tp : Nat → Nat} {n : Nat} {F : pF} {lw : Option (List (Nat × Nat))} {x : xRow} {us : Nat → xRow} {u : Nat} {td : xRow} {mk : Nat → Bool} {mx mt : Nat → xRow} {ev : Nat} {ln : Nat → Nat × Nat × Nat × Nat} {q : Nat} (C0_ : XC G RL cL_law rt) (hN : xnL G 7) (hX : xScr G L xs) (hRm : xRm G cells slots) (hi : i + 7 ≤ L) (hL : L ≤ 3584) (hq : q < 1000) (H : WL R I J f g e h tp n F lw x us u td mk mx mt ev ln q) (k : xNext G cells slots i q) : XX G cells slots 208 [some (.ref 10300), some (.ref 0), some (.ref 135), some (.ref 155), some (.int (nI i)), x5_, x6_] [] SALL R I J := by
  have hr := H.1.1
  have hS : fixd SALL R := ⟨rfl, hr.2.2.2.2.2.2.2.2.2⟩
  have hM := hS.model
  have hf := hr.2.2.2.2.1
  refine x_aload_n C0_ rfl dL_law_208 ?_
  refine x_aload_n C0_ rfl dL_law_209 ?_
  refine x_iload C0_ rfl dL_law_210 ?_
  refine x_iconst (v := nI 1) C0_ rfl dL_law_212 ?_
  refine x_iaddN C0_ dL_law_213 ?_
  refine x_scr C0_ hX (by omega) hL dL_law_214 ?_
  refine x_i2l C0_ dL_law_215 ?_
  refine x_bipush (v := nI 32) C0_ rfl dL_law_216 ?_
  refine x_lshl C0_ dL_law_218 ?_
  refine x_aload_n C0_ rfl dL_law_219 ?_
  refine x_iload C0_ rfl dL_law_220 ?_
  refine x_iconst (v := nI 2) C0_ rfl dL_law_222 ?_
  refine x_iaddN C0_ dL_law_223 ?_
  refine x_scr C0_ hX (by omega) hL dL_law_224 ?_
  refine x_i2l C0_ dL_law_225 ?_
  refine x_ldc2 C0_ wl_L_19 dL_law_226 ?_
  refine x_land C0_ dL_law_229 ?_
  refine x_lor C0_ dL_law_230 ?_
  refine x_aload_n C0_ rfl dL_law_231 ?_
  refine x_iload C0_ rfl dL_law_232 ?_
  refine x_iconst (v := nI 3) C0_ rfl dL_law_234 ?_
  refine x_iaddN C0_ dL_law_235 ?_
  refine x_scr C0_ hX (by omega) hL dL_law_236 ?_
  refine x_i2l C0_ dL_law_237 ?_
  refine x_bipush (v := nI 32) C0_ rfl dL_law_238 ?_
  refine x_lshl C0_ dL_law_240 ?_
  refine x_aload_n C0_ rfl dL_law_241 ?_
  refine x_iload C0_ rfl dL_law_242 ?_
  refine x_iconst (v := nI 4) C0_ rfl dL_law_244 ?_
  refine x_iaddN C0_ dL_law_245 ?_
  refine x_scr C0_ hX (by omega) hL dL_law_246 ?_
  refine x_i2l C0_ dL_law_247 ?_
  refine x_ldc2 C0_ wl_L_19 dL_law_248 ?_
  refine x_land C0_ dL_law_251 ?_
  refine x_lor C0_ dL_law_252 ?_
  refine x_aload_n C0_ rfl dL_law_253 ?_
  refine x_iload C0_ rfl dL_law_254 ?_
  refine x_iconst (v := nI 5) C0_ rfl dL_law_256 ?_
  refine x_iaddN C0_ dL_law_257 ?_
  refine x_scr C0_ hX (by omega) hL dL_law_258 ?_
  refine x_i2l C0_ dL_law_259 ?_
  refine x_bipush (v := nI 32) C0_ rfl dL_law_260 ?_
  refine x_lshl C0_ dL_law_262 ?_
  refine x_aload_n C0_ rfl dL_law_263 ?_
  refine x_iload C0_ rfl dL_law_264 ?_
  refine x_bipush (v := nI 6) C0_ rfl dL_law_266 ?_
  refine x_iaddN C0_ dL_law_268 ?_
  refine x_scr C0_ hX (by omega) hL dL_law_269 ?_
  refine x_i2l C0_ dL_law_270 ?_
  refine x_ldc2 C0_ wl_L_19 dL_law_271 ?_
  refine x_land C0_ dL_law_274 ?_
  refine x_lor C0_ dL_law_275 ?_
  refine x_callV [_, _, _] C0_ hN rfl (hRm _ (by decide)).le mv_X11_feed wm_L_21 dL_law_276 (fixd.k0 hS) rfl rfl (Nat.le_of_ble_eq_true rfl) (c_X11_feed (s := (tp, n)) hS H.1.2.2.2.2.1 rfl (fun I1_ a1_ a2_ a3_ => ?_))
  have M1_ := H.2.1.hi (I' := I1_) (J' := J) (fun z hz => a1_ z (by omega) (by omega)) (fun _ _ => rfl)
  refine x_aload_n C0_ rfl dL_law_279 ?_
  refine x_aload_n C0_ rfl dL_law_280 ?_
  refine x_iload C0_ rfl dL_law_281 ?_
  refine x_iconst (v := nI 1) C0_ rfl dL_law_283 ?_
  refine x_iaddN C0_ dL_law_284 ?_
  refine x_scr C0_ hX (by omega) hL dL_law_285 ?_
  refine x_i2l C0_ dL_law_286 ?_
  refine x_bipush (v := nI 32) C0_ rfl dL_law_287 ?_
  refine x_lshl C0_ dL_law_289 ?_
  refine x_aload_n C0_ rfl dL_law_290 ?_
  refine x_iload C0_ rfl dL_law_291 ?_
  refine x_iconst (v := nI 2) C0_ rfl dL_law_293 ?_
  refine x_iaddN C0_ dL_law_294 ?_
  refine x_scr C0_ hX (by omega) hL dL_law_295 ?_
  refine x_i2l C0_ dL_law_296 ?_
  refine x_ldc2 C0_ wl_L_19 dL_law_297 ?_
  refine x_land C0_ dL_law_300 ?_
  refine x_lor C0_ dL_law_301 ?_
  refine x_aload_n C0_ rfl dL_law_302 ?_
  refine x_iload C0_ rfl dL_law_303 ?_
  refine x_iconst (v := nI 3) C0_ rfl dL_law_305 ?_
  refine x_iaddN C0_ dL_law_306 ?_
  refine x_scr C0_ hX (by omega) hL dL_law_307 ?_
  refine x_i2l C0_ dL_law_308 ?_
  refine x_bipush (v := nI 32) C0_ rfl dL_law_309 ?_
  refine x_lshl C0_ dL_law_311 ?_
  refine x_aload_n C0_ rfl dL_law_312 ?_
  refine x_iload C0_ rfl dL_law_313 ?_
  refine x_iconst (v := nI 4) C0_ rfl dL_law_315 ?_
  refine x_iaddN C0_ dL_law_316 ?_
  refine x_scr C0_ hX (by omega) hL dL_law_317 ?_
  refine x_i2l C0_ dL_law_318 ?_
  refine x_ldc2 C0_ wl_L_19 dL_law_319 ?_
  refine x_land C0_ dL_law_322 ?_
  refine x_lor C0_ dL_law_323 ?_
  refine x_aload_n C0_ rfl dL_law_324 ?_
  refine x_iload C0_ rfl dL_law_325 ?_
  refine x_iconst (v := nI 5) C0_ rfl dL_law_327 ?_
  refine x_iaddN C0_ dL_law_328 ?_
  refine x_scr C0_ hX (by omega) hL dL_law_329 ?_
  refine x_i2l C0_ dL_law_330 ?_
  refine x_bipush (v := nI 32) C0_ rfl dL_law_331 ?_
  refine x_lshl C0_ dL_law_333 ?_
  refine x_aload_n C0_ rfl dL_law_334 ?_
  refine x_iload C0_ rfl dL_law_335 ?_
  refine x_bipush (v := nI 6) C0_ rfl dL_law_337 ?_
  refine x_iaddN C0_ dL_law_339 ?_
  refine x_scr C0_ hX (by omega) hL dL_law_340 ?_
  refine x_i2l C0_ dL_law_341 ?_
  refine x_ldc2 C0_ wl_L_19 dL_law_342 ?_
  refine x_land C0_ dL_law_345 ?_
  refine x_lor C0_ dL_law_346 ?_
  refine x_callV [_, _, _] C0_ hN rfl (hRm _ (by decide)).le mv_X12_feed wm_L_25 dL_law_347 (isModel.k0 hM) rfl rfl (Nat.le_of_ble_eq_true rfl) (c_X12_feed (s := (tp, n)) hM M1_.2.1 rfl (fun I2_ b1_ b2_ b3_ => ?_))
  refine x_icmp_eq (tgt := 1479) C0_ (by decide) dL_law_350 (fun _ => ?_) (fun hkk => absurd (rfl) hkk)
  exact k _ _ _ _ _ _ _ (Nat.le_succ _) (Nat.le_add_right _ _) ⟨_, _, _, _, _, _, _, _, _, _, _, _, _, _, _, _, _, H.feed a1_ a3_ b1_ b2_ b3_⟩
theorem law_1 {G : xG} {rt : Option FieldType} {cells slots L i : Nat} {xs : Nat → Int32} {x5_ x6_ : Option Value} {R : xTR} {I : xTI} {J : xTJ} {f g e h : Nat} {tp : Nat → Nat} {n : Nat} {F : pF} {lw : Option (List (Nat × Nat))} {x : xRow} {us : Nat → xRow} {u : Nat} {td : xRow} {mk : Nat → Bool} {mx mt : Nat → xRow} {ev : Nat} {ln : Nat → Nat × Nat × Nat × Nat} {q : Nat} (C0_ : XC G RL cL_law rt) (hN : xnL G 7) (hX : xScr G L xs) (hRm : xRm G cells slots) (hi : i + 7 ≤ L) (hL : L ≤ 3584) (hq : q < 1000) (H : WL R I J f g e h tp n F lw x us u td mk mx mt ev ln q) (k : xNext G cells slots i q) : XX G cells slots 355 [some (.ref 10300), some (.ref 0), some (.ref 135), some (.ref 155), some (.int (nI i)), x5_, x6_] [] SALL R I J := by
  have hr := H.1.1
  have hS : fixd SALL R := ⟨rfl, hr.2.2.2.2.2.2.2.2.2⟩
  have hM := hS.model
  have hf := hr.2.2.2.2.1
  obtain ⟨m, em⟩ : ∃ m, fAll (tTok tp n) = m := ⟨_, rfl⟩
  have hg := f_small hr.1.2.1
  by_cases hz : m.1.2 = 0
  ·
    refine x_aload_n C0_ rfl dL_law_355 ?_
    refine x_callV [] C0_ hN rfl (hRm _ (by decide)).le mv_X11_film wm_L_26 dL_law_356 (fixd.k0 hS) rfl rfl (Nat.le_of_ble_eq_true rfl) (c_X11_film hS H.1.2.2.2.2.1 hr.2.2.2.2.2.2.2.2.1 hr.1.1 hr.1.2.1 hr.1.2.2 hf hr.2.2.2.2.2.1 hr.2.2.2.2.2.2.1 hr.2.1 em (fun z => absurd hz z) (fun _ R1_ I1_ I1a J1_ a1_ a2_ ab a3_ a4_ a42_ a43_ a5_ ok cf rf => ?_))
    have hM1_ : isModel SALL R1_ := fixd.model ⟨rfl, fun q hq => (a4_ _ _ (rtab_17 q hq) (by have := rtab_02 q hq; omega)).trans (hS.2 q hq)⟩
    have he := hr.2.1
    have ai : ∀ z, 135 ≤ z → I1_ z = I z := fun z hz => (ab.1 z (by omega) (by omega) (by omega) (by omega) (by omega) (by omega) (by omega) (fun m hm => by omega)).trans (a1_ z (by omega) (by omega) (by omega) (by omega) (by omega) (by omega))
    have T1_ : MTp I1_ tp n := ⟨by rw [ai 135 (by omega)]; exact H.2.1.2.1.1, H.2.1.2.1.2.1, fun i hi => by rw [ai 136 (by omega)]; exact H.2.1.2.1.2.2 i hi⟩
    refine x_aload_n C0_ rfl dL_law_359 ?_
    refine x_callV [] C0_ hN rfl (hRm _ (by decide)).le mv_X12_film wm_L_30 dL_law_360 (isModel.k0 hM1_) rfl rfl (Nat.le_of_ble_eq_true rfl) (c_X12_film hM1_ T1_ (fun i hi => by rw [a3_ 140 (by omega) (by omega) (by omega)]; exact H.2.1.2.2.1 i hi) em (fun z => absurd hz z) (fun _ I2_ J2_ b1_ bj b2_ ok2_ dj mf ml m18_ mn m25_ m148_ mh mtd mm => ?_))
    refine x_icmp_eq (tgt := 1479) C0_ (by decide) dL_law_363 (fun _ => ?_) (fun hkk => absurd (rfl) hkk)
    exact k _ _ _ _ _ _ _ (Nat.le_succ _) (Nat.le_add_right _ _) ⟨_, _, _, _, _, _, _, _, _, _, _, _, _, _, _, _, _, H.film1 a1_ a2_ ab a3_ a4_ a42_ a43_ a5_ ok cf rf b1_ bj b2_ dj mf ml m18_ mn m25_ m148_ mh mtd mm⟩
  ·
    refine x_aload_n C0_ rfl dL_law_355 ?_
    refine x_callV [] C0_ hN rfl (hRm _ (by decide)).le mv_X11_film wm_L_26 dL_law_356 (fixd.k0 hS) rfl rfl (Nat.le_of_ble_eq_true rfl) (c_X11_film hS H.1.2.2.2.2.1 hr.2.2.2.2.2.2.2.2.1 hr.1.1 hr.1.2.1 hr.1.2.2 hf hr.2.2.2.2.2.1 hr.2.2.2.2.2.2.1 hr.2.1 em (fun _ R1_ I1_ J1_ a1_ a2_ a3_ a4_ a5_ => ?_) (fun z => absurd z hz))
    have hM1_ : isModel SALL R1_ := fixd.model ⟨rfl, fun q hq => (a4_ _ _ (rtab_17 q hq)).trans (hS.2 q hq)⟩
    have ai : ∀ z, 135 ≤ z → I1_ z = I z := fun z hz => a1_ z (by omega) (by omega) (by omega) (by omega) (by omega) (by omega)
    have T1_ : MTp I1_ tp n := ⟨by rw [ai 135 (by omega)]; exact H.2.1.2.1.1, H.2.1.2.1.2.1, fun i hi => by rw [ai 136 (by omega)]; exact H.2.1.2.1.2.2 i hi⟩
    refine x_aload_n C0_ rfl dL_law_359 ?_
    refine x_callV [] C0_ hN rfl (hRm _ (by decide)).le mv_X12_film wm_L_30 dL_law_360 (isModel.k0 hM1_) rfl rfl (Nat.le_of_ble_eq_true rfl) (c_X12_film hM1_ T1_ (fun i hi => by rw [a3_ 140 (by omega) (by omega) (by omega)]; exact H.2.1.2.2.1 i hi) em (fun _ I2_ J2_ b1_ b2_ => ?_) (fun z => absurd z hz))
    refine x_icmp_eq (tgt := 1479) C0_ (by decide) dL_law_363 (fun _ => ?_) (fun hkk => absurd (rfl) hkk)
    exact k _ _ _ _ _ _ _ (Nat.le_succ _) (Nat.le_add_right _ _) ⟨_, _, _, _, _, _, _, _, _, _, _, _, _, _, _, _, _, H.film0 a1_ a2_ a3_ a4_ a5_ b1_ b2_⟩
theorem law_2 {G : xG} {rt : Option FieldType} {cells slots L i : Nat} {xs : Nat → Int32} {x5_ x6_ : Option Value} {R : xTR} {I : xTI} {J : xTJ} {f g e h : Nat} {tp : Nat → Nat} {n : Nat} {F : pF} {lw : Option (List (Nat × Nat))} {x : xRow} {us : Nat → xRow} {u : Nat} {td : xRow} {mk : Nat → Bool} {mx mt : Nat → xRow} {ev : Nat} {ln : Nat → Nat × Nat × Nat × Nat} {q : Nat} (C0_ : XC G RL cL_law rt) (hN : xnL G 7) (hX : xScr G L xs) (hRm : xRm G cells slots) (hi : i + 7 ≤ L) (hL : L ≤ 3584) (hq : q < 1000) (H : WL R I J f g e h tp n F lw x us u td mk mx mt ev ln q) (k : xNext G cells slots i q) : XX G cells slots 368 [some (.ref 10300), some (.ref 0), some (.ref 135), some (.ref 155), some (.int (nI i)), x5_, x6_] [] SALL R I J := by
  have hr := H.1.1
  have hS : fixd SALL R := ⟨rfl, hr.2.2.2.2.2.2.2.2.2⟩
  have hM := hS.model
  have hf := hr.2.2.2.2.1
  obtain ⟨m, em⟩ : ∃ m, evAll (tTok tp n) F = m := ⟨_, rfl⟩
  have hh := hr.2.2.1
  by_cases hz : m.1.2 = 0
  ·
    refine x_aload_n C0_ rfl dL_law_368 ?_
    refine x_callV [] C0_ hN rfl (hRm _ (by decide)).le mv_X11_evening wm_L_31 dL_law_369 (fixd.k0 hS) rfl rfl (Nat.le_of_ble_eq_true rfl) (c_X11_evening hS H.1.2.2.2.2.1 hr.2.2.2.2.2.2.2.2.1 hr.1.1 hf H.1.2.1 H.1.2.2.2.1 hr.2.2.2.2.2.2.1 hr.2.2.2.2.2.2.2.1 hr.2.2.1 em (fun z => absurd hz z) (fun _ R1_ I1_ J1_ a1_ a2_ a3_ a4_ a44_ a45_ a5_ av => ?_))
    have hM1_ : isModel SALL R1_ := fixd.model ⟨rfl, fun q hq => (a4_ _ _ (rtab_17 q hq) (by have := rtab_02 q hq; omega)).trans (hS.2 q hq)⟩
    have ai : ∀ z, 135 ≤ z → I1_ z = I z := fun z hz => a1_ z (by omega) (by omega)
    have T1_ : MTp I1_ tp n := ⟨by rw [ai 135 (by omega)]; exact H.2.1.2.1.1, H.2.1.2.1.2.1, fun i hi => by rw [ai 136 (by omega)]; exact H.2.1.2.1.2.2 i hi⟩
    have N1_ : NmN I1_ J1_ (F.1.1 + F.1.2.2.1) F := ⟨by rw [ai 135 (by omega)]; exact H.2.1.2.2.2.1.1, H.2.1.2.2.2.1.2.1.congr (ai 146 (by omega)) (a3_ 144 (by omega)), H.2.1.2.2.2.1.2.2⟩
    refine x_aload_n C0_ rfl dL_law_372 ?_
    refine x_callV [] C0_ hN rfl (hRm _ (by decide)).le mv_X12_evening wm_L_34 dL_law_373 (isModel.k0 hM1_) rfl rfl (Nat.le_of_ble_eq_true rfl) (c_X12_evening hM1_ T1_ (fun i hi => by rw [a3_ 140 (by omega)]; exact H.2.1.2.2.1 i hi) N1_ em (fun z => absurd hz z) (fun _ I2_ J2_ b1_ b2_ bj b4_ v40_ v0_ vl => ?_))
    refine x_icmp_eq (tgt := 1479) C0_ (by decide) dL_law_376 (fun _ => ?_) (fun hkk => absurd (rfl) hkk)
    exact k _ _ _ _ _ _ _ (Nat.le_succ _) (Nat.le_add_right _ _) ⟨_, _, _, _, _, _, _, _, _, _, _, _, _, _, _, _, _, H.eve1 a1_ a2_ a3_ a4_ a44_ a45_ a5_ av b1_ b2_ bj b4_ v40_ v0_ vl⟩
  ·
    refine x_aload_n C0_ rfl dL_law_368 ?_
    refine x_callV [] C0_ hN rfl (hRm _ (by decide)).le mv_X11_evening wm_L_31 dL_law_369 (fixd.k0 hS) rfl rfl (Nat.le_of_ble_eq_true rfl) (c_X11_evening hS H.1.2.2.2.2.1 hr.2.2.2.2.2.2.2.2.1 hr.1.1 hf H.1.2.1 H.1.2.2.2.1 hr.2.2.2.2.2.2.1 hr.2.2.2.2.2.2.2.1 hr.2.2.1 em (fun _ R1_ I1_ J1_ a1_ a2_ a3_ a4_ a5_ => ?_) (fun z => absurd z hz))
    have hM1_ : isModel SALL R1_ := fixd.model ⟨rfl, fun q hq => (a4_ _ _ (rtab_17 q hq)).trans (hS.2 q hq)⟩
    have ai : ∀ z, 135 ≤ z → I1_ z = I z := fun z hz => a1_ z (by omega) (by omega)
    have T1_ : MTp I1_ tp n := ⟨by rw [ai 135 (by omega)]; exact H.2.1.2.1.1, H.2.1.2.1.2.1, fun i hi => by rw [ai 136 (by omega)]; exact H.2.1.2.1.2.2 i hi⟩
    have N1_ : NmN I1_ J1_ (F.1.1 + F.1.2.2.1) F := ⟨by rw [ai 135 (by omega)]; exact H.2.1.2.2.2.1.1, H.2.1.2.2.2.1.2.1.congr (ai 146 (by omega)) (a3_ 144 (by omega)), H.2.1.2.2.2.1.2.2⟩
    refine x_aload_n C0_ rfl dL_law_372 ?_
    refine x_callV [] C0_ hN rfl (hRm _ (by decide)).le mv_X12_evening wm_L_34 dL_law_373 (isModel.k0 hM1_) rfl rfl (Nat.le_of_ble_eq_true rfl) (c_X12_evening hM1_ T1_ (fun i hi => by rw [a3_ 140 (by omega)]; exact H.2.1.2.2.1 i hi) N1_ em (fun _ I2_ J2_ b1_ b2_ b3_ bj b4_ => ?_) (fun z => absurd z hz))
    refine x_icmp_eq (tgt := 1479) C0_ (by decide) dL_law_376 (fun _ => ?_) (fun hkk => absurd (rfl) hkk)
    exact k _ _ _ _ _ _ _ (Nat.le_succ _) (Nat.le_add_right _ _) ⟨_, _, _, _, _, _, _, _, _, _, _, _, _, _, _, _, _, H.eve0 a1_ a2_ a3_ a4_ a5_ b1_ b2_ b3_ bj b4_⟩
