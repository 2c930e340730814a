/-! THE LAW'S ROWS -/
def xScr (G : xG) (L : Nat) (xs : Nat → Int32) : Prop := match G with
  | (p, l, e, Rm, s, m, args, below, meth, c, D, cs, ad, b, nL, Q) => va_X (ad 10300) L xs s s.heap ∧ ad 10300 < s.heap.size ∧ ¬ b ≤ ad 10300
def xRm (G : xG) (cells slots : Nat) : Prop := ∀ d, d ≤ 39 → xRf G d (cells + 1) (slots + 6)
theorem xRf.le {G : xG} {d cells slots : Nat} (h : xRf G d (cells + 1) (slots + 6)) : xRf G d cells slots := by
  obtain ⟨p, l, e, Rm, s, m, args, below, meth, c, D, cs, ad, b, nL, Q⟩ := G
  exact ⟨h.1, h.2.1, Nat.le_trans (Nat.le_add_right _ _) h.2.2.1, Nat.le_trans (Nat.le_add_right _ _) h.2.2.2⟩
theorem x_scr {G : xG} {own : String} {cc : ByteArray} {ret : Option FieldType} {cells slots pc L i : Nat} {Lc : List (Option Value)} {st : List Value} {S : xTS} {R : xTR} {I : xTI} {J : xTJ} {xs : Nat → Int32} (C0_ : XC G own cc ret) (hX : xScr G L xs) (hi : i < L) (hL : L ≤ 3584) (hd : decode cc pc = .ok (.iaload, 1)) (k : XX G cells slots (pc + 1) Lc (.int (xs i) :: st) S R I J) : XX G cells slots pc Lc (.int (nI i) :: .ref 10300 :: st) S R I J := by
  obtain ⟨p, l, e, Rm, s, m, args, below, meth, c, D, cs, ad, b, nL, Q⟩ := G
  intro H locs ls hn hl hP hS
  refine va_sld C0_.1 C0_.2.1 hX.1 hX.2.1 hX.2.2 hS (vp_in_nI hi (by omega)) hd ?_
  rw [nI_clamp (by omega)]
  exact k H locs ls hn hl hP hS
theorem x_scl {G : xG} {own : String} {cc : ByteArray} {ret : Option FieldType} {cells slots pc L : Nat} {Lc : List (Option Value)} {st : List Value} {S : xTS} {R : xTR} {I : xTI} {J : xTJ} {xs : Nat → Int32} (C0_ : XC G own cc ret) (hX : xScr G L xs) (hd : decode cc pc = .ok (.arraylength, 1)) (k : XX G cells slots (pc + 1) Lc (.int (nI L) :: st) S R I J) : XX G cells slots pc Lc (.ref 10300 :: st) S R I J := by
  obtain ⟨p, l, e, Rm, s, m, args, below, meth, c, D, cs, ad, b, nL, Q⟩ := G
  intro H locs ls hn hl hP hS
  exact va_slen C0_.1 C0_.2.1 hX.1 hX.2.1 hX.2.2 hS hd (k H locs ls hn hl hP hS)
/-- some world stands behind so many calls -/
def WI (q : Nat) (R : xTR) (I : xTI) (J : xTJ) : Prop := ∃ (f g e h : Nat) (tp : Nat → Nat) (n : Nat) (F : pF) (lw : Option (List (Nat × Nat))) (x : xRow) (us : Nat → xRow) (u : Nat) (td : xRow) (mk : Nat → Bool) (mx mt : Nat → xRow) (ev : Nat) (ln : Nat → Nat × Nat × Nat × Nat), WL R I J f g e h tp n F lw x us u td mk mx mt ev ln q
/-- the law goes on behind the switch -/
def xNext (G : xG) (cells slots i q : Nat) : Prop := ∀ (c' s' : Nat) (x5'_ x6'_ : Option Value) (R' : xTR) (I' : xTI) (J' : xTJ), c' ≤ cells + 1 → s' ≤ slots + 6 → WI (q + 1) R' I' J' → XX G c' s' 1479 [some (.ref 10300), some (.ref 0), some (.ref 135), some (.ref 155), some (.int (nI i)), x5'_, x6'_] [] SALL R' I' J'
theorem law_3 {G : xG} {rt : Option FieldType} {cells slots L i : Nat} {xs : Nat → Int32} {x5_ x6_ : Option Value} {R : xTR} {I : xTI} {J : xTJ} {f g e h : Nat} {tp : Nat → Nat} {n : Nat} {F : pF} {lw : Option (List (Nat × Nat))} {x : xRow} {us : Nat → xRow} {u : Nat} {td : xRow} {mk : Nat → Bool} {mx mt : Nat → xRow} {ev : Nat} {ln : Nat → Nat × Nat × Nat × Nat} {q : Nat} (C0_ : XC G RL cL_law rt) (hN : xnL G 7) (hX : xScr G L xs) (hRm : xRm G cells slots) (hi : i + 7 ≤ L) (hL : L ≤ 3584) (hq : q < 1000) (H : WL R I J f g e h tp n F lw x us u td mk mx mt ev ln q) (k : xNext G cells slots i q) : XX G cells slots 381 [some (.ref 10300), some (.ref 0), some (.ref 135), some (.ref 155), some (.int (nI i)), x5_, x6_] [] SALL R I J := by
  have hr := H.1.1
  have hS : fixd SALL R := ⟨rfl, hr.2.2.2.2.2.2.2.2.2⟩
  have hM := hS.model
  have hf := hr.2.2.2.2.1
  refine x_aload_n C0_ rfl dL_law_381 ?_
  refine x_aload_n C0_ rfl dL_law_382 ?_
  refine x_iload C0_ rfl dL_law_383 ?_
  refine x_iconst (v := nI 1) C0_ rfl dL_law_385 ?_
  refine x_iaddN C0_ dL_law_386 ?_
  refine x_scr C0_ hX (by omega) hL dL_law_387 ?_
  refine x_aload_n C0_ rfl dL_law_388 ?_
  refine x_iload C0_ rfl dL_law_389 ?_
  refine x_iconst (v := nI 2) C0_ rfl dL_law_391 ?_
  refine x_iaddN C0_ dL_law_392 ?_
  refine x_scr C0_ hX (by omega) hL dL_law_393 ?_
  refine x_callV [_, _] C0_ hN rfl (hRm _ (by decide)).le mv_X11_scene wm_L_35 dL_law_394 (fixd.k0 hS) rfl rfl (Nat.le_of_ble_eq_true rfl) (c_X11_scene hS hf H.1.2.2.1 (fun I1_ q1_ => ?_))
  have H1_ := H.fq q1_
  refine x_aload_n C0_ rfl dL_law_397 ?_
  refine x_aload_n C0_ rfl dL_law_398 ?_
  refine x_iload C0_ rfl dL_law_399 ?_
  refine x_iconst (v := nI 1) C0_ rfl dL_law_401 ?_
  refine x_iaddN C0_ dL_law_402 ?_
  refine x_scr C0_ hX (by omega) hL dL_law_403 ?_
  refine x_aload_n C0_ rfl dL_law_404 ?_
  refine x_iload C0_ rfl dL_law_405 ?_
  refine x_iconst (v := nI 2) C0_ rfl dL_law_407 ?_
  refine x_iaddN C0_ dL_law_408 ?_
  refine x_scr C0_ hX (by omega) hL dL_law_409 ?_
  refine x_callV [_, _] C0_ hN rfl (hRm _ (by decide)).le mv_X12_scene wm_L_39 dL_law_410 (isModel.k0 hM) rfl rfl (Nat.le_of_ble_eq_true rfl) (c_X12_scene hM H1_.2.1.1 (fun I2_ q2_ => ?_))
  have H2_ := H1_.mq q2_
  refine x_icmp_eq (tgt := 1479) C0_ (by decide) dL_law_413 (fun _ => ?_) (fun hkk => absurd (rfl) hkk)
  exact k _ _ _ _ _ _ _ (Nat.le_succ _) (Nat.le_add_right _ _) ⟨_, _, _, _, _, _, _, _, _, _, _, _, _, _, _, _, _, H2_.up⟩
theorem law_4 {G : xG} {rt : Option FieldType} {cells slots L i : Nat} {xs : Nat → Int32} {x5_ x6_ : Option Value} {R : xTR} {I : xTI} {J : xTJ} {f g e h : Nat} {tp : Nat → Nat} {n : Nat} {F : pF} {lw : Option (List (Nat × Nat))} {x : xRow} {us : Nat → xRow} {u : Nat} {td : xRow} {mk : Nat → Bool} {mx mt : Nat → xRow} {ev : Nat} {ln : Nat → Nat × Nat × Nat × Nat} {q : Nat} (C0_ : XC G RL cL_law rt) (hN : xnL G 7) (hX : xScr G L xs) (hRm : xRm G cells slots) (hi : i + 7 ≤ L) (hL : L ≤ 3584) (hq : q < 1000) (H : WL R I J f g e h tp n F lw x us u td mk mx mt ev ln q) (k : xNext G cells slots i q) : XX G cells slots 418 [some (.ref 10300), some (.ref 0), some (.ref 135), some (.ref 155), some (.int (nI i)), x5_, x6_] [] SALL R I J := by
  have hr := H.1.1
  have hS : fixd SALL R := ⟨rfl, hr.2.2.2.2.2.2.2.2.2⟩
  have hM := hS.model
  have hf := hr.2.2.2.2.1
  refine x_aload_n C0_ rfl dL_law_418 ?_
  refine x_aload_n C0_ rfl dL_law_419 ?_
  refine x_iload C0_ rfl dL_law_420 ?_
  refine x_iconst (v := nI 1) C0_ rfl dL_law_422 ?_
  refine x_iaddN C0_ dL_law_423 ?_
  refine x_scr C0_ hX (by omega) hL dL_law_424 ?_
  refine x_aload_n C0_ rfl dL_law_425 ?_
  refine x_iload C0_ rfl dL_law_426 ?_
  refine x_iconst (v := nI 2) C0_ rfl dL_law_428 ?_
  refine x_iaddN C0_ dL_law_429 ?_
  refine x_scr C0_ hX (by omega) hL dL_law_430 ?_
  refine x_callV [_, _] C0_ hN rfl (hRm _ (by decide)).le mv_X11_watcher wm_L_40 dL_law_431 (fixd.k0 hS) rfl rfl (Nat.le_of_ble_eq_true rfl) (c_X11_watcher hS hf H.1.2.2.1 (fun I1_ q1_ => ?_))
  have H1_ := H.fq q1_
  refine x_aload_n C0_ rfl dL_law_434 ?_
  refine x_aload_n C0_ rfl dL_law_435 ?_
  refine x_iload C0_ rfl dL_law_436 ?_
  refine x_iconst (v := nI 1) C0_ rfl dL_law_438 ?_
  refine x_iaddN C0_ dL_law_439 ?_
  refine x_scr C0_ hX (by omega) hL dL_law_440 ?_
  refine x_aload_n C0_ rfl dL_law_441 ?_
  refine x_iload C0_ rfl dL_law_442 ?_
  refine x_iconst (v := nI 2) C0_ rfl dL_law_444 ?_
  refine x_iaddN C0_ dL_law_445 ?_
  refine x_scr C0_ hX (by omega) hL dL_law_446 ?_
  refine x_callV [_, _] C0_ hN rfl (hRm _ (by decide)).le mv_X12_watcher wm_L_43 dL_law_447 (isModel.k0 hM) rfl rfl (Nat.le_of_ble_eq_true rfl) (c_X12_watcher hM H1_.2.1.1 (fun I2_ q2_ => ?_))
  have H2_ := H1_.mq q2_
  refine x_icmp_eq (tgt := 1479) C0_ (by decide) dL_law_450 (fun _ => ?_) (fun hkk => absurd (rfl) hkk)
  exact k _ _ _ _ _ _ _ (Nat.le_succ _) (Nat.le_add_right _ _) ⟨_, _, _, _, _, _, _, _, _, _, _, _, _, _, _, _, _, H2_.up⟩
theorem law_5 {G : xG} {rt : Option FieldType} {cells slots L i : Nat} {xs : Nat → Int32} {x5_ x6_ : Option Value} {R : xTR} {I : xTI} {J : xTJ} {f g e h : Nat} {tp : Nat → Nat} {n : Nat} {F : pF} {lw : Option (List (Nat × Nat))} {x : xRow} {us : Nat → xRow} {u : Nat} {td : xRow} {mk : Nat → Bool} {mx mt : Nat → xRow} {ev : Nat} {ln : Nat → Nat × Nat × Nat × Nat} {q : Nat} (C0_ : XC G RL cL_law rt) (hN : xnL G 7) (hX : xScr G L xs) (hRm : xRm G cells slots) (hi : i + 7 ≤ L) (hL : L ≤ 3584) (hq : q < 1000) (H : WL R I J f g e h tp n F lw x us u td mk mx mt ev ln q) (k : xNext G cells slots i q) : XX G cells slots 455 [some (.ref 10300), some (.ref 0), some (.ref 135), some (.ref 155), some (.int (nI i)), x5_, x6_] [] SALL R I J := by
  have hr := H.1.1
  have hS : fixd SALL R := ⟨rfl, hr.2.2.2.2.2.2.2.2.2⟩
  have hM := hS.model
  have hf := hr.2.2.2.2.1
  refine x_aload_n C0_ rfl dL_law_455 ?_
  refine x_aload_n C0_ rfl dL_law_456 ?_
  refine x_iload C0_ rfl dL_law_457 ?_
  refine x_iconst (v := nI 1) C0_ rfl dL_law_459 ?_
  refine x_iaddN C0_ dL_law_460 ?_
  refine x_scr C0_ hX (by omega) hL dL_law_461 ?_
  refine x_aload_n C0_ rfl dL_law_462 ?_
  refine x_iload C0_ rfl dL_law_463 ?_
  refine x_iconst (v := nI 2) C0_ rfl dL_law_465 ?_
  refine x_iaddN C0_ dL_law_466 ?_
  refine x_scr C0_ hX (by omega) hL dL_law_467 ?_
  refine x_callV [_, _] C0_ hN rfl (hRm _ (by decide)).le mv_X11_thinks wm_L_44 dL_law_468 (fixd.k0 hS) rfl rfl (Nat.le_of_ble_eq_true rfl) (c_X11_thinks hS hf H.1.2.2.1 (fun I1_ q1_ => ?_))
  have H1_ := H.fq q1_
  refine x_aload_n C0_ rfl dL_law_471 ?_
  refine x_aload_n C0_ rfl dL_law_472 ?_
  refine x_iload C0_ rfl dL_law_473 ?_
  refine x_iconst (v := nI 1) C0_ rfl dL_law_475 ?_
  refine x_iaddN C0_ dL_law_476 ?_
  refine x_scr C0_ hX (by omega) hL dL_law_477 ?_
  refine x_aload_n C0_ rfl dL_law_478 ?_
  refine x_iload C0_ rfl dL_law_479 ?_
  refine x_iconst (v := nI 2) C0_ rfl dL_law_481 ?_
  refine x_iaddN C0_ dL_law_482 ?_
  refine x_scr C0_ hX (by omega) hL dL_law_483 ?_
  refine x_callV [_, _] C0_ hN rfl (hRm _ (by decide)).le mv_X12_thinks wm_L_47 dL_law_484 (isModel.k0 hM) rfl rfl (Nat.le_of_ble_eq_true rfl) (c_X12_thinks hM H1_.2.1.1 (fun I2_ q2_ => ?_))
  have H2_ := H1_.mq q2_
  refine x_icmp_eq (tgt := 1479) C0_ (by decide) dL_law_487 (fun _ => ?_) (fun hkk => absurd (rfl) hkk)
  exact k _ _ _ _ _ _ _ (Nat.le_succ _) (Nat.le_add_right _ _) ⟨_, _, _, _, _, _, _, _, _, _, _, _, _, _, _, _, _, H2_.up⟩
theorem law_13 {G : xG} {rt : Option FieldType} {cells slots L i : Nat} {xs : Nat → Int32} {x5_ x6_ : Option Value} {R : xTR} {I : xTI} {J : xTJ} {f g e h : Nat} {tp : Nat → Nat} {n : Nat} {F : pF} {lw : Option (List (Nat × Nat))} {x : xRow} {us : Nat → xRow} {u : Nat} {td : xRow} {mk : Nat → Bool} {mx mt : Nat → xRow} {ev : Nat} {ln : Nat → Nat × Nat × Nat × Nat} {q : Nat} (C0_ : XC G RL cL_law rt) (hN : xnL G 7) (hX : xScr G L xs) (hRm : xRm G cells slots) (hi : i + 7 ≤ L) (hL : L ≤ 3584) (hq : q < 1000) (H : WL R I J f g e h tp n F lw x us u td mk mx mt ev ln q) (k : xNext G cells slots i q) : XX G cells slots 683 [some (.ref 10300), some (.ref 0), some (.ref 135), some (.ref 155), some (.int (nI i)), x5_, x6_] [] SALL R I J := by
  have hr := H.1.1
  have hS : fixd SALL R := ⟨rfl, hr.2.2.2.2.2.2.2.2.2⟩
  have hM := hS.model
  have hf := hr.2.2.2.2.1
  refine x_aload_n C0_ rfl dL_law_683 ?_
  refine x_aload_n C0_ rfl dL_law_684 ?_
  refine x_iload C0_ rfl dL_law_685 ?_
  refine x_iconst (v := nI 1) C0_ rfl dL_law_687 ?_
  refine x_iaddN C0_ dL_law_688 ?_
  refine x_scr C0_ hX (by omega) hL dL_law_689 ?_
  refine x_aload_n C0_ rfl dL_law_690 ?_
  refine x_iload C0_ rfl dL_law_691 ?_
  refine x_iconst (v := nI 2) C0_ rfl dL_law_693 ?_
  refine x_iaddN C0_ dL_law_694 ?_
  refine x_scr C0_ hX (by omega) hL dL_law_695 ?_
  refine x_callV [_, _] C0_ hN rfl (hRm _ (by decide)).le mv_X11_end wm_L_80 dL_law_696 (fixd.k0 hS) rfl rfl (Nat.le_of_ble_eq_true rfl) (c_X11_end hS hf H.1.2.2.1 (fun I1_ q1_ => ?_))
  have H1_ := H.fq q1_
  refine x_aload_n C0_ rfl dL_law_699 ?_
  refine x_aload_n C0_ rfl dL_law_700 ?_
  refine x_iload C0_ rfl dL_law_701 ?_
  refine x_iconst (v := nI 1) C0_ rfl dL_law_703 ?_
  refine x_iaddN C0_ dL_law_704 ?_
  refine x_scr C0_ hX (by omega) hL dL_law_705 ?_
  refine x_aload_n C0_ rfl dL_law_706 ?_
  refine x_iload C0_ rfl dL_law_707 ?_
  refine x_iconst (v := nI 2) C0_ rfl dL_law_709 ?_
  refine x_iaddN C0_ dL_law_710 ?_
  refine x_scr C0_ hX (by omega) hL dL_law_711 ?_
  refine x_callV [_, _] C0_ hN rfl (hRm _ (by decide)).le mv_X12_end wm_L_83 dL_law_712 (isModel.k0 hM) rfl rfl (Nat.le_of_ble_eq_true rfl) (c_X12_end hM H1_.2.1.1 (fun I2_ q2_ => ?_))
  have H2_ := H1_.mq q2_
  refine x_icmp_eq (tgt := 1479) C0_ (by decide) dL_law_715 (fun _ => ?_) (fun hkk => absurd (rfl) hkk)
  exact k _ _ _ _ _ _ _ (Nat.le_succ _) (Nat.le_add_right _ _) ⟨_, _, _, _, _, _, _, _, _, _, _, _, _, _, _, _, _, H2_.up⟩
theorem law_14 {G : xG} {rt : Option FieldType} {cells slots L i : Nat} {xs : Nat → Int32} {x5_ x6_ : Option Value} {R : xTR} {I : xTI} {J : xTJ} {f g e h : Nat} {tp : Nat → Nat} {n : Nat} {F : pF} {lw : Option (List (Nat × Nat))} {x : xRow} {us : Nat → xRow} {u : Nat} {td : xRow} {mk : Nat → Bool} {mx mt : Nat → xRow} {ev : Nat} {ln : Nat → Nat × Nat × Nat × Nat} {q : Nat} (C0_ : XC G RL cL_law rt) (hN : xnL G 7) (hX : xScr G L xs) (hRm : xRm G cells slots) (hi : i + 7 ≤ L) (hL : L ≤ 3584) (hq : q < 1000) (H : WL R I J f g e h tp n F lw x us u td mk mx mt ev ln q) (k : xNext G cells slots i q) : XX G cells slots 720 [some (.ref 10300), some (.ref 0), some (.ref 135), some (.ref 155), some (.int (nI i)), x5_, x6_] [] SALL R I J := by
  have hr := H.1.1
  have hS : fixd SALL R := ⟨rfl, hr.2.2.2.2.2.2.2.2.2⟩
  have hM := hS.model
  have hf := hr.2.2.2.2.1
  refine x_aload_n C0_ rfl dL_law_720 ?_
  refine x_aload_n C0_ rfl dL_law_721 ?_
  refine x_iload C0_ rfl dL_law_722 ?_
  refine x_iconst (v := nI 1) C0_ rfl dL_law_724 ?_
  refine x_iaddN C0_ dL_law_725 ?_
  refine x_scr C0_ hX (by omega) hL dL_law_726 ?_
  refine x_callV [_] C0_ hN rfl (hRm _ (by decide)).le mv_X11_first wm_L_84 dL_law_727 (fixd.k0 hS) rfl rfl (Nat.le_of_ble_eq_true rfl) (c_X11_first hS hf H.1.2.2.1 (fun I1_ q1_ => ?_))
  have H1_ := H.fq q1_
  refine x_aload_n C0_ rfl dL_law_730 ?_
  refine x_aload_n C0_ rfl dL_law_731 ?_
  refine x_iload C0_ rfl dL_law_732 ?_
  refine x_iconst (v := nI 1) C0_ rfl dL_law_734 ?_
  refine x_iaddN C0_ dL_law_735 ?_
  refine x_scr C0_ hX (by omega) hL dL_law_736 ?_
  refine x_callV [_] C0_ hN rfl (hRm _ (by decide)).le mv_X12_first wm_L_87 dL_law_737 (isModel.k0 hM) rfl rfl (Nat.le_of_ble_eq_true rfl) (c_X12_first hM H1_.2.1.1 (fun I2_ q2_ => ?_))
  have H2_ := H1_.mq q2_
  refine x_icmp_eq (tgt := 1479) C0_ (by decide) dL_law_740 (fun _ => ?_) (fun hkk => absurd (rfl) hkk)
  exact k _ _ _ _ _ _ _ (Nat.le_succ _) (Nat.le_add_right _ _) ⟨_, _, _, _, _, _, _, _, _, _, _, _, _, _, _, _, _, H2_.up⟩
theorem law_16 {G : xG} {rt : Option FieldType} {cells slots L i : Nat} {xs : Nat → Int32} {x5_ x6_ : Option Value} {R : xTR} {I : xTI} {J : xTJ} {f g e h : Nat} {tp : Nat → Nat} {n : Nat} {F : pF} {lw : Option (List (Nat × Nat))} {x : xRow} {us : Nat → xRow} {u : Nat} {td : xRow} {mk : Nat → Bool} {mx mt : Nat → xRow} {ev : Nat} {ln : Nat → Nat × Nat × Nat × Nat} {q : Nat} (C0_ : XC G RL cL_law rt) (hN : xnL G 7) (hX : xScr G L xs) (hRm : xRm G cells slots) (hi : i + 7 ≤ L) (hL : L ≤ 3584) (hq : q < 1000) (H : WL R I J f g e h tp n F lw x us u td mk mx mt ev ln q) (k : xNext G cells slots i q) : XX G cells slots 810 [some (.ref 10300), some (.ref 0), some (.ref 135), some (.ref 155), some (.int (nI i)), x5_, x6_] [] SALL R I J := by
  have hr := H.1.1
  have hS : fixd SALL R := ⟨rfl, hr.2.2.2.2.2.2.2.2.2⟩
  have hM := hS.model
  have hf := hr.2.2.2.2.1
  refine x_aload_n C0_ rfl dL_law_810 ?_
  refine x_aload_n C0_ rfl dL_law_811 ?_
  refine x_iload C0_ rfl dL_law_812 ?_
  refine x_iconst (v := nI 1) C0_ rfl dL_law_814 ?_
  refine x_iaddN C0_ dL_law_815 ?_
  refine x_scr C0_ hX (by omega) hL dL_law_816 ?_
  refine x_callV [_] C0_ hN rfl (hRm _ (by decide)).le mv_X11_spare wm_L_93 dL_law_817 (fixd.k0 hS) rfl rfl (Nat.le_of_ble_eq_true rfl) (c_X11_spare hS hf H.1.2.2.1 (fun I1_ q1_ => ?_))
  have H1_ := H.fq q1_
  refine x_aload_n C0_ rfl dL_law_820 ?_
  refine x_aload_n C0_ rfl dL_law_821 ?_
  refine x_iload C0_ rfl dL_law_822 ?_
  refine x_iconst (v := nI 1) C0_ rfl dL_law_824 ?_
  refine x_iaddN C0_ dL_law_825 ?_
  refine x_scr C0_ hX (by omega) hL dL_law_826 ?_
  refine x_callV [_] C0_ hN rfl (hRm _ (by decide)).le mv_X12_spare wm_L_96 dL_law_827 (isModel.k0 hM) rfl rfl (Nat.le_of_ble_eq_true rfl) (c_X12_spare hM H1_.2.1.1 (fun I2_ q2_ => ?_))
  have H2_ := H1_.mq q2_
  refine x_icmp_eq (tgt := 1479) C0_ (by decide) dL_law_830 (fun _ => ?_) (fun hkk => absurd (rfl) hkk)
  exact k _ _ _ _ _ _ _ (Nat.le_succ _) (Nat.le_add_right _ _) ⟨_, _, _, _, _, _, _, _, _, _, _, _, _, _, _, _, _, H2_.up⟩
theorem law_17 {G : xG} {rt : Option FieldType} {cells slots L i : Nat} {xs : Nat → Int32} {x5_ x6_ : Option Value} {R : xTR} {I : xTI} {J : xTJ} {f g e h : Nat} {tp : Nat → Nat} {n : Nat} {F : pF} {lw : Option (List (Nat × Nat))} {x : xRow} {us : Nat → xRow} {u : Nat} {td : xRow} {mk : Nat → Bool} {mx mt : Nat → xRow} {ev : Nat} {ln : Nat → Nat × Nat × Nat × Nat} {q : Nat} (C0_ : XC G RL cL_law rt) (hN : xnL G 7) (hX : xScr G L xs) (hRm : xRm G cells slots) (hi : i + 7 ≤ L) (hL : L ≤ 3584) (hq : q < 1000) (H : WL R I J f g e h tp n F lw x us u td mk mx mt ev ln q) (k : xNext G cells slots i q) : XX G cells slots 835 [some (.ref 10300), some (.ref 0), some (.ref 135), some (.ref 155), some (.int (nI i)), x5_, x6_] [] SALL R I J := by
  have hr := H.1.1
  have hS : fixd SALL R := ⟨rfl, hr.2.2.2.2.2.2.2.2.2⟩
  have hM := hS.model
  have hf := hr.2.2.2.2.1
  refine x_aload_n C0_ rfl dL_law_835 ?_
  refine x_aload_n C0_ rfl dL_law_836 ?_
  refine x_iload C0_ rfl dL_law_837 ?_
  refine x_iconst (v := nI 1) C0_ rfl dL_law_839 ?_
  refine x_iaddN C0_ dL_law_840 ?_
  refine x_scr C0_ hX (by omega) hL dL_law_841 ?_
  refine x_aload_n C0_ rfl dL_law_842 ?_
  refine x_iload C0_ rfl dL_law_843 ?_
  refine x_iconst (v := nI 2) C0_ rfl dL_law_845 ?_
  refine x_iaddN C0_ dL_law_846 ?_
  refine x_scr C0_ hX (by omega) hL dL_law_847 ?_
  refine x_callV [_, _] C0_ hN rfl (hRm _ (by decide)).le mv_X11_takes wm_L_97 dL_law_848 (fixd.k0 hS) rfl rfl (Nat.le_of_ble_eq_true rfl) (c_X11_takes hS hf H.1.2.2.1 (fun I1_ q1_ => ?_))
  have H1_ := H.fq q1_
  refine x_aload_n C0_ rfl dL_law_851 ?_
  refine x_aload_n C0_ rfl dL_law_852 ?_
  refine x_iload C0_ rfl dL_law_853 ?_
  refine x_iconst (v := nI 1) C0_ rfl dL_law_855 ?_
  refine x_iaddN C0_ dL_law_856 ?_
  refine x_scr C0_ hX (by omega) hL dL_law_857 ?_
  refine x_aload_n C0_ rfl dL_law_858 ?_
  refine x_iload C0_ rfl dL_law_859 ?_
  refine x_iconst (v := nI 2) C0_ rfl dL_law_861 ?_
  refine x_iaddN C0_ dL_law_862 ?_
  refine x_scr C0_ hX (by omega) hL dL_law_863 ?_
  refine x_callV [_, _] C0_ hN rfl (hRm _ (by decide)).le mv_X12_takes wm_L_100 dL_law_864 (isModel.k0 hM) rfl rfl (Nat.le_of_ble_eq_true rfl) (c_X12_takes hM H1_.2.1.1 (fun I2_ q2_ => ?_))
  have H2_ := H1_.mq q2_
  refine x_icmp_eq (tgt := 1479) C0_ (by decide) dL_law_867 (fun _ => ?_) (fun hkk => absurd (rfl) hkk)
  exact k _ _ _ _ _ _ _ (Nat.le_succ _) (Nat.le_add_right _ _) ⟨_, _, _, _, _, _, _, _, _, _, _, _, _, _, _, _, _, H2_.up⟩
theorem law_18 {G : xG} {rt : Option FieldType} {cells slots L i : Nat} {xs : Nat → Int32} {x5_ x6_ : Option Value} {R : xTR} {I : xTI} {J : xTJ} {f g e h : Nat} {tp : Nat → Nat} {n : Nat} {F : pF} {lw : Option (List (Nat × Nat))} {x : xRow} {us : Nat → xRow} {u : Nat} {td : xRow} {mk : Nat → Bool} {mx mt : Nat → xRow} {ev : Nat} {ln : Nat → Nat × Nat × Nat × Nat} {q : Nat} (C0_ : XC G RL cL_law rt) (hN : xnL G 7) (hX : xScr G L xs) (hRm : xRm G cells slots) (hi : i + 7 ≤ L) (hL : L ≤ 3584) (hq : q < 1000) (H : WL R I J f g e h tp n F lw x us u td mk mx mt ev ln q) (k : xNext G cells slots i q) : XX G cells slots 872 [some (.ref 10300), some (.ref 0), some (.ref 135), some (.ref 155), some (.int (nI i)), x5_, x6_] [] SALL R I J := by
  have hr := H.1.1
  have hS : fixd SALL R := ⟨rfl, hr.2.2.2.2.2.2.2.2.2⟩
  have hM := hS.model
  have hf := hr.2.2.2.2.1
  refine x_aload_n C0_ rfl dL_law_872 ?_
  refine x_aload_n C0_ rfl dL_law_873 ?_
  refine x_iload C0_ rfl dL_law_874 ?_
  refine x_iconst (v := nI 1) C0_ rfl dL_law_876 ?_
  refine x_iaddN C0_ dL_law_877 ?_
  refine x_scr C0_ hX (by omega) hL dL_law_878 ?_
  refine x_callV [_] C0_ hN rfl (hRm _ (by decide)).le mv_X11_blank wm_L_101 dL_law_879 (fixd.k0 hS) rfl rfl (Nat.le_of_ble_eq_true rfl) (c_X11_blank hS hf H.1.2.2.1 (fun I1_ q1_ => ?_))
  have H1_ := H.fq q1_
  refine x_aload_n C0_ rfl dL_law_882 ?_
  refine x_aload_n C0_ rfl dL_law_883 ?_
  refine x_iload C0_ rfl dL_law_884 ?_
  refine x_iconst (v := nI 1) C0_ rfl dL_law_886 ?_
  refine x_iaddN C0_ dL_law_887 ?_
  refine x_scr C0_ hX (by omega) hL dL_law_888 ?_
  refine x_callV [_] C0_ hN rfl (hRm _ (by decide)).le mv_X12_blank wm_L_104 dL_law_889 (isModel.k0 hM) rfl rfl (Nat.le_of_ble_eq_true rfl) (c_X12_blank hM H1_.2.1.1 (fun I2_ q2_ => ?_))
  have H2_ := H1_.mq q2_
  refine x_icmp_eq (tgt := 1479) C0_ (by decide) dL_law_892 (fun _ => ?_) (fun hkk => absurd (rfl) hkk)
  exact k _ _ _ _ _ _ _ (Nat.le_succ _) (Nat.le_add_right _ _) ⟨_, _, _, _, _, _, _, _, _, _, _, _, _, _, _, _, _, H2_.up⟩
theorem law_19 {G : xG} {rt : Option FieldType} {cells slots L i : Nat} {xs : Nat → Int32} {x5_ x6_ : Option Value} {R : xTR} {I : xTI} {J : xTJ} {f g e h : Nat} {tp : Nat → Nat} {n : Nat} {F : pF} {lw : Option (List (Nat × Nat))} {x : xRow} {us : Nat → xRow} {u : Nat} {td : xRow} {mk : Nat → Bool} {mx mt : Nat → xRow} {ev : Nat} {ln : Nat → Nat × Nat × Nat × Nat} {q : Nat} (C0_ : XC G RL cL_law rt) (hN : xnL G 7) (hX : xScr G L xs) (hRm : xRm G cells slots) (hi : i + 7 ≤ L) (hL : L ≤ 3584) (hq : q < 1000) (H : WL R I J f g e h tp n F lw x us u td mk mx mt ev ln q) (k : xNext G cells slots i q) : XX G cells slots 897 [some (.ref 10300), some (.ref 0), some (.ref 135), some (.ref 155), some (.int (nI i)), x5_, x6_] [] SALL R I J := by
  have hr := H.1.1
  have hS : fixd SALL R := ⟨rfl, hr.2.2.2.2.2.2.2.2.2⟩
  have hM := hS.model
  have hf := hr.2.2.2.2.1
  refine x_aload_n C0_ rfl dL_law_897 ?_
  refine x_aload_n C0_ rfl dL_law_898 ?_
  refine x_iload C0_ rfl dL_law_899 ?_
  refine x_iconst (v := nI 1) C0_ rfl dL_law_901 ?_
  refine x_iaddN C0_ dL_law_902 ?_
  refine x_scr C0_ hX (by omega) hL dL_law_903 ?_
  refine x_aload_n C0_ rfl dL_law_904 ?_
  refine x_iload C0_ rfl dL_law_905 ?_
  refine x_iconst (v := nI 2) C0_ rfl dL_law_907 ?_
  refine x_iaddN C0_ dL_law_908 ?_
  refine x_scr C0_ hX (by omega) hL dL_law_909 ?_
  refine x_callV [_, _] C0_ hN rfl (hRm _ (by decide)).le mv_X11_mentions wm_L_105 dL_law_910 (fixd.k0 hS) rfl rfl (Nat.le_of_ble_eq_true rfl) (c_X11_mentions hS hf H.1.2.2.1 (fun I1_ q1_ => ?_))
  have H1_ := H.fq q1_
  refine x_aload_n C0_ rfl dL_law_913 ?_
  refine x_aload_n C0_ rfl dL_law_914 ?_
  refine x_iload C0_ rfl dL_law_915 ?_
  refine x_iconst (v := nI 1) C0_ rfl dL_law_917 ?_
  refine x_iaddN C0_ dL_law_918 ?_
  refine x_scr C0_ hX (by omega) hL dL_law_919 ?_
  refine x_aload_n C0_ rfl dL_law_920 ?_
  refine x_iload C0_ rfl dL_law_921 ?_
  refine x_iconst (v := nI 2) C0_ rfl dL_law_923 ?_
  refine x_iaddN C0_ dL_law_924 ?_
  refine x_scr C0_ hX (by omega) hL dL_law_925 ?_
  refine x_callV [_, _] C0_ hN rfl (hRm _ (by decide)).le mv_X12_mentions wm_L_108 dL_law_926 (isModel.k0 hM) rfl rfl (Nat.le_of_ble_eq_true rfl) (c_X12_mentions hM H1_.2.1.1 (fun I2_ q2_ => ?_))
  have H2_ := H1_.mq q2_
  refine x_icmp_eq (tgt := 1479) C0_ (by decide) dL_law_929 (fun _ => ?_) (fun hkk => absurd (rfl) hkk)
  exact k _ _ _ _ _ _ _ (Nat.le_succ _) (Nat.le_add_right _ _) ⟨_, _, _, _, _, _, _, _, _, _, _, _, _, _, _, _, _, H2_.up⟩
theorem law_20 {G : xG} {rt : Option FieldType} {cells slots L i : Nat} {xs : Nat → Int32} {x5_ x6_ : Option Value} {R : xTR} {I : xTI} {J : xTJ} {f g e h : Nat} {tp : Nat → Nat} {n : Nat} {F : pF} {lw : Option (List (Nat × Nat))} {x : xRow} {us : Nat → xRow} {u : Nat} {td : xRow} {mk : Nat → Bool} {mx mt : Nat → xRow} {ev : Nat} {ln : Nat → Nat × Nat × Nat × Nat} {q : Nat} (C0_ : XC G RL cL_law rt) (hN : xnL G 7) (hX : xScr G L xs) (hRm : xRm G cells slots) (hi : i + 7 ≤ L) (hL : L ≤ 3584) (hq : q < 1000) (H : WL R I J f g e h tp n F lw x us u td mk mx mt ev ln q) (k : xNext G cells slots i q) : XX G cells slots 934 [some (.ref 10300), some (.ref 0), some (.ref 135), some (.ref 155), some (.int (nI i)), x5_, x6_] [] SALL R I J := by
  have hr := H.1.1
  have hS : fixd SALL R := ⟨rfl, hr.2.2.2.2.2.2.2.2.2⟩
  have hM := hS.model
  have hf := hr.2.2.2.2.1
  refine x_aload_n C0_ rfl dL_law_934 ?_
  refine x_aload_n C0_ rfl dL_law_935 ?_
  refine x_iload C0_ rfl dL_law_936 ?_
  refine x_iconst (v := nI 1) C0_ rfl dL_law_938 ?_
  refine x_iaddN C0_ dL_law_939 ?_
  refine x_scr C0_ hX (by omega) hL dL_law_940 ?_
  refine x_callV [_] C0_ hN rfl (hRm _ (by decide)).le mv_X11_fooled wm_L_109 dL_law_941 (fixd.k0 hS) rfl rfl (Nat.le_of_ble_eq_true rfl) (c_X11_fooled hS hf H.1.2.2.1 (fun I1_ q1_ => ?_))
  have H1_ := H.fq q1_
  refine x_aload_n C0_ rfl dL_law_944 ?_
  refine x_aload_n C0_ rfl dL_law_945 ?_
  refine x_iload C0_ rfl dL_law_946 ?_
  refine x_iconst (v := nI 1) C0_ rfl dL_law_948 ?_
  refine x_iaddN C0_ dL_law_949 ?_
  refine x_scr C0_ hX (by omega) hL dL_law_950 ?_
  refine x_callV [_] C0_ hN rfl (hRm _ (by decide)).le mv_X12_fooled wm_L_112 dL_law_951 (isModel.k0 hM) rfl rfl (Nat.le_of_ble_eq_true rfl) (c_X12_fooled hM H1_.2.1.1 (fun I2_ q2_ => ?_))
  have H2_ := H1_.mq q2_
  refine x_icmp_eq (tgt := 1479) C0_ (by decide) dL_law_954 (fun _ => ?_) (fun hkk => absurd (rfl) hkk)
  exact k _ _ _ _ _ _ _ (Nat.le_succ _) (Nat.le_add_right _ _) ⟨_, _, _, _, _, _, _, _, _, _, _, _, _, _, _, _, _, H2_.up⟩
theorem law_21 {G : xG} {rt : Option FieldType} {cells slots L i : Nat} {xs : Nat → Int32} {x5_ x6_ : Option Value} {R : xTR} {I : xTI} {J : xTJ} {f g e h : Nat} {tp : Nat → Nat} {n : Nat} {F : pF} {lw : Option (List (Nat × Nat))} {x : xRow} {us : Nat → xRow} {u : Nat} {td : xRow} {mk : Nat → Bool} {mx mt : Nat → xRow} {ev : Nat} {ln : Nat → Nat × Nat × Nat × Nat} {q : Nat} (C0_ : XC G RL cL_law rt) (hN : xnL G 7) (hX : xScr G L xs) (hRm : xRm G cells slots) (hi : i + 7 ≤ L) (hL : L ≤ 3584) (hq : q < 1000) (H : WL R I J f g e h tp n F lw x us u td mk mx mt ev ln q) (k : xNext G cells slots i q) : XX G cells slots 959 [some (.ref 10300), some (.ref 0), some (.ref 135), some (.ref 155), some (.int (nI i)), x5_, x6_] [] SALL R I J := by
  have hr := H.1.1
  have hS : fixd SALL R := ⟨rfl, hr.2.2.2.2.2.2.2.2.2⟩
  have hM := hS.model
  have hf := hr.2.2.2.2.1
  refine x_aload_n C0_ rfl dL_law_959 ?_
  refine x_callV [] C0_ hN rfl (hRm _ (by decide)).le mv_X11_sway wm_L_113 dL_law_960 (fixd.k0 hS) rfl rfl (Nat.le_of_ble_eq_true rfl) (c_X11_sway hS hf H.1.2.2.1 (fun I1_ q1_ => ?_))
  have H1_ := H.fq q1_
  refine x_aload_n C0_ rfl dL_law_963 ?_
  refine x_callV [] C0_ hN rfl (hRm _ (by decide)).le mv_X12_sway wm_L_116 dL_law_964 (isModel.k0 hM) rfl rfl (Nat.le_of_ble_eq_true rfl) (c_X12_sway hM H1_.2.1.1 (fun I2_ q2_ => ?_))
  have H2_ := H1_.mq q2_
  refine x_icmp_eq (tgt := 1479) C0_ (by decide) dL_law_967 (fun _ => ?_) (fun hkk => absurd (rfl) hkk)
  exact k _ _ _ _ _ _ _ (Nat.le_succ _) (Nat.le_add_right _ _) ⟨_, _, _, _, _, _, _, _, _, _, _, _, _, _, _, _, _, H2_.up⟩
theorem law_22 {G : xG} {rt : Option FieldType} {cells slots L i : Nat} {xs : Nat → Int32} {x5_ x6_ : Option Value} {R : xTR} {I : xTI} {J : xTJ} {f g e h : Nat} {tp : Nat → Nat} {n : Nat} {F : pF} {lw : Option (List (Nat × Nat))} {x : xRow} {us : Nat → xRow} {u : Nat} {td : xRow} {mk : Nat → Bool} {mx mt : Nat → xRow} {ev : Nat} {ln : Nat → Nat × Nat × Nat × Nat} {q : Nat} (C0_ : XC G RL cL_law rt) (hN : xnL G 7) (hX : xScr G L xs) (hRm : xRm G cells slots) (hi : i + 7 ≤ L) (hL : L ≤ 3584) (hq : q < 1000) (H : WL R I J f g e h tp n F lw x us u td mk mx mt ev ln q) (k : xNext G cells slots i q) : XX G cells slots 972 [some (.ref 10300), some (.ref 0), some (.ref 135), some (.ref 155), some (.int (nI i)), x5_, x6_] [] SALL R I J := by
  have hr := H.1.1
  have hS : fixd SALL R := ⟨rfl, hr.2.2.2.2.2.2.2.2.2⟩
  have hM := hS.model
  have hf := hr.2.2.2.2.1
  refine x_aload_n C0_ rfl dL_law_972 ?_
  refine x_callV [] C0_ hN rfl (hRm _ (by decide)).le mv_X11_quarrels wm_L_117 dL_law_973 (fixd.k0 hS) rfl rfl (Nat.le_of_ble_eq_true rfl) (c_X11_quarrels hS hf H.1.2.2.1 (fun I1_ q1_ => ?_))
  have H1_ := H.fq q1_
  refine x_aload_n C0_ rfl dL_law_976 ?_
  refine x_callV [] C0_ hN rfl (hRm _ (by decide)).le mv_X12_quarrels wm_L_120 dL_law_977 (isModel.k0 hM) rfl rfl (Nat.le_of_ble_eq_true rfl) (c_X12_quarrels hM H1_.2.1.1 (fun I2_ q2_ => ?_))
  have H2_ := H1_.mq q2_
  refine x_icmp_eq (tgt := 1479) C0_ (by decide) dL_law_980 (fun _ => ?_) (fun hkk => absurd (rfl) hkk)
  exact k _ _ _ _ _ _ _ (Nat.le_succ _) (Nat.le_add_right _ _) ⟨_, _, _, _, _, _, _, _, _, _, _, _, _, _, _, _, _, H2_.up⟩
theorem law_23 {G : xG} {rt : Option FieldType} {cells slots L i : Nat} {xs : Nat → Int32} {x5_ x6_ : Option Value} {R : xTR} {I : xTI} {J : xTJ} {f g e h : Nat} {tp : Nat → Nat} {n : Nat} {F : pF} {lw : Option (List (Nat × Nat))} {x : xRow} {us : Nat → xRow} {u : Nat} {td : xRow} {mk : Nat → Bool} {mx mt : Nat → xRow} {ev : Nat} {ln : Nat → Nat × Nat × Nat × Nat} {q : Nat} (C0_ : XC G RL cL_law rt) (hN : xnL G 7) (hX : xScr G L xs) (hRm : xRm G cells slots) (hi : i + 7 ≤ L) (hL : L ≤ 3584) (hq : q < 1000) (H : WL R I J f g e h tp n F lw x us u td mk mx mt ev ln q) (k : xNext G cells slots i q) : XX G cells slots 985 [some (.ref 10300), some (.ref 0), some (.ref 135), some (.ref 155), some (.int (nI i)), x5_, x6_] [] SALL R I J := by
  have hr := H.1.1
  have hS : fixd SALL R := ⟨rfl, hr.2.2.2.2.2.2.2.2.2⟩
  have hM := hS.model
  have hf := hr.2.2.2.2.1
  refine x_aload_n C0_ rfl dL_law_985 ?_
  refine x_callV [] C0_ hN rfl (hRm _ (by decide)).le mv_X11_couples wm_L_121 dL_law_986 (fixd.k0 hS) rfl rfl (Nat.le_of_ble_eq_true rfl) (c_X11_couples hS hf H.1.2.2.1 (fun I1_ q1_ => ?_))
  have H1_ := H.fq q1_
  refine x_aload_n C0_ rfl dL_law_989 ?_
  refine x_callV [] C0_ hN rfl (hRm _ (by decide)).le mv_X12_couples wm_L_124 dL_law_990 (isModel.k0 hM) rfl rfl (Nat.le_of_ble_eq_true rfl) (c_X12_couples hM H1_.2.1.1 (fun I2_ q2_ => ?_))
  have H2_ := H1_.mq q2_
  refine x_icmp_eq (tgt := 1479) C0_ (by decide) dL_law_993 (fun _ => ?_) (fun hkk => absurd (rfl) hkk)
  exact k _ _ _ _ _ _ _ (Nat.le_succ _) (Nat.le_add_right _ _) ⟨_, _, _, _, _, _, _, _, _, _, _, _, _, _, _, _, _, H2_.up⟩
theorem law_27 {G : xG} {rt : Option FieldType} {cells slots L i : Nat} {xs : Nat → Int32} {x5_ x6_ : Option Value} {R : xTR} {I : xTI} {J : xTJ} {f g e h : Nat} {tp : Nat → Nat} {n : Nat} {F : pF} {lw : Option (List (Nat × Nat))} {x : xRow} {us : Nat → xRow} {u : Nat} {td : xRow} {mk : Nat → Bool} {mx mt : Nat → xRow} {ev : Nat} {ln : Nat → Nat × Nat × Nat × Nat} {q : Nat} (C0_ : XC G RL cL_law rt) (hN : xnL G 7) (hX : xScr G L xs) (hRm : xRm G cells slots) (hi : i + 7 ≤ L) (hL : L ≤ 3584) (hq : q < 1000) (H : WL R I J f g e h tp n F lw x us u td mk mx mt ev ln q) (k : xNext G cells slots i q) : XX G cells slots 1085 [some (.ref 10300), some (.ref 0), some (.ref 135), some (.ref 155), some (.int (nI i)), x5_, x6_] [] SALL R I J := by
  have hr := H.1.1
  have hS : fixd SALL R := ⟨rfl, hr.2.2.2.2.2.2.2.2.2⟩
  have hM := hS.model
  have hf := hr.2.2.2.2.1
  refine x_aload_n C0_ rfl dL_law_1085 ?_
  refine x_callV [] C0_ hN rfl (hRm _ (by decide)).le mv_X11_clashes wm_L_138 dL_law_1086 (fixd.k0 hS) rfl rfl (Nat.le_of_ble_eq_true rfl) (c_X11_clashes hS hf H.1.2.2.1 (fun I1_ q1_ => ?_))
  have H1_ := H.fq q1_
  refine x_aload_n C0_ rfl dL_law_1089 ?_
  refine x_callV [] C0_ hN rfl (hRm _ (by decide)).le mv_X12_clashes wm_L_141 dL_law_1090 (isModel.k0 hM) rfl rfl (Nat.le_of_ble_eq_true rfl) (c_X12_clashes hM H1_.2.1.1 (fun I2_ q2_ => ?_))
  have H2_ := H1_.mq q2_
  refine x_icmp_eq (tgt := 1479) C0_ (by decide) dL_law_1093 (fun _ => ?_) (fun hkk => absurd (rfl) hkk)
  exact k _ _ _ _ _ _ _ (Nat.le_succ _) (Nat.le_add_right _ _) ⟨_, _, _, _, _, _, _, _, _, _, _, _, _, _, _, _, _, H2_.up⟩
theorem law_28 {G : xG} {rt : Option FieldType} {cells slots L i : Nat} {xs : Nat → Int32} {x5_ x6_ : Option Value} {R : xTR} {I : xTI} {J : xTJ} {f g e h : Nat} {tp : Nat → Nat} {n : Nat} {F : pF} {lw : Option (List (Nat × Nat))} {x : xRow} {us : Nat → xRow} {u : Nat} {td : xRow} {mk : Nat → Bool} {mx mt : Nat → xRow} {ev : Nat} {ln : Nat → Nat × Nat × Nat × Nat} {q : Nat} (C0_ : XC G RL cL_law rt) (hN : xnL G 7) (hX : xScr G L xs) (hRm : xRm G cells slots) (hi : i + 7 ≤ L) (hL : L ≤ 3584) (hq : q < 1000) (H : WL R I J f g e h tp n F lw x us u td mk mx mt ev ln q) (k : xNext G cells slots i q) : XX G cells slots 1098 [some (.ref 10300), some (.ref 0), some (.ref 135), some (.ref 155), some (.int (nI i)), x5_, x6_] [] SALL R I J := by
  have hr := H.1.1
  have hS : fixd SALL R := ⟨rfl, hr.2.2.2.2.2.2.2.2.2⟩
  have hM := hS.model
  have hf := hr.2.2.2.2.1
  refine x_aload_n C0_ rfl dL_law_1098 ?_
  refine x_aload_n C0_ rfl dL_law_1099 ?_
  refine x_iload C0_ rfl dL_law_1100 ?_
  refine x_iconst (v := nI 1) C0_ rfl dL_law_1102 ?_
  refine x_iaddN C0_ dL_law_1103 ?_
  refine x_scr C0_ hX (by omega) hL dL_law_1104 ?_
  refine x_callV [_] C0_ hN rfl (hRm _ (by decide)).le mv_X11_wavers wm_L_142 dL_law_1105 (fixd.k0 hS) rfl rfl (Nat.le_of_ble_eq_true rfl) (c_X11_wavers hS hf H.1.2.2.1 (fun I1_ q1_ => ?_))
  have H1_ := H.fq q1_
  refine x_aload_n C0_ rfl dL_law_1108 ?_
  refine x_aload_n C0_ rfl dL_law_1109 ?_
  refine x_iload C0_ rfl dL_law_1110 ?_
  refine x_iconst (v := nI 1) C0_ rfl dL_law_1112 ?_
  refine x_iaddN C0_ dL_law_1113 ?_
  refine x_scr C0_ hX (by omega) hL dL_law_1114 ?_
  refine x_callV [_] C0_ hN rfl (hRm _ (by decide)).le mv_X12_wavers wm_L_145 dL_law_1115 (isModel.k0 hM) rfl rfl (Nat.le_of_ble_eq_true rfl) (c_X12_wavers hM H1_.2.1.1 (fun I2_ q2_ => ?_))
  have H2_ := H1_.mq q2_
  refine x_icmp_eq (tgt := 1479) C0_ (by decide) dL_law_1118 (fun _ => ?_) (fun hkk => absurd (rfl) hkk)
  exact k _ _ _ _ _ _ _ (Nat.le_succ _) (Nat.le_add_right _ _) ⟨_, _, _, _, _, _, _, _, _, _, _, _, _, _, _, _, _, H2_.up⟩
theorem law_29 {G : xG} {rt : Option FieldType} {cells slots L i : Nat} {xs : Nat → Int32} {x5_ x6_ : Option Value} {R : xTR} {I : xTI} {J : xTJ} {f g e h : Nat} {tp : Nat → Nat} {n : Nat} {F : pF} {lw : Option (List (Nat × Nat))} {x : xRow} {us : Nat → xRow} {u : Nat} {td : xRow} {mk : Nat → Bool} {mx mt : Nat → xRow} {ev : Nat} {ln : Nat → Nat × Nat × Nat × Nat} {q : Nat} (C0_ : XC G RL cL_law rt) (hN : xnL G 7) (hX : xScr G L xs) (hRm : xRm G cells slots) (hi : i + 7 ≤ L) (hL : L ≤ 3584) (hq : q < 1000) (H : WL R I J f g e h tp n F lw x us u td mk mx mt ev ln q) (k : xNext G cells slots i q) : XX G cells slots 1123 [some (.ref 10300), some (.ref 0), some (.ref 135), some (.ref 155), some (.int (nI i)), x5_, x6_] [] SALL R I J := by
  have hr := H.1.1
  have hS : fixd SALL R := ⟨rfl, hr.2.2.2.2.2.2.2.2.2⟩
  have hM := hS.model
  have hf := hr.2.2.2.2.1
  refine x_aload_n C0_ rfl dL_law_1123 ?_
  refine x_aload_n C0_ rfl dL_law_1124 ?_
  refine x_iload C0_ rfl dL_law_1125 ?_
  refine x_iconst (v := nI 1) C0_ rfl dL_law_1127 ?_
  refine x_iaddN C0_ dL_law_1128 ?_
  refine x_scr C0_ hX (by omega) hL dL_law_1129 ?_
  refine x_callV [_] C0_ hN rfl (hRm _ (by decide)).le mv_X11_lone wm_L_146 dL_law_1130 (fixd.k0 hS) rfl rfl (Nat.le_of_ble_eq_true rfl) (c_X11_lone hS hf H.1.2.2.1 (fun I1_ q1_ => ?_))
  have H1_ := H.fq q1_
  refine x_aload_n C0_ rfl dL_law_1133 ?_
  refine x_aload_n C0_ rfl dL_law_1134 ?_
  refine x_iload C0_ rfl dL_law_1135 ?_
  refine x_iconst (v := nI 1) C0_ rfl dL_law_1137 ?_
  refine x_iaddN C0_ dL_law_1138 ?_
  refine x_scr C0_ hX (by omega) hL dL_law_1139 ?_
  refine x_callV [_] C0_ hN rfl (hRm _ (by decide)).le mv_X12_lone wm_L_149 dL_law_1140 (isModel.k0 hM) rfl rfl (Nat.le_of_ble_eq_true rfl) (c_X12_lone hM H1_.2.1.1 (fun I2_ q2_ => ?_))
  have H2_ := H1_.mq q2_
  refine x_icmp_eq (tgt := 1479) C0_ (by decide) dL_law_1143 (fun _ => ?_) (fun hkk => absurd (rfl) hkk)
  exact k _ _ _ _ _ _ _ (Nat.le_succ _) (Nat.le_add_right _ _) ⟨_, _, _, _, _, _, _, _, _, _, _, _, _, _, _, _, _, H2_.up⟩
theorem law_30 {G : xG} {rt : Option FieldType} {cells slots L i : Nat} {xs : Nat → Int32} {x5_ x6_ : Option Value} {R : xTR} {I : xTI} {J : xTJ} {f g e h : Nat} {tp : Nat → Nat} {n : Nat} {F : pF} {lw : Option (List (Nat × Nat))} {x : xRow} {us : Nat → xRow} {u : Nat} {td : xRow} {mk : Nat → Bool} {mx mt : Nat → xRow} {ev : Nat} {ln : Nat → Nat × Nat × Nat × Nat} {q : Nat} (C0_ : XC G RL cL_law rt) (hN : xnL G 7) (hX : xScr G L xs) (hRm : xRm G cells slots) (hi : i + 7 ≤ L) (hL : L ≤ 3584) (hq : q < 1000) (H : WL R I J f g e h tp n F lw x us u td mk mx mt ev ln q) (k : xNext G cells slots i q) : XX G cells slots 1148 [some (.ref 10300), some (.ref 0), some (.ref 135), some (.ref 155), some (.int (nI i)), x5_, x6_] [] SALL R I J := by
  have hr := H.1.1
  have hS : fixd SALL R := ⟨rfl, hr.2.2.2.2.2.2.2.2.2⟩
  have hM := hS.model
  have hf := hr.2.2.2.2.1
  refine x_aload_n C0_ rfl dL_law_1148 ?_
  refine x_callV [] C0_ hN rfl (hRm _ (by decide)).le mv_X11_moves wm_L_150 dL_law_1149 (fixd.k0 hS) rfl rfl (Nat.le_of_ble_eq_true rfl) (c_X11_moves hS hf H.1.2.2.1 (fun I1_ q1_ => ?_))
  have H1_ := H.fq q1_
  refine x_aload_n C0_ rfl dL_law_1152 ?_
  refine x_callV [] C0_ hN rfl (hRm _ (by decide)).le mv_X12_moves wm_L_153 dL_law_1153 (isModel.k0 hM) rfl rfl (Nat.le_of_ble_eq_true rfl) (c_X12_moves hM H1_.2.1.1 (fun I2_ q2_ => ?_))
  have H2_ := H1_.mq q2_
  refine x_icmp_eq (tgt := 1479) C0_ (by decide) dL_law_1156 (fun _ => ?_) (fun hkk => absurd (rfl) hkk)
  exact k _ _ _ _ _ _ _ (Nat.le_succ _) (Nat.le_add_right _ _) ⟨_, _, _, _, _, _, _, _, _, _, _, _, _, _, _, _, _, H2_.up⟩
theorem law_31 {G : xG} {rt : Option FieldType} {cells slots L i : Nat} {xs : Nat → Int32} {x5_ x6_ : Option Value} {R : xTR} {I : xTI} {J : xTJ} {f g e h : Nat} {tp : Nat → Nat} {n : Nat} {F : pF} {lw : Option (List (Nat × Nat))} {x : xRow} {us : Nat → xRow} {u : Nat} {td : xRow} {mk : Nat → Bool} {mx mt : Nat → xRow} {ev : Nat} {ln : Nat → Nat × Nat × Nat × Nat} {q : Nat} (C0_ : XC G RL cL_law rt) (hN : xnL G 7) (hX : xScr G L xs) (hRm : xRm G cells slots) (hi : i + 7 ≤ L) (hL : L ≤ 3584) (hq : q < 1000) (H : WL R I J f g e h tp n F lw x us u td mk mx mt ev ln q) (k : xNext G cells slots i q) : XX G cells slots 1161 [some (.ref 10300), some (.ref 0), some (.ref 135), some (.ref 155), some (.int (nI i)), x5_, x6_] [] SALL R I J := by
  have hr := H.1.1
  have hS : fixd SALL R := ⟨rfl, hr.2.2.2.2.2.2.2.2.2⟩
  have hM := hS.model
  have hf := hr.2.2.2.2.1
  refine x_aload_n C0_ rfl dL_law_1161 ?_
  refine x_callV [] C0_ hN rfl (hRm _ (by decide)).le mv_X11_agree wm_L_154 dL_law_1162 (fixd.k0 hS) rfl rfl (Nat.le_of_ble_eq_true rfl) (c_X11_agree hS hf H.1.2.2.1 (fun I1_ q1_ => ?_))
  have H1_ := H.fq q1_
  refine x_aload_n C0_ rfl dL_law_1165 ?_
  refine x_callV [] C0_ hN rfl (hRm _ (by decide)).le mv_X12_agree wm_L_157 dL_law_1166 (isModel.k0 hM) rfl rfl (Nat.le_of_ble_eq_true rfl) (c_X12_agree hM H1_.2.1.1 (fun I2_ q2_ => ?_))
  have H2_ := H1_.mq q2_
  refine x_icmp_eq (tgt := 1479) C0_ (by decide) dL_law_1169 (fun _ => ?_) (fun hkk => absurd (rfl) hkk)
  exact k _ _ _ _ _ _ _ (Nat.le_succ _) (Nat.le_add_right _ _) ⟨_, _, _, _, _, _, _, _, _, _, _, _, _, _, _, _, _, H2_.up⟩
theorem law_32 {G : xG} {rt : Option FieldType} {cells slots L i : Nat} {xs : Nat → Int32} {x5_ x6_ : Option Value} {R : xTR} {I : xTI} {J : xTJ} {f g e h : Nat} {tp : Nat → Nat} {n : Nat} {F : pF} {lw : Option (List (Nat × Nat))} {x : xRow} {us : Nat → xRow} {u : Nat} {td : xRow} {mk : Nat → Bool} {mx mt : Nat → xRow} {ev : Nat} {ln : Nat → Nat × Nat × Nat × Nat} {q : Nat} (C0_ : XC G RL cL_law rt) (hN : xnL G 7) (hX : xScr G L xs) (hRm : xRm G cells slots) (hi : i + 7 ≤ L) (hL : L ≤ 3584) (hq : q < 1000) (H : WL R I J f g e h tp n F lw x us u td mk mx mt ev ln q) (k : xNext G cells slots i q) : XX G cells slots 1174 [some (.ref 10300), some (.ref 0), some (.ref 135), some (.ref 155), some (.int (nI i)), x5_, x6_] [] SALL R I J := by
  have hr := H.1.1
  have hS : fixd SALL R := ⟨rfl, hr.2.2.2.2.2.2.2.2.2⟩
  have hM := hS.model
  have hf := hr.2.2.2.2.1
  refine x_aload_n C0_ rfl dL_law_1174 ?_
  refine x_aload_n C0_ rfl dL_law_1175 ?_
  refine x_iload C0_ rfl dL_law_1176 ?_
  refine x_iconst (v := nI 1) C0_ rfl dL_law_1178 ?_
  refine x_iaddN C0_ dL_law_1179 ?_
  refine x_scr C0_ hX (by omega) hL dL_law_1180 ?_
  refine x_aload_n C0_ rfl dL_law_1181 ?_
  refine x_iload C0_ rfl dL_law_1182 ?_
  refine x_iconst (v := nI 2) C0_ rfl dL_law_1184 ?_
  refine x_iaddN C0_ dL_law_1185 ?_
  refine x_scr C0_ hX (by omega) hL dL_law_1186 ?_
  refine x_aload_n C0_ rfl dL_law_1187 ?_
  refine x_iload C0_ rfl dL_law_1188 ?_
  refine x_iconst (v := nI 3) C0_ rfl dL_law_1190 ?_
  refine x_iaddN C0_ dL_law_1191 ?_
  refine x_scr C0_ hX (by omega) hL dL_law_1192 ?_
  refine x_callV [_, _, _] C0_ hN rfl (hRm _ (by decide)).le mv_X11_chance wm_L_158 dL_law_1193 (fixd.k0 hS) rfl rfl (Nat.le_of_ble_eq_true rfl) (c_X11_chance hS hf H.1.2.2.1 (fun I1_ q1_ => ?_))
  have H1_ := H.fq q1_
  refine x_aload_n C0_ rfl dL_law_1196 ?_
  refine x_aload_n C0_ rfl dL_law_1197 ?_
  refine x_iload C0_ rfl dL_law_1198 ?_
  refine x_iconst (v := nI 1) C0_ rfl dL_law_1200 ?_
  refine x_iaddN C0_ dL_law_1201 ?_
  refine x_scr C0_ hX (by omega) hL dL_law_1202 ?_
  refine x_aload_n C0_ rfl dL_law_1203 ?_
  refine x_iload C0_ rfl dL_law_1204 ?_
  refine x_iconst (v := nI 2) C0_ rfl dL_law_1206 ?_
  refine x_iaddN C0_ dL_law_1207 ?_
  refine x_scr C0_ hX (by omega) hL dL_law_1208 ?_
  refine x_aload_n C0_ rfl dL_law_1209 ?_
  refine x_iload C0_ rfl dL_law_1210 ?_
  refine x_iconst (v := nI 3) C0_ rfl dL_law_1212 ?_
  refine x_iaddN C0_ dL_law_1213 ?_
  refine x_scr C0_ hX (by omega) hL dL_law_1214 ?_
  refine x_callV [_, _, _] C0_ hN rfl (hRm _ (by decide)).le mv_X12_chance wm_L_162 dL_law_1215 (isModel.k0 hM) rfl rfl (Nat.le_of_ble_eq_true rfl) (c_X12_chance hM H1_.2.1.1 (fun I2_ q2_ => ?_))
  have H2_ := H1_.mq q2_
  refine x_icmp_eq (tgt := 1479) C0_ (by decide) dL_law_1218 (fun _ => ?_) (fun hkk => absurd (rfl) hkk)
  exact k _ _ _ _ _ _ _ (Nat.le_succ _) (Nat.le_add_right _ _) ⟨_, _, _, _, _, _, _, _, _, _, _, _, _, _, _, _, _, H2_.up⟩
theorem law_33 {G : xG} {rt : Option FieldType} {cells slots L i : Nat} {xs : Nat → Int32} {x5_ x6_ : Option Value} {R : xTR} {I : xTI} {J : xTJ} {f g e h : Nat} {tp : Nat → Nat} {n : Nat} {F : pF} {lw : Option (List (Nat × Nat))} {x : xRow} {us : Nat → xRow} {u : Nat} {td : xRow} {mk : Nat → Bool} {mx mt : Nat → xRow} {ev : Nat} {ln : Nat → Nat × Nat × Nat × Nat} {q : Nat} (C0_ : XC G RL cL_law rt) (hN : xnL G 7) (hX : xScr G L xs) (hRm : xRm G cells slots) (hi : i + 7 ≤ L) (hL : L ≤ 3584) (hq : q < 1000) (H : WL R I J f g e h tp n F lw x us u td mk mx mt ev ln q) (k : xNext G cells slots i q) : XX G cells slots 1223 [some (.ref 10300), some (.ref 0), some (.ref 135), some (.ref 155), some (.int (nI i)), x5_, x6_] [] SALL R I J := by
  have hr := H.1.1
  have hS : fixd SALL R := ⟨rfl, hr.2.2.2.2.2.2.2.2.2⟩
  have hM := hS.model
  have hf := hr.2.2.2.2.1
  refine x_aload_n C0_ rfl dL_law_1223 ?_
  refine x_aload_n C0_ rfl dL_law_1224 ?_
  refine x_iload C0_ rfl dL_law_1225 ?_
  refine x_iconst (v := nI 1) C0_ rfl dL_law_1227 ?_
  refine x_iaddN C0_ dL_law_1228 ?_
  refine x_scr C0_ hX (by omega) hL dL_law_1229 ?_
  refine x_aload_n C0_ rfl dL_law_1230 ?_
  refine x_iload C0_ rfl dL_law_1231 ?_
  refine x_iconst (v := nI 2) C0_ rfl dL_law_1233 ?_
  refine x_iaddN C0_ dL_law_1234 ?_
  refine x_scr C0_ hX (by omega) hL dL_law_1235 ?_
  refine x_callV [_, _] C0_ hN rfl (hRm _ (by decide)).le mv_X11_who wm_L_163 dL_law_1236 (fixd.k0 hS) rfl rfl (Nat.le_of_ble_eq_true rfl) (c_X11_who hS hf H.1.2.2.1 (fun I1_ q1_ => ?_))
  have H1_ := H.fq q1_
  refine x_aload_n C0_ rfl dL_law_1239 ?_
  refine x_aload_n C0_ rfl dL_law_1240 ?_
  refine x_iload C0_ rfl dL_law_1241 ?_
  refine x_iconst (v := nI 1) C0_ rfl dL_law_1243 ?_
  refine x_iaddN C0_ dL_law_1244 ?_
  refine x_scr C0_ hX (by omega) hL dL_law_1245 ?_
  refine x_aload_n C0_ rfl dL_law_1246 ?_
  refine x_iload C0_ rfl dL_law_1247 ?_
  refine x_iconst (v := nI 2) C0_ rfl dL_law_1249 ?_
  refine x_iaddN C0_ dL_law_1250 ?_
  refine x_scr C0_ hX (by omega) hL dL_law_1251 ?_
  refine x_callV [_, _] C0_ hN rfl (hRm _ (by decide)).le mv_X12_who wm_L_166 dL_law_1252 (isModel.k0 hM) rfl rfl (Nat.le_of_ble_eq_true rfl) (c_X12_who hM H1_.2.1.1 (fun I2_ q2_ => ?_))
  have H2_ := H1_.mq q2_
  refine x_icmp_eq (tgt := 1479) C0_ (by decide) dL_law_1255 (fun _ => ?_) (fun hkk => absurd (rfl) hkk)
  exact k _ _ _ _ _ _ _ (Nat.le_succ _) (Nat.le_add_right _ _) ⟨_, _, _, _, _, _, _, _, _, _, _, _, _, _, _, _, _, H2_.up⟩
theorem law_25 {G : xG} {rt : Option FieldType} {cells slots L i : Nat} {xs : Nat → Int32} {x5_ x6_ : Option Value} {R : xTR} {I : xTI} {J : xTJ} {f g e h : Nat} {tp : Nat → Nat} {n : Nat} {F : pF} {lw : Option (List (Nat × Nat))} {x : xRow} {us : Nat → xRow} {u : Nat} {td : xRow} {mk : Nat → Bool} {mx mt : Nat → xRow} {ev : Nat} {ln : Nat → Nat × Nat × Nat × Nat} {q : Nat} (C0_ : XC G RL cL_law rt) (hN : xnL G 7) (hX : xScr G L xs) (hRm : xRm G cells slots) (hi : i + 7 ≤ L) (hL : L ≤ 3584) (hq : q < 1000) (H : WL R I J f g e h tp n F lw x us u td mk mx mt ev ln q) (k : xNext G cells slots i q) : XX G cells slots 1047 [some (.ref 10300), some (.ref 0), some (.ref 135), some (.ref 155), some (.int (nI i)), x5_, x6_] [] SALL R I J := by
  have hr := H.1.1
  have hS : fixd SALL R := ⟨rfl, hr.2.2.2.2.2.2.2.2.2⟩
  have hM := hS.model
  have hf := hr.2.2.2.2.1
  refine x_aload_n C0_ rfl dL_law_1047 ?_
  refine x_aload_n C0_ rfl dL_law_1048 ?_
  refine x_iload C0_ rfl dL_law_1049 ?_
  refine x_iconst (v := nI 1) C0_ rfl dL_law_1051 ?_
  refine x_iaddN C0_ dL_law_1052 ?_
  refine x_scr C0_ hX (by omega) hL dL_law_1053 ?_
  refine x_callV [_] C0_ hN rfl (hRm _ (by decide)).le mv_X11_sets wm_L_130 dL_law_1054 (fixd.k0 hS) rfl rfl (Nat.le_of_ble_eq_true rfl) (c_X11_sets hS hf H.1.2.2.1 H.2.2.2.2.1 H.1.2.2.2.2.2.2.1 (fun I1_ q1_ => ?_))
  have H1_ := H.fq q1_
  refine x_aload_n C0_ rfl dL_law_1057 ?_
  refine x_aload_n C0_ rfl dL_law_1058 ?_
  refine x_iload C0_ rfl dL_law_1059 ?_
  refine x_iconst (v := nI 1) C0_ rfl dL_law_1061 ?_
  refine x_iaddN C0_ dL_law_1062 ?_
  refine x_scr C0_ hX (by omega) hL dL_law_1063 ?_
  refine x_callV [_] C0_ hN rfl (hRm _ (by decide)).le mv_X12_sets wm_L_133 dL_law_1064 (isModel.k0 hM) rfl rfl (Nat.le_of_ble_eq_true rfl) (c_X12_sets hM H1_.2.1.1 H1_.2.2.2.2.1 H1_.2.1.2.2.2.2.2.1 (fun I2_ q2_ => ?_))
  have H2_ := H1_.mq q2_
  refine x_icmp_eq (tgt := 1479) C0_ (by decide) dL_law_1067 (fun _ => ?_) (fun hkk => absurd (rfl) hkk)
  exact k _ _ _ _ _ _ _ (Nat.le_succ _) (Nat.le_add_right _ _) ⟨_, _, _, _, _, _, _, _, _, _, _, _, _, _, _, _, _, H2_.up⟩
theorem law_26 {G : xG} {rt : Option FieldType} {cells slots L i : Nat} {xs : Nat → Int32} {x5_ x6_ : Option Value} {R : xTR} {I : xTI} {J : xTJ} {f g e h : Nat} {tp : Nat → Nat} {n : Nat} {F : pF} {lw : Option (List (Nat × Nat))} {x : xRow} {us : Nat → xRow} {u : Nat} {td : xRow} {mk : Nat → Bool} {mx mt : Nat → xRow} {ev : Nat} {ln : Nat → Nat × Nat × Nat × Nat} {q : Nat} (C0_ : XC G RL cL_law rt) (hN : xnL G 7) (hX : xScr G L xs) (hRm : xRm G cells slots) (hi : i + 7 ≤ L) (hL : L ≤ 3584) (hq : q < 1000) (H : WL R I J f g e h tp n F lw x us u td mk mx mt ev ln q) (k : xNext G cells slots i q) : XX G cells slots 1072 [some (.ref 10300), some (.ref 0), some (.ref 135), some (.ref 155), some (.int (nI i)), x5_, x6_] [] SALL R I J := by
  have hr := H.1.1
  have hS : fixd SALL R := ⟨rfl, hr.2.2.2.2.2.2.2.2.2⟩
  have hM := hS.model
  have hf := hr.2.2.2.2.1
  refine x_aload_n C0_ rfl dL_law_1072 ?_
  refine x_callV [] C0_ hN rfl (hRm _ (by decide)).le mv_X11_ask wm_L_134 dL_law_1073 (fixd.k0 hS) rfl rfl (Nat.le_of_ble_eq_true rfl) (c_X11_ask hS hf H.1.2.2.1 H.2.2.2.2.1 H.1.2.2.2.2.2.2.1 (fun I1_ q1_ => ?_))
  have H1_ := H.fq q1_
  refine x_aload_n C0_ rfl dL_law_1076 ?_
  refine x_callV [] C0_ hN rfl (hRm _ (by decide)).le mv_X12_ask wm_L_137 dL_law_1077 (isModel.k0 hM) rfl rfl (Nat.le_of_ble_eq_true rfl) (c_X12_ask hM H1_.2.1.1 H1_.2.2.2.2.1 H1_.2.1.2.2.2.2.2.1 (fun I2_ q2_ => ?_))
  have H2_ := H1_.mq q2_
  refine x_icmp_eq (tgt := 1479) C0_ (by decide) dL_law_1080 (fun _ => ?_) (fun hkk => absurd (rfl) hkk)
  exact k _ _ _ _ _ _ _ (Nat.le_succ _) (Nat.le_add_right _ _) ⟨_, _, _, _, _, _, _, _, _, _, _, _, _, _, _, _, _, H2_.up⟩
theorem law_12 {G : xG} {rt : Option FieldType} {cells slots L i : Nat} {xs : Nat → Int32} {x5_ x6_ : Option Value} {R : xTR} {I : xTI} {J : xTJ} {f g e h : Nat} {tp : Nat → Nat} {n : Nat} {F : pF} {lw : Option (List (Nat × Nat))} {x : xRow} {us : Nat → xRow} {u : Nat} {td : xRow} {mk : Nat → Bool} {mx mt : Nat → xRow} {ev : Nat} {ln : Nat → Nat × Nat × Nat × Nat} {q : Nat} (C0_ : XC G RL cL_law rt) (hN : xnL G 7) (hX : xScr G L xs) (hRm : xRm G cells slots) (hi : i + 7 ≤ L) (hL : L ≤ 3584) (hq : q < 1000) (H : WL R I J f g e h tp n F lw x us u td mk mx mt ev ln q) (k : xNext G cells slots i q) : XX G cells slots 658 [some (.ref 10300), some (.ref 0), some (.ref 135), some (.ref 155), some (.int (nI i)), x5_, x6_] [] SALL R I J := by
  have hr := H.1.1
  have hS : fixd SALL R := ⟨rfl, hr.2.2.2.2.2.2.2.2.2⟩
  have hM := hS.model
  have hf := hr.2.2.2.2.1
  refine x_aload_n C0_ rfl dL_law_658 ?_
  refine x_aload_n C0_ rfl dL_law_659 ?_
  refine x_iload C0_ rfl dL_law_660 ?_
  refine x_iconst (v := nI 1) C0_ rfl dL_law_662 ?_
  refine x_iaddN C0_ dL_law_663 ?_
  refine x_scr C0_ hX (by omega) hL dL_law_664 ?_
  refine x_callV [_] C0_ hN rfl (hRm _ (by decide)).le mv_X11_judged wm_L_75 dL_law_665 (fixd.k0 hS) rfl rfl (Nat.le_of_ble_eq_true rfl) (c_X11_judged hS hf H.1.2.2.1 hr.2.2.2.2.2.2.1 (H.1.2.2.2.2.2.2.2.2.eFd hr.2.1) (fun I1_ q1_ => ?_))
  have H1_ := H.fq q1_
  refine x_aload_n C0_ rfl dL_law_668 ?_
  refine x_aload_n C0_ rfl dL_law_669 ?_
  refine x_iload C0_ rfl dL_law_670 ?_
  refine x_iconst (v := nI 1) C0_ rfl dL_law_672 ?_
  refine x_iaddN C0_ dL_law_673 ?_
  refine x_scr C0_ hX (by omega) hL dL_law_674 ?_
  refine x_callV [_] C0_ hN rfl (hRm _ (by decide)).le mv_X12_judged wm_L_79 dL_law_675 (isModel.k0 hM) rfl rfl (Nat.le_of_ble_eq_true rfl) (c_X12_judged hM H1_.2.1.1 (RLn_eMd H1_.2.2.2.2.2.2 H1_.2.1.2.2.2.2.2.2.2.1 H1_.2.1.2.2.2.2.2.2.2.2) (fun I2_ q2_ => ?_))
  have H2_ := H1_.mq q2_
  refine x_icmp_eq (tgt := 1479) C0_ (by decide) dL_law_678 (fun _ => ?_) (fun hkk => absurd (rfl) hkk)
  exact k _ _ _ _ _ _ _ (Nat.le_succ _) (Nat.le_add_right _ _) ⟨_, _, _, _, _, _, _, _, _, _, _, _, _, _, _, _, _, H2_.up⟩
theorem law_35 {G : xG} {rt : Option FieldType} {cells slots L i : Nat} {xs : Nat → Int32} {x5_ x6_ : Option Value} {R : xTR} {I : xTI} {J : xTJ} {f g e h : Nat} {tp : Nat → Nat} {n : Nat} {F : pF} {lw : Option (List (Nat × Nat))} {x : xRow} {us : Nat → xRow} {u : Nat} {td : xRow} {mk : Nat → Bool} {mx mt : Nat → xRow} {ev : Nat} {ln : Nat → Nat × Nat × Nat × Nat} {q : Nat} (C0_ : XC G RL cL_law rt) (hN : xnL G 7) (hX : xScr G L xs) (hRm : xRm G cells slots) (hi : i + 7 ≤ L) (hL : L ≤ 3584) (hq : q < 1000) (H : WL R I J f g e h tp n F lw x us u td mk mx mt ev ln q) (k : xNext G cells slots i q) : XX G cells slots 1352 [some (.ref 10300), some (.ref 0), some (.ref 135), some (.ref 155), some (.int (nI i)), x5_, x6_] [] SALL R I J := by
  have hr := H.1.1
  have hS : fixd SALL R := ⟨rfl, hr.2.2.2.2.2.2.2.2.2⟩
  have hM := hS.model
  have hf := hr.2.2.2.2.1
  refine x_aload_n C0_ rfl dL_law_1352 ?_
  refine x_aload_n C0_ rfl dL_law_1353 ?_
  refine x_iload C0_ rfl dL_law_1354 ?_
  refine x_iconst (v := nI 1) C0_ rfl dL_law_1356 ?_
  refine x_iaddN C0_ dL_law_1357 ?_
  refine x_scr C0_ hX (by omega) hL dL_law_1358 ?_
  refine x_aload_n C0_ rfl dL_law_1359 ?_
  refine x_iload C0_ rfl dL_law_1360 ?_
  refine x_iconst (v := nI 2) C0_ rfl dL_law_1362 ?_
  refine x_iaddN C0_ dL_law_1363 ?_
  refine x_scr C0_ hX (by omega) hL dL_law_1364 ?_
  refine x_aload_n C0_ rfl dL_law_1365 ?_
  refine x_iload C0_ rfl dL_law_1366 ?_
  refine x_iconst (v := nI 3) C0_ rfl dL_law_1368 ?_
  refine x_iaddN C0_ dL_law_1369 ?_
  refine x_scr C0_ hX (by omega) hL dL_law_1370 ?_
  refine x_callV [_, _, _] C0_ hN rfl (hRm _ (by decide)).le mv_X11_years wm_L_176 dL_law_1371 (fixd.k0 hS) rfl rfl (Nat.le_of_ble_eq_true rfl) (c_X11_years hS hf H.1.2.2.1 (fun I1_ J1_ q1_ j1_ => ?_))
  have H1_ := H.fqJ q1_ j1_
  refine x_aload_n C0_ rfl dL_law_1374 ?_
  refine x_aload_n C0_ rfl dL_law_1375 ?_
  refine x_iload C0_ rfl dL_law_1376 ?_
  refine x_iconst (v := nI 1) C0_ rfl dL_law_1378 ?_
  refine x_iaddN C0_ dL_law_1379 ?_
  refine x_scr C0_ hX (by omega) hL dL_law_1380 ?_
  refine x_aload_n C0_ rfl dL_law_1381 ?_
  refine x_iload C0_ rfl dL_law_1382 ?_
  refine x_iconst (v := nI 2) C0_ rfl dL_law_1384 ?_
  refine x_iaddN C0_ dL_law_1385 ?_
  refine x_scr C0_ hX (by omega) hL dL_law_1386 ?_
  refine x_aload_n C0_ rfl dL_law_1387 ?_
  refine x_iload C0_ rfl dL_law_1388 ?_
  refine x_iconst (v := nI 3) C0_ rfl dL_law_1390 ?_
  refine x_iaddN C0_ dL_law_1391 ?_
  refine x_scr C0_ hX (by omega) hL dL_law_1392 ?_
  refine x_callV [_, _, _] C0_ hN rfl (hRm _ (by decide)).le mv_X12_years wm_L_179 dL_law_1393 (isModel.k0 hM) rfl rfl (Nat.le_of_ble_eq_true rfl) (c_X12_years hM H1_.2.1.1 (fun I2_ J2_ q2_ j2_ => ?_))
  have H2_ := H1_.mqJ q2_ j2_.1
  refine x_icmp_eq (tgt := 1479) C0_ (by decide) dL_law_1396 (fun _ => ?_) (fun hkk => absurd (rfl) hkk)
  exact k _ _ _ _ _ _ _ (Nat.le_succ _) (Nat.le_add_right _ _) ⟨_, _, _, _, _, _, _, _, _, _, _, _, _, _, _, _, _, H2_.up⟩
theorem law_37 {G : xG} {rt : Option FieldType} {cells slots L i : Nat} {xs : Nat → Int32} {x5_ x6_ : Option Value} {R : xTR} {I : xTI} {J : xTJ} {f g e h : Nat} {tp : Nat → Nat} {n : Nat} {F : pF} {lw : Option (List (Nat × Nat))} {x : xRow} {us : Nat → xRow} {u : Nat} {td : xRow} {mk : Nat → Bool} {mx mt : Nat → xRow} {ev : Nat} {ln : Nat → Nat × Nat × Nat × Nat} {q : Nat} (C0_ : XC G RL cL_law rt) (hN : xnL G 7) (hX : xScr G L xs) (hRm : xRm G cells slots) (hi : i + 7 ≤ L) (hL : L ≤ 3584) (hq : q < 1000) (H : WL R I J f g e h tp n F lw x us u td mk mx mt ev ln q) (k : xNext G cells slots i q) : XX G cells slots 1454 [some (.ref 10300), some (.ref 0), some (.ref 135), some (.ref 155), some (.int (nI i)), x5_, x6_] [] SALL R I J := by
  have hr := H.1.1
  have hS : fixd SALL R := ⟨rfl, hr.2.2.2.2.2.2.2.2.2⟩
  have hM := hS.model
  have hf := hr.2.2.2.2.1
  obtain ⟨nx, -, -, hun, -⟩ := id H.1.2.2.2.2.2.1
  refine x_aload_n C0_ rfl dL_law_1454 ?_
  refine x_aload_n C0_ rfl dL_law_1455 ?_
  refine x_iload C0_ rfl dL_law_1456 ?_
  refine x_iconst (v := nI 1) C0_ rfl dL_law_1458 ?_
  refine x_iaddN C0_ dL_law_1459 ?_
  refine x_scr C0_ hX (by omega) hL dL_law_1460 ?_
  refine x_callV [_] C0_ hN rfl (hRm _ (by decide)).le mv_X11_count wm_L_185 dL_law_1461 (fixd.k0 hS) rfl rfl (Nat.le_of_ble_eq_true rfl) (c_X11_count hS hf H.1.2.2.1 H.2.2.2.2.1 H.1.2.2.2.2.2.2.1 hr.2.2.2.2.2.2.1 (hS.eve hr.2.1).1 H.1.2.2.2.2.2.2.2.2.2.1 hun H.1.2.2.2.2.1.1 (fun I1_ q1_ => ?_))
  have H1_ := H.fq q1_
  refine x_aload_n C0_ rfl dL_law_1464 ?_
  refine x_aload_n C0_ rfl dL_law_1465 ?_
  refine x_iload C0_ rfl dL_law_1466 ?_
  refine x_iconst (v := nI 1) C0_ rfl dL_law_1468 ?_
  refine x_iaddN C0_ dL_law_1469 ?_
  refine x_scr C0_ hX (by omega) hL dL_law_1470 ?_
  refine x_callV [_] C0_ hN rfl (hRm _ (by decide)).le mv_X12_count wm_L_188 dL_law_1471 (isModel.k0 hM) rfl rfl (Nat.le_of_ble_eq_true rfl) (c_X12_count hM H1_.2.1.1 H1_.2.1.2.2.2.2.2.1 H1_.2.1.2.2.2.2.2.2.2.1 H1_.2.1.2.2.2.2.1.1 H1_.2.1.2.1.1 (fun I2_ q2_ => ?_))
  have H2_ := H1_.mq q2_
  refine x_icmp_eq (tgt := 1479) C0_ (by decide) dL_law_1474 (fun _ => ?_) (fun hkk => absurd (rfl) hkk)
  exact k _ _ _ _ _ _ _ (Nat.le_succ _) (Nat.le_add_right _ _) ⟨_, _, _, _, _, _, _, _, _, _, _, _, _, _, _, _, _, H2_.up⟩
