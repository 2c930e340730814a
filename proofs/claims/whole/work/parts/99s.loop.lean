/-! THE LAW: the loop -/
theorem law_loop {G : xG} {rt : Option FieldType} {L : Nat} {xs : Nat → Int32} (C0 : XC G RL cL_law rt) (hN : xnL G 7) (hX : xScr G L xs) (hT : xFl G) (hG : ∀ d c s, d ≤ 39 → c ≤ 601024 → s ≤ 7293034 → xRf G d c s) (hL : L ≤ 3584) (hE : ∀ c s Lc R I J, c ≤ 601024 → s ≤ 7293034 → XX G c s 1486 Lc [.int 1] SALL R I J) :
    ∀ t q, q + t = 513 → ∀ cells slots x5 x6 R I J, cells ≤ 156 + q → slots ≤ 16815 + 6 * q → WI q R I J → XX G cells slots 23 [some (.ref 10300), some (.ref 0), some (.ref 135), some (.ref 155), some (.int (nI (7 * q))), x5, x6] [] SALL R I J := by
  intro t
  induction t with
  | zero =>
    intro q hq cells slots x5 x6 R I J hc hs hw
    refine x_iload C0 rfl dL_law_23 ?_
    refine x_aload_n C0 rfl dL_law_25 ?_
    refine x_scl C0 hX dL_law_26 ?_
    refine x_bipush (v := nI 7) C0 rfl dL_law_27 ?_
    refine x_isub C0 dL_law_29 ?_
    refine x_icmp_gt (tgt := 1485) C0 (by decide) dL_law_30 (fun _ => ?_) (fun z => absurd ((lp_gt (by omega) (by omega)).mpr (by omega)) z)
    refine x_iconst (v := 1) C0 rfl dL_law_1485 ?_
    exact hE _ _ _ _ _ _ (by omega) (by omega)
  | succ t ih =>
    intro q hq cells slots x5 x6 R I J hc hs hw
    have ih := ih (q + 1) (by omega)
    refine x_iload C0 rfl dL_law_23 ?_
    refine x_aload_n C0 rfl dL_law_25 ?_
    refine x_scl C0 hX dL_law_26 ?_
    refine x_bipush (v := nI 7) C0 rfl dL_law_27 ?_
    refine x_isub C0 dL_law_29 ?_
    refine x_icmp_gt (tgt := 1485) C0 (by decide) dL_law_30 (fun _ => ?_) (fun z => ?_)
    · refine x_iconst (v := 1) C0 rfl dL_law_1485 ?_
      exact hE _ _ _ _ _ _ (by omega) (by omega)
    have hi : 7 * q + 7 ≤ L := Nat.not_lt.mp (fun y => z ((lp_gt (by omega) (by omega)).mpr y))
    have hRm : xRm G cells slots := fun d hd => hG d _ _ hd (by omega) (by omega)
    have hq1 : q < 1000 := by omega
    have k : xNext G cells slots (7 * q) q := by
      intro c' s' x5' x6' R' I' J' hc' hs' hw'
      refine x_iinc (v := nI (7 * (q + 1))) (L' := [_, _, _, _, _, _, _]) C0 hN rfl (by decide) (nI_add (7 * q) 7) rfl dL_law_1479 ?_
      refine x_goto (tgt := 23) C0 (by decide) dL_law_1482 ?_
      exact ih _ _ _ _ _ _ _ (by omega) (by omega) hw'
    obtain ⟨f, g, e, h, tp, n, F, lw, x, us, u, td, mk, mx, mt, ev, ln, H⟩ := hw
    refine x_aload_n C0 rfl dL_law_33 ?_
    refine x_iload C0 rfl dL_law_34 ?_
    refine x_scr C0 hX (by omega) hL dL_law_36 ?_
    refine x_bipush (v := nI 63) C0 rfl dL_law_37 ?_
    refine x_iand C0 dL_law_39 ?_
    obtain ⟨w, hw64, ew⟩ := lp_63 (xs (7 * q))
    refine x_topi ew ?_
    by_cases h0z : w = 0
    · subst h0z
      exact x_tabIn (tgt := 208) C0 (by decide) (by decide) (by rfl) (by decide) dL_law_40 (law_0 C0 hN hX hRm hi hL hq1 H k)
    by_cases h1z : w = 1
    · subst h1z
      exact x_tabIn (tgt := 355) C0 (by decide) (by decide) (by rfl) (by decide) dL_law_40 (law_1 C0 hN hX hRm hi hL hq1 H k)
    by_cases h2z : w = 2
    · subst h2z
      exact x_tabIn (tgt := 368) C0 (by decide) (by decide) (by rfl) (by decide) dL_law_40 (law_2 C0 hN hX hRm hi hL hq1 H k)
    by_cases h3z : w = 3
    · subst h3z
      exact x_tabIn (tgt := 381) C0 (by decide) (by decide) (by rfl) (by decide) dL_law_40 (law_3 C0 hN hX hRm hi hL hq1 H k)
    by_cases h4z : w = 4
    · subst h4z
      exact x_tabIn (tgt := 418) C0 (by decide) (by decide) (by rfl) (by decide) dL_law_40 (law_4 C0 hN hX hRm hi hL hq1 H k)
    by_cases h5z : w = 5
    · subst h5z
      exact x_tabIn (tgt := 455) C0 (by decide) (by decide) (by rfl) (by decide) dL_law_40 (law_5 C0 hN hX hRm hi hL hq1 H k)
    by_cases h6z : w = 6
    · subst h6z
      exact x_tabIn (tgt := 492) C0 (by decide) (by decide) (by rfl) (by decide) dL_law_40 (law_6 C0 hN hX hRm hi hL hq1 H k)
    by_cases h7z : w = 7
    · subst h7z
      exact x_tabIn (tgt := 505) C0 (by decide) (by decide) (by rfl) (by decide) dL_law_40 (law_7 C0 hN hX hRm hi hL hq1 H k)
    by_cases h8z : w = 8
    · subst h8z
      exact x_tabIn (tgt := 570) C0 (by decide) (by decide) (by rfl) (by decide) dL_law_40 (law_8 C0 hN hX hRm hi hL hq1 H k)
    by_cases h9z : w = 9
    · subst h9z
      exact x_tabIn (tgt := 595) C0 (by decide) (by decide) (by rfl) (by decide) dL_law_40 (law_9 C0 hN hX hRm hi hL hq1 H k)
    by_cases h10z : w = 10
    · subst h10z
      exact x_tabIn (tgt := 632) C0 (by decide) (by decide) (by rfl) (by decide) dL_law_40 (law_10 C0 hN hX hRm hi hL hq1 H k)
    by_cases h11z : w = 11
    · subst h11z
      exact x_tabIn (tgt := 645) C0 (by decide) (by decide) (by rfl) (by decide) dL_law_40 (law_11 C0 hN hX hRm hi hL hq1 H k)
    by_cases h12z : w = 12
    · subst h12z
      exact x_tabIn (tgt := 658) C0 (by decide) (by decide) (by rfl) (by decide) dL_law_40 (law_12 C0 hN hX hRm hi hL hq1 H k)
    by_cases h13z : w = 13
    · subst h13z
      exact x_tabIn (tgt := 683) C0 (by decide) (by decide) (by rfl) (by decide) dL_law_40 (law_13 C0 hN hX hRm hi hL hq1 H k)
    by_cases h14z : w = 14
    · subst h14z
      exact x_tabIn (tgt := 720) C0 (by decide) (by decide) (by rfl) (by decide) dL_law_40 (law_14 C0 hN hX hRm hi hL hq1 H k)
    by_cases h15z : w = 15
    · subst h15z
      exact x_tabIn (tgt := 745) C0 (by decide) (by decide) (by rfl) (by decide) dL_law_40 (law_15 C0 hN hX hRm hi hL hq1 H k)
    by_cases h16z : w = 16
    · subst h16z
      exact x_tabIn (tgt := 810) C0 (by decide) (by decide) (by rfl) (by decide) dL_law_40 (law_16 C0 hN hX hRm hi hL hq1 H k)
    by_cases h17z : w = 17
    · subst h17z
      exact x_tabIn (tgt := 835) C0 (by decide) (by decide) (by rfl) (by decide) dL_law_40 (law_17 C0 hN hX hRm hi hL hq1 H k)
    by_cases h18z : w = 18
    · subst h18z
      exact x_tabIn (tgt := 872) C0 (by decide) (by decide) (by rfl) (by decide) dL_law_40 (law_18 C0 hN hX hRm hi hL hq1 H k)
    by_cases h19z : w = 19
    · subst h19z
      exact x_tabIn (tgt := 897) C0 (by decide) (by decide) (by rfl) (by decide) dL_law_40 (law_19 C0 hN hX hRm hi hL hq1 H k)
    by_cases h20z : w = 20
    · subst h20z
      exact x_tabIn (tgt := 934) C0 (by decide) (by decide) (by rfl) (by decide) dL_law_40 (law_20 C0 hN hX hRm hi hL hq1 H k)
    by_cases h21z : w = 21
    · subst h21z
      exact x_tabIn (tgt := 959) C0 (by decide) (by decide) (by rfl) (by decide) dL_law_40 (law_21 C0 hN hX hRm hi hL hq1 H k)
    by_cases h22z : w = 22
    · subst h22z
      exact x_tabIn (tgt := 972) C0 (by decide) (by decide) (by rfl) (by decide) dL_law_40 (law_22 C0 hN hX hRm hi hL hq1 H k)
    by_cases h23z : w = 23
    · subst h23z
      exact x_tabIn (tgt := 985) C0 (by decide) (by decide) (by rfl) (by decide) dL_law_40 (law_23 C0 hN hX hRm hi hL hq1 H k)
    by_cases h24z : w = 24
    · subst h24z
      exact x_tabIn (tgt := 998) C0 (by decide) (by decide) (by rfl) (by decide) dL_law_40 (law_24 C0 hN hX hRm hi hL hq1 H k)
    by_cases h25z : w = 25
    · subst h25z
      exact x_tabIn (tgt := 1047) C0 (by decide) (by decide) (by rfl) (by decide) dL_law_40 (law_25 C0 hN hX hRm hi hL hq1 H k)
    by_cases h26z : w = 26
    · subst h26z
      exact x_tabIn (tgt := 1072) C0 (by decide) (by decide) (by rfl) (by decide) dL_law_40 (law_26 C0 hN hX hRm hi hL hq1 H k)
    by_cases h27z : w = 27
    · subst h27z
      exact x_tabIn (tgt := 1085) C0 (by decide) (by decide) (by rfl) (by decide) dL_law_40 (law_27 C0 hN hX hRm hi hL hq1 H k)
    by_cases h28z : w = 28
    · subst h28z
      exact x_tabIn (tgt := 1098) C0 (by decide) (by decide) (by rfl) (by decide) dL_law_40 (law_28 C0 hN hX hRm hi hL hq1 H k)
    by_cases h29z : w = 29
    · subst h29z
      exact x_tabIn (tgt := 1123) C0 (by decide) (by decide) (by rfl) (by decide) dL_law_40 (law_29 C0 hN hX hRm hi hL hq1 H k)
    by_cases h30z : w = 30
    · subst h30z
      exact x_tabIn (tgt := 1148) C0 (by decide) (by decide) (by rfl) (by decide) dL_law_40 (law_30 C0 hN hX hRm hi hL hq1 H k)
    by_cases h31z : w = 31
    · subst h31z
      exact x_tabIn (tgt := 1161) C0 (by decide) (by decide) (by rfl) (by decide) dL_law_40 (law_31 C0 hN hX hRm hi hL hq1 H k)
    by_cases h32z : w = 32
    · subst h32z
      exact x_tabIn (tgt := 1174) C0 (by decide) (by decide) (by rfl) (by decide) dL_law_40 (law_32 C0 hN hX hRm hi hL hq1 H k)
    by_cases h33z : w = 33
    · subst h33z
      exact x_tabIn (tgt := 1223) C0 (by decide) (by decide) (by rfl) (by decide) dL_law_40 (law_33 C0 hN hX hRm hi hL hq1 H k)
    by_cases h34z : w = 34
    · subst h34z
      exact x_tabIn (tgt := 1260) C0 (by decide) (by decide) (by rfl) (by decide) dL_law_40 (law_34 C0 hN hX hRm hi hL hq1 H k hT)
    by_cases h35z : w = 35
    · subst h35z
      exact x_tabIn (tgt := 1352) C0 (by decide) (by decide) (by rfl) (by decide) dL_law_40 (law_35 C0 hN hX hRm hi hL hq1 H k)
    by_cases h36z : w = 36
    · subst h36z
      exact x_tabIn (tgt := 1401) C0 (by decide) (by decide) (by rfl) (by decide) dL_law_40 (law_36 C0 hN hX hRm hi hL hq1 H k)
    by_cases h37z : w = 37
    · subst h37z
      exact x_tabIn (tgt := 1454) C0 (by decide) (by decide) (by rfl) (by decide) dL_law_40 (law_37 C0 hN hX hRm hi hL hq1 H k)
    refine x_tabOut (tgt := 1479) C0 (Or.inr ?_) (by decide) dL_law_40 ?_
    · rw [nI_toInt (by omega)]
      omega
    exact k _ _ _ _ _ _ _ (Nat.le_succ _) (Nat.le_add_right _ _) ⟨_, _, _, _, _, _, _, _, _, _, _, _, _, _, _, _, _, H.up⟩
