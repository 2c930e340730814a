/-! THE LAW OF DOUBT IS READ: the reference, sums -/
theorem stepQ {P : pE → pE} (hg : Gr P) {I : xTI} {x : Nat} {e1 : pE} (Q1 : QE I x e1) (g0 : e1.1.2 = 0) (y : (P (eS pNext e1)).1.2 = 0) : (P (eS pNext e1)).2.length + 1 ≤ (P (eS pNext e1)).1.1 := by
  have g9 := hg (eS pNext e1) (by rw [eNext g0]) y
  obtain ⟨z, -, -, h3⟩ := Q1
  have h4 := (h3 g0).2.1
  have e8 : (eS pNext e1).1.1 = e1.1.1 + 1 := by rw [eNext g0]
  have e7 : (eS pNext e1).2.length = e1.2.length := rfl
  omega
theorem p_X12_products {S : xTS} {R : xTR} (hM : isModel S R) {tp : Nat → Nat} {n c : Nat} {w d x : Nat} {P : pE → pE} (hg : Gr P) (hx : Fx P) (hm : Mn P) (hd : 3 ≤ d) (hx8 : x ≤ 80) (hP : MPt S R tp n c yX12_takePart cX12_takePart 4 w d P x) : MPt S R tp n c yX12_products cX12_products 2 w (d + 1) (pProd (tTok tp n) P) (x + 1) := by
  intro I J post e T A h0 Q0 hp
  refine xSpec_of mt_X12_products (Nat.le_of_ble_eq_true rfl) (fun G C0 hN hR E hI hZ => ?_)
  change XX G 0 0 0 [some (.ref 135), some (.int (nI w))] [] S R I J
  have hc1000 : c ≤ 1000 := Nat.le_trans T.1.1 T.1.2.1
  have h5 : ∀ k I1 e1, FrQ I I1 → MAt I1 c e1.1 → QE I1 (x + 1) e1 → (e1.1.2 = 0 → c ≤ e1.1.1 + k) → lp (fun e => pIsC (tTok tp n) 42 e.1) (fun e => eEm (6, 0) (P (eS pNext e))) k e1 = pProd (tTok tp n) P e → XX G 0 0 5 [some (.ref 135), some (.int (nI w))] [] S R I1 J := by
    intro k
    induction k with
    | zero =>
      intro I1 e1 f1 A1 Q1 hk el
      have T1 := T.frq f1
      have kz : e1.1.2 = 0 → (tTok tp n e1.1.1).1 = 0 := fun z => by
        have h1 := A1.2.2.1
        have h2 := hk z
        rw [show e1.1.1 = c by omega]
        exact T.1.2.2.2.1
      refine x_aload_n C0 rfl dX12_products_5 ?_
      refine x_bipush (v := nI 42) C0 rfl dX12_products_6 ?_
      refine x_callV [_] C0 hN rfl (xRf_of hR (by omega) (Nat.zero_le _) (Nat.zero_le _)) mv_X12_hasSign wm_X12_270 dX12_products_8 (isModel.k0 hM) rfl rfl (Nat.le_of_ble_eq_true rfl) (c_X12_hasSign hM T1 A1 (by decide) (fun g _ _ _ => absurd (g.2.1.symm.trans (kz g.1)) (by decide)) (fun g I2 f2 A2 => ?_))
      refine x_if_eq (tgt := 29) C0 (by decide) dX12_products_11 (fun _ => ?_) (fun hkk => absurd (by decide) hkk)
      refine x_vret C0 E (by decide) (by decide) dX12_products_29 ?_
      exact hp I2 (f1.trans (FrQ.of f2)) (by rw [← el]; exact A2) (by rw [← el]; exact Q1.fr f2 (fun y => ⟨y, Nat.le_refl _⟩))
    | succ k ih =>
      intro I1 e1 f1 A1 Q1 hk el
      rw [lp_up] at el
      have T1 := T.frq f1
      refine x_aload_n C0 rfl dX12_products_5 ?_
      refine x_bipush (v := nI 42) C0 rfl dX12_products_6 ?_
      refine x_callV [_] C0 hN rfl (xRf_of hR (by omega) (Nat.zero_le _) (Nat.zero_le _)) mv_X12_hasSign wm_X12_270 dX12_products_8 (isModel.k0 hM) rfl rfl (Nat.le_of_ble_eq_true rfl) (c_X12_hasSign hM T1 A1 (d := 42) (by decide) (fun g I2 f2 A2 => ?_) (fun g I2 f2 A2 => ?_))
      · refine x_if_eq (tgt := 29) C0 (by decide) dX12_products_11 (fun hkk => absurd hkk (by decide)) (fun _ => ?_)
        have g0 := g.1
        have f12 := FrQ.of f2
        refine x_aload_n C0 rfl dX12_products_14 ?_
        refine x_iload_n C0 rfl dX12_products_15 ?_
        refine x_callV [_] C0 hN rfl (xRf_of hR (by omega) (Nat.zero_le _) (Nat.zero_le _)) mv_X12_takePart wm_X12_276 dX12_products_16 (isModel.k0 hM) rfl rfl (Nat.le_of_ble_eq_true rfl) (hP I2 J _ (eS pNext e1) (T1.fr f2) A2 (by rw [eNext g0]) (Q1.go g0 A1.2.2.1 hc1000 f2) (fun I3 f3 A3 Q3 => ?_))
        refine x_aload_n C0 rfl dX12_products_19 ?_
        refine x_bipush (v := nI 6) C0 rfl dX12_products_20 ?_
        refine x_iconst (v := nI 0) C0 rfl dX12_products_22 ?_
        obtain ⟨z, ez, hz, -⟩ := id Q3
        refine x_callV [_, _] C0 hN rfl (xRf_of hR (by omega) (Nat.zero_le _) (Nat.zero_le _)) mv_X12_emit wm_X12_257 dX12_products_23 (isModel.k0 hM) rfl rfl (Nat.le_of_ble_eq_true rfl) (c_X12_emit hM ez (by omega) ?_)
        refine x_goto (tgt := 5) C0 (by decide) dX12_products_26 ?_
        rw [if_pos g] at el
        exact ih _ (eEm (6, 0) (P (eS pNext e1)))  ((f1.trans f12).trans (f3.trans qPut_fr)) (qPut_at A3) (Q3.put ez (by omega) (by omega) (fun y => ⟨stepQ hg Q1 g0 y, Nat.le_trans A3.2.2.1 hc1000⟩) rfl rfl) (fun y => by
          have h8 := hm (eS pNext e1)
          have h9 := hk g0
          have e8 : (eS pNext e1).1.1 = e1.1.1 + 1 := by rw [eNext g0]
          show c ≤ (P (eS pNext e1)).1.1 + k
          omega) el
      · refine x_if_eq (tgt := 29) C0 (by decide) dX12_products_11 (fun _ => ?_) (fun hkk => absurd (by decide) hkk)
        refine x_vret C0 E (by decide) (by decide) dX12_products_29 ?_
        rw [if_neg g] at el
        exact hp I2 (f1.trans (FrQ.of f2)) (by rw [← el]; exact A2) (by rw [← el]; exact Q1.fr f2 (fun y => ⟨y, Nat.le_refl _⟩))
  refine x_aload_n C0 rfl dX12_products_0 ?_
  refine x_iload_n C0 rfl dX12_products_1 ?_
  refine x_callV [_] C0 hN rfl (xRf_of hR (by omega) (Nat.zero_le _) (Nat.zero_le _)) mv_X12_takePart wm_X12_276 dX12_products_2 (isModel.k0 hM) rfl rfl (Nat.le_of_ble_eq_true rfl) (hP I J _ e T A h0 Q0 (fun I1 f1 A1 Q1 => ?_))
  exact h5 1000 I1 _ f1 A1 (Q1.up (by omega)) (fun _ => by omega) rfl
theorem p_X12_sums {S : xTS} {R : xTR} (hM : isModel S R) {tp : Nat → Nat} {n c : Nat} {w d x : Nat} {P : pE → pE} (hg : Gr P) (hx : Fx P) (hm : Mn P) (hd : 3 ≤ d) (hx8 : x ≤ 80) (hP : MPt S R tp n c yX12_products cX12_products 2 w d (pProd (tTok tp n) P) x) : MPt S R tp n c yX12_sums cX12_sums 3 w (d + 1) (pSum (tTok tp n) P) (x + 1) := by
  intro I J post e T A h0 Q0 hp
  refine xSpec_of mt_X12_sums (Nat.le_of_ble_eq_true rfl) (fun G C0 hN hR E hI hZ => ?_)
  change XX G 0 0 0 [some (.ref 135), some (.int (nI w)), none] [] S R I J
  have hc1000 : c ≤ 1000 := Nat.le_trans T.1.1 T.1.2.1
  have h5 : ∀ k I1 e1 v2, FrQ I I1 → MAt I1 c e1.1 → QE I1 (x + 1) e1 → (e1.1.2 = 0 → c ≤ e1.1.1 + k) → lp (fun e => pIsC (tTok tp n) 43 e.1 ∨ pIsC (tTok tp n) 45 e.1) (fun e => eEm (if pIsC (tTok tp n) 43 e.1 then (4, 0) else (5, 0)) ((pProd (tTok tp n) P) (eS pNext e))) k e1 = pSum (tTok tp n) P e → XX G 0 0 5 [some (.ref 135), some (.int (nI w)), v2] [] S R I1 J := by
    intro k
    induction k with
    | zero =>
      intro I1 e1 v2 f1 A1 Q1 hk el
      have T1 := T.frq f1
      have kz : e1.1.2 = 0 → (tTok tp n e1.1.1).1 = 0 := fun z => by
        have h1 := A1.2.2.1
        have h2 := hk z
        rw [show e1.1.1 = c by omega]
        exact T.1.2.2.2.1
      refine x_aload_n C0 rfl dX12_sums_5 ?_
      refine x_bipush (v := nI 43) C0 rfl dX12_sums_6 ?_
      refine x_callV [_] C0 hN rfl (xRf_of hR (by omega) (Nat.zero_le _) (Nat.zero_le _)) mv_X12_isSign wm_X12_168 dX12_sums_8 (isModel.k0 hM) rfl rfl (Nat.le_of_ble_eq_true rfl) (c_X12_isSign hM T1 A1 (by decide) (fun g => absurd (g.2.1.symm.trans (kz g.1)) (by decide)) (fun g => ?_))
      refine x_if_ne (tgt := 23) C0 (by decide) dX12_sums_11 (fun hkk => absurd (by decide) hkk) (fun _ => ?_)
      refine x_aload_n C0 rfl dX12_sums_14 ?_
      refine x_bipush (v := nI 45) C0 rfl dX12_sums_15 ?_
      refine x_callV [_] C0 hN rfl (xRf_of hR (by omega) (Nat.zero_le _) (Nat.zero_le _)) mv_X12_isSign wm_X12_168 dX12_sums_17 (isModel.k0 hM) rfl rfl (Nat.le_of_ble_eq_true rfl) (c_X12_isSign hM T1 A1 (by decide) (fun g => absurd (g.2.1.symm.trans (kz g.1)) (by decide)) (fun g => ?_))
      refine x_if_eq (tgt := 62) C0 (by decide) dX12_sums_20 (fun _ => ?_) (fun hkk => absurd (by decide) hkk)
      refine x_vret C0 E (by decide) (by decide) dX12_sums_62 ?_
      exact hp I1 f1 (by rw [← el]; exact A1) (by rw [← el]; exact Q1)
    | succ k ih =>
      intro I1 e1 v2 f1 A1 Q1 hk el
      rw [lp_up] at el
      have T1 := T.frq f1
      have hgo1 : ∀ (g : pIsC (tTok tp n) 43 e1.1), XX G 0 0 29 [some (.ref 135), some (.int (nI w)), v2] [.int 1] S R I1 J := by
        intro g
        have g0 := g.1
        refine x_istore_n (L' := [_, _, _]) C0 hN (by decide) rfl dX12_sums_29 ?_
        refine x_aload_n C0 rfl dX12_sums_30 ?_
        refine x_dup C0 rfl dX12_sums_31 ?_
        refine x_getI C0 wf_X12_162 (isModel.k0 hM) rfl dX12_sums_32 ?_
        refine x_topi A1.1 ?_
        refine x_iconst (v := nI 1) C0 rfl dX12_sums_35 ?_
        refine x_iadd C0 dX12_sums_36 ?_
        refine x_topi (nI_add e1.1.1 1) ?_
        refine x_putI C0 wf_X12_162 (isModel.k0 hM) rfl dX12_sums_37 ?_
        have f2 : RFr I1 (u2 I1 135 7 (nI (e1.1.1 + 1))) := RFr.st (Or.inl rfl)
        have A2 := A1.next g0 ((T1.at A1.2.2.1).2.2.2.1 (by rw [g.2.1]; decide))
        generalize u2 I1 135 7 (nI (e1.1.1 + 1)) = I2 at f2 A2 ⊢
        have f12 := FrQ.of f2
        refine x_aload_n C0 rfl dX12_sums_40 ?_
        refine x_iload_n C0 rfl dX12_sums_41 ?_
        refine x_callV [_] C0 hN rfl (xRf_of hR (by omega) (Nat.zero_le _) (Nat.zero_le _)) mv_X12_products wm_X12_273 dX12_sums_42 (isModel.k0 hM) rfl rfl (Nat.le_of_ble_eq_true rfl) (hP I2 J _ (eS pNext e1) (T1.fr f2) A2 (by rw [eNext g0]) (Q1.go g0 A1.2.2.1 hc1000 f2) (fun I3 f3 A3 Q3 => ?_))
        refine x_aload_n C0 rfl dX12_sums_45 ?_
        refine x_iload_n C0 rfl dX12_sums_46 ?_
        refine x_if_eq (tgt := 54) C0 (by decide) dX12_sums_47 (fun hkk => absurd hkk (by decide)) (fun _ => ?_)
        refine x_iconst (v := nI 4) C0 rfl dX12_sums_50 ?_
        refine x_goto (tgt := 55) C0 (by decide) dX12_sums_51 ?_
        refine x_iconst (v := nI 0) C0 rfl dX12_sums_55 ?_
        obtain ⟨z, ez, hz, -⟩ := id Q3
        refine x_callV [_, _] C0 hN rfl (xRf_of hR (by omega) (Nat.zero_le _) (Nat.zero_le _)) mv_X12_emit wm_X12_257 dX12_sums_56 (isModel.k0 hM) rfl rfl (Nat.le_of_ble_eq_true rfl) (c_X12_emit hM ez (by omega) ?_)
        refine x_goto (tgt := 5) C0 (by decide) dX12_sums_59 ?_
        rw [if_pos (Or.inl g), if_pos g] at el
        exact ih _ (eEm (4, 0) ((pProd (tTok tp n) P) (eS pNext e1))) _ ((f1.trans f12).trans (f3.trans qPut_fr)) (qPut_at A3) (Q3.put ez (by omega) (by omega) (fun y => ⟨stepQ (pProd_gr hg) Q1 g0 y, Nat.le_trans A3.2.2.1 hc1000⟩) rfl rfl) (fun y => by
          have h8 := (pProd_mn (q := tTok tp n) hm) (eS pNext e1)
          have h9 := hk g0
          have e8 : (eS pNext e1).1.1 = e1.1.1 + 1 := by rw [eNext g0]
          show c ≤ ((pProd (tTok tp n) P) (eS pNext e1)).1.1 + k
          omega) el
      have hgo0 : ∀ (ga : ¬ pIsC (tTok tp n) 43 e1.1) (g : pIsC (tTok tp n) 45 e1.1), XX G 0 0 29 [some (.ref 135), some (.int (nI w)), v2] [.int 0] S R I1 J := by
        intro ga g
        have g0 := g.1
        refine x_istore_n (L' := [_, _, _]) C0 hN (by decide) rfl dX12_sums_29 ?_
        refine x_aload_n C0 rfl dX12_sums_30 ?_
        refine x_dup C0 rfl dX12_sums_31 ?_
        refine x_getI C0 wf_X12_162 (isModel.k0 hM) rfl dX12_sums_32 ?_
        refine x_topi A1.1 ?_
        refine x_iconst (v := nI 1) C0 rfl dX12_sums_35 ?_
        refine x_iadd C0 dX12_sums_36 ?_
        refine x_topi (nI_add e1.1.1 1) ?_
        refine x_putI C0 wf_X12_162 (isModel.k0 hM) rfl dX12_sums_37 ?_
        have f2 : RFr I1 (u2 I1 135 7 (nI (e1.1.1 + 1))) := RFr.st (Or.inl rfl)
        have A2 := A1.next g0 ((T1.at A1.2.2.1).2.2.2.1 (by rw [g.2.1]; decide))
        generalize u2 I1 135 7 (nI (e1.1.1 + 1)) = I2 at f2 A2 ⊢
        have f12 := FrQ.of f2
        refine x_aload_n C0 rfl dX12_sums_40 ?_
        refine x_iload_n C0 rfl dX12_sums_41 ?_
        refine x_callV [_] C0 hN rfl (xRf_of hR (by omega) (Nat.zero_le _) (Nat.zero_le _)) mv_X12_products wm_X12_273 dX12_sums_42 (isModel.k0 hM) rfl rfl (Nat.le_of_ble_eq_true rfl) (hP I2 J _ (eS pNext e1) (T1.fr f2) A2 (by rw [eNext g0]) (Q1.go g0 A1.2.2.1 hc1000 f2) (fun I3 f3 A3 Q3 => ?_))
        refine x_aload_n C0 rfl dX12_sums_45 ?_
        refine x_iload_n C0 rfl dX12_sums_46 ?_
        refine x_if_eq (tgt := 54) C0 (by decide) dX12_sums_47 (fun _ => ?_) (fun hkk => absurd (by decide) hkk)
        refine x_iconst (v := nI 5) C0 rfl dX12_sums_54 ?_
        refine x_iconst (v := nI 0) C0 rfl dX12_sums_55 ?_
        obtain ⟨z, ez, hz, -⟩ := id Q3
        refine x_callV [_, _] C0 hN rfl (xRf_of hR (by omega) (Nat.zero_le _) (Nat.zero_le _)) mv_X12_emit wm_X12_257 dX12_sums_56 (isModel.k0 hM) rfl rfl (Nat.le_of_ble_eq_true rfl) (c_X12_emit hM ez (by omega) ?_)
        refine x_goto (tgt := 5) C0 (by decide) dX12_sums_59 ?_
        rw [if_pos (Or.inr g), if_neg ga] at el
        exact ih _ (eEm (5, 0) ((pProd (tTok tp n) P) (eS pNext e1))) _ ((f1.trans f12).trans (f3.trans qPut_fr)) (qPut_at A3) (Q3.put ez (by omega) (by omega) (fun y => ⟨stepQ (pProd_gr hg) Q1 g0 y, Nat.le_trans A3.2.2.1 hc1000⟩) rfl rfl) (fun y => by
          have h8 := (pProd_mn (q := tTok tp n) hm) (eS pNext e1)
          have h9 := hk g0
          have e8 : (eS pNext e1).1.1 = e1.1.1 + 1 := by rw [eNext g0]
          show c ≤ ((pProd (tTok tp n) P) (eS pNext e1)).1.1 + k
          omega) el
      refine x_aload_n C0 rfl dX12_sums_5 ?_
      refine x_bipush (v := nI 43) C0 rfl dX12_sums_6 ?_
      refine x_callV [_] C0 hN rfl (xRf_of hR (by omega) (Nat.zero_le _) (Nat.zero_le _)) mv_X12_isSign wm_X12_168 dX12_sums_8 (isModel.k0 hM) rfl rfl (Nat.le_of_ble_eq_true rfl) (c_X12_isSign hM T1 A1 (by decide) (fun ga => ?_) (fun ga => ?_))
      · refine x_if_ne (tgt := 23) C0 (by decide) dX12_sums_11 (fun _ => ?_) (fun hkk => absurd hkk (by decide))
        refine x_aload_n C0 rfl dX12_sums_23 ?_
        refine x_bipush (v := nI 43) C0 rfl dX12_sums_24 ?_
        refine x_callV [_] C0 hN rfl (xRf_of hR (by omega) (Nat.zero_le _) (Nat.zero_le _)) mv_X12_isSign wm_X12_168 dX12_sums_26 (isModel.k0 hM) rfl rfl (Nat.le_of_ble_eq_true rfl) (c_X12_isSign hM T1 A1 (by decide) (fun gc => ?_) (fun gc => ?_))
        · exact hgo1 ga
        · exact absurd ga gc
      · refine x_if_ne (tgt := 23) C0 (by decide) dX12_sums_11 (fun hkk => absurd (by decide) hkk) (fun _ => ?_)
        refine x_aload_n C0 rfl dX12_sums_14 ?_
        refine x_bipush (v := nI 45) C0 rfl dX12_sums_15 ?_
        refine x_callV [_] C0 hN rfl (xRf_of hR (by omega) (Nat.zero_le _) (Nat.zero_le _)) mv_X12_isSign wm_X12_168 dX12_sums_17 (isModel.k0 hM) rfl rfl (Nat.le_of_ble_eq_true rfl) (c_X12_isSign hM T1 A1 (by decide) (fun gb => ?_) (fun gb => ?_))
        · refine x_if_eq (tgt := 62) C0 (by decide) dX12_sums_20 (fun hkk => absurd hkk (by decide)) (fun _ => ?_)
          refine x_aload_n C0 rfl dX12_sums_23 ?_
          refine x_bipush (v := nI 43) C0 rfl dX12_sums_24 ?_
          refine x_callV [_] C0 hN rfl (xRf_of hR (by omega) (Nat.zero_le _) (Nat.zero_le _)) mv_X12_isSign wm_X12_168 dX12_sums_26 (isModel.k0 hM) rfl rfl (Nat.le_of_ble_eq_true rfl) (c_X12_isSign hM T1 A1 (by decide) (fun gc => ?_) (fun gc => ?_))
          · exact absurd gc ga
          · exact hgo0 ga gb
        · refine x_if_eq (tgt := 62) C0 (by decide) dX12_sums_20 (fun _ => ?_) (fun hkk => absurd (by decide) hkk)
          refine x_vret C0 E (by decide) (by decide) dX12_sums_62 ?_
          rw [if_neg (fun z => z.elim ga gb)] at el
          exact hp I1 f1 (by rw [← el]; exact A1) (by rw [← el]; exact Q1)
  refine x_aload_n C0 rfl dX12_sums_0 ?_
  refine x_iload_n C0 rfl dX12_sums_1 ?_
  refine x_callV [_] C0 hN rfl (xRf_of hR (by omega) (Nat.zero_le _) (Nat.zero_le _)) mv_X12_products wm_X12_273 dX12_sums_2 (isModel.k0 hM) rfl rfl (Nat.le_of_ble_eq_true rfl) (hP I J _ e T A h0 Q0 (fun I1 f1 A1 Q1 => ?_))
  exact h5 1000 I1 _ _ f1 A1 (Q1.up (by omega)) (fun _ => by omega) rfl
theorem p_X12_test {S : xTS} {R : xTR} (hM : isModel S R) {tp : Nat → Nat} {n c : Nat} {w d x : Nat} {P : pE → pE} (hg : Gr P) (hx : Fx P) (hm : Mn P) (hd : 3 ≤ d) (hx8 : x ≤ 80) (hP : MPt S R tp n c yX12_sums cX12_sums 3 w d (pSum (tTok tp n) P) x) : MPt S R tp n c yX12_test cX12_test 3 w (d + 1) (pTst (tTok tp n) P) (x + 1) := by
  intro I J post e T A h0 Q0 hp
  refine xSpec_of mt_X12_test (Nat.le_of_ble_eq_true rfl) (fun G C0 hN hR E hI hZ => ?_)
  change XX G 0 0 0 [some (.ref 135), some (.int (nI w)), none] [] S R I J
  have hc1000 : c ≤ 1000 := Nat.le_trans T.1.1 T.1.2.1
  have h5 : ∀ I1 v2, FrQ I I1 → MAt I1 c (pSum (tTok tp n) P e).1 → QE I1 x (pSum (tTok tp n) P e) → XX G 0 0 5 [some (.ref 135), some (.int (nI w)), v2] [] S R I1 J := by
    intro I1 v2 f1 A1 Q1
    have el : pTst (tTok tp n) P e = if pIsC (tTok tp n) 60 (pSum (tTok tp n) P e).1 ∨ pIsC (tTok tp n) 61 (pSum (tTok tp n) P e).1 then eEm (if pIsC (tTok tp n) 60 (pSum (tTok tp n) P e).1 then (7, 0) else (8, 0)) (pSum (tTok tp n) P (eS pNext (pSum (tTok tp n) P e))) else pSum (tTok tp n) P e := rfl
    generalize pSum (tTok tp n) P e = e1 at A1 Q1 el
    have T1 := T.frq f1
    have hgo1 : pIsC (tTok tp n) 60 e1.1 → ∀ I2, RFr I1 I2 → MAt I2 c (pNext e1.1) → XX G 0 0 30 [some (.ref 135), some (.int (nI w)), some (.int 1)] [] S R I2 J := by
      intro g I2 f2 A2
      have g0 := g.1
      refine x_aload_n C0 rfl dX12_test_30 ?_
      refine x_iload_n C0 rfl dX12_test_31 ?_
      refine x_callV [_] C0 hN rfl (xRf_of hR (by omega) (Nat.zero_le _) (Nat.zero_le _)) mv_X12_sums wm_X12_267 dX12_test_32 (isModel.k0 hM) rfl rfl (Nat.le_of_ble_eq_true rfl) (hP I2 J _ (eS pNext e1) (T1.fr f2) A2 (by rw [eNext g0]) (Q1.go g0 A1.2.2.1 hc1000 f2) (fun I3 f3 A3 Q3 => ?_))
      refine x_aload_n C0 rfl dX12_test_35 ?_
      refine x_iload_n C0 rfl dX12_test_36 ?_
      refine x_if_eq (tgt := 45) C0 (by decide) dX12_test_37 (fun hkk => absurd hkk (by decide)) (fun _ => ?_)
      refine x_bipush (v := nI 7) C0 rfl dX12_test_40 ?_
      refine x_goto (tgt := 47) C0 (by decide) dX12_test_42 ?_
      refine x_iconst (v := nI 0) C0 rfl dX12_test_47 ?_
      obtain ⟨z, ez, hz, -⟩ := id Q3
      refine x_callV [_, _] C0 hN rfl (xRf_of hR (by omega) (Nat.zero_le _) (Nat.zero_le _)) mv_X12_emit wm_X12_257 dX12_test_48 (isModel.k0 hM) rfl rfl (Nat.le_of_ble_eq_true rfl) (c_X12_emit hM ez (by omega) ?_)
      refine x_vret C0 E (by decide) (by decide) dX12_test_51 ?_
      rw [if_pos (Or.inl g), if_pos g] at el
      exact hp _ ((f1.trans (FrQ.of f2)).trans (f3.trans qPut_fr)) (by rw [el]; exact qPut_at A3) (by rw [el]; exact Q3.put ez (by omega) (by omega) (fun y => ⟨stepQ (pSum_gr hg) Q1 g0 y, Nat.le_trans A3.2.2.1 hc1000⟩) rfl rfl)
    have hgo0 : ¬ pIsC (tTok tp n) 60 e1.1 → pIsC (tTok tp n) 61 e1.1 → ∀ I2, RFr I1 I2 → MAt I2 c (pNext e1.1) → XX G 0 0 30 [some (.ref 135), some (.int (nI w)), some (.int 0)] [] S R I2 J := by
      intro ga g I2 f2 A2
      have g0 := g.1
      refine x_aload_n C0 rfl dX12_test_30 ?_
      refine x_iload_n C0 rfl dX12_test_31 ?_
      refine x_callV [_] C0 hN rfl (xRf_of hR (by omega) (Nat.zero_le _) (Nat.zero_le _)) mv_X12_sums wm_X12_267 dX12_test_32 (isModel.k0 hM) rfl rfl (Nat.le_of_ble_eq_true rfl) (hP I2 J _ (eS pNext e1) (T1.fr f2) A2 (by rw [eNext g0]) (Q1.go g0 A1.2.2.1 hc1000 f2) (fun I3 f3 A3 Q3 => ?_))
      refine x_aload_n C0 rfl dX12_test_35 ?_
      refine x_iload_n C0 rfl dX12_test_36 ?_
      refine x_if_eq (tgt := 45) C0 (by decide) dX12_test_37 (fun _ => ?_) (fun hkk => absurd (by decide) hkk)
      refine x_bipush (v := nI 8) C0 rfl dX12_test_45 ?_
      refine x_iconst (v := nI 0) C0 rfl dX12_test_47 ?_
      obtain ⟨z, ez, hz, -⟩ := id Q3
      refine x_callV [_, _] C0 hN rfl (xRf_of hR (by omega) (Nat.zero_le _) (Nat.zero_le _)) mv_X12_emit wm_X12_257 dX12_test_48 (isModel.k0 hM) rfl rfl (Nat.le_of_ble_eq_true rfl) (c_X12_emit hM ez (by omega) ?_)
      refine x_vret C0 E (by decide) (by decide) dX12_test_51 ?_
      rw [if_pos (Or.inr g), if_neg ga] at el
      exact hp _ ((f1.trans (FrQ.of f2)).trans (f3.trans qPut_fr)) (by rw [el]; exact qPut_at A3) (by rw [el]; exact Q3.put ez (by omega) (by omega) (fun y => ⟨stepQ (pSum_gr hg) Q1 g0 y, Nat.le_trans A3.2.2.1 hc1000⟩) rfl rfl)
    have h21 : ¬ pIsC (tTok tp n) 60 e1.1 → ∀ I2, RFr I1 I2 → MAt I2 c e1.1 → XX G 0 0 21 [some (.ref 135), some (.int (nI w)), some (.int 0)] [] S R I2 J := by
      intro ga I2 f2 A2
      refine x_aload_n C0 rfl dX12_test_21 ?_
      refine x_bipush (v := nI 61) C0 rfl dX12_test_22 ?_
      refine x_callV [_] C0 hN rfl (xRf_of hR (by omega) (Nat.zero_le _) (Nat.zero_le _)) mv_X12_hasSign wm_X12_270 dX12_test_24 (isModel.k0 hM) rfl rfl (Nat.le_of_ble_eq_true rfl) (c_X12_hasSign hM (T1.fr f2) A2 (d := 61) (by decide) (fun g I3 f3 A3 => ?_) (fun g I3 f3 A3 => ?_))
      · refine x_if_eq (tgt := 51) C0 (by decide) dX12_test_27 (fun hkk => absurd hkk (by decide)) (fun _ => ?_)
        exact hgo0 ga g I3 (f2.trans f3) A3
      · refine x_if_eq (tgt := 51) C0 (by decide) dX12_test_27 (fun _ => ?_) (fun hkk => absurd (by decide) hkk)
        refine x_vret C0 E (by decide) (by decide) dX12_test_51 ?_
        rw [if_neg (fun z => z.elim ga g)] at el
        have f23 := f2.trans f3
        exact hp I3 (f1.trans (FrQ.of f23)) (by rw [el]; exact A3) (by rw [el]; exact (Q1.fr f23 (fun y => ⟨y, Nat.le_refl _⟩)).up (by omega))
    refine x_aload_n C0 rfl dX12_test_5 ?_
    refine x_bipush (v := nI 60) C0 rfl dX12_test_6 ?_
    refine x_callV [_] C0 hN rfl (xRf_of hR (by omega) (Nat.zero_le _) (Nat.zero_le _)) mv_X12_isSign wm_X12_168 dX12_test_8 (isModel.k0 hM) rfl rfl (Nat.le_of_ble_eq_true rfl) (c_X12_isSign hM T1 A1 (by decide) (fun ga => ?_) (fun ga => ?_))
    · refine x_istore_n (L' := [_, _, _]) C0 hN (by decide) rfl dX12_test_11 ?_
      refine x_aload_n C0 rfl dX12_test_12 ?_
      refine x_bipush (v := nI 60) C0 rfl dX12_test_13 ?_
      refine x_callV [_] C0 hN rfl (xRf_of hR (by omega) (Nat.zero_le _) (Nat.zero_le _)) mv_X12_hasSign wm_X12_270 dX12_test_15 (isModel.k0 hM) rfl rfl (Nat.le_of_ble_eq_true rfl) (c_X12_hasSign hM T1 A1 (d := 60) (by decide) (fun g I2 f2 A2 => ?_) (fun g I2 f2 A2 => ?_))
      · refine x_if_ne (tgt := 30) C0 (by decide) dX12_test_18 (fun _ => ?_) (fun hkk => absurd hkk (by decide))
        exact hgo1 ga I2 f2 A2
      · refine x_if_ne (tgt := 30) C0 (by decide) dX12_test_18 (fun hkk => absurd (by decide) hkk) (fun _ => ?_)
        exact absurd ga g
    · refine x_istore_n (L' := [_, _, _]) C0 hN (by decide) rfl dX12_test_11 ?_
      refine x_aload_n C0 rfl dX12_test_12 ?_
      refine x_bipush (v := nI 60) C0 rfl dX12_test_13 ?_
      refine x_callV [_] C0 hN rfl (xRf_of hR (by omega) (Nat.zero_le _) (Nat.zero_le _)) mv_X12_hasSign wm_X12_270 dX12_test_15 (isModel.k0 hM) rfl rfl (Nat.le_of_ble_eq_true rfl) (c_X12_hasSign hM T1 A1 (d := 60) (by decide) (fun g I2 f2 A2 => ?_) (fun g I2 f2 A2 => ?_))
      · refine x_if_ne (tgt := 30) C0 (by decide) dX12_test_18 (fun _ => ?_) (fun hkk => absurd hkk (by decide))
        exact absurd g ga
      · refine x_if_ne (tgt := 30) C0 (by decide) dX12_test_18 (fun hkk => absurd (by decide) hkk) (fun _ => ?_)
        exact h21 ga I2 f2 A2
  refine x_aload_n C0 rfl dX12_test_0 ?_
  refine x_iload_n C0 rfl dX12_test_1 ?_
  refine x_callV [_] C0 hN rfl (xRf_of hR (by omega) (Nat.zero_le _) (Nat.zero_le _)) mv_X12_sums wm_X12_267 dX12_test_2 (isModel.k0 hM) rfl rfl (Nat.le_of_ble_eq_true rfl) (hP I J _ e T A h0 Q0 (fun I1 f1 A1 Q1 => ?_))
  exact h5 I1 _ f1 A1 Q1
theorem p_X12_whole {S : xTS} {R : xTR} (hM : isModel S R) {tp : Nat → Nat} {n c : Nat} {w d x : Nat} {P : pE → pE} (hg : Gr P) (hx : Fx P) (hm : Mn P) (hd : 3 ≤ d) (hx8 : x ≤ 80) (hP : MPt S R tp n c yX12_test cX12_test 3 w d (pTst (tTok tp n) P) x) : MPt S R tp n c yX12_whole cX12_whole 3 w (d + 1) (pAll (tTok tp n) P) (x + 1) := by
  intro I J post e T A h0 Q0 hp
  refine xSpec_of mt_X12_whole (Nat.le_of_ble_eq_true rfl) (fun G C0 hN hR E hI hZ => ?_)
  change XX G 0 0 0 [some (.ref 135), some (.int (nI w)), none] [] S R I J
  have hc1000 : c ≤ 1000 := Nat.le_trans T.1.1 T.1.2.1
  have h5 : ∀ k I1 e1 v2, FrQ I I1 → MAt I1 c e1.1 → QE I1 (x + 1) e1 → (e1.1.2 = 0 → c ≤ e1.1.1 + k) → lp (fun e => pIsW (tTok tp n) 20 e.1 ∨ pIsW (tTok tp n) 21 e.1) (fun e => eEm (if pIsW (tTok tp n) 20 e.1 then (9, 0) else (10, 0)) ((pTst (tTok tp n) P) (eS pNext e))) k e1 = pAll (tTok tp n) P e → XX G 0 0 5 [some (.ref 135), some (.int (nI w)), v2] [] S R I1 J := by
    intro k
    induction k with
    | zero =>
      intro I1 e1 v2 f1 A1 Q1 hk el
      have T1 := T.frq f1
      have kz : e1.1.2 = 0 → (tTok tp n e1.1.1).1 = 0 := fun z => by
        have h1 := A1.2.2.1
        have h2 := hk z
        rw [show e1.1.1 = c by omega]
        exact T.1.2.2.2.1
      refine x_aload_n C0 rfl dX12_whole_5 ?_
      refine x_bipush (v := nI 20) C0 rfl dX12_whole_6 ?_
      refine x_callV [_] C0 hN rfl (xRf_of hR (by omega) (Nat.zero_le _) (Nat.zero_le _)) mv_X12_isWord wm_X12_174 dX12_whole_8 (isModel.k0 hM) rfl rfl (Nat.le_of_ble_eq_true rfl) (c_X12_isWord hM T1 A1 (by decide) (fun g => absurd (g.2.1.symm.trans (kz g.1)) (by decide)) (fun g => ?_))
      refine x_if_ne (tgt := 23) C0 (by decide) dX12_whole_11 (fun hkk => absurd (by decide) hkk) (fun _ => ?_)
      refine x_aload_n C0 rfl dX12_whole_14 ?_
      refine x_bipush (v := nI 21) C0 rfl dX12_whole_15 ?_
      refine x_callV [_] C0 hN rfl (xRf_of hR (by omega) (Nat.zero_le _) (Nat.zero_le _)) mv_X12_isWord wm_X12_174 dX12_whole_17 (isModel.k0 hM) rfl rfl (Nat.le_of_ble_eq_true rfl) (c_X12_isWord hM T1 A1 (by decide) (fun g => absurd (g.2.1.symm.trans (kz g.1)) (by decide)) (fun g => ?_))
      refine x_if_eq (tgt := 64) C0 (by decide) dX12_whole_20 (fun _ => ?_) (fun hkk => absurd (by decide) hkk)
      refine x_vret C0 E (by decide) (by decide) dX12_whole_64 ?_
      exact hp I1 f1 (by rw [← el]; exact A1) (by rw [← el]; exact Q1)
    | succ k ih =>
      intro I1 e1 v2 f1 A1 Q1 hk el
      rw [lp_up] at el
      have T1 := T.frq f1
      have hgo1 : ∀ (g : pIsW (tTok tp n) 20 e1.1), XX G 0 0 29 [some (.ref 135), some (.int (nI w)), v2] [.int 1] S R I1 J := by
        intro g
        have g0 := g.1
        refine x_istore_n (L' := [_, _, _]) C0 hN (by decide) rfl dX12_whole_29 ?_
        refine x_aload_n C0 rfl dX12_whole_30 ?_
        refine x_dup C0 rfl dX12_whole_31 ?_
        refine x_getI C0 wf_X12_162 (isModel.k0 hM) rfl dX12_whole_32 ?_
        refine x_topi A1.1 ?_
        refine x_iconst (v := nI 1) C0 rfl dX12_whole_35 ?_
        refine x_iadd C0 dX12_whole_36 ?_
        refine x_topi (nI_add e1.1.1 1) ?_
        refine x_putI C0 wf_X12_162 (isModel.k0 hM) rfl dX12_whole_37 ?_
        have f2 : RFr I1 (u2 I1 135 7 (nI (e1.1.1 + 1))) := RFr.st (Or.inl rfl)
        have A2 := A1.next g0 ((T1.at A1.2.2.1).2.2.2.1 (by rw [g.2.1]; decide))
        generalize u2 I1 135 7 (nI (e1.1.1 + 1)) = I2 at f2 A2 ⊢
        have f12 := FrQ.of f2
        refine x_aload_n C0 rfl dX12_whole_40 ?_
        refine x_iload_n C0 rfl dX12_whole_41 ?_
        refine x_callV [_] C0 hN rfl (xRf_of hR (by omega) (Nat.zero_le _) (Nat.zero_le _)) mv_X12_test wm_X12_264 dX12_whole_42 (isModel.k0 hM) rfl rfl (Nat.le_of_ble_eq_true rfl) (hP I2 J _ (eS pNext e1) (T1.fr f2) A2 (by rw [eNext g0]) (Q1.go g0 A1.2.2.1 hc1000 f2) (fun I3 f3 A3 Q3 => ?_))
        refine x_aload_n C0 rfl dX12_whole_45 ?_
        refine x_iload_n C0 rfl dX12_whole_46 ?_
        refine x_if_eq (tgt := 55) C0 (by decide) dX12_whole_47 (fun hkk => absurd hkk (by decide)) (fun _ => ?_)
        refine x_bipush (v := nI 9) C0 rfl dX12_whole_50 ?_
        refine x_goto (tgt := 57) C0 (by decide) dX12_whole_52 ?_
        refine x_iconst (v := nI 0) C0 rfl dX12_whole_57 ?_
        obtain ⟨z, ez, hz, -⟩ := id Q3
        refine x_callV [_, _] C0 hN rfl (xRf_of hR (by omega) (Nat.zero_le _) (Nat.zero_le _)) mv_X12_emit wm_X12_257 dX12_whole_58 (isModel.k0 hM) rfl rfl (Nat.le_of_ble_eq_true rfl) (c_X12_emit hM ez (by omega) ?_)
        refine x_goto (tgt := 5) C0 (by decide) dX12_whole_61 ?_
        rw [if_pos (Or.inl g), if_pos g] at el
        exact ih _ (eEm (9, 0) ((pTst (tTok tp n) P) (eS pNext e1))) _ ((f1.trans f12).trans (f3.trans qPut_fr)) (qPut_at A3) (Q3.put ez (by omega) (by omega) (fun y => ⟨stepQ (pTst_gr hg hx) Q1 g0 y, Nat.le_trans A3.2.2.1 hc1000⟩) rfl rfl) (fun y => by
          have h8 := (pTst_mn (q := tTok tp n) hm) (eS pNext e1)
          have h9 := hk g0
          have e8 : (eS pNext e1).1.1 = e1.1.1 + 1 := by rw [eNext g0]
          show c ≤ ((pTst (tTok tp n) P) (eS pNext e1)).1.1 + k
          omega) el
      have hgo0 : ∀ (ga : ¬ pIsW (tTok tp n) 20 e1.1) (g : pIsW (tTok tp n) 21 e1.1), XX G 0 0 29 [some (.ref 135), some (.int (nI w)), v2] [.int 0] S R I1 J := by
        intro ga g
        have g0 := g.1
        refine x_istore_n (L' := [_, _, _]) C0 hN (by decide) rfl dX12_whole_29 ?_
        refine x_aload_n C0 rfl dX12_whole_30 ?_
        refine x_dup C0 rfl dX12_whole_31 ?_
        refine x_getI C0 wf_X12_162 (isModel.k0 hM) rfl dX12_whole_32 ?_
        refine x_topi A1.1 ?_
        refine x_iconst (v := nI 1) C0 rfl dX12_whole_35 ?_
        refine x_iadd C0 dX12_whole_36 ?_
        refine x_topi (nI_add e1.1.1 1) ?_
        refine x_putI C0 wf_X12_162 (isModel.k0 hM) rfl dX12_whole_37 ?_
        have f2 : RFr I1 (u2 I1 135 7 (nI (e1.1.1 + 1))) := RFr.st (Or.inl rfl)
        have A2 := A1.next g0 ((T1.at A1.2.2.1).2.2.2.1 (by rw [g.2.1]; decide))
        generalize u2 I1 135 7 (nI (e1.1.1 + 1)) = I2 at f2 A2 ⊢
        have f12 := FrQ.of f2
        refine x_aload_n C0 rfl dX12_whole_40 ?_
        refine x_iload_n C0 rfl dX12_whole_41 ?_
        refine x_callV [_] C0 hN rfl (xRf_of hR (by omega) (Nat.zero_le _) (Nat.zero_le _)) mv_X12_test wm_X12_264 dX12_whole_42 (isModel.k0 hM) rfl rfl (Nat.le_of_ble_eq_true rfl) (hP I2 J _ (eS pNext e1) (T1.fr f2) A2 (by rw [eNext g0]) (Q1.go g0 A1.2.2.1 hc1000 f2) (fun I3 f3 A3 Q3 => ?_))
        refine x_aload_n C0 rfl dX12_whole_45 ?_
        refine x_iload_n C0 rfl dX12_whole_46 ?_
        refine x_if_eq (tgt := 55) C0 (by decide) dX12_whole_47 (fun _ => ?_) (fun hkk => absurd (by decide) hkk)
        refine x_bipush (v := nI 10) C0 rfl dX12_whole_55 ?_
        refine x_iconst (v := nI 0) C0 rfl dX12_whole_57 ?_
        obtain ⟨z, ez, hz, -⟩ := id Q3
        refine x_callV [_, _] C0 hN rfl (xRf_of hR (by omega) (Nat.zero_le _) (Nat.zero_le _)) mv_X12_emit wm_X12_257 dX12_whole_58 (isModel.k0 hM) rfl rfl (Nat.le_of_ble_eq_true rfl) (c_X12_emit hM ez (by omega) ?_)
        refine x_goto (tgt := 5) C0 (by decide) dX12_whole_61 ?_
        rw [if_pos (Or.inr g), if_neg ga] at el
        exact ih _ (eEm (10, 0) ((pTst (tTok tp n) P) (eS pNext e1))) _ ((f1.trans f12).trans (f3.trans qPut_fr)) (qPut_at A3) (Q3.put ez (by omega) (by omega) (fun y => ⟨stepQ (pTst_gr hg hx) Q1 g0 y, Nat.le_trans A3.2.2.1 hc1000⟩) rfl rfl) (fun y => by
          have h8 := (pTst_mn (q := tTok tp n) hm) (eS pNext e1)
          have h9 := hk g0
          have e8 : (eS pNext e1).1.1 = e1.1.1 + 1 := by rw [eNext g0]
          show c ≤ ((pTst (tTok tp n) P) (eS pNext e1)).1.1 + k
          omega) el
      refine x_aload_n C0 rfl dX12_whole_5 ?_
      refine x_bipush (v := nI 20) C0 rfl dX12_whole_6 ?_
      refine x_callV [_] C0 hN rfl (xRf_of hR (by omega) (Nat.zero_le _) (Nat.zero_le _)) mv_X12_isWord wm_X12_174 dX12_whole_8 (isModel.k0 hM) rfl rfl (Nat.le_of_ble_eq_true rfl) (c_X12_isWord hM T1 A1 (by decide) (fun ga => ?_) (fun ga => ?_))
      · refine x_if_ne (tgt := 23) C0 (by decide) dX12_whole_11 (fun _ => ?_) (fun hkk => absurd hkk (by decide))
        refine x_aload_n C0 rfl dX12_whole_23 ?_
        refine x_bipush (v := nI 20) C0 rfl dX12_whole_24 ?_
        refine x_callV [_] C0 hN rfl (xRf_of hR (by omega) (Nat.zero_le _) (Nat.zero_le _)) mv_X12_isWord wm_X12_174 dX12_whole_26 (isModel.k0 hM) rfl rfl (Nat.le_of_ble_eq_true rfl) (c_X12_isWord hM T1 A1 (by decide) (fun gc => ?_) (fun gc => ?_))
        · exact hgo1 ga
        · exact absurd ga gc
      · refine x_if_ne (tgt := 23) C0 (by decide) dX12_whole_11 (fun hkk => absurd (by decide) hkk) (fun _ => ?_)
        refine x_aload_n C0 rfl dX12_whole_14 ?_
        refine x_bipush (v := nI 21) C0 rfl dX12_whole_15 ?_
        refine x_callV [_] C0 hN rfl (xRf_of hR (by omega) (Nat.zero_le _) (Nat.zero_le _)) mv_X12_isWord wm_X12_174 dX12_whole_17 (isModel.k0 hM) rfl rfl (Nat.le_of_ble_eq_true rfl) (c_X12_isWord hM T1 A1 (by decide) (fun gb => ?_) (fun gb => ?_))
        · refine x_if_eq (tgt := 64) C0 (by decide) dX12_whole_20 (fun hkk => absurd hkk (by decide)) (fun _ => ?_)
          refine x_aload_n C0 rfl dX12_whole_23 ?_
          refine x_bipush (v := nI 20) C0 rfl dX12_whole_24 ?_
          refine x_callV [_] C0 hN rfl (xRf_of hR (by omega) (Nat.zero_le _) (Nat.zero_le _)) mv_X12_isWord wm_X12_174 dX12_whole_26 (isModel.k0 hM) rfl rfl (Nat.le_of_ble_eq_true rfl) (c_X12_isWord hM T1 A1 (by decide) (fun gc => ?_) (fun gc => ?_))
          · exact absurd gc ga
          · exact hgo0 ga gb
        · refine x_if_eq (tgt := 64) C0 (by decide) dX12_whole_20 (fun _ => ?_) (fun hkk => absurd (by decide) hkk)
          refine x_vret C0 E (by decide) (by decide) dX12_whole_64 ?_
          rw [if_neg (fun z => z.elim ga gb)] at el
          exact hp I1 f1 (by rw [← el]; exact A1) (by rw [← el]; exact Q1)
  refine x_aload_n C0 rfl dX12_whole_0 ?_
  refine x_iload_n C0 rfl dX12_whole_1 ?_
  refine x_callV [_] C0 hN rfl (xRf_of hR (by omega) (Nat.zero_le _) (Nat.zero_le _)) mv_X12_test wm_X12_264 dX12_whole_2 (isModel.k0 hM) rfl rfl (Nat.le_of_ble_eq_true rfl) (hP I J _ e T A h0 Q0 (fun I1 f1 A1 Q1 => ?_))
  exact h5 1000 I1 _ _ f1 A1 (Q1.up (by omega)) (fun _ => by omega) rfl
