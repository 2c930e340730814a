/-! THE LAW OF DOUBT IS READ: the class -/
def cE (c : Nat × Nat) : Int32 := if c.1 = 1 then nI c.2 else if c.1 = 2 then (if c.2 = 0 then -1 else if c.2 = 1 then -2 else if c.2 = 2 then -3 else -4) else if c.1 = 3 then -5 else if c.1 = 4 then -7 else if c.1 = 5 then -8 else if c.1 = 6 then -6 else if c.1 = 7 then -9 else if c.1 = 8 then -10 else if c.1 = 9 then -11 else -12
def CLw (I : xTI) (c : List (Nat × Nat)) : Prop := I 4 1 = nI c.length ∧ ∀ i (h : i < c.length), I 5 i = cE c[i]
def EAt (R : xTR) (I : xTI) (J : xTJ) (tp : Nat → Nat) (n : Nat) (e : pE) : Prop := TAt R I J tp n e.1 ∧ (∃ z, z ≤ 1000 ∧ I 4 1 = nI z) ∧ (e.1.2 = 0 → e.2.length < e.1.1 ∧ e.1.1 ≤ n ∧ CLw I e.2)
def FrE (R : xTR) (I : xTI) (J : xTJ) (R' : xTR) (I' : xTI) (J' : xTJ) : Prop := (∀ a, a ≠ 1 → a ≠ 4 → a ≠ 5 → I' a = I a) ∧ I' 1 1 = I 1 1 ∧ (∀ a, a ≠ 1 → J' a = J a) ∧ (∀ a k, a ≠ 1 ∨ k ≠ 7 → R' a k = R a k)
theorem FrE.tfr {R R' : xTR} {I I' : xTI} {J J' : xTJ} (f : TFr R I J R' I' J') : FrE R I J R' I' J' := ⟨fun a h _ _ => f.1 a h, f.2.1, f.2.2.1, f.2.2.2⟩
theorem FrE.rf {R : xTR} {I : xTI} {J : xTJ} : FrE R I J R I J := FrE.tfr TFr.rf
theorem FrE.trans {R R1 R2 : xTR} {I I1 I2 : xTI} {J J1 J2 : xTJ} (a : FrE R I J R1 I1 J1) (b : FrE R1 I1 J1 R2 I2 J2) : FrE R I J R2 I2 J2 := ⟨fun q h1 h2 h3 => (b.1 q h1 h2 h3).trans (a.1 q h1 h2 h3), b.2.1.trans a.2.1, fun q h1 => (b.2.2.1 q h1).trans (a.2.2.1 q h1), fun q k h => (b.2.2.2 q k h).trans (a.2.2.2 q k h)⟩
theorem fixd.fre {S : xTS} {R R' : xTR} {I I' : xTI} {J J' : xTJ} (h : fixd S R) (f : FrE R I J R' I' J') : fixd S R' := ⟨h.1, fun q hq => (f.2.2.2 _ _ (rtab_17 q hq)).trans (h.2 q hq)⟩
theorem CTp.fre {R R' : xTR} {I I' : xTI} {J J' : xTJ} {tp : Nat → Nat} {n : Nat} (h : CTp I tp n) (f : FrE R I J R' I' J') : CTp I' tp n := ⟨f.2.1.trans h.1, h.2.1, fun i hi => by rw [f.1 2 (by decide) (by decide) (by decide)]; exact h.2.2 i hi⟩
theorem EAt.ref {R R' : xTR} {I I' : xTI} {J J' : xTJ} {tp : Nat → Nat} {n : Nat} {e : pE} {s : pS} (h : EAt R I J tp n e) (f : TFr R I J R' I' J') (A : TAt R' I' J' tp n s) (hs : ¬ s.2 = 0 ∨ s = e.1) : EAt R' I' J' tp n (s, e.2) := by
  obtain ⟨h1, ⟨z, hz, ez⟩, h3⟩ := h
  have f4 := f.1 4 (by decide)
  have f5 := f.1 5 (by decide)
  refine ⟨A, ⟨z, hz, by rw [f4]; exact ez⟩, fun y => ?_⟩
  rcases hs with hs | hs
  · exact absurd y hs
  · subst hs
    obtain ⟨a, b, c⟩ := h3 y
    refine ⟨a, b, ?_⟩
    unfold CLw
    rw [f4, f5]
    exact c
theorem EAt.next {R R' : xTR} {I I' : xTI} {J J' : xTJ} {tp : Nat → Nat} {n : Nat} {e : pE} (h : EAt R I J tp n e) (f : TFr R I J R' I' J') (A : TAt R' I' J' tp n (pNext e.1)) (hk : e.1.2 = 0 → (tTok tp n e.1.1).1 ≠ 0) : EAt R' I' J' tp n (eS pNext e) := by
  obtain ⟨h1, ⟨z, hz, ez⟩, h3⟩ := h
  have f4 := f.1 4 (by decide)
  have f5 := f.1 5 (by decide)
  refine ⟨A, ⟨z, hz, by rw [f4]; exact ez⟩, fun y => ?_⟩
  have z0 := pz (f := pNext) (fun y => pNext_f y) y
  obtain ⟨a, b, c⟩ := h3 z0
  have hlt : e.1.1 < n := Nat.lt_of_not_le (fun q => hk z0 (tTok_end q))
  show e.2.length < (pNext e.1).1 ∧ (pNext e.1).1 ≤ n ∧ CLw I' e.2
  rw [pNext_0 z0]
  refine ⟨Nat.lt_succ_of_lt a, hlt, ?_⟩
  unfold CLw
  rw [f4, f5]
  exact c
def CPt (S : xTS) (tp : Nat → Nat) (n : Nat) (y : MethodName) (bytes : ByteArray) (maxL w d : Nat) (P : pE → pE) : Prop := ∀ (R : xTR) (I : xTI) (J : xTJ) (post : xPost) (e : pE), fixd S R → CTp I tp n → EAt R I J tp n e → (∀ R' I' J', FrE R I J R' I' J' → EAt R' I' J' tp n (P e) → post none S R' I' J') → xSpec d y bytes maxL none 0 0 [.ref 4, .ref 1, .int (nI w)] S R I J post
theorem c_X4_emit {S : xTS} {R : xTR} {I : xTI} {J : xTJ} {post : xPost} (hS : fixd S R) {tp : Nat → Nat} {n : Nat} (T : CTp I tp n) {e : pE} (E0 : EAt R I J tp n e) {c : Nat × Nat} {v : Int32} (hv : v = cE c) (hl : e.1.2 = 0 → e.2.length + 1 < e.1.1) (hp : ∀ I', FrE R I J R I' J → EAt R I' J tp n (eEm c e) → post none S R I' J) : xSpec 2 yX4_emit cX4_emit 2 none 0 0 [.ref 4, .int v] S R I J post := by
  refine xSpec_of mt_X4_emit (Nat.le_of_ble_eq_true rfl) (fun G C0 hN hR E hI hZ => ?_)
  change XX G 0 0 0 [some (.ref 4), some (.int v)] [] S R I J
  have s1 := hS.sTape
  have s4 := hS.sLaw
  have s5 := hS.sCode
  have r4 := hS.rCode
  obtain ⟨A, ⟨z, hz, ez⟩, h3⟩ := id E0
  have t2 := T.2.1
  refine x_aload_n C0 rfl dX4_emit_0 ?_
  refine x_getI C0 wf_X4_18 (by assumption) rfl dX4_emit_1 ?_
  refine x_topi ez ?_
  refine x_aload_n C0 rfl dX4_emit_4 ?_
  refine x_getR C0 wf_X4_9 (by assumption) rfl rfl (by assumption) dX4_emit_5 ?_
  refine x_alen C0 (by assumption) (by decide) (by decide) rfl dX4_emit_8 ?_
  refine x_icmp_ge (tgt := 34) C0 (by decide) dX4_emit_9 (fun g9 => ?_) (fun g9 => ?_)
  · refine x_vret C0 E (by decide) (by decide) dX4_emit_34 ?_
    refine hp I FrE.rf ⟨A, ⟨z, hz, ez⟩, fun y => ?_⟩
    exfalso
    obtain ⟨a, b, c1, c2⟩ := h3 y
    have h9 := (nI_le_iff (a := 1000) (b := z) (by omega) (by omega)).mp g9
    have : z = e.2.length := (nI_eq (by omega) (by omega)).mp (ez.symm.trans c1)
    have := hl y
    have h4 : (eEm c e).1.1 = e.1.1 := rfl
    omega
  · refine x_aload_n C0 rfl dX4_emit_12 ?_
    refine x_getR C0 wf_X4_9 (by assumption) rfl rfl (by assumption) dX4_emit_13 ?_
    refine x_aload_n C0 rfl dX4_emit_16 ?_
    refine x_getI C0 wf_X4_18 (by assumption) rfl dX4_emit_17 ?_
    refine x_topi ez ?_
    have hz9 : z < 1000 := Nat.lt_of_not_le (fun y => g9 ((nI_le_iff (by omega) (by omega)).mpr y))
    refine x_iload_n C0 rfl dX4_emit_20 ?_
    refine x_callS [_, _, _] C0 (xRf_of hR (by decide) (Nat.zero_le _) (Nat.zero_le _)) ms_X8_set wm_X4_22 dX4_emit_21 rfl rfl (Nat.le_of_ble_eq_true rfl) (c_X8_set s5 (by omega) (by decide) ?_)
    refine x_aload_n C0 rfl dX4_emit_24 ?_
    refine x_dup C0 rfl dX4_emit_25 ?_
    refine x_getI C0 wf_X4_18 (by assumption) rfl dX4_emit_26 ?_
    refine x_topi (show u2 I 5 z v 4 1 = nI z by rw [u2_row _ _ _ (by decide)]; exact ez) ?_
    refine x_iconst (v := nI 1) C0 rfl dX4_emit_29 ?_
    refine x_iadd C0 dX4_emit_30 ?_
    refine x_topi (nI_add z 1) ?_
    refine x_putI C0 wf_X4_18 (by assumption) rfl dX4_emit_31 ?_
    refine x_vret C0 E (by decide) (by decide) dX4_emit_34 ?_
    refine hp _ ⟨fun a h1 h4 h5 => ?_, ?_, fun _ _ => rfl, fun _ _ _ => rfl⟩ ⟨A.congr ?_ rfl rfl, ⟨z + 1, by omega, u2_same _ _ _ _⟩, fun y => ?_⟩
    · rw [u2_row _ _ _ h4, u2_row _ _ _ h5]
    · rw [u2_row _ _ _ (by decide), u2_row _ _ _ (by decide)]
    · rw [u2_row _ _ _ (by decide), u2_row _ _ _ (by decide)]
    · obtain ⟨a, b, c1, c2⟩ := h3 y
      have hze : z = e.2.length := (nI_eq (by omega) (by omega)).mp (ez.symm.trans c1)
      have h4 := hl y
      have e8 : (eEm c e).2 = e.2 ++ [c] := rfl
      have e9 : (eEm c e).2.length = e.2.length + 1 := by rw [e8, List.length_append, List.length_singleton]
      refine ⟨by rw [e9]; exact h4, b, ⟨by rw [u2_same, e9, hze], fun i hi => ?_⟩⟩
      rw [u2_row _ _ _ (by decide)]
      by_cases q : i = z
      · have q2 : (eEm c e).2[i] = c := by
          simp only [e8]
          rw [List.getElem_append_right (by omega)]
          simp [q, hze]
        have q4 : u2 I 5 z v 5 i = v := by rw [q]; exact u2_same _ _ _ _
        rw [q4, hv]
        exact (congrArg cE q2).symm
      · have q3 : i < e.2.length := by omega
        have q2 : (eEm c e).2[i] = e.2[i] := by
          simp only [e8]
          exact List.getElem_append_left q3
        rw [u2_off _ _ q, q2]
        exact c2 i q3
theorem p_X4_readProduct {S : xTS} {tp : Nat → Nat} {n w d : Nat} {P : pE → pE} (hx : Fx P) (hg : Gr P) (hd : 7 ≤ d) (hP : CPt S tp n yX4_readPart cX4_readPart 7 w d P) : CPt S tp n yX4_readProduct cX4_readProduct 4 w (d + 1) (pProd (tTok tp n) P) := by
  intro R I J post e hS T E0 hp
  refine xSpec_of mt_X4_readProduct (Nat.le_of_ble_eq_true rfl) (fun G C0 hN hR E hI hZ => ?_)
  change XX G 0 0 0 [some (.ref 4), some (.ref 1), some (.int (nI w)), none] [] S R I J
  have s1 := hS.sTape
  have s4 := hS.sLaw
  have s5 := hS.sCode
  have r4 := hS.rCode
  have h8 : ∀ j k R1 I1 J1 e1, k + j = 1000 → FrE R I J R1 I1 J1 → EAt R1 I1 J1 tp n e1 → lp (fun e => pIsC (tTok tp n) 42 e.1) (fun e => eEm (6, 0) (P (eS pNext e))) j e1 = pProd (tTok tp n) P e → XX G 0 0 8 [some (.ref 4), some (.ref 1), some (.int (nI w)), some (.int (nI k))] [] S R1 I1 J1 := by
    intro j
    induction j with
    | zero =>
      intro k R1 I1 J1 e1 hk f1 E1 el
      have hk8 : k = 1000 := by omega
      subst hk8
      refine x_iload_n C0 rfl dX4_readProduct_8 ?_
      refine x_sipush (v := nI 1000) C0 rfl dX4_readProduct_9 ?_
      refine x_icmp_ge (tgt := 46) C0 (by decide) dX4_readProduct_12 (fun _ => ?_) (fun hkk => absurd ((Int32.le_refl _)) hkk)
      refine x_vret C0 E (by decide) (by decide) dX4_readProduct_46 ?_
      exact hp R1 I1 J1 f1 (by rw [← el]; exact E1)
    | succ j ih =>
      intro k R1 I1 J1 e1 hk f1 E1 el
      rw [lp_up] at el
      have hS1 := hS.fre f1
      have T1 := T.fre f1
      have s1' := hS1.sTape
      refine x_iload_n C0 rfl dX4_readProduct_8 ?_
      refine x_sipush (v := nI 1000) C0 rfl dX4_readProduct_9 ?_
      refine x_icmp_ge (tgt := 46) C0 (by decide) dX4_readProduct_12 (fun hkk => absurd hkk ((nI_ge (b := 1000) (by omega) (by omega)))) (fun _ => ?_)
      refine x_aload_n C0 rfl dX4_readProduct_15 ?_
      refine x_bipush (v := nI 42) C0 rfl dX4_readProduct_16 ?_
      refine x_callV [_] C0 hN rfl (xRf_of hR (by omega) (Nat.zero_le _) (Nat.zero_le _)) mv_X9_isSign wm_X4_57 dX4_readProduct_18 (by assumption) rfl rfl (Nat.le_of_ble_eq_true rfl) (c_X9_isSign hS1 T1 E1.1 (by decide) (fun g18 => ?_) (fun g18 => ?_))
      · refine x_if_eq (tgt := 46) C0 (by decide) dX4_readProduct_21 (fun hkk => absurd hkk (by decide)) (fun _ => ?_)
        refine x_aload_n C0 rfl dX4_readProduct_24 ?_
        refine x_callV [] C0 hN rfl (xRf_of hR (by omega) (Nat.zero_le _) (Nat.zero_le _)) mv_X9_step wm_X4_47 dX4_readProduct_25 (by assumption) rfl rfl (Nat.le_of_ble_eq_true rfl) (c_stepA hS1 T1 E1.1 (fun R2 I2 J2 f2 A2 => ?_))
        have z0 : e1.1.2 = 0 := g18.1
        have E2 := E1.next f2 A2 (fun _ => by rw [g18.2.1]; decide)
        have s1'' := (hS1.tfr f2).sTape
        refine x_aload_n C0 rfl dX4_readProduct_28 ?_
        refine x_aload_n C0 rfl dX4_readProduct_29 ?_
        refine x_iload_n C0 rfl dX4_readProduct_30 ?_
        refine x_callV [_, _] C0 hN rfl (xRf_of hR (by omega) (Nat.zero_le _) (Nat.zero_le _)) mv_X4_readPart wm_X4_64 dX4_readProduct_31 (by assumption) rfl rfl (Nat.le_of_ble_eq_true rfl) (hP _ _ _ _ _ (hS1.tfr f2) (T1.tfr f2) E2 (fun R3 I3 J3 f3 E3 => ?_))
        refine x_aload_n C0 rfl dX4_readProduct_34 ?_
        refine x_bipush (v := -6) C0 rfl dX4_readProduct_35 ?_
        refine x_callV [_] C0 hN rfl (xRf_of hR (by omega) (Nat.zero_le _) (Nat.zero_le _)) mv_X4_emit wm_X4_50 dX4_readProduct_37 (by assumption) rfl rfl (Nat.le_of_ble_eq_true rfl) (c_X4_emit ((hS1.tfr f2).fre f3) ((T1.tfr f2).fre f3) E3 (show (-6 : Int32) = cE (6, 0) from rfl) (fun y => ?_) (fun I4 f4 E4 => ?_))
        · have g9 := hg (eS pNext e1) (by rw [eNext z0]) y
          obtain ⟨a9, -, -⟩ := E1.2.2 z0
          have e8 : (eS pNext e1).1.1 = e1.1.1 + 1 := by rw [eNext z0]
          have e7 : (eS pNext e1).2.length = e1.2.length := rfl
          omega
        refine x_iinc (v := nI (k + 1)) (L' := [_, _, _, _]) C0 hN rfl (by decide) (nI_inc k) rfl dX4_readProduct_40 ?_
        refine x_goto (tgt := 8) C0 (by decide) dX4_readProduct_43 ?_
        rw [if_pos (g18)] at el
        exact ih (k + 1) R3 I4 J3 _ (by omega) ((f1.trans (FrE.tfr f2)).trans (f3.trans f4)) E4 el
      · refine x_if_eq (tgt := 46) C0 (by decide) dX4_readProduct_21 (fun _ => ?_) (fun hkk => absurd (by decide) hkk)
        refine x_vret C0 E (by decide) (by decide) dX4_readProduct_46 ?_
        rw [if_neg g18] at el
        exact hp R1 I1 J1 f1 (by rw [← el]; exact E1)
  refine x_aload_n C0 rfl dX4_readProduct_0 ?_
  refine x_aload_n C0 rfl dX4_readProduct_1 ?_
  refine x_iload_n C0 rfl dX4_readProduct_2 ?_
  refine x_callV [_, _] C0 hN rfl (xRf_of hR (by omega) (Nat.zero_le _) (Nat.zero_le _)) mv_X4_readPart wm_X4_64 dX4_readProduct_3 (by assumption) rfl rfl (Nat.le_of_ble_eq_true rfl) (hP _ _ _ _ _ hS T E0 (fun R2 I2 J2 f2 E2 => ?_))
  refine x_iconst (v := nI 0) C0 rfl dX4_readProduct_6 ?_
  refine x_istore_n (L' := [_, _, _, _]) C0 hN (by decide) rfl dX4_readProduct_7 ?_
  exact h8 1000 0 R2 I2 J2 _ (by decide) f2 E2 rfl
theorem p_X4_readSum {S : xTS} {tp : Nat → Nat} {n w d : Nat} {P : pE → pE} (hx : Fx P) (hg : Gr P) (hd : 7 ≤ d) (hP : CPt S tp n yX4_readProduct cX4_readProduct 4 w d (pProd (tTok tp n) P)) : CPt S tp n yX4_readSum cX4_readSum 5 w (d + 1) (pSum (tTok tp n) P) := by
  intro R I J post e hS T E0 hp
  refine xSpec_of mt_X4_readSum (Nat.le_of_ble_eq_true rfl) (fun G C0 hN hR E hI hZ => ?_)
  change XX G 0 0 0 [some (.ref 4), some (.ref 1), some (.int (nI w)), none, none] [] S R I J
  have s1 := hS.sTape
  have s4 := hS.sLaw
  have s5 := hS.sCode
  have r4 := hS.rCode
  have h8 : ∀ j k R1 I1 J1 e1 v4, k + j = 1000 → FrE R I J R1 I1 J1 → EAt R1 I1 J1 tp n e1 → lp (fun e => pIsC (tTok tp n) 43 e.1 ∨ pIsC (tTok tp n) 45 e.1) (fun e => eEm (if pIsC (tTok tp n) 43 e.1 then (4, 0) else (5, 0)) ((pProd (tTok tp n) P) (eS pNext e))) j e1 = pSum (tTok tp n) P e → XX G 0 0 8 [some (.ref 4), some (.ref 1), some (.int (nI w)), some (.int (nI k)), v4] [] S R1 I1 J1 := by
    intro j
    induction j with
    | zero =>
      intro k R1 I1 J1 e1 v4 hk f1 E1 el
      have hk8 : k = 1000 := by omega
      subst hk8
      refine x_iload_n C0 rfl dX4_readSum_8 ?_
      refine x_sipush (v := nI 1000) C0 rfl dX4_readSum_9 ?_
      refine x_icmp_ge (tgt := 73) C0 (by decide) dX4_readSum_12 (fun _ => ?_) (fun hkk => absurd ((Int32.le_refl _)) hkk)
      refine x_vret C0 E (by decide) (by decide) dX4_readSum_73 ?_
      exact hp R1 I1 J1 f1 (by rw [← el]; exact E1)
    | succ j ih =>
      intro k R1 I1 J1 e1 v4 hk f1 E1 el
      rw [lp_up] at el
      have hS1 := hS.fre f1
      have T1 := T.fre f1
      have s1' := hS1.sTape
      have hgo : (pIsC (tTok tp n) 43 e1.1 ∨ pIsC (tTok tp n) 45 e1.1) → ∀ v9, v9 = cE (if pIsC (tTok tp n) 43 e1.1 then (4, 0) else (5, 0)) → XX G 0 0 49 [some (.ref 4), some (.ref 1), some (.int (nI w)), some (.int (nI k)), v4] [.int v9] S R1 I1 J1 := by
        intro cnd v9 ev
        refine x_istore (L' := [_, _, _, _, _]) C0 hN (by decide) rfl dX4_readSum_49 ?_
        refine x_aload_n C0 rfl dX4_readSum_51 ?_
        refine x_callV [] C0 hN rfl (xRf_of hR (by omega) (Nat.zero_le _) (Nat.zero_le _)) mv_X9_step wm_X4_47 dX4_readSum_52 (by assumption) rfl rfl (Nat.le_of_ble_eq_true rfl) (c_stepA hS1 T1 E1.1 (fun R2 I2 J2 f2 A2 => ?_))
        have z0 : e1.1.2 = 0 := or0 cnd
        have E2 := E1.next f2 A2 (fun _ => cnd.elim (fun q => by rw [q.2.1]; decide) (fun q => by rw [q.2.1]; decide))
        have s1'' := (hS1.tfr f2).sTape
        refine x_aload_n C0 rfl dX4_readSum_55 ?_
        refine x_aload_n C0 rfl dX4_readSum_56 ?_
        refine x_iload_n C0 rfl dX4_readSum_57 ?_
        refine x_callV [_, _] C0 hN rfl (xRf_of hR (by omega) (Nat.zero_le _) (Nat.zero_le _)) mv_X4_readProduct wm_X4_61 dX4_readSum_58 (by assumption) rfl rfl (Nat.le_of_ble_eq_true rfl) (hP _ _ _ _ _ (hS1.tfr f2) (T1.tfr f2) E2 (fun R3 I3 J3 f3 E3 => ?_))
        refine x_aload_n C0 rfl dX4_readSum_61 ?_
        refine x_iload C0 rfl dX4_readSum_62 ?_
        refine x_callV [_] C0 hN rfl (xRf_of hR (by omega) (Nat.zero_le _) (Nat.zero_le _)) mv_X4_emit wm_X4_50 dX4_readSum_64 (by assumption) rfl rfl (Nat.le_of_ble_eq_true rfl) (c_X4_emit ((hS1.tfr f2).fre f3) ((T1.tfr f2).fre f3) E3 ev (fun y => ?_) (fun I4 f4 E4 => ?_))
        · have g9 := (pProd_gr hg) (eS pNext e1) (by rw [eNext z0]) y
          obtain ⟨a9, -, -⟩ := E1.2.2 z0
          have e8 : (eS pNext e1).1.1 = e1.1.1 + 1 := by rw [eNext z0]
          have e7 : (eS pNext e1).2.length = e1.2.length := rfl
          omega
        refine x_iinc (v := nI (k + 1)) (L' := [_, _, _, _, _]) C0 hN rfl (by decide) (nI_inc k) rfl dX4_readSum_67 ?_
        refine x_goto (tgt := 8) C0 (by decide) dX4_readSum_70 ?_
        rw [if_pos (cnd)] at el
        exact ih (k + 1) R3 I4 J3 _ _ (by omega) ((f1.trans (FrE.tfr f2)).trans (f3.trans f4)) E4 el
      refine x_iload_n C0 rfl dX4_readSum_8 ?_
      refine x_sipush (v := nI 1000) C0 rfl dX4_readSum_9 ?_
      refine x_icmp_ge (tgt := 73) C0 (by decide) dX4_readSum_12 (fun hkk => absurd hkk ((nI_ge (b := 1000) (by omega) (by omega)))) (fun _ => ?_)
      refine x_aload_n C0 rfl dX4_readSum_15 ?_
      refine x_bipush (v := nI 43) C0 rfl dX4_readSum_16 ?_
      refine x_callV [_] C0 hN rfl (xRf_of hR (by omega) (Nat.zero_le _) (Nat.zero_le _)) mv_X9_isSign wm_X4_57 dX4_readSum_18 (by assumption) rfl rfl (Nat.le_of_ble_eq_true rfl) (c_X9_isSign hS1 T1 E1.1 (by decide) (fun ga => ?_) (fun ga => ?_))
      · refine x_if_ne (tgt := 33) C0 (by decide) dX4_readSum_21 (fun _ => ?_) (fun hkk => absurd hkk (by decide))
        refine x_aload_n C0 rfl dX4_readSum_33 ?_
        refine x_bipush (v := nI 43) C0 rfl dX4_readSum_34 ?_
        refine x_callV [_] C0 hN rfl (xRf_of hR (by omega) (Nat.zero_le _) (Nat.zero_le _)) mv_X9_isSign wm_X4_57 dX4_readSum_36 (by assumption) rfl rfl (Nat.le_of_ble_eq_true rfl) (c_X9_isSign hS1 T1 E1.1 (by decide) (fun gc => ?_) (fun gc => ?_))
        · refine x_if_eq (tgt := 47) C0 (by decide) dX4_readSum_39 (fun hkk => absurd hkk (by decide)) (fun _ => ?_)
          refine x_bipush (v := -7) C0 rfl dX4_readSum_42 ?_
          refine x_goto (tgt := 49) C0 (by decide) dX4_readSum_44 ?_
          exact hgo (Or.inl ga) _ (by rw [if_pos gc]; rfl)
        · refine x_if_eq (tgt := 47) C0 (by decide) dX4_readSum_39 (fun _ => ?_) (fun hkk => absurd (by decide) hkk)
          refine x_bipush (v := -8) C0 rfl dX4_readSum_47 ?_
          exact hgo (Or.inl ga) _ (by rw [if_neg gc]; rfl)
      · refine x_if_ne (tgt := 33) C0 (by decide) dX4_readSum_21 (fun hkk => absurd (by decide) hkk) (fun _ => ?_)
        refine x_aload_n C0 rfl dX4_readSum_24 ?_
        refine x_bipush (v := nI 45) C0 rfl dX4_readSum_25 ?_
        refine x_callV [_] C0 hN rfl (xRf_of hR (by omega) (Nat.zero_le _) (Nat.zero_le _)) mv_X9_isSign wm_X4_57 dX4_readSum_27 (by assumption) rfl rfl (Nat.le_of_ble_eq_true rfl) (c_X9_isSign hS1 T1 E1.1 (by decide) (fun gb => ?_) (fun gb => ?_))
        · refine x_if_eq (tgt := 73) C0 (by decide) dX4_readSum_30 (fun hkk => absurd hkk (by decide)) (fun _ => ?_)
          refine x_aload_n C0 rfl dX4_readSum_33 ?_
          refine x_bipush (v := nI 43) C0 rfl dX4_readSum_34 ?_
          refine x_callV [_] C0 hN rfl (xRf_of hR (by omega) (Nat.zero_le _) (Nat.zero_le _)) mv_X9_isSign wm_X4_57 dX4_readSum_36 (by assumption) rfl rfl (Nat.le_of_ble_eq_true rfl) (c_X9_isSign hS1 T1 E1.1 (by decide) (fun gc => ?_) (fun gc => ?_))
          · refine x_if_eq (tgt := 47) C0 (by decide) dX4_readSum_39 (fun hkk => absurd hkk (by decide)) (fun _ => ?_)
            refine x_bipush (v := -7) C0 rfl dX4_readSum_42 ?_
            refine x_goto (tgt := 49) C0 (by decide) dX4_readSum_44 ?_
            exact hgo (Or.inr gb) _ (by rw [if_pos gc]; rfl)
          · refine x_if_eq (tgt := 47) C0 (by decide) dX4_readSum_39 (fun _ => ?_) (fun hkk => absurd (by decide) hkk)
            refine x_bipush (v := -8) C0 rfl dX4_readSum_47 ?_
            exact hgo (Or.inr gb) _ (by rw [if_neg gc]; rfl)
        · refine x_if_eq (tgt := 73) C0 (by decide) dX4_readSum_30 (fun _ => ?_) (fun hkk => absurd (by decide) hkk)
          refine x_vret C0 E (by decide) (by decide) dX4_readSum_73 ?_
          rw [if_neg (fun z => z.elim ga gb)] at el
          exact hp R1 I1 J1 f1 (by rw [← el]; exact E1)
  refine x_aload_n C0 rfl dX4_readSum_0 ?_
  refine x_aload_n C0 rfl dX4_readSum_1 ?_
  refine x_iload_n C0 rfl dX4_readSum_2 ?_
  refine x_callV [_, _] C0 hN rfl (xRf_of hR (by omega) (Nat.zero_le _) (Nat.zero_le _)) mv_X4_readProduct wm_X4_61 dX4_readSum_3 (by assumption) rfl rfl (Nat.le_of_ble_eq_true rfl) (hP _ _ _ _ _ hS T E0 (fun R2 I2 J2 f2 E2 => ?_))
  refine x_iconst (v := nI 0) C0 rfl dX4_readSum_6 ?_
  refine x_istore_n (L' := [_, _, _, _, _]) C0 hN (by decide) rfl dX4_readSum_7 ?_
  exact h8 1000 0 R2 I2 J2 _ _ (by decide) f2 E2 rfl
theorem p_X4_readTest {S : xTS} {tp : Nat → Nat} {n w d : Nat} {P : pE → pE} (hx : Fx P) (hg : Gr P) (hd : 7 ≤ d) (hP : CPt S tp n yX4_readSum cX4_readSum 5 w d (pSum (tTok tp n) P)) : CPt S tp n yX4_readTest cX4_readTest 4 w (d + 1) (pTst (tTok tp n) P) := by
  intro R I J post e hS T E0 hp
  refine xSpec_of mt_X4_readTest (Nat.le_of_ble_eq_true rfl) (fun G C0 hN hR E hI hZ => ?_)
  change XX G 0 0 0 [some (.ref 4), some (.ref 1), some (.int (nI w)), none] [] S R I J
  have s1 := hS.sTape
  have s4 := hS.sLaw
  have s5 := hS.sCode
  have r4 := hS.rCode
  have h6 : ∀ R1 I1 J1, FrE R I J R1 I1 J1 → EAt R1 I1 J1 tp n (pSum (tTok tp n) P e) → XX G 0 0 6 [some (.ref 4), some (.ref 1), some (.int (nI w)), none] [] S R1 I1 J1 := by
    intro R1 I1 J1 f1 E1
    have el : pTst (tTok tp n) P e = if pIsC (tTok tp n) 60 (pSum (tTok tp n) P e).1 ∨ pIsC (tTok tp n) 61 (pSum (tTok tp n) P e).1 then eEm (if pIsC (tTok tp n) 60 (pSum (tTok tp n) P e).1 then (7, 0) else (8, 0)) (pSum (tTok tp n) P (eS pNext (pSum (tTok tp n) P e))) else pSum (tTok tp n) P e := rfl
    generalize pSum (tTok tp n) P e = e1 at E1 el
    have hS1 := hS.fre f1
    have T1 := T.fre f1
    have s1' := hS1.sTape
    have hgo : (pIsC (tTok tp n) 60 e1.1 ∨ pIsC (tTok tp n) 61 e1.1) → ∀ v9, v9 = cE (if pIsC (tTok tp n) 60 e1.1 then (7, 0) else (8, 0)) → XX G 0 0 40 [some (.ref 4), some (.ref 1), some (.int (nI w)), none] [.int v9] S R1 I1 J1 := by
      intro cnd v9 ev
      refine x_istore_n (L' := [_, _, _, _]) C0 hN (by decide) rfl dX4_readTest_40 ?_
      refine x_aload_n C0 rfl dX4_readTest_41 ?_
      refine x_callV [] C0 hN rfl (xRf_of hR (by omega) (Nat.zero_le _) (Nat.zero_le _)) mv_X9_step wm_X4_47 dX4_readTest_42 (by assumption) rfl rfl (Nat.le_of_ble_eq_true rfl) (c_stepA hS1 T1 E1.1 (fun R2 I2 J2 f2 A2 => ?_))
      have z0 : e1.1.2 = 0 := or0 cnd
      have E2 := E1.next f2 A2 (fun _ => cnd.elim (fun q => by rw [q.2.1]; decide) (fun q => by rw [q.2.1]; decide))
      have s1'' := (hS1.tfr f2).sTape
      refine x_aload_n C0 rfl dX4_readTest_45 ?_
      refine x_aload_n C0 rfl dX4_readTest_46 ?_
      refine x_iload_n C0 rfl dX4_readTest_47 ?_
      refine x_callV [_, _] C0 hN rfl (xRf_of hR (by omega) (Nat.zero_le _) (Nat.zero_le _)) mv_X4_readSum wm_X4_54 dX4_readTest_48 (by assumption) rfl rfl (Nat.le_of_ble_eq_true rfl) (hP _ _ _ _ _ (hS1.tfr f2) (T1.tfr f2) E2 (fun R3 I3 J3 f3 E3 => ?_))
      refine x_aload_n C0 rfl dX4_readTest_51 ?_
      refine x_iload_n C0 rfl dX4_readTest_52 ?_
      refine x_callV [_] C0 hN rfl (xRf_of hR (by omega) (Nat.zero_le _) (Nat.zero_le _)) mv_X4_emit wm_X4_50 dX4_readTest_53 (by assumption) rfl rfl (Nat.le_of_ble_eq_true rfl) (c_X4_emit ((hS1.tfr f2).fre f3) ((T1.tfr f2).fre f3) E3 ev (fun y => ?_) (fun I4 f4 E4 => ?_))
      · have g9 := (pSum_gr hg) (eS pNext e1) (by rw [eNext z0]) y
        obtain ⟨a9, -, -⟩ := E1.2.2 z0
        have e8 : (eS pNext e1).1.1 = e1.1.1 + 1 := by rw [eNext z0]
        have e7 : (eS pNext e1).2.length = e1.2.length := rfl
        omega
      refine x_vret C0 E (by decide) (by decide) dX4_readTest_56 ?_
      rw [if_pos cnd] at el
      exact hp R3 I4 J3 ((f1.trans (FrE.tfr f2)).trans (f3.trans f4)) (by rw [el]; exact E4)
    refine x_aload_n C0 rfl dX4_readTest_6 ?_
    refine x_bipush (v := nI 60) C0 rfl dX4_readTest_7 ?_
    refine x_callV [_] C0 hN rfl (xRf_of hR (by omega) (Nat.zero_le _) (Nat.zero_le _)) mv_X9_isSign wm_X4_57 dX4_readTest_9 (by assumption) rfl rfl (Nat.le_of_ble_eq_true rfl) (c_X9_isSign hS1 T1 E1.1 (by decide) (fun ga => ?_) (fun ga => ?_))
    · refine x_if_ne (tgt := 24) C0 (by decide) dX4_readTest_12 (fun _ => ?_) (fun hkk => absurd hkk (by decide))
      refine x_aload_n C0 rfl dX4_readTest_24 ?_
      refine x_bipush (v := nI 60) C0 rfl dX4_readTest_25 ?_
      refine x_callV [_] C0 hN rfl (xRf_of hR (by omega) (Nat.zero_le _) (Nat.zero_le _)) mv_X9_isSign wm_X4_57 dX4_readTest_27 (by assumption) rfl rfl (Nat.le_of_ble_eq_true rfl) (c_X9_isSign hS1 T1 E1.1 (by decide) (fun gc => ?_) (fun gc => ?_))
      · refine x_if_eq (tgt := 38) C0 (by decide) dX4_readTest_30 (fun hkk => absurd hkk (by decide)) (fun _ => ?_)
        refine x_bipush (v := -9) C0 rfl dX4_readTest_33 ?_
        refine x_goto (tgt := 40) C0 (by decide) dX4_readTest_35 ?_
        exact hgo (Or.inl ga) _ (by rw [if_pos gc]; rfl)
      · refine x_if_eq (tgt := 38) C0 (by decide) dX4_readTest_30 (fun _ => ?_) (fun hkk => absurd (by decide) hkk)
        refine x_bipush (v := -10) C0 rfl dX4_readTest_38 ?_
        exact hgo (Or.inl ga) _ (by rw [if_neg gc]; rfl)
    · refine x_if_ne (tgt := 24) C0 (by decide) dX4_readTest_12 (fun hkk => absurd (by decide) hkk) (fun _ => ?_)
      refine x_aload_n C0 rfl dX4_readTest_15 ?_
      refine x_bipush (v := nI 61) C0 rfl dX4_readTest_16 ?_
      refine x_callV [_] C0 hN rfl (xRf_of hR (by omega) (Nat.zero_le _) (Nat.zero_le _)) mv_X9_isSign wm_X4_57 dX4_readTest_18 (by assumption) rfl rfl (Nat.le_of_ble_eq_true rfl) (c_X9_isSign hS1 T1 E1.1 (by decide) (fun gb => ?_) (fun gb => ?_))
      · refine x_if_eq (tgt := 56) C0 (by decide) dX4_readTest_21 (fun hkk => absurd hkk (by decide)) (fun _ => ?_)
        refine x_aload_n C0 rfl dX4_readTest_24 ?_
        refine x_bipush (v := nI 60) C0 rfl dX4_readTest_25 ?_
        refine x_callV [_] C0 hN rfl (xRf_of hR (by omega) (Nat.zero_le _) (Nat.zero_le _)) mv_X9_isSign wm_X4_57 dX4_readTest_27 (by assumption) rfl rfl (Nat.le_of_ble_eq_true rfl) (c_X9_isSign hS1 T1 E1.1 (by decide) (fun gc => ?_) (fun gc => ?_))
        · refine x_if_eq (tgt := 38) C0 (by decide) dX4_readTest_30 (fun hkk => absurd hkk (by decide)) (fun _ => ?_)
          refine x_bipush (v := -9) C0 rfl dX4_readTest_33 ?_
          refine x_goto (tgt := 40) C0 (by decide) dX4_readTest_35 ?_
          exact hgo (Or.inr gb) _ (by rw [if_pos gc]; rfl)
        · refine x_if_eq (tgt := 38) C0 (by decide) dX4_readTest_30 (fun _ => ?_) (fun hkk => absurd (by decide) hkk)
          refine x_bipush (v := -10) C0 rfl dX4_readTest_38 ?_
          exact hgo (Or.inr gb) _ (by rw [if_neg gc]; rfl)
      · refine x_if_eq (tgt := 56) C0 (by decide) dX4_readTest_21 (fun _ => ?_) (fun hkk => absurd (by decide) hkk)
        refine x_vret C0 E (by decide) (by decide) dX4_readTest_56 ?_
        rw [if_neg (fun z => z.elim ga gb)] at el
        exact hp R1 I1 J1 f1 (by rw [el]; exact E1)
  refine x_aload_n C0 rfl dX4_readTest_0 ?_
  refine x_aload_n C0 rfl dX4_readTest_1 ?_
  refine x_iload_n C0 rfl dX4_readTest_2 ?_
  refine x_callV [_, _] C0 hN rfl (xRf_of hR (by omega) (Nat.zero_le _) (Nat.zero_le _)) mv_X4_readSum wm_X4_54 dX4_readTest_3 (by assumption) rfl rfl (Nat.le_of_ble_eq_true rfl) (hP _ _ _ _ _ hS T E0 (fun R2 I2 J2 f2 E2 => ?_))
  exact h6 R2 I2 J2 f2 E2
theorem p_X4_readAll {S : xTS} {tp : Nat → Nat} {n w d : Nat} {P : pE → pE} (hx : Fx P) (hg : Gr P) (hd : 7 ≤ d) (hP : CPt S tp n yX4_readTest cX4_readTest 4 w d (pTst (tTok tp n) P)) : CPt S tp n yX4_readAll cX4_readAll 5 w (d + 1) (pAll (tTok tp n) P) := by
  intro R I J post e hS T E0 hp
  refine xSpec_of mt_X4_readAll (Nat.le_of_ble_eq_true rfl) (fun G C0 hN hR E hI hZ => ?_)
  change XX G 0 0 0 [some (.ref 4), some (.ref 1), some (.int (nI w)), none, none] [] S R I J
  have s1 := hS.sTape
  have s4 := hS.sLaw
  have s5 := hS.sCode
  have r4 := hS.rCode
  have h8 : ∀ j k R1 I1 J1 e1 v4, k + j = 1000 → FrE R I J R1 I1 J1 → EAt R1 I1 J1 tp n e1 → lp (fun e => pIsW (tTok tp n) 20 e.1 ∨ pIsW (tTok tp n) 21 e.1) (fun e => eEm (if pIsW (tTok tp n) 20 e.1 then (9, 0) else (10, 0)) ((pTst (tTok tp n) P) (eS pNext e))) j e1 = pAll (tTok tp n) P e → XX G 0 0 8 [some (.ref 4), some (.ref 1), some (.int (nI w)), some (.int (nI k)), v4] [] S R1 I1 J1 := by
    intro j
    induction j with
    | zero =>
      intro k R1 I1 J1 e1 v4 hk f1 E1 el
      have hk8 : k = 1000 := by omega
      subst hk8
      refine x_iload_n C0 rfl dX4_readAll_8 ?_
      refine x_sipush (v := nI 1000) C0 rfl dX4_readAll_9 ?_
      refine x_icmp_ge (tgt := 76) C0 (by decide) dX4_readAll_12 (fun _ => ?_) (fun hkk => absurd ((Int32.le_refl _)) hkk)
      refine x_vret C0 E (by decide) (by decide) dX4_readAll_76 ?_
      exact hp R1 I1 J1 f1 (by rw [← el]; exact E1)
    | succ j ih =>
      intro k R1 I1 J1 e1 v4 hk f1 E1 el
      rw [lp_up] at el
      have hS1 := hS.fre f1
      have T1 := T.fre f1
      have s1' := hS1.sTape
      have hgo : (pIsW (tTok tp n) 20 e1.1 ∨ pIsW (tTok tp n) 21 e1.1) → ∀ v9, v9 = cE (if pIsW (tTok tp n) 20 e1.1 then (9, 0) else (10, 0)) → XX G 0 0 52 [some (.ref 4), some (.ref 1), some (.int (nI w)), some (.int (nI k)), v4] [.int v9] S R1 I1 J1 := by
        intro cnd v9 ev
        refine x_istore (L' := [_, _, _, _, _]) C0 hN (by decide) rfl dX4_readAll_52 ?_
        refine x_aload_n C0 rfl dX4_readAll_54 ?_
        refine x_callV [] C0 hN rfl (xRf_of hR (by omega) (Nat.zero_le _) (Nat.zero_le _)) mv_X9_step wm_X4_47 dX4_readAll_55 (by assumption) rfl rfl (Nat.le_of_ble_eq_true rfl) (c_stepA hS1 T1 E1.1 (fun R2 I2 J2 f2 A2 => ?_))
        have z0 : e1.1.2 = 0 := orW0 cnd
        have E2 := E1.next f2 A2 (fun _ => cnd.elim (fun q => by rw [q.2.1]; decide) (fun q => by rw [q.2.1]; decide))
        have s1'' := (hS1.tfr f2).sTape
        refine x_aload_n C0 rfl dX4_readAll_58 ?_
        refine x_aload_n C0 rfl dX4_readAll_59 ?_
        refine x_iload_n C0 rfl dX4_readAll_60 ?_
        refine x_callV [_, _] C0 hN rfl (xRf_of hR (by omega) (Nat.zero_le _) (Nat.zero_le _)) mv_X4_readTest wm_X4_28 dX4_readAll_61 (by assumption) rfl rfl (Nat.le_of_ble_eq_true rfl) (hP _ _ _ _ _ (hS1.tfr f2) (T1.tfr f2) E2 (fun R3 I3 J3 f3 E3 => ?_))
        refine x_aload_n C0 rfl dX4_readAll_64 ?_
        refine x_iload C0 rfl dX4_readAll_65 ?_
        refine x_callV [_] C0 hN rfl (xRf_of hR (by omega) (Nat.zero_le _) (Nat.zero_le _)) mv_X4_emit wm_X4_50 dX4_readAll_67 (by assumption) rfl rfl (Nat.le_of_ble_eq_true rfl) (c_X4_emit ((hS1.tfr f2).fre f3) ((T1.tfr f2).fre f3) E3 ev (fun y => ?_) (fun I4 f4 E4 => ?_))
        · have g9 := (pTst_gr hg hx) (eS pNext e1) (by rw [eNext z0]) y
          obtain ⟨a9, -, -⟩ := E1.2.2 z0
          have e8 : (eS pNext e1).1.1 = e1.1.1 + 1 := by rw [eNext z0]
          have e7 : (eS pNext e1).2.length = e1.2.length := rfl
          omega
        refine x_iinc (v := nI (k + 1)) (L' := [_, _, _, _, _]) C0 hN rfl (by decide) (nI_inc k) rfl dX4_readAll_70 ?_
        refine x_goto (tgt := 8) C0 (by decide) dX4_readAll_73 ?_
        rw [if_pos (cnd)] at el
        exact ih (k + 1) R3 I4 J3 _ _ (by omega) ((f1.trans (FrE.tfr f2)).trans (f3.trans f4)) E4 el
      refine x_iload_n C0 rfl dX4_readAll_8 ?_
      refine x_sipush (v := nI 1000) C0 rfl dX4_readAll_9 ?_
      refine x_icmp_ge (tgt := 76) C0 (by decide) dX4_readAll_12 (fun hkk => absurd hkk ((nI_ge (b := 1000) (by omega) (by omega)))) (fun _ => ?_)
      refine x_aload_n C0 rfl dX4_readAll_15 ?_
      refine x_word 20 C0 (by decide) wg_X4_32 dX4_readAll_16 ?_
      refine x_callV [_] C0 hN rfl (xRf_of hR (by omega) (Nat.zero_le _) (Nat.zero_le _)) mv_X9_isWord wm_X4_38 dX4_readAll_19 (by assumption) rfl rfl (Nat.le_of_ble_eq_true rfl) (c_X9_isWord hS1 T1 E1.1 (by decide) (fun ga => ?_) (fun ga => ?_))
      · refine x_if_ne (tgt := 35) C0 (by decide) dX4_readAll_22 (fun _ => ?_) (fun hkk => absurd hkk (by decide))
        refine x_aload_n C0 rfl dX4_readAll_35 ?_
        refine x_word 20 C0 (by decide) wg_X4_32 dX4_readAll_36 ?_
        refine x_callV [_] C0 hN rfl (xRf_of hR (by omega) (Nat.zero_le _) (Nat.zero_le _)) mv_X9_isWord wm_X4_38 dX4_readAll_39 (by assumption) rfl rfl (Nat.le_of_ble_eq_true rfl) (c_X9_isWord hS1 T1 E1.1 (by decide) (fun gc => ?_) (fun gc => ?_))
        · refine x_if_eq (tgt := 50) C0 (by decide) dX4_readAll_42 (fun hkk => absurd hkk (by decide)) (fun _ => ?_)
          refine x_bipush (v := -11) C0 rfl dX4_readAll_45 ?_
          refine x_goto (tgt := 52) C0 (by decide) dX4_readAll_47 ?_
          exact hgo (Or.inl ga) _ (by rw [if_pos gc]; rfl)
        · refine x_if_eq (tgt := 50) C0 (by decide) dX4_readAll_42 (fun _ => ?_) (fun hkk => absurd (by decide) hkk)
          refine x_bipush (v := -12) C0 rfl dX4_readAll_50 ?_
          exact hgo (Or.inl ga) _ (by rw [if_neg gc]; rfl)
      · refine x_if_ne (tgt := 35) C0 (by decide) dX4_readAll_22 (fun hkk => absurd (by decide) hkk) (fun _ => ?_)
        refine x_aload_n C0 rfl dX4_readAll_25 ?_
        refine x_word 21 C0 (by decide) wg_X4_44 dX4_readAll_26 ?_
        refine x_callV [_] C0 hN rfl (xRf_of hR (by omega) (Nat.zero_le _) (Nat.zero_le _)) mv_X9_isWord wm_X4_38 dX4_readAll_29 (by assumption) rfl rfl (Nat.le_of_ble_eq_true rfl) (c_X9_isWord hS1 T1 E1.1 (by decide) (fun gb => ?_) (fun gb => ?_))
        · refine x_if_eq (tgt := 76) C0 (by decide) dX4_readAll_32 (fun hkk => absurd hkk (by decide)) (fun _ => ?_)
          refine x_aload_n C0 rfl dX4_readAll_35 ?_
          refine x_word 20 C0 (by decide) wg_X4_32 dX4_readAll_36 ?_
          refine x_callV [_] C0 hN rfl (xRf_of hR (by omega) (Nat.zero_le _) (Nat.zero_le _)) mv_X9_isWord wm_X4_38 dX4_readAll_39 (by assumption) rfl rfl (Nat.le_of_ble_eq_true rfl) (c_X9_isWord hS1 T1 E1.1 (by decide) (fun gc => ?_) (fun gc => ?_))
          · refine x_if_eq (tgt := 50) C0 (by decide) dX4_readAll_42 (fun hkk => absurd hkk (by decide)) (fun _ => ?_)
            refine x_bipush (v := -11) C0 rfl dX4_readAll_45 ?_
            refine x_goto (tgt := 52) C0 (by decide) dX4_readAll_47 ?_
            exact hgo (Or.inr gb) _ (by rw [if_pos gc]; rfl)
          · refine x_if_eq (tgt := 50) C0 (by decide) dX4_readAll_42 (fun _ => ?_) (fun hkk => absurd (by decide) hkk)
            refine x_bipush (v := -12) C0 rfl dX4_readAll_50 ?_
            exact hgo (Or.inr gb) _ (by rw [if_neg gc]; rfl)
        · refine x_if_eq (tgt := 76) C0 (by decide) dX4_readAll_32 (fun _ => ?_) (fun hkk => absurd (by decide) hkk)
          refine x_vret C0 E (by decide) (by decide) dX4_readAll_76 ?_
          rw [if_neg (fun z => z.elim ga gb)] at el
          exact hp R1 I1 J1 f1 (by rw [← el]; exact E1)
  refine x_aload_n C0 rfl dX4_readAll_0 ?_
  refine x_aload_n C0 rfl dX4_readAll_1 ?_
  refine x_iload_n C0 rfl dX4_readAll_2 ?_
  refine x_callV [_, _] C0 hN rfl (xRf_of hR (by omega) (Nat.zero_le _) (Nat.zero_le _)) mv_X4_readTest wm_X4_28 dX4_readAll_3 (by assumption) rfl rfl (Nat.le_of_ble_eq_true rfl) (hP _ _ _ _ _ hS T E0 (fun R2 I2 J2 f2 E2 => ?_))
  refine x_iconst (v := nI 0) C0 rfl dX4_readAll_6 ?_
  refine x_istore_n (L' := [_, _, _, _, _]) C0 hN (by decide) rfl dX4_readAll_7 ?_
  exact h8 1000 0 R2 I2 J2 _ _ (by decide) f2 E2 rfl
