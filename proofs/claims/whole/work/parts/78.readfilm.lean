/-! A FILM IS READ; the class -/
def pLDoubt (q : xTok) (b : Bool) (s : pS) : pS × List (Nat × Nat) := (pSign q 59 (pAll q (pPart q 5) (pOnce q b s, [])).1, (pAll q (pPart q 5) (pOnce q b s, [])).2)
theorem pLDoubt_1 {q : xTok} {b : Bool} {s : pS} : (pLDoubt q b s).1 = pSign q 59 (pAll q (pPart q 5) (pOnce q b s, [])).1 := by unfold pLDoubt; rfl
theorem pLDoubt_2 {q : xTok} {b : Bool} {s : pS} : (pLDoubt q b s).2 = (pAll q (pPart q 5) (pOnce q b s, [])).2 := by unfold pLDoubt; rfl
abbrev pM : Type := pS × pF × Bool × Option (List (Nat × Nat))
def fLine (q : xTok) (m : pM) : pM :=
  if pIsW q 0 m.1 then (pLThing q m.2.1 m.1, fThing m.2.1 (q (m.1.1 + 1)).2.1, m.2.2)
  else if pIsW q 1 m.1 then (pLScene q m.2.1 m.1, fScene m.2.1 (cvT q m.2.1 (m.1.1 + 1, 0), cvB q m.2.1 (m.1.1 + 1, 0), cvT q m.2.1 (pNeed q 4 (pClm q m.2.1 (m.1.1 + 1, 0))), cvB q m.2.1 (pNeed q 4 (pClm q m.2.1 (m.1.1 + 1, 0)))), m.2.2)
  else if pIsW q 5 m.1 then (pLWatch q m.2.1 m.1, fWatch m.2.1 (q (m.1.1 + 1)).2.1 ((wHr q 15 4 (pNew q m.2.1 (m.1.1 + 1, 0))).getD 0, (q (pNeed q 6 (pOne q 15 4 (pNew q m.2.1 (m.1.1 + 1, 0)))).1).2.1, (q (pNeed q 7 (pNum q 0 9 (pNeed q 6 (pOne q 15 4 (pNew q m.2.1 (m.1.1 + 1, 0)))))).1).2.1), m.2.2)
  else if pIsW q 8 m.1 then (pLStar q m.2.2.1 m.1, fStar m.2.1 (q (m.1.1 + 1)).2.1, true, m.2.2.2)
  else if pIsW q 9 m.1 then ((pLDoubt q m.2.2.2.isSome m.1).1, m.2.1, m.2.2.1, some (pLDoubt q m.2.2.2.isSome m.1).2)
  else (pRef q 1 m.1, m.2)
def fLoop (q : xTok) : Nat → pM → pM
  | 0, m => m
  | j + 1, m => if m.1.2 = 0 ∧ (q m.1.1).1 ≠ 0 then fLoop q j (fLine q m) else m
def fAll (q : xTok) : pM := fLoop q 1000 ((0, 0), F0', false, none)
def lwOk (I : xTI) (lw : Option (List (Nat × Nat))) : Prop := match lw with
  | none => True
  | some c => CLw I c ∧ c.length ≤ 1000 ∧ lSafe 24 c 0
theorem lwOk.congr {I I' : xTI} {lw : Option (List (Nat × Nat))} (h : lwOk I lw) (e4 : I' 4 = I 4) (e5 : I' 5 = I 5) : lwOk I' lw := by
  cases lw with
  | none => exact trivial
  | some c =>
    refine ⟨?_, h.2⟩
    unfold CLw
    rw [e4, e5]
    exact h.1
def FAt (R : xTR) (I : xTI) (J : xTJ) (tp : Nat → Nat) (n g : Nat) (m : pM) : Prop := TAt R I J tp n m.1 ∧ (m.1.2 = 0 → FOk m.2.1 ∧ CFm I J g m.2.1 ∧ I g 3 = nI m.2.1.1.2.2.2 ∧ I 3 1 = bI m.2.2.1 ∧ I 3 2 = bI m.2.2.2.isSome ∧ lwOk I m.2.2.2)
theorem c_X7_readDoubts {S : xTS} {R : xTR} {I : xTI} {J : xTJ} {post : xPost} (hS : fixd S R) {tp : Nat → Nat} {n : Nat} (T : CTp I tp n) {s : pS} (A : TAt R I J tp n s) {b : Bool} (eb : I 3 2 = bI b) (h0 : s.2 = 0) (hw : pIsW (tTok tp n) 9 s) (hp : ∀ R' I' J', (∀ a, a ≠ 1 → a ≠ 3 → a ≠ 4 → a ≠ 5 → I' a = I a) → I' 1 1 = I 1 1 → (∀ a, a ≠ 1 → J' a = J a) → (∀ a k, a ≠ 1 ∨ k ≠ 7 → R' a k = R a k) → I' 3 1 = I 3 1 → I' 3 2 = 1 → TAt R' I' J' tp n (pLDoubt (tTok tp n) b s).1 → ((pLDoubt (tTok tp n) b s).1.2 = 0 → CLw I' (pLDoubt (tTok tp n) b s).2 ∧ (pLDoubt (tTok tp n) b s).2.length ≤ 1000 ∧ lSafe 24 (pLDoubt (tTok tp n) b s).2 0) → post none S R' I' J') : xSpec 37 yX7_readDoubts cX7_readDoubts 2 none 0 0 [.ref 3, .ref 1] S R I J post := by
  refine xSpec_of mt_X7_readDoubts (Nat.le_of_ble_eq_true rfl) (fun G C0 hN hR E hI hZ => ?_)
  change XX G 0 0 0 [some (.ref 3), some (.ref 1)] [] S R I J
  have s1 := hS.sTape
  have s2 := hS.sSigns
  have r0 := hS.rSigns
  obtain ⟨t1, t2, t3⟩ := id T
  have zr := hS.sReader
  have zl := hS.rLaw
  have z4 := hS.sLaw
  have hlt : s.1 < n := Nat.lt_of_not_le (fun q => by have := tTok_end (tp := tp) q; rw [hw.2.1] at this; cases this)
  have h12 : ∀ I1, TFr R I J R I1 J → TAt R I1 J tp n (if b = true then pRef (tTok tp n) 3 s else s) → XX G 0 0 12 [some (.ref 3), some (.ref 1)] [] S R I1 J := by
    intro I1 f1 A1
    have T2 : CTp (u2 I1 3 2 (nI 1)) tp n := ⟨by rw [u2_row _ _ _ (by decide)]; exact (T.tfr f1).1, T.2.1, fun i hi => by rw [u2_row _ _ _ (by decide)]; exact (T.tfr f1).2.2 i hi⟩
    have A2 := A1.congr (I' := u2 I1 3 2 (nI 1)) (J' := J) (R' := R) (u2_row _ _ _ (by decide)) rfl rfl
    have hS1 := hS.tfr f1
    refine x_aload_n C0 rfl dX7_readDoubts_12 ?_
    refine x_iconst (v := nI 1) C0 rfl dX7_readDoubts_13 ?_
    refine x_putZ C0 wf_X7_27 (by assumption) rfl (Or.inr rfl) dX7_readDoubts_14 ?_
    refine x_aload_n C0 rfl dX7_readDoubts_17 ?_
    refine x_callV [] C0 hN rfl (xRf_of hR (by decide) (Nat.zero_le _) (Nat.zero_le _)) mv_X9_step wm_X7_93 dX7_readDoubts_18 (by assumption) rfl rfl (Nat.le_of_ble_eq_true rfl) (c_stepA hS1 T2 A2 (fun R2 I2 J2 f2 A3 => ?_))
    have hS2 := hS1.tfr f2
    have zl2 := hS2.rLaw
    have z42 := hS2.sLaw
    refine x_aload_n C0 rfl dX7_readDoubts_21 ?_
    refine x_getR C0 wf_X7_12 (by assumption) rfl rfl zl2 dX7_readDoubts_22 ?_
    refine x_iconst (v := nI 0) C0 rfl dX7_readDoubts_25 ?_
    refine x_putI C0 wf_X7_150 z42 rfl dX7_readDoubts_26 ?_
    have T3 := T2.tfr f2
    have T4 : CTp (u2 I2 4 1 (nI 0)) tp n := ⟨by rw [u2_row _ _ _ (by decide)]; exact T3.1, T3.2.1, fun i hi => by rw [u2_row _ _ _ (by decide)]; exact T3.2.2 i hi⟩
    have A4 := A3.congr (I' := u2 I2 4 1 (nI 0)) (J' := J2) (R' := R2) (u2_row _ _ _ (by decide)) rfl rfl
    have E4 : EAt R2 (u2 I2 4 1 (nI 0)) J2 tp n (pOnce (tTok tp n) b s, []) := ⟨A4, ⟨0, by decide, u2_same _ _ _ _⟩, fun z => by
      have z' : (pOnce (tTok tp n) b s).2 = 0 := z
      obtain ⟨-, -, e2⟩ := pOnce_z z'
      show 0 < (pOnce (tTok tp n) b s).1 ∧ (pOnce (tTok tp n) b s).1 ≤ n ∧ CLw _ []
      rw [e2]
      exact ⟨Nat.succ_pos _, hlt, u2_same _ _ _ _, fun i hi => absurd hi (Nat.not_lt_zero i)⟩⟩
    refine x_aload_n C0 rfl dX7_readDoubts_29 ?_
    refine x_getR C0 wf_X7_12 (by assumption) rfl rfl zl2 dX7_readDoubts_30 ?_
    refine x_aload_n C0 rfl dX7_readDoubts_33 ?_
    refine x_iconst (v := nI 0) C0 rfl dX7_readDoubts_34 ?_
    refine x_callVN [_, _] C0 hN rfl (xRf_of hR (by decide) (Nat.zero_le _) (Nat.zero_le _)) mv_X4_readAll wm_X7_153 dX7_readDoubts_35 z42 rfl rfl (Nat.le_of_ble_eq_true rfl) ((p_levels (tp := tp) (n := n) 5 (Nat.le_refl 5)).2 _ _ _ _ _ hS2 T4 E4 (fun R5 I5 J5 f5 E5 => ?_))
    refine x_aload_n C0 rfl dX7_readDoubts_38 ?_
    refine x_bipush (v := nI 59) C0 rfl dX7_readDoubts_39 ?_
    refine x_callV [_] C0 hN rfl (xRf_of hR (by decide) (Nat.zero_le _) (Nat.zero_le _)) mv_X9_needSign wm_X7_100 dX7_readDoubts_41 (by assumption) rfl rfl (Nat.le_of_ble_eq_true rfl) (c_X9_needSign (hS2.fre f5) (T4.fre f5) E5.1 (by decide) (fun R6 I6 J6 f6 A6 => ?_))
    refine x_vret C0 E (by decide) (by decide) dX7_readDoubts_44 ?_
    have ce : ∀ a, a ≠ 1 → a ≠ 4 → a ≠ 5 → I6 a = u2 I1 3 2 (nI 1) a := fun a h1 h4 h5 => by rw [f6.1 a h1, f5.1 a h1 h4 h5, u2_row _ _ _ h4, f2.1 a h1]
    refine hp R6 I6 J6 (fun a h1 h3 h4 h5 => ?_) ?_ (fun a h1 => ?_) (fun a k h => ?_) ?_ ?_ (by rw [pLDoubt_1]; exact A6) (fun z => ?_)
    · rw [ce a h1 h4 h5, u2_row _ _ _ h3, f1.1 a h1]
    · rw [f6.2.1, f5.2.1, u2_row _ _ _ (by decide), f2.2.1, u2_row _ _ _ (by decide), f1.2.1]
    · rw [f6.2.2.1 a h1, f5.2.2.1 a h1, f2.2.2.1 a h1]
    · rw [f6.2.2.2 a k h, f5.2.2.2 a k h, f2.2.2.2 a k h]
    · rw [ce 3 (by decide) (by decide) (by decide), u2_off _ _ (by decide), f1.1 3 (by decide)]
    · rw [ce 3 (by decide) (by decide) (by decide), u2_same]; rfl
    · have hfx := pAll_fx (q := (tTok tp n)) (pPart_fx (q := (tTok tp n)) 5) (pOnce (tTok tp n) b s, [])
      have hnt := pAll_nt (q := (tTok tp n)) (pPart_nt (q := (tTok tp n)) (fun i => (TAt.val (R := R) (J := J) (s := (i, 0)) T).2.1) 5) (pOnce (tTok tp n) b s, [])
      rw [pLDoubt_1] at z
      rw [pLDoubt_2]
      generalize pAll (tTok tp n) (pPart (tTok tp n) 5) (pOnce (tTok tp n) b s, []) = e5 at z E5 hfx hnt ⊢
      have z5 := pz (f := pSign (tTok tp n) 59) (fun y => pSign_f y) z
      have z3 : (pOnce (tTok tp n) b s).2 = 0 := Decidable.of_not_not (fun y => y (by rw [hfx y] at z5; exact z5))
      obtain ⟨l1, l2, l3⟩ := E5.2.2 z5
      obtain ⟨c, ec, lc⟩ := hnt z3 z5
      have ec' : e5.2 = c := ec
      refine ⟨?_, ?_, ?_⟩
      · unfold CLw
        rw [f6.1 4 (by decide), f6.1 5 (by decide)]
        exact l3
      · have := T.2.1
        omega
      · rw [ec']
        have := lc 0 [] (by decide) rfl
        rw [List.append_nil] at this
        exact this
  refine x_aload_n C0 rfl dX7_readDoubts_0 ?_
  refine x_getZ C0 wf_X7_27 (by assumption) rfl dX7_readDoubts_1 ?_
  refine x_topi eb ?_
  refine x_if_eq (tgt := 12) C0 (by decide) dX7_readDoubts_4 (fun g4 => ?_) (fun g4 => ?_)
  · exact h12 I TFr.rf (by cases b; exact A; exact absurd g4 (by decide))
  · refine x_aload_n C0 rfl dX7_readDoubts_7 ?_
    refine x_iconst (v := nI 3) C0 rfl dX7_readDoubts_8 ?_
    refine x_callV [_] C0 hN rfl (xRf_of hR (by decide) (Nat.zero_le _) (Nat.zero_le _)) mv_X9_refuse wm_X7_78 dX7_readDoubts_9 (by assumption) rfl rfl (Nat.le_of_ble_eq_true rfl) (c_X9_refuse hS T A (by decide) (by decide) (fun I1 f1 A1 => ?_))
    exact h12 I1 f1 (by cases b; exact absurd rfl g4; exact A1)
def FrF (g : Nat) (R : xTR) (I : xTI) (J : xTJ) (R' : xTR) (I' : xTI) (J' : xTJ) : Prop := (∀ a, a ≠ 1 → a ≠ 3 → a ≠ 4 → a ≠ 5 → a ≠ 6 → (a < g ∨ g + 9 ≤ a) → I' a = I a) ∧ I' 1 1 = I 1 1 ∧ (∀ a, a ≠ 1 → a ≠ g + 1 → a ≠ g + 2 → J' a = J a) ∧ (∀ a k, a ≠ 1 ∨ k ≠ 7 → R' a k = R a k)
theorem FrF.l {g : Nat} {R R' : xTR} {I I' : xTI} {J J' : xTJ} (f : FrL g R I J R' I' J') : FrF g R I J R' I' J' := ⟨fun a h1 h3 h4 h5 _ h => f.1 a h1 h3 h4 h5 h, f.2.1, f.2.2.1, f.2.2.2⟩
theorem FrF.tfr {g : Nat} {R R' : xTR} {I I' : xTI} {J J' : xTJ} (f : TFr R I J R' I' J') : FrF g R I J R' I' J' := FrF.l (FrL.tfr f)
theorem FrF.trans {g : Nat} {R R1 R2 : xTR} {I I1 I2 : xTI} {J J1 J2 : xTJ} (a : FrF g R I J R1 I1 J1) (b : FrF g R1 I1 J1 R2 I2 J2) : FrF g R I J R2 I2 J2 := ⟨fun q h1 h3 h4 h5 h6 h => (b.1 q h1 h3 h4 h5 h6 h).trans (a.1 q h1 h3 h4 h5 h6 h), b.2.1.trans a.2.1, fun q h1 h2 h3 => (b.2.2.1 q h1 h2 h3).trans (a.2.2.1 q h1 h2 h3), fun q k h => (b.2.2.2 q k h).trans (a.2.2.2 q k h)⟩
theorem fixd.frf {g : Nat} {S : xTS} {R R' : xTR} {I I' : xTI} {J J' : xTJ} (h : fixd S R) (f : FrF g R I J R' I' J') : fixd S R' := ⟨h.1, fun q hq => (f.2.2.2 _ _ (rtab_17 q hq)).trans (h.2 q hq)⟩
theorem CTp.frf {g : Nat} {R R' : xTR} {I I' : xTI} {J J' : xTJ} {tp : Nat → Nat} {n : Nat} (h : CTp I tp n) (hg : 7 ≤ g) (f : FrF g R I J R' I' J') : CTp I' tp n := ⟨f.2.1.trans h.1, h.2.1, fun i hi => by rw [f.1 2 (by decide) (by decide) (by decide) (by decide) (by decide) (by omega)]; exact h.2.2 i hi⟩
theorem isFilm.of {S : xTS} {R R' : xTR} {g : Nat} (h : isFilm S R g) (e : ∀ k, R' g k = R g k) : isFilm S R' g := by
  obtain ⟨a0, a1, a2, a3, a4, a5, a6, a7, a8, b4, b5, b6, b7, b8, b9, b10, b11⟩ := h
  exact ⟨a0, a1, a2, a3, a4, a5, a6, a7, a8, (e _).trans b4, (e _).trans b5, (e _).trans b6, (e _).trans b7, (e _).trans b8, (e _).trans b9, (e _).trans b10, (e _).trans b11⟩
theorem FOk_star {F : pF} {v : Nat} (h : FOk F) (hv : v ≤ 8) : FOk (fStar F v) := ⟨h.1, h.2.1, h.2.2.1, hv, h.2.2.2.2⟩
theorem pIs_w {q : xTok} {i j : Nat} {s : pS} (h : pIsW q i s) (hi : i < 26) (hj : j < 26) (hij : i ≠ j) : ¬ pIsW q j s := fun z => hij (wCd_inj i hi j hj (h.2.2.symm.trans z.2.2))
theorem c_X7_readFilm {S : xTS} {R : xTR} {I : xTI} {J : xTJ} {post : xPost} (hS : fixd S R) {tp : Nat → Nat} {n : Nat} (T : CTp I tp n) (ro : wOr (R 1 7)) {g : Nat} (hg : 7 ≤ g) (hF : isFilm S R g) (hp : ∀ R' I' J', FrF g R I J R' I' J' → wOr (R' 1 7) → (fAll (tTok tp n)).1.2 < 20000 → ((fAll (tTok tp n)).1.2 = 0 → FOk (fAll (tTok tp n)).2.1 ∧ CFm I' J' g (fAll (tTok tp n)).2.1 ∧ RFilm I' g (fRow (fAll (tTok tp n)).2.1 (fAll (tTok tp n)).2.2.2.isSome) (sDq (fRow (fAll (tTok tp n)).2.1 (fAll (tTok tp n)).2.2.2.isSome) (fAll (tTok tp n)).2.2.2) (fAll (tTok tp n)).2.1.1.2.1 (fAll (tTok tp n)).2.1.1.2.2.1) → post (some (.int (nI (fAll (tTok tp n)).1.2))) S R' I' J') : xSpec 38 yX7_readFilm cX7_readFilm 4 (some .int) 0 0 [.ref 3, .ref 1, .ref g] S R I J post := by
  refine xSpec_of mt_X7_readFilm (Nat.le_of_ble_eq_true rfl) (fun G C0 hN hR E hI hZ => ?_)
  change XX G 0 0 0 [some (.ref 3), some (.ref 1), some (.ref g), none] [] S R I J
  have s1 := hS.sTape
  have s2 := hS.sSigns
  have r0 := hS.rSigns
  obtain ⟨t1, t2, t3⟩ := id T
  have zr := hS.sReader
  have zl := hS.rLaw
  have z4 := hS.sLaw
  have zg := hF.1
  have h139 : ∀ R1 I1 J1 v3, FrF g R I J R1 I1 J1 → FAt R1 I1 J1 tp n g (fAll (tTok tp n)) → XX G 0 0 139 [some (.ref 3), some (.ref 1), some (.ref g), v3] [] S R1 I1 J1 := by
    intro R1 I1 J1 v3 f1 M1
    generalize fAll (tTok tp n) = m at hp M1
    obtain ⟨A1, hm⟩ := M1
    have hS1 := hS.frf f1
    have zl1 := hS1.rLaw
    have hF1 := hF.of (fun k => f1.2.2.2 g k (Or.inl (by omega)))
    refine x_aload_n C0 rfl dX7_readFilm_139 ?_
    refine x_getI C0 wf_X7_82 (by assumption) rfl dX7_readFilm_140 ?_
    refine x_topi A1.1 ?_
    refine x_if_ne (tgt := 165) C0 (by decide) dX7_readFilm_143 (fun g143 => ?_) (fun g143 => ?_)
    · refine x_aload_n C0 rfl dX7_readFilm_165 ?_
      refine x_getI C0 wf_X7_82 (by assumption) rfl dX7_readFilm_166 ?_
      refine x_topi A1.1 ?_
      refine x_iret C0 E (by decide) (by decide) dX7_readFilm_169 ?_
      exact hp R1 I1 J1 f1 A1.2.2.1 A1.2.1 (fun z => absurd (show nI m.1.2 = 0 by rw [z]; rfl) g143)
    · have z0 : m.1.2 = 0 := (nI_eq (b := 0) (by have := A1.2.1; exact Nat.lt_trans this (by decide)) (by decide)).mp g143
      obtain ⟨ok, C, e3, e31, e32, lk⟩ := hm z0
      refine x_aload_n C0 rfl dX7_readFilm_146 ?_
      refine x_aload_n C0 rfl dX7_readFilm_147 ?_
      refine x_getZ C0 wf_X7_27 (by assumption) rfl dX7_readFilm_148 ?_
      refine x_topi e32 ?_
      refine x_if_eq (tgt := 161) C0 (by decide) dX7_readFilm_151 (fun g151 => ?_) (fun g151 => ?_)
      · refine x_null C0 dX7_readFilm_161 ?_
        have hlw : m.2.2.2 = none := by
          cases q : m.2.2.2 with
          | none => rfl
          | some c => rw [q] at g151; exact absurd g151 (show ¬ (1 : Int32) = 0 by decide)
        have hq : ∀ I2 : xTI, (∀ a, a ≠ g + 8 → a ≠ 6 → I2 a = I1 a) → FrF g R I J R1 I2 J1 := fun I2 s2 => ⟨fun a h1 h3 h4 h5 h6 h => by rw [s2 a (by omega) h6]; exact f1.1 a h1 h3 h4 h5 h6 h, by rw [s2 1 (by omega) (by decide)]; exact f1.2.1, f1.2.2.1, f1.2.2.2⟩
        refine x_callV [_] C0 hN rfl (xRf_of hR (by decide) (Nat.zero_le _) (Nat.zero_le _)) mv_X2_setDoubts wm_X7_86 dX7_readFilm_162 zg rfl rfl (Nat.le_of_ble_eq_true rfl) (c_setDoubtsN hS1 hg hF1 ok C (fun I2 s2 d2 => ?_))
        refine x_aload_n C0 rfl dX7_readFilm_165 ?_
        refine x_getI C0 wf_X7_82 (by assumption) rfl dX7_readFilm_166 ?_
        refine x_topi (show I2 1 8 = nI m.1.2 by rw [s2 1 (by omega) (by decide)]; exact A1.1) ?_
        refine x_iret C0 E (by decide) (by decide) dX7_readFilm_169 ?_
        have C2 : CFm I2 J1 g m.2.1 := C.congr (by rw [s2 g (by omega) (by omega)]) (by rw [s2 g (by omega) (by omega)]) (by rw [s2 g (by omega) (by omega)]) (fun j h1 h2 => s2 _ (by omega) (by omega)) rfl rfl
        refine hp R1 I2 J1 (hq I2 s2) A1.2.2.1 A1.2.1 (fun _ => ⟨ok, C2, ?_⟩)
        rw [hlw]
        exact fRow_RFilm ok C2 (by rw [s2 g (by omega) (by omega)]; exact e3) d2
      · refine x_aload_n C0 rfl dX7_readFilm_154 ?_
        refine x_getR C0 wf_X7_12 (by assumption) rfl rfl zl1 dX7_readFilm_155 ?_
        refine x_goto (tgt := 162) C0 (by decide) dX7_readFilm_158 ?_
        obtain ⟨c, hlw⟩ : ∃ c, m.2.2.2 = some c := by
          cases q : m.2.2.2 with
          | none => rw [q] at g151; exact absurd rfl g151
          | some c => exact ⟨c, rfl⟩
        rw [hlw] at lk
        have hq : ∀ I2 : xTI, (∀ a, a ≠ g + 8 → a ≠ 6 → I2 a = I1 a) → FrF g R I J R1 I2 J1 := fun I2 s2 => ⟨fun a h1 h3 h4 h5 h6 h => by rw [s2 a (by omega) h6]; exact f1.1 a h1 h3 h4 h5 h6 h, by rw [s2 1 (by omega) (by decide)]; exact f1.2.1, f1.2.2.1, f1.2.2.2⟩
        refine x_callV [_] C0 hN rfl (xRf_of hR (by decide) (Nat.zero_le _) (Nat.zero_le _)) mv_X2_setDoubts wm_X7_86 dX7_readFilm_162 zg rfl rfl (Nat.le_of_ble_eq_true rfl) (c_setDoubtsS hS1 hg hF1 ok C lk.1 lk.2.1 lk.2.2 (fun I2 s2 d2 => ?_))
        refine x_aload_n C0 rfl dX7_readFilm_165 ?_
        refine x_getI C0 wf_X7_82 (by assumption) rfl dX7_readFilm_166 ?_
        refine x_topi (show I2 1 8 = nI m.1.2 by rw [s2 1 (by omega) (by decide)]; exact A1.1) ?_
        refine x_iret C0 E (by decide) (by decide) dX7_readFilm_169 ?_
        have C2 : CFm I2 J1 g m.2.1 := C.congr (by rw [s2 g (by omega) (by omega)]) (by rw [s2 g (by omega) (by omega)]) (by rw [s2 g (by omega) (by omega)]) (fun j h1 h2 => s2 _ (by omega) (by omega)) rfl rfl
        refine hp R1 I2 J1 (hq I2 s2) A1.2.2.1 A1.2.1 (fun _ => ⟨ok, C2, ?_⟩)
        rw [hlw]
        exact fRow_RFilm ok C2 (by rw [s2 g (by omega) (by omega)]; exact e3) d2
  have h20 : ∀ j k R1 I1 J1 m, k + j = 1000 → FrF g R I J R1 I1 J1 → FAt R1 I1 J1 tp n g m → fLoop (tTok tp n) j m = fAll (tTok tp n) → XX G 0 0 20 [some (.ref 3), some (.ref 1), some (.ref g), some (.int (nI k))] [] S R1 I1 J1 := by
    intro j
    induction j with
    | zero =>
      intro k R1 I1 J1 m hk f1 M1 el
      have hk8 : k = 1000 := by omega
      subst hk8
      refine x_iload_n C0 rfl dX7_readFilm_20 ?_
      refine x_sipush (v := nI 1000) C0 rfl dX7_readFilm_21 ?_
      refine x_icmp_ge (tgt := 139) C0 (by decide) dX7_readFilm_24 (fun _ => ?_) (fun hkk => absurd ((Int32.le_refl _)) hkk)
      exact h139 R1 I1 J1 _ f1 (by rw [← el]; exact M1)
    | succ j ih =>
      intro k R1 I1 J1 m hk f1 M1 el
      have elu : fLoop (tTok tp n) (j + 1) m = if m.1.2 = 0 ∧ (tTok tp n m.1.1).1 ≠ 0 then fLoop (tTok tp n) j (fLine (tTok tp n) m) else m := rfl
      rw [elu] at el
      have hS1 := hS.frf f1
      have T1 := T.frf hg f1
      have hF1 := hF.of (fun k => f1.2.2.2 g k (Or.inl (by omega)))
      have A1 := M1.1
      have ih := fun R2 I2 J2 m => ih (k + 1) R2 I2 J2 m (by omega)
      refine x_iload_n C0 rfl dX7_readFilm_20 ?_
      refine x_sipush (v := nI 1000) C0 rfl dX7_readFilm_21 ?_
      refine x_icmp_ge (tgt := 139) C0 (by decide) dX7_readFilm_24 (fun hkk => absurd hkk ((nI_ge (b := 1000) (by omega) (by omega)))) (fun _ => ?_)
      refine x_aload_n C0 rfl dX7_readFilm_27 ?_
      refine x_callV [] C0 hN rfl (xRf_of hR (by decide) (Nat.zero_le _) (Nat.zero_le _)) mv_X9_goesOn wm_X7_35 dX7_readFilm_28 (by assumption) rfl rfl (Nat.le_of_ble_eq_true rfl) (c_X9_goesOn hS1 T1 A1 (fun g28 => ?_) (fun g28 => ?_))
      · refine x_if_eq (tgt := 139) C0 (by decide) dX7_readFilm_31 (fun hkk => absurd hkk (by decide)) (fun _ => ?_)
        rw [if_pos g28] at el
        obtain ⟨ok, C, e3, e31, e32, lk⟩ := M1.2 g28.1
        refine x_aload_n C0 rfl dX7_readFilm_34 ?_
        refine x_word 0 C0 (by decide) wg_X7_39 dX7_readFilm_35 ?_
        refine x_callV [_] C0 hN rfl (xRf_of hR (by decide) (Nat.zero_le _) (Nat.zero_le _)) mv_X9_isWord wm_X7_45 dX7_readFilm_38 (by assumption) rfl rfl (Nat.le_of_ble_eq_true rfl) (c_X9_isWord hS1 T1 A1 (by decide) (fun gT => ?_) (fun gT => ?_))
        · refine x_if_eq (tgt := 53) C0 (by decide) dX7_readFilm_41 (fun hkk => absurd hkk (by decide)) (fun _ => ?_)
          refine x_aload_n C0 rfl dX7_readFilm_44 ?_
          refine x_aload_n C0 rfl dX7_readFilm_45 ?_
          refine x_aload_n C0 rfl dX7_readFilm_46 ?_
          refine x_callV [_, _] C0 hN rfl (xRf_of hR (by decide) (Nat.zero_le _) (Nat.zero_le _)) mv_X7_readThing wm_X7_49 dX7_readFilm_47 (by assumption) rfl rfl (Nat.le_of_ble_eq_true rfl) (c_X7_readThing hS1 T1 A1 hg hF1 ok C (fun R2 I2 J2 f2 k2 A2 e2 => ?_))
          refine x_goto (tgt := 133) C0 (by decide) dX7_readFilm_50 ?_
          refine x_iinc (v := nI (k + 1)) (L' := [_, _, _, _]) C0 hN rfl (by decide) (nI_inc k) rfl dX7_readFilm_133 ?_
          refine x_goto (tgt := 20) C0 (by decide) dX7_readFilm_136 ?_
          unfold fLine at el
          rw [if_pos gT] at el
          refine ih R2 I2 J2 _ (f1.trans (FrF.l f2)) ⟨A2, fun z => ?_⟩ el
          obtain ⟨a3, hT6, hv, hnt, C2⟩ := e2 z
          exact ⟨fThing_ok ok hT6 hv, C2, a3.trans e3, by rw [k2.1]; exact e31, by rw [k2.1]; exact e32, lk.congr k2.2.1 k2.2.2⟩
        · refine x_if_eq (tgt := 53) C0 (by decide) dX7_readFilm_41 (fun _ => ?_) (fun hkk => absurd (by decide) hkk)
          refine x_aload_n C0 rfl dX7_readFilm_53 ?_
          refine x_word 1 C0 (by decide) wg_X7_53 dX7_readFilm_54 ?_
          refine x_callV [_] C0 hN rfl (xRf_of hR (by decide) (Nat.zero_le _) (Nat.zero_le _)) mv_X9_isWord wm_X7_45 dX7_readFilm_57 (by assumption) rfl rfl (Nat.le_of_ble_eq_true rfl) (c_X9_isWord hS1 T1 A1 (by decide) (fun gS => ?_) (fun gS => ?_))
          · refine x_if_eq (tgt := 72) C0 (by decide) dX7_readFilm_60 (fun hkk => absurd hkk (by decide)) (fun _ => ?_)
            refine x_aload_n C0 rfl dX7_readFilm_63 ?_
            refine x_aload_n C0 rfl dX7_readFilm_64 ?_
            refine x_aload_n C0 rfl dX7_readFilm_65 ?_
            refine x_callV [_, _] C0 hN rfl (xRf_of hR (by decide) (Nat.zero_le _) (Nat.zero_le _)) mv_X7_readScene wm_X7_56 dX7_readFilm_66 (by assumption) rfl rfl (Nat.le_of_ble_eq_true rfl) (c_X7_readScene hS1 T1 A1 hg hF1 ok C (fun R2 I2 J2 f2 k2 A2 e2 => ?_))
            refine x_goto (tgt := 133) C0 (by decide) dX7_readFilm_69 ?_
            refine x_iinc (v := nI (k + 1)) (L' := [_, _, _, _]) C0 hN rfl (by decide) (nI_inc k) rfl dX7_readFilm_133 ?_
            refine x_goto (tgt := 20) C0 (by decide) dX7_readFilm_136 ?_
            unfold fLine at el
            rw [if_neg gT, if_pos gS] at el
            refine ih R2 I2 J2 _ (f1.trans (FrF.l f2)) ⟨A2, fun z => ?_⟩ el
            obtain ⟨a3, hN8, t1, t2, C2⟩ := e2 z
            have hb : ∀ s, cvB (tTok tp n) m.2.1 s < 2 := fun s => by unfold cvB; split <;> decide
            exact ⟨fScene_ok ok hN8 ⟨t1, hb _, t2, hb _⟩, C2, a3.trans e3, by rw [k2.1]; exact e31, by rw [k2.1]; exact e32, lk.congr k2.2.1 k2.2.2⟩
          · refine x_if_eq (tgt := 72) C0 (by decide) dX7_readFilm_60 (fun _ => ?_) (fun hkk => absurd (by decide) hkk)
            refine x_aload_n C0 rfl dX7_readFilm_72 ?_
            refine x_word 5 C0 (by decide) wg_X7_59 dX7_readFilm_73 ?_
            refine x_callV [_] C0 hN rfl (xRf_of hR (by decide) (Nat.zero_le _) (Nat.zero_le _)) mv_X9_isWord wm_X7_45 dX7_readFilm_76 (by assumption) rfl rfl (Nat.le_of_ble_eq_true rfl) (c_X9_isWord hS1 T1 A1 (by decide) (fun gW => ?_) (fun gW => ?_))
            · refine x_if_eq (tgt := 91) C0 (by decide) dX7_readFilm_79 (fun hkk => absurd hkk (by decide)) (fun _ => ?_)
              refine x_aload_n C0 rfl dX7_readFilm_82 ?_
              refine x_aload_n C0 rfl dX7_readFilm_83 ?_
              refine x_aload_n C0 rfl dX7_readFilm_84 ?_
              refine x_callV [_, _] C0 hN rfl (xRf_of hR (by decide) (Nat.zero_le _) (Nat.zero_le _)) mv_X7_readWatcher wm_X7_62 dX7_readFilm_85 (by assumption) rfl rfl (Nat.le_of_ble_eq_true rfl) (c_X7_readWatcher hS1 T1 A1 hg hF1 ok C (fun R2 I2 J2 f2 k2 A2 e2 => ?_))
              refine x_goto (tgt := 133) C0 (by decide) dX7_readFilm_88 ?_
              refine x_iinc (v := nI (k + 1)) (L' := [_, _, _, _]) C0 hN rfl (by decide) (nI_inc k) rfl dX7_readFilm_133 ?_
              refine x_goto (tgt := 20) C0 (by decide) dX7_readFilm_136 ?_
              unfold fLine at el
              rw [if_neg gT, if_neg gS, if_pos gW] at el
              refine ih R2 I2 J2 _ (f1.trans (FrF.l f2)) ⟨A2, fun z => ?_⟩ el
              obtain ⟨a3, hV6, hv40, hnt, hk4, u6, l8, u8, C2⟩ := e2 z
              exact ⟨fWatch_ok ok hV6 hv40 ⟨hk4, Nat.lt_succ_of_le u6, u8⟩, C2, a3.trans e3, by rw [k2.1]; exact e31, by rw [k2.1]; exact e32, lk.congr k2.2.1 k2.2.2⟩
            · refine x_if_eq (tgt := 91) C0 (by decide) dX7_readFilm_79 (fun _ => ?_) (fun hkk => absurd (by decide) hkk)
              refine x_aload_n C0 rfl dX7_readFilm_91 ?_
              refine x_word 8 C0 (by decide) wg_X7_65 dX7_readFilm_92 ?_
              refine x_callV [_] C0 hN rfl (xRf_of hR (by decide) (Nat.zero_le _) (Nat.zero_le _)) mv_X9_isWord wm_X7_45 dX7_readFilm_95 (by assumption) rfl rfl (Nat.le_of_ble_eq_true rfl) (c_X9_isWord hS1 T1 A1 (by decide) (fun gA => ?_) (fun gA => ?_))
              · refine x_if_eq (tgt := 110) C0 (by decide) dX7_readFilm_98 (fun hkk => absurd hkk (by decide)) (fun _ => ?_)
                refine x_aload_n C0 rfl dX7_readFilm_101 ?_
                refine x_aload_n C0 rfl dX7_readFilm_102 ?_
                refine x_aload_n C0 rfl dX7_readFilm_103 ?_
                refine x_callV [_, _] C0 hN rfl (xRf_of hR (by decide) (Nat.zero_le _) (Nat.zero_le _)) mv_X7_readStar wm_X7_68 dX7_readFilm_104 (by assumption) rfl rfl (Nat.le_of_ble_eq_true rfl) (c_X7_readStar hS1 T1 A1 hg hF1 ok C e31 (fun R2 I2 J2 f2 k2 A2 e2 => ?_))
                refine x_goto (tgt := 133) C0 (by decide) dX7_readFilm_107 ?_
                refine x_iinc (v := nI (k + 1)) (L' := [_, _, _, _]) C0 hN rfl (by decide) (nI_inc k) rfl dX7_readFilm_133 ?_
                refine x_goto (tgt := 20) C0 (by decide) dX7_readFilm_136 ?_
                unfold fLine at el
                rw [if_neg gT, if_neg gS, if_neg gW, if_pos gA] at el
                refine ih R2 I2 J2 _ (f1.trans (FrF.l f2)) ⟨A2, fun z => ?_⟩ el
                obtain ⟨hb, u8, g3, C2⟩ := e2 z
                exact ⟨FOk_star ok u8, C2, g3, k2.1, by rw [k2.2.1]; exact e32, lk.congr k2.2.2.1 k2.2.2.2⟩
              · refine x_if_eq (tgt := 110) C0 (by decide) dX7_readFilm_98 (fun _ => ?_) (fun hkk => absurd (by decide) hkk)
                refine x_aload_n C0 rfl dX7_readFilm_110 ?_
                refine x_word 9 C0 (by decide) wg_X7_71 dX7_readFilm_111 ?_
                refine x_callV [_] C0 hN rfl (xRf_of hR (by decide) (Nat.zero_le _) (Nat.zero_le _)) mv_X9_isWord wm_X7_45 dX7_readFilm_114 (by assumption) rfl rfl (Nat.le_of_ble_eq_true rfl) (c_X9_isWord hS1 T1 A1 (by decide) (fun gD => ?_) (fun gD => ?_))
                · refine x_if_eq (tgt := 128) C0 (by decide) dX7_readFilm_117 (fun hkk => absurd hkk (by decide)) (fun _ => ?_)
                  refine x_aload_n C0 rfl dX7_readFilm_120 ?_
                  refine x_aload_n C0 rfl dX7_readFilm_121 ?_
                  refine x_callV [_] C0 hN rfl (xRf_of hR (by decide) (Nat.zero_le _) (Nat.zero_le _)) mv_X7_readDoubts wm_X7_74 dX7_readFilm_122 (by assumption) rfl rfl (Nat.le_of_ble_eq_true rfl) (c_X7_readDoubts hS1 T1 A1 e32 g28.1 gD (fun R2 I2 J2 s2 t2 j2 r2 a31 a32 A2 e2 => ?_))
                  refine x_goto (tgt := 133) C0 (by decide) dX7_readFilm_125 ?_
                  refine x_iinc (v := nI (k + 1)) (L' := [_, _, _, _]) C0 hN rfl (by decide) (nI_inc k) rfl dX7_readFilm_133 ?_
                  refine x_goto (tgt := 20) C0 (by decide) dX7_readFilm_136 ?_
                  unfold fLine at el
                  rw [if_neg gT, if_neg gS, if_neg gW, if_neg gA, if_pos gD] at el
                  generalize pLDoubt (tTok tp n) m.2.2.2.isSome m.1 = r9 at el A2 e2
                  refine ih R2 I2 J2 (r9.1, m.2.1, m.2.2.1, some r9.2) (f1.trans ⟨fun a h1 h3 h4 h5 _ _ => s2 a h1 h3 h4 h5, t2, fun a h1 _ _ => j2 a h1, r2⟩) ⟨A2, fun z => ?_⟩ el
                  have eg : ∀ a, 7 ≤ a → I2 a = I1 a := fun a h => s2 a (by omega) (by omega) (by omega) (by omega)
                  exact ⟨ok, C.congr (by rw [eg g hg]) (by rw [eg g hg]) (by rw [eg g hg]) (fun j _ _ => eg _ (by omega)) (j2 _ (by omega)) (j2 _ (by omega)), by rw [eg g hg]; exact e3, by rw [a31]; exact e31, a32, e2 z⟩
                · refine x_if_eq (tgt := 128) C0 (by decide) dX7_readFilm_117 (fun _ => ?_) (fun hkk => absurd (by decide) hkk)
                  refine x_aload_n C0 rfl dX7_readFilm_128 ?_
                  refine x_iconst (v := nI 1) C0 rfl dX7_readFilm_129 ?_
                  refine x_callV [_] C0 hN rfl (xRf_of hR (by decide) (Nat.zero_le _) (Nat.zero_le _)) mv_X9_refuse wm_X7_78 dX7_readFilm_130 (by assumption) rfl rfl (Nat.le_of_ble_eq_true rfl) (c_X9_refuse hS1 T1 A1 (by decide) (by decide) (fun I2 f2 A2 => ?_))
                  refine x_iinc (v := nI (k + 1)) (L' := [_, _, _, _]) C0 hN rfl (by decide) (nI_inc k) rfl dX7_readFilm_133 ?_
                  refine x_goto (tgt := 20) C0 (by decide) dX7_readFilm_136 ?_
                  unfold fLine at el
                  rw [if_neg gT, if_neg gS, if_neg gW, if_neg gA, if_neg gD] at el
                  exact ih R1 I2 J1 _ (f1.trans (FrF.tfr f2)) ⟨A2, fun z => absurd z (pRef_ne (by decide))⟩ el
      · refine x_if_eq (tgt := 139) C0 (by decide) dX7_readFilm_31 (fun _ => ?_) (fun hkk => absurd (by decide) hkk)
        rw [if_neg g28] at el
        exact h139 R1 I1 J1 _ f1 (by rw [← el]; exact M1)
  refine x_aload_n C0 rfl dX7_readFilm_0 ?_
  refine x_callV [] C0 hN rfl (xRf_of hR (by decide) (Nat.zero_le _) (Nat.zero_le _)) mv_X2_clear wm_X7_18 dX7_readFilm_1 zg rfl rfl (Nat.le_of_ble_eq_true rfl) (c_X2_clear hF (fun I1 s1 C1 e1 => ?_))
  refine x_aload_n C0 rfl dX7_readFilm_4 ?_
  refine x_iconst (v := nI 0) C0 rfl dX7_readFilm_5 ?_
  refine x_putZ C0 wf_X7_23 (by assumption) rfl (Or.inl rfl) dX7_readFilm_6 ?_
  refine x_aload_n C0 rfl dX7_readFilm_9 ?_
  refine x_iconst (v := nI 0) C0 rfl dX7_readFilm_10 ?_
  refine x_putZ C0 wf_X7_27 (by assumption) rfl (Or.inl rfl) dX7_readFilm_11 ?_
  have s2 : ∀ a, a ≠ 3 → u2 (u2 I1 3 1 (nI 0)) 3 2 (nI 0) a = I1 a := fun a h => by rw [u2_row _ _ _ h, u2_row _ _ _ h]
  have f0 : FrF g R I J R (u2 (u2 I1 3 1 (nI 0)) 3 2 (nI 0)) J := ⟨fun a h1 h3 _ _ _ h => by rw [s2 a h3]; exact s1 a (by omega), by rw [s2 1 (by decide), s1 1 (by omega)], fun _ _ _ _ => rfl, fun _ _ _ => rfl⟩
  have e31 : u2 (u2 I1 3 1 (nI 0)) 3 2 (nI 0) 3 1 = 0 := by rw [u2_off _ _ (by decide), u2_same]; rfl
  have e32 : u2 (u2 I1 3 1 (nI 0)) 3 2 (nI 0) 3 2 = 0 := by rw [u2_same]; rfl
  generalize u2 (u2 I1 3 1 (nI 0)) 3 2 (nI 0) = I2 at s2 f0 e31 e32 ⊢
  refine x_aload_n C0 rfl dX7_readFilm_14 ?_
  refine x_callV [] C0 hN rfl (xRf_of hR (by decide) (Nat.zero_le _) (Nat.zero_le _)) mv_X9_begin wm_X7_30 dX7_readFilm_15 (by assumption) rfl rfl (Nat.le_of_ble_eq_true rfl) (c_X9_begin hS (T.frf hg f0) ro (fun R3 I3 J3 f3 A3 => ?_))
  refine x_iconst (v := nI 0) C0 rfl dX7_readFilm_18 ?_
  refine x_istore_n (L' := [_, _, _, _]) C0 hN (by decide) rfl dX7_readFilm_19 ?_
  refine h20 1000 0 R3 I3 J3 ((0, 0), F0', false, none) (by decide) (f0.trans (FrF.tfr f3)) ⟨A3, fun _ => ?_⟩ (by unfold fAll; rfl)
  have eg : ∀ a, 4 ≤ a → I3 a = I1 a := fun a h => by rw [f3.1 a (by omega), s2 a (by omega)]
  exact ⟨F0_ok, C1.congr (by rw [eg g (by omega)]) (by rw [eg g (by omega)]) (by rw [eg g (by omega)]) (fun j _ _ => eg _ (by omega)) (f3.2.2.1 _ (by omega)) (f3.2.2.1 _ (by omega)), by rw [eg g (by omega)]; exact e1, by rw [f3.1 3 (by decide)]; exact e31, by rw [f3.1 3 (by decide)]; exact e32, trivial⟩
