/-! READING A FILM: names, kinds, what is said; the class -/
abbrev pTold (F : pF) (v : Nat) : Prop := ¬ (xIdx F.2.1 v F.1.1 = none ∧ xIdx F.2.2.1 v F.1.2.2.1 = none)
def pNew (q : xTok) (F : pF) (s : pS) : pS := if pNm q s.1 then (if pTold F (q s.1).2.1 then pRef q 3 s else pNext s) else pRef q 1 s
def pThg (q : xTok) (F : pF) (s : pS) : pS := if pNm q s.1 then (if xIdx F.2.1 (q s.1).2.1 F.1.1 = none then pRef q 2 s else pNext s) else pRef q 1 s
def pIs (q : xTok) (s : pS) : pS := if pIsW q 2 s ∨ pIsW q 3 s then pNext s else pRef q 1 s
def pClm (q : xTok) (F : pF) (s : pS) : pS := pIs q (pThg q F s)
def wHr (q : xTok) (fr m : Nat) (s : pS) : Option Nat := if s.2 = 0 ∧ (q s.1).1 = 1 then xIdx (fun i => wCd (fr + i)) (q s.1).2.1 m else none
def pOne (q : xTok) (fr m : Nat) (s : pS) : pS := if wHr q fr m s = none then pRef q 1 s else pNext s
theorem pNew_f {q : xTok} {F : pF} {s : pS} (h : ¬ s.2 = 0) : pNew q F s = s := by
  unfold pNew
  rw [pRef_f h, pRef_f h, pNext_f h]
  split
  · split <;> rfl
  · rfl
theorem pThg_f {q : xTok} {F : pF} {s : pS} (h : ¬ s.2 = 0) : pThg q F s = s := by
  unfold pThg
  rw [pRef_f h, pRef_f h, pNext_f h]
  split
  · split <;> rfl
  · rfl
theorem pIs_f {q : xTok} {s : pS} (h : ¬ s.2 = 0) : pIs q s = s := by
  unfold pIs
  rw [pRef_f h, pNext_f h]
  split <;> rfl
theorem pClm_f {q : xTok} {F : pF} {s : pS} (h : ¬ s.2 = 0) : pClm q F s = s := by
  unfold pClm
  rw [pThg_f h, pIs_f h]
theorem pOne_f {q : xTok} {fr m : Nat} {s : pS} (h : ¬ s.2 = 0) : pOne q fr m s = s := by
  unfold pOne
  rw [pRef_f h, pNext_f h]
  split <;> rfl
theorem oI_m1 {o : Option Nat} (h : ∀ i, o = some i → i < 1000) : oI o = -1 ↔ o = none := by
  cases o with
  | none => exact ⟨fun _ => rfl, fun _ => rfl⟩
  | some i => exact ⟨fun z => absurd z (nI_ne_m1 (by have := h i rfl; omega)), fun z => by cases z⟩
theorem oI_x {α : Type} [DecidableEq α] {f : Nat → α} {v : α} {n : Nat} (hn : n ≤ 6) : oI (xIdx f v n) = -1 ↔ xIdx f v n = none := oI_m1 (fun i h => by have := (xIdx_some n h).1; omega)
theorem CFm.tfr {R R' : xTR} {I I' : xTI} {J J' : xTJ} {g : Nat} {F : pF} (h : CFm I J g F) (hg : 7 ≤ g) (f : TFr R I J R' I' J') : CFm I' J' g F :=
  h.congr (by rw [f.1 g (by omega)]) (by rw [f.1 g (by omega)]) (by rw [f.1 g (by omega)]) (fun j _ _ => f.1 _ (by omega)) (f.2.2.1 _ (by omega)) (f.2.2.1 _ (by omega))
theorem isFilm.tfr {S : xTS} {R R' : xTR} {I I' : xTI} {J J' : xTJ} {g : Nat} (h : isFilm S R g) (hg : 7 ≤ g) (f : TFr R I J R' I' J') : isFilm S R' g := by
  obtain ⟨a0, a1, a2, a3, a4, a5, a6, a7, a8, b4, b5, b6, b7, b8, b9, b10, b11⟩ := h
  have e : ∀ k, R' g k = R g k := fun k => f.2.2.2 g k (Or.inl (by omega))
  exact ⟨a0, a1, a2, a3, a4, a5, a6, a7, a8, (e _).trans b4, (e _).trans b5, (e _).trans b6, (e _).trans b7, (e _).trans b8, (e _).trans b9, (e _).trans b10, (e _).trans b11⟩
theorem c_X7_newName {S : xTS} {R : xTR} {I : xTI} {J : xTJ} {post : xPost} (hS : fixd S R) {tp : Nat → Nat} {n : Nat} (T : CTp I tp n) {s : pS} (A : TAt R I J tp n s) {g : Nat} (hg : 7 ≤ g) (hF : isFilm S R g) {F : pF} (ok : FOk F) (C : CFm I J g F) (hp : ∀ v R' I' J', TFr R I J R' I' J' → TAt R' I' J' tp n (pNew (tTok tp n) F s) → ((pNew (tTok tp n) F s).2 = 0 → s.2 = 0 ∧ v = Int64.ofNat ((tTok tp n) s.1).2.1 ∧ ((tTok tp n) s.1).2.1 < 2 ^ 40 ∧ ¬ pTold F ((tTok tp n) s.1).2.1) → post (some (.long v)) S R' I' J') : xSpec 6 yX7_newName cX7_newName 4 (some .long) 0 0 [.ref 1, .ref g] S R I J post := by
  refine xSpec_of mt_X7_newName (Nat.le_of_ble_eq_true rfl) (fun G C0 hN hR E hI hZ => ?_)
  change XX G 0 0 0 [some (.ref 1), some (.ref g), none, none] [] S R I J
  have s1 := hS.sTape
  have s2 := hS.sSigns
  have r0 := hS.rSigns
  obtain ⟨t1, t2, t3⟩ := id T
  have a8 := A.1
  have hs2 := A.2.1
  have hv := TAt.val (R := R) (J := J) (s := s) T
  have hk5 := kC_lt (tTok tp n s.1).1
  have kk := kC_is (tTok tp n s.1).1
  have zg := hF.1
  have hJ : pNm (tTok tp n) s.1 → s.2 = 0 → J 1 6 = Int64.ofNat (tTok tp n s.1).2.1 ∧ (tTok tp n s.1).2.1 < 2 ^ 40 := fun z z0 => ⟨((A.2.2.2 z0).2.2.2.1 z.1).1, hv.1 z.1⟩
  have x1 : pNm (tTok tp n) s.1 → s.2 = 0 → xIdx (J (g + 1)) (J 1 6) F.1.1 = xIdx F.2.1 (tTok tp n s.1).2.1 F.1.1 := fun z z0 => by
    rw [(hJ z z0).1]
    exact xIdx_long (hJ z z0).2 _ (fun i hi => ⟨C.2.2.2.1 i hi, ok.2.2.2.2.1 i hi⟩)
  have x2 : pNm (tTok tp n) s.1 → s.2 = 0 → xIdx (J (g + 2)) (J 1 6) F.1.2.2.1 = xIdx F.2.2.1 (tTok tp n s.1).2.1 F.1.2.2.1 := fun z z0 => by
    rw [(hJ z z0).1]
    exact xIdx_long (hJ z z0).2 _ (fun i hi => ⟨C.2.2.2.2.1 i hi, ok.2.2.2.2.2.1 i hi⟩)
  have h43 : ∀ I1, TFr R I J R I1 J → ∀ s1, TAt R I1 J tp n s1 → pNext s1 = pNew (tTok tp n) F s → XX G 0 0 43 [some (.ref 1), some (.ref g), some (.long (J 1 6)), none] [] S R I1 J := by
    intro I1 f1 s1 A1 e1
    refine x_aload_n C0 rfl dX7_newName_43 ?_
    refine x_callV [] C0 hN rfl (xRf_of hR (by decide) (Nat.zero_le _) (Nat.zero_le _)) mv_X9_step wm_X7_93 dX7_newName_44 (by assumption) rfl rfl (Nat.le_of_ble_eq_true rfl) (c_stepA (hS.tfr f1) (T.tfr f1) A1 (fun R2 I2 J2 f2 A2 => ?_))
    refine x_lload_n C0 rfl dX7_newName_47 ?_
    refine x_lret C0 E (by decide) (by decide) dX7_newName_48 ?_
    rw [e1] at A2
    refine hp _ R2 I2 J2 (f1.trans f2) A2 (fun z => ?_)
    have z0 : s.2 = 0 := Decidable.of_not_not (fun y => y (by rw [pNew_f y] at z; exact z))
    unfold pNew at z
    by_cases zn : pNm (tTok tp n) s.1
    · rw [if_pos zn] at z
      by_cases zt : pTold F (tTok tp n s.1).2.1
      · rw [if_pos zt] at z; exact absurd z (pRef_ne (by decide))
      · exact ⟨z0, (hJ zn z0).1, (hJ zn z0).2, zt⟩
    · rw [if_neg zn] at z; exact absurd z (pRef_ne (by decide))
  refine x_aload_n C0 rfl dX7_newName_0 ?_
  refine x_getJ C0 wf_X7_157 (by assumption) rfl dX7_newName_1 ?_
  refine x_lstore_n (L' := [_, _, _, _]) C0 hN (by decide) rfl dX7_newName_4 ?_
  refine x_aload_n C0 rfl dX7_newName_5 ?_
  refine x_callV [] C0 hN rfl (xRf_of hR (by decide) (Nat.zero_le _) (Nat.zero_le _)) mv_X9_isName wm_X7_161 dX7_newName_6 (by assumption) rfl rfl (Nat.le_of_ble_eq_true rfl) (c_X9_isName hS T A (fun g6 => ?_) (fun g6 => ?_))
  · refine x_if_ne (tgt := 20) C0 (by decide) dX7_newName_9 (fun _ => ?_) (fun hkk => absurd hkk (by decide))
    refine x_aload_n C0 rfl dX7_newName_20 ?_
    refine x_lload_n C0 rfl dX7_newName_21 ?_
    refine x_callV [_] C0 hN rfl (xRf_of hR (by decide) (Nat.zero_le _) (Nat.zero_le _)) mv_X2_thingNamed wm_X7_164 dX7_newName_22 (by assumption) rfl rfl (Nat.le_of_ble_eq_true rfl) (c_X2_thingNamed hF ok C ?_)
    refine x_iconst (v := -1) C0 rfl dX7_newName_25 ?_
    refine x_icmp_ne (tgt := 38) C0 (by decide) dX7_newName_26 (fun g26 => ?_) (fun g26 => ?_)
    · refine x_aload_n C0 rfl dX7_newName_38 ?_
      refine x_iconst (v := nI 3) C0 rfl dX7_newName_39 ?_
      refine x_callV [_] C0 hN rfl (xRf_of hR (by decide) (Nat.zero_le _) (Nat.zero_le _)) mv_X9_refuse wm_X7_78 dX7_newName_40 (by assumption) rfl rfl (Nat.le_of_ble_eq_true rfl) (c_X9_refuse hS T A (by decide) (by decide) (fun I1 f1 A1 => ?_))
      refine h43 I1 f1 _ A1 ?_
      rw [pNext_ref (by decide)]
      by_cases z0 : s.2 = 0
      · have zn := g6 z0
        unfold pNew
        rw [if_pos zn, if_pos (fun z => g26 ((oI_x ok.1).mpr (by rw [x1 zn z0]; exact z.1)))]
      · rw [pRef_f z0, pNew_f z0]
    · refine x_aload_n C0 rfl dX7_newName_29 ?_
      refine x_lload_n C0 rfl dX7_newName_30 ?_
      refine x_callV [_] C0 hN rfl (xRf_of hR (by decide) (Nat.zero_le _) (Nat.zero_le _)) mv_X2_watcherNamed wm_X7_168 dX7_newName_31 (by assumption) rfl rfl (Nat.le_of_ble_eq_true rfl) (c_X2_watcherNamed hF ok C ?_)
      refine x_iconst (v := -1) C0 rfl dX7_newName_34 ?_
      refine x_icmp_eq (tgt := 43) C0 (by decide) dX7_newName_35 (fun g35 => ?_) (fun g35 => ?_)
      · refine h43 I TFr.rf s A ?_
        by_cases z0 : s.2 = 0
        · have zn := g6 z0
          unfold pNew
          rw [if_pos zn, if_neg (fun z => z ⟨by rw [← x1 zn z0]; exact (oI_x ok.1).mp g26, by rw [← x2 zn z0]; exact (oI_x ok.2.2.1).mp g35⟩)]
        · rw [pNext_f z0, pNew_f z0]
      · refine x_aload_n C0 rfl dX7_newName_38 ?_
        refine x_iconst (v := nI 3) C0 rfl dX7_newName_39 ?_
        refine x_callV [_] C0 hN rfl (xRf_of hR (by decide) (Nat.zero_le _) (Nat.zero_le _)) mv_X9_refuse wm_X7_78 dX7_newName_40 (by assumption) rfl rfl (Nat.le_of_ble_eq_true rfl) (c_X9_refuse hS T A (by decide) (by decide) (fun I1 f1 A1 => ?_))
        refine h43 I1 f1 _ A1 ?_
        rw [pNext_ref (by decide)]
        by_cases z0 : s.2 = 0
        · have zn := g6 z0
          unfold pNew
          rw [if_pos zn, if_pos (fun z => g35 ((oI_x ok.2.2.1).mpr (by rw [x2 zn z0]; exact z.2)))]
        · rw [pRef_f z0, pNew_f z0]
  · refine x_if_ne (tgt := 20) C0 (by decide) dX7_newName_9 (fun hkk => absurd (by decide) hkk) (fun _ => ?_)
    refine x_aload_n C0 rfl dX7_newName_12 ?_
    refine x_iconst (v := nI 1) C0 rfl dX7_newName_13 ?_
    refine x_callV [_] C0 hN rfl (xRf_of hR (by decide) (Nat.zero_le _) (Nat.zero_le _)) mv_X9_refuse wm_X7_78 dX7_newName_14 (by assumption) rfl rfl (Nat.le_of_ble_eq_true rfl) (c_X9_refuse hS T A (by decide) (by decide) (fun I1 f1 A1 => ?_))
    refine x_goto (tgt := 43) C0 (by decide) dX7_newName_17 ?_
    refine h43 I1 f1 _ A1 ?_
    rw [pNext_ref (by decide)]
    by_cases z0 : s.2 = 0
    · unfold pNew
      rw [if_neg (g6 z0)]
    · rw [pRef_f z0, pNew_f z0]
theorem wHr_some {q : xTok} {fr m i : Nat} {s : pS} (hi : i < m) (hm : fr + m ≤ 26) (h : pIsW q (fr + i) s) : wHr q fr m s = some i := by
  unfold wHr
  rw [if_pos ⟨h.1, h.2.1⟩]
  cases e : xIdx (fun i => wCd (fr + i)) (q s.1).2.1 m with
  | none => exact absurd h.2.2.symm (xIdx_none m e i hi)
  | some j =>
    obtain ⟨h1, h2⟩ := xIdx_some m e
    have := wCd_inj (fr + j) (by omega) (fr + i) (by omega) (h2.trans h.2.2)
    rw [show j = i by omega]
theorem wHr_none {q : xTok} {fr m : Nat} {s : pS} (h : ∀ i, i < m → ¬ pIsW q (fr + i) s) : wHr q fr m s = none := by
  unfold wHr
  split
  · rename_i g
    cases e : xIdx (fun i => wCd (fr + i)) (q s.1).2.1 m with
    | none => rfl
    | some j =>
      obtain ⟨h1, h2⟩ := xIdx_some m e
      exact absurd ⟨g.1, g.2, h2.symm⟩ (h j h1)
  · rfl
theorem wHr_is {q : xTok} {fr m i : Nat} {s : pS} (h : wHr q fr m s = some i) : i < m ∧ pIsW q (fr + i) s := by
  unfold wHr at h
  split at h
  · rename_i g
    obtain ⟨h1, h2⟩ := xIdx_some m h
    exact ⟨h1, g.1, g.2, h2.symm⟩
  · cases h
theorem c_X7_readKind {S : xTS} {R : xTR} {I : xTI} {J : xTJ} {post : xPost} (hS : fixd S R) {tp : Nat → Nat} {n : Nat} (T : CTp I tp n) {s : pS} (A : TAt R I J tp n s) (hp : ∀ v R' I' J', TFr R I J R' I' J' → TAt R' I' J' tp n (pOne (tTok tp n) 15 4 s) → ((pOne (tTok tp n) 15 4 s).2 = 0 → s.2 = 0 ∧ ∃ i, i < 4 ∧ v = nI i ∧ wHr (tTok tp n) 15 4 s = some i) → post (some (.int v)) S R' I' J') : xSpec 6 yX7_readKind cX7_readKind 2 (some .int) 0 0 [.ref 1] S R I J post := by
  refine xSpec_of mt_X7_readKind (Nat.le_of_ble_eq_true rfl) (fun G C0 hN hR E hI hZ => ?_)
  change XX G 0 0 0 [some (.ref 1), none] [] S R I J
  have s1 := hS.sTape
  have s2 := hS.sSigns
  have r0 := hS.rSigns
  obtain ⟨t1, t2, t3⟩ := id T
  have h67 : ∀ I1 v, TFr R I J R I1 J → ∀ s1, TAt R I1 J tp n s1 → pNext s1 = pOne (tTok tp n) 15 4 s → ((pOne (tTok tp n) 15 4 s).2 = 0 → s.2 = 0 ∧ ∃ i, i < 4 ∧ v = nI i ∧ wHr (tTok tp n) 15 4 s = some i) → XX G 0 0 67 [some (.ref 1), some (.int v)] [] S R I1 J := by
    intro I1 v f1 s1 A1 e1 hv1
    refine x_aload_n C0 rfl dX7_readKind_67 ?_
    refine x_callV [] C0 hN rfl (xRf_of hR (by decide) (Nat.zero_le _) (Nat.zero_le _)) mv_X9_step wm_X7_93 dX7_readKind_68 (by assumption) rfl rfl (Nat.le_of_ble_eq_true rfl) (c_stepA (hS.tfr f1) (T.tfr f1) A1 (fun R2 I2 J2 f2 A2 => ?_))
    refine x_iload_n C0 rfl dX7_readKind_71 ?_
    refine x_iret C0 E (by decide) (by decide) dX7_readKind_72 ?_
    rw [e1] at A2
    exact hp _ R2 I2 J2 (f1.trans f2) A2 hv1
  refine x_iconst (v := -1) C0 rfl dX7_readKind_0 ?_
  refine x_istore_n (L' := [_, _]) C0 hN (by decide) rfl dX7_readKind_1 ?_
  refine x_aload_n C0 rfl dX7_readKind_2 ?_
  refine x_word 15 C0 (by decide) wg_X7_171 dX7_readKind_3 ?_
  refine x_callV [_] C0 hN rfl (xRf_of hR (by decide) (Nat.zero_le _) (Nat.zero_le _)) mv_X9_isWord wm_X7_45 dX7_readKind_6 (by assumption) rfl rfl (Nat.le_of_ble_eq_true rfl) (c_X9_isWord hS T A (by decide) (fun g6 => ?_) (fun g6 => ?_))
  · refine x_if_eq (tgt := 17) C0 (by decide) dX7_readKind_9 (fun hkk => absurd hkk (by decide)) (fun _ => ?_)
    refine x_iconst (v := nI 0) C0 rfl dX7_readKind_12 ?_
    refine x_istore_n (L' := [_, _]) C0 hN (by decide) rfl dX7_readKind_13 ?_
    refine x_goto (tgt := 67) C0 (by decide) dX7_readKind_14 ?_
    have e := wHr_some (q := tTok tp n) (fr := 15) (m := 4) (i := 0) (by decide) (by decide) g6
    exact h67 I _ TFr.rf s A (by unfold pOne; rw [e, if_neg (fun z => by cases z)]) (fun _ => ⟨g6.1, 0, by decide, rfl, e⟩)
  · refine x_if_eq (tgt := 17) C0 (by decide) dX7_readKind_9 (fun _ => ?_) (fun hkk => absurd (by decide) hkk)
    refine x_aload_n C0 rfl dX7_readKind_17 ?_
    refine x_word 16 C0 (by decide) wg_X7_174 dX7_readKind_18 ?_
    refine x_callV [_] C0 hN rfl (xRf_of hR (by decide) (Nat.zero_le _) (Nat.zero_le _)) mv_X9_isWord wm_X7_45 dX7_readKind_21 (by assumption) rfl rfl (Nat.le_of_ble_eq_true rfl) (c_X9_isWord hS T A (by decide) (fun g21 => ?_) (fun g21 => ?_))
    · refine x_if_eq (tgt := 32) C0 (by decide) dX7_readKind_24 (fun hkk => absurd hkk (by decide)) (fun _ => ?_)
      refine x_iconst (v := nI 1) C0 rfl dX7_readKind_27 ?_
      refine x_istore_n (L' := [_, _]) C0 hN (by decide) rfl dX7_readKind_28 ?_
      refine x_goto (tgt := 67) C0 (by decide) dX7_readKind_29 ?_
      have e := wHr_some (q := tTok tp n) (fr := 15) (m := 4) (i := 1) (by decide) (by decide) g21
      exact h67 I _ TFr.rf s A (by unfold pOne; rw [e, if_neg (fun z => by cases z)]) (fun _ => ⟨g21.1, 1, by decide, rfl, e⟩)
    · refine x_if_eq (tgt := 32) C0 (by decide) dX7_readKind_24 (fun _ => ?_) (fun hkk => absurd (by decide) hkk)
      refine x_aload_n C0 rfl dX7_readKind_32 ?_
      refine x_word 17 C0 (by decide) wg_X7_177 dX7_readKind_33 ?_
      refine x_callV [_] C0 hN rfl (xRf_of hR (by decide) (Nat.zero_le _) (Nat.zero_le _)) mv_X9_isWord wm_X7_45 dX7_readKind_36 (by assumption) rfl rfl (Nat.le_of_ble_eq_true rfl) (c_X9_isWord hS T A (by decide) (fun g36 => ?_) (fun g36 => ?_))
      · refine x_if_eq (tgt := 47) C0 (by decide) dX7_readKind_39 (fun hkk => absurd hkk (by decide)) (fun _ => ?_)
        refine x_iconst (v := nI 2) C0 rfl dX7_readKind_42 ?_
        refine x_istore_n (L' := [_, _]) C0 hN (by decide) rfl dX7_readKind_43 ?_
        refine x_goto (tgt := 67) C0 (by decide) dX7_readKind_44 ?_
        have e := wHr_some (q := tTok tp n) (fr := 15) (m := 4) (i := 2) (by decide) (by decide) g36
        exact h67 I _ TFr.rf s A (by unfold pOne; rw [e, if_neg (fun z => by cases z)]) (fun _ => ⟨g36.1, 2, by decide, rfl, e⟩)
      · refine x_if_eq (tgt := 47) C0 (by decide) dX7_readKind_39 (fun _ => ?_) (fun hkk => absurd (by decide) hkk)
        refine x_aload_n C0 rfl dX7_readKind_47 ?_
        refine x_word 18 C0 (by decide) wg_X7_180 dX7_readKind_48 ?_
        refine x_callV [_] C0 hN rfl (xRf_of hR (by decide) (Nat.zero_le _) (Nat.zero_le _)) mv_X9_isWord wm_X7_45 dX7_readKind_51 (by assumption) rfl rfl (Nat.le_of_ble_eq_true rfl) (c_X9_isWord hS T A (by decide) (fun g51 => ?_) (fun g51 => ?_))
        · refine x_if_eq (tgt := 62) C0 (by decide) dX7_readKind_54 (fun hkk => absurd hkk (by decide)) (fun _ => ?_)
          refine x_iconst (v := nI 3) C0 rfl dX7_readKind_57 ?_
          refine x_istore_n (L' := [_, _]) C0 hN (by decide) rfl dX7_readKind_58 ?_
          refine x_goto (tgt := 67) C0 (by decide) dX7_readKind_59 ?_
          have e := wHr_some (q := tTok tp n) (fr := 15) (m := 4) (i := 3) (by decide) (by decide) g51
          exact h67 I _ TFr.rf s A (by unfold pOne; rw [e, if_neg (fun z => by cases z)]) (fun _ => ⟨g51.1, 3, by decide, rfl, e⟩)
        · refine x_if_eq (tgt := 62) C0 (by decide) dX7_readKind_54 (fun _ => ?_) (fun hkk => absurd (by decide) hkk)
          refine x_aload_n C0 rfl dX7_readKind_62 ?_
          refine x_iconst (v := nI 1) C0 rfl dX7_readKind_63 ?_
          refine x_callV [_] C0 hN rfl (xRf_of hR (by decide) (Nat.zero_le _) (Nat.zero_le _)) mv_X9_refuse wm_X7_78 dX7_readKind_64 (by assumption) rfl rfl (Nat.le_of_ble_eq_true rfl) (c_X9_refuse hS T A (by decide) (by decide) (fun I1 f1 A1 => ?_))
          have e := wHr_none (q := tTok tp n) (fr := 15) (m := 4) (s := s) (fun i hi => by
            rcases (show i = 0 ∨ i = 1 ∨ i = 2 ∨ i = 3 by omega) with rfl | rfl | rfl | rfl <;> assumption)
          exact h67 I1 _ f1 _ A1 (by unfold pOne; rw [e, if_pos rfl, pNext_ref (by decide)]) (fun z => by
            unfold pOne at z
            rw [e, if_pos rfl] at z
            exact absurd z (pRef_ne (by decide)))
theorem c_X7_readClaim {S : xTS} {R : xTR} {I : xTI} {J : xTJ} {post : xPost} (hS : fixd S R) {tp : Nat → Nat} {n : Nat} (T : CTp I tp n) {s : pS} (A : TAt R I J tp n s) {g : Nat} (hg : 7 ≤ g) (hF : isFilm S R g) {F : pF} (ok : FOk F) (C : CFm I J g F) (hp : ∀ v R' I' J', TFr R I J R' I' J' → TAt R' I' J' tp n (pClm (tTok tp n) F s) → ((pClm (tTok tp n) F s).2 = 0 → s.2 = 0 ∧ ∃ t, t < F.1.1 ∧ (xIdx F.2.1 (tTok tp n s.1).2.1 F.1.1) = some t ∧ v = nI (2 * t + (if pIsW (tTok tp n) 2 (pThg (tTok tp n) F s) then 1 else 0))) → post (some (.int v)) S R' I' J') : xSpec 6 yX7_readClaim cX7_readClaim 4 (some .int) 0 0 [.ref 1, .ref g] S R I J post := by
  refine xSpec_of mt_X7_readClaim (Nat.le_of_ble_eq_true rfl) (fun G C0 hN hR E hI hZ => ?_)
  change XX G 0 0 0 [some (.ref 1), some (.ref g), none, none] [] S R I J
  have s1 := hS.sTape
  have s2 := hS.sSigns
  have r0 := hS.rSigns
  obtain ⟨t1, t2, t3⟩ := id T
  have a8 := A.1
  have hs2 := A.2.1
  have hv := TAt.val (R := R) (J := J) (s := s) T
  have hk5 := kC_lt (tTok tp n s.1).1
  have kk := kC_is (tTok tp n s.1).1
  have zg := hF.1
  have hJ : pNm (tTok tp n) s.1 → s.2 = 0 → J 1 6 = Int64.ofNat (tTok tp n s.1).2.1 ∧ (tTok tp n s.1).2.1 < 2 ^ 40 := fun z z0 => ⟨((A.2.2.2 z0).2.2.2.1 z.1).1, hv.1 z.1⟩
  have x1 : pNm (tTok tp n) s.1 → s.2 = 0 → xIdx (J (g + 1)) (J 1 6) F.1.1 = xIdx F.2.1 (tTok tp n s.1).2.1 F.1.1 := fun z z0 => by
    rw [(hJ z z0).1]
    exact xIdx_long (hJ z z0).2 _ (fun i hi => ⟨C.2.2.2.1 i hi, ok.2.2.2.2.1 i hi⟩)
  have x2 : pNm (tTok tp n) s.1 → s.2 = 0 → xIdx (J (g + 2)) (J 1 6) F.1.2.2.1 = xIdx F.2.2.1 (tTok tp n s.1).2.1 F.1.2.2.1 := fun z z0 => by
    rw [(hJ z z0).1]
    exact xIdx_long (hJ z z0).2 _ (fun i hi => ⟨C.2.2.2.2.1 i hi, ok.2.2.2.2.2.1 i hi⟩)
  have hth : ∀ z : (pClm (tTok tp n) F s).2 = 0, (pThg (tTok tp n) F s).2 = 0 ∧ s.2 = 0 ∧ pNm (tTok tp n) s.1 ∧ ∃ t, xIdx F.2.1 (tTok tp n s.1).2.1 F.1.1 = some t := by
    intro z
    have z1 : (pThg (tTok tp n) F s).2 = 0 := Decidable.of_not_not (fun y => y (by unfold pClm at z; rw [pIs_f y] at z; exact z))
    have z0 : s.2 = 0 := Decidable.of_not_not (fun y => y (by rw [pThg_f y] at z1; exact z1))
    have z2 := z1
    unfold pThg at z2
    by_cases zn : pNm (tTok tp n) s.1
    · rw [if_pos zn] at z2
      cases zt : xIdx F.2.1 (tTok tp n s.1).2.1 F.1.1 with
      | none => rw [if_pos zt] at z2; exact absurd z2 (pRef_ne (by decide))
      | some t => exact ⟨z1, z0, zn, t, rfl⟩
    · rw [if_neg zn] at z2; exact absurd z2 (pRef_ne (by decide))
  have h65 : ∀ R1 I1 J1 y, TFr R I J R1 I1 J1 → ∀ s1, TAt R1 I1 J1 tp n s1 → pNext s1 = pClm (tTok tp n) F s → ((pClm (tTok tp n) F s).2 = 0 → y = if pIsW (tTok tp n) 2 (pThg (tTok tp n) F s) then 1 else 0) → XX G 0 0 65 [some (.ref 1), some (.ref g), some (.int (oI (xIdx (J (g + 1)) (J 1 6) F.1.1))), some (.int y)] [] S R1 I1 J1 := by
    intro R1 I1 J1 y f1 s1 A1 e1 hy
    have s1 := (hS.tfr f1).sTape
    refine x_aload_n C0 rfl dX7_readClaim_65 ?_
    refine x_callV [] C0 hN rfl (xRf_of hR (by decide) (Nat.zero_le _) (Nat.zero_le _)) mv_X9_step wm_X7_93 dX7_readClaim_66 (by assumption) rfl rfl (Nat.le_of_ble_eq_true rfl) (c_stepA (hS.tfr f1) (T.tfr f1) A1 (fun R2 I2 J2 f2 A2 => ?_))
    refine x_iload_n C0 rfl dX7_readClaim_69 ?_
    refine x_iload_n C0 rfl dX7_readClaim_70 ?_
    refine x_callSN [_, _] C0 (xRf_of hR (by decide) (Nat.zero_le _) (Nat.zero_le _)) ms_X11_claim wm_X7_189 dX7_readClaim_71 rfl rfl (Nat.le_of_ble_eq_true rfl) (c_X11_claim  ?_)
    refine x_iret C0 E (by decide) (by decide) dX7_readClaim_74 ?_
    rw [e1] at A2
    refine hp _ R2 I2 J2 (f1.trans f2) A2 (fun z => ?_)
    obtain ⟨z1, z0, zn, t, et⟩ := hth z
    refine ⟨z0, t, (xIdx_some _ et).1, et, ?_⟩
    rw [x1 zn z0, et, hy z]
    show 2 * nI t + _ = _
    split
    · exact two_nI t 1
    · exact two_nI t 0
  have h34 : ∀ I1, TFr R I J R I1 J → ∀ s1, TAt R I1 J tp n s1 → pNext s1 = pThg (tTok tp n) F s → XX G 0 0 34 [some (.ref 1), some (.ref g), some (.int (oI (xIdx (J (g + 1)) (J 1 6) F.1.1))), none] [] S R I1 J := by
    intro I1 f1 s1 A1 e1
    refine x_aload_n C0 rfl dX7_readClaim_34 ?_
    refine x_callV [] C0 hN rfl (xRf_of hR (by decide) (Nat.zero_le _) (Nat.zero_le _)) mv_X9_step wm_X7_93 dX7_readClaim_35 (by assumption) rfl rfl (Nat.le_of_ble_eq_true rfl) (c_stepA (hS.tfr f1) (T.tfr f1) A1 (fun R2 I2 J2 f2 A2 => ?_))
    rw [e1] at A2
    have s1 := (hS.tfr (f1.trans f2)).sTape
    refine x_aload_n C0 rfl dX7_readClaim_38 ?_
    refine x_word 2 C0 (by decide) wg_X7_183 dX7_readClaim_39 ?_
    refine x_callV [_] C0 hN rfl (xRf_of hR (by decide) (Nat.zero_le _) (Nat.zero_le _)) mv_X9_isWord wm_X7_45 dX7_readClaim_42 (by assumption) rfl rfl (Nat.le_of_ble_eq_true rfl) (c_X9_isWord (hS.tfr (f1.trans f2)) (T.tfr (f1.trans f2)) A2 (by decide) (fun g42 => ?_) (fun g42 => ?_))
    · refine x_istore_n (L' := [_, _, _, _]) C0 hN (by decide) rfl dX7_readClaim_45 ?_
      refine x_iload_n C0 rfl dX7_readClaim_46 ?_
      refine x_if_ne (tgt := 65) C0 (by decide) dX7_readClaim_47 (fun _ => ?_) (fun hkk => absurd hkk (by decide))
      exact h65 R2 I2 J2 _ (f1.trans f2) _ A2 (by unfold pClm pIs; rw [if_pos (Or.inl g42)]) (fun _ => by rw [if_pos g42])
    · refine x_istore_n (L' := [_, _, _, _]) C0 hN (by decide) rfl dX7_readClaim_45 ?_
      refine x_iload_n C0 rfl dX7_readClaim_46 ?_
      refine x_if_ne (tgt := 65) C0 (by decide) dX7_readClaim_47 (fun hkk => absurd (by decide) hkk) (fun _ => ?_)
      refine x_aload_n C0 rfl dX7_readClaim_50 ?_
      refine x_word 3 C0 (by decide) wg_X7_186 dX7_readClaim_51 ?_
      refine x_callV [_] C0 hN rfl (xRf_of hR (by decide) (Nat.zero_le _) (Nat.zero_le _)) mv_X9_isWord wm_X7_45 dX7_readClaim_54 (by assumption) rfl rfl (Nat.le_of_ble_eq_true rfl) (c_X9_isWord (hS.tfr (f1.trans f2)) (T.tfr (f1.trans f2)) A2 (by decide) (fun g54 => ?_) (fun g54 => ?_))
      · refine x_if_ne (tgt := 65) C0 (by decide) dX7_readClaim_57 (fun _ => ?_) (fun hkk => absurd hkk (by decide))
        exact h65 R2 I2 J2 _ (f1.trans f2) _ A2 (by unfold pClm pIs; rw [if_pos (Or.inr g54)]) (fun _ => by rw [if_neg g42])
      · refine x_if_ne (tgt := 65) C0 (by decide) dX7_readClaim_57 (fun hkk => absurd (by decide) hkk) (fun _ => ?_)
        refine x_aload_n C0 rfl dX7_readClaim_60 ?_
        refine x_iconst (v := nI 1) C0 rfl dX7_readClaim_61 ?_
        refine x_callV [_] C0 hN rfl (xRf_of hR (by decide) (Nat.zero_le _) (Nat.zero_le _)) mv_X9_refuse wm_X7_78 dX7_readClaim_62 (by assumption) rfl rfl (Nat.le_of_ble_eq_true rfl) (c_X9_refuse (hS.tfr (f1.trans f2)) (T.tfr (f1.trans f2)) A2 (by decide) (by decide) (fun I3 f3 A3 => ?_))
        exact h65 R2 I3 J2 _ ((f1.trans f2).trans f3) _ A3 (by unfold pClm pIs; rw [if_neg (fun z => z.elim g42 g54), pNext_ref (by decide)]) (fun z => by
          unfold pClm pIs at z
          rw [if_neg (fun z => z.elim g42 g54)] at z
          exact absurd z (pRef_ne (by decide)))
  refine x_aload_n C0 rfl dX7_readClaim_0 ?_
  refine x_aload_n C0 rfl dX7_readClaim_1 ?_
  refine x_getJ C0 wf_X7_157 (by assumption) rfl dX7_readClaim_2 ?_
  refine x_callV [_] C0 hN rfl (xRf_of hR (by decide) (Nat.zero_le _) (Nat.zero_le _)) mv_X2_thingNamed wm_X7_164 dX7_readClaim_5 (by assumption) rfl rfl (Nat.le_of_ble_eq_true rfl) (c_X2_thingNamed hF ok C ?_)
  refine x_istore_n (L' := [_, _, _, _]) C0 hN (by decide) rfl dX7_readClaim_8 ?_
  refine x_aload_n C0 rfl dX7_readClaim_9 ?_
  refine x_callV [] C0 hN rfl (xRf_of hR (by decide) (Nat.zero_le _) (Nat.zero_le _)) mv_X9_isName wm_X7_161 dX7_readClaim_10 (by assumption) rfl rfl (Nat.le_of_ble_eq_true rfl) (c_X9_isName hS T A (fun g10 => ?_) (fun g10 => ?_))
  · refine x_if_ne (tgt := 24) C0 (by decide) dX7_readClaim_13 (fun _ => ?_) (fun hkk => absurd hkk (by decide))
    refine x_iload_n C0 rfl dX7_readClaim_24 ?_
    refine x_iconst (v := -1) C0 rfl dX7_readClaim_25 ?_
    refine x_icmp_ne (tgt := 34) C0 (by decide) dX7_readClaim_26 (fun g26 => ?_) (fun g26 => ?_)
    · refine h34 I TFr.rf s A ?_
      by_cases z0 : s.2 = 0
      · have zn := g10 z0
        unfold pThg
        rw [if_pos zn, if_neg (fun z => g26 ((oI_x ok.1).mpr (by rw [x1 zn z0]; exact z)))]
      · rw [pNext_f z0, pThg_f z0]
    · refine x_aload_n C0 rfl dX7_readClaim_29 ?_
      refine x_iconst (v := nI 2) C0 rfl dX7_readClaim_30 ?_
      refine x_callV [_] C0 hN rfl (xRf_of hR (by decide) (Nat.zero_le _) (Nat.zero_le _)) mv_X9_refuse wm_X7_78 dX7_readClaim_31 (by assumption) rfl rfl (Nat.le_of_ble_eq_true rfl) (c_X9_refuse hS T A (by decide) (by decide) (fun I1 f1 A1 => ?_))
      refine h34 I1 f1 _ A1 ?_
      rw [pNext_ref (by decide)]
      by_cases z0 : s.2 = 0
      · have zn := g10 z0
        unfold pThg
        rw [if_pos zn, if_pos (by rw [← x1 zn z0]; exact (oI_x ok.1).mp g26)]
      · rw [pRef_f z0, pThg_f z0]
  · refine x_if_ne (tgt := 24) C0 (by decide) dX7_readClaim_13 (fun hkk => absurd (by decide) hkk) (fun _ => ?_)
    refine x_aload_n C0 rfl dX7_readClaim_16 ?_
    refine x_iconst (v := nI 1) C0 rfl dX7_readClaim_17 ?_
    refine x_callV [_] C0 hN rfl (xRf_of hR (by decide) (Nat.zero_le _) (Nat.zero_le _)) mv_X9_refuse wm_X7_78 dX7_readClaim_18 (by assumption) rfl rfl (Nat.le_of_ble_eq_true rfl) (c_X9_refuse hS T A (by decide) (by decide) (fun I1 f1 A1 => ?_))
    refine x_goto (tgt := 34) C0 (by decide) dX7_readClaim_21 ?_
    refine h34 I1 f1 _ A1 ?_
    rw [pNext_ref (by decide)]
    by_cases z0 : s.2 = 0
    · unfold pThg
      rw [if_neg (g10 z0)]
    · rw [pRef_f z0, pThg_f z0]
