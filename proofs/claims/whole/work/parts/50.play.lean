/-! A DEED OF THE EVENING, PLAYED ON THE TRIAL: the class -/
/-- what a line of an evening keeps to: act 0 show, 1 write, 2 cut, 3 talk, 4 again -/
def dOk (T _N V act a v b : Nat) : Prop := act < 5 ∧ (act = 1 → a < 8 ∧ v < T ∧ b < 2) ∧ (act = 2 → a < 8) ∧ (act = 3 → a < V ∧ v < V ∧ a ≠ v)
abbrev dMay (N : Nat) (y : xRow) (act a v : Nat) : Prop := (act = 0 ∧ ¬ y 0 = nI N) ∨ (act = 1 ∧ a < N ∧ y 0 ≤ nI a) ∨ (act = 2 ∧ a < N ∧ y 0 ≤ nI a ∧ ¬ xbit (y 3) a) ∨ (act = 3 ∧ xbit (y 2) a ∧ xbit (y 2) v) ∨ (act = 4 ∧ y 0 = nI N)
def dDo (fl : xRow) (dq : xDq) (T V : Nat) (y : xRow) (act a v b : Nat) : xRow := if act = 0 then (sShowK fl dq (y 0).toNatClampNeg V y).1 else if act = 1 then sWr y a v b else if act = 2 then upd y 3 (y 3 ||| (1 : Int32) <<< (nI a &&& 31)) else if act = 3 then sTalk fl y a v T else sAgain y
def dMask (fl : xRow) (dq : xDq) (V : Nat) (y : xRow) (act : Nat) : Int32 := if act = 0 then (sShowK fl dq (y 0).toNatClampNeg V y).2 else 0
theorem c_X11_play {S : xTS} {R : xTR} {I : xTI} {J : xTJ} {post : xPost} {f T N V : Nat} {fl x : xRow} {lw : Option (List (Nat × Nat))} (hS : fixd S R) (hf : R 0 2 = some f) (C : FCore I f fl lw T N V x) {y : xRow} {e k act a v b : Nat} {w1 w2 : Int32} (wy : WFx y T N V) (rY : RHall I 37 y N) (he : R 0 4 = some e) (hse : S[e]? = some (1, 4) ∧ S[e + 1]? = some (11, 40) ∧ S[e + 2]? = some (11, 40) ∧ S[e + 3]? = some (11, 40) ∧ R e 1 = some (e + 1) ∧ R e 2 = some (e + 2) ∧ R e 3 = some (e + 3)) (hk : k < 40) (hr : ∃ r, r < 1000 ∧ y 1 = nI r) (ok : dOk T N V act a v b) (l1 : I (e + 1) k = nI act) (l2 : I (e + 2) k = w1) (l3 : I (e + 3) k = w2) (m2 : act = 1 ∨ act = 2 ∨ act = 3 → w1 = nI a) (m3 : act = 1 → w2 = nI (2 * v + b)) (m4 : act = 3 → w2 = nI v) (h1 : dMay N y act a v → ∀ I', FQ I I' → RHall I' 37 (dDo fl (sDq fl lw) T V y act a v b) N → post (some (.int (dMask fl (sDq fl lw) V y act))) S R I' J) (h0 : ¬ dMay N y act a v → ∀ I', FQ I I' → RHall I' 37 y N → post (some (.int (-1))) S R I' J) : xSpec 5 yX11_play cX11_play 4 (some .int) 0 0 [.ref 0, .int (nI k)] S R I J post := by
  refine xSpec_of mt_X11_play (Nat.le_of_ble_eq_true rfl) (fun G C0 hN hR E hI hZ => ?_)
  change XX G 0 0 0 [some (.ref 0), some (.int (nI k)), none, none] [] S R I J
  obtain ⟨hfm, wl, rF, rH, wx⟩ := id C
  have hF := hS.film hfm
  have hH := hS.hall (q := 33) (by decide)
  have hT6 := wl.2.1
  have hN8 := wl.2.2.2.1
  have hV6 := wl.2.2.2.2.2.1
  have eT : I f 0 = nI T := rF.1.trans wl.1
  have eN : I f 1 = nI N := rF.2.1.trans wl.2.2.1
  have eV : I f 2 = nI V := rF.2.2.1.trans wl.2.2.2.2.1
  have hfh : ∀ i j, i < 9 → j < 4 → f + i ≠ 33 + j := fun i j hi hj => hf_apart 33 (by decide) f hfm i hi j hj
  obtain ⟨fs0, fs1, fs2, fs3, fs4, fs5, fs6, fs7, fs8, fr4, fr5, fr6, fr7, fr8, fr9, fr10, fr11⟩ := id hF
  obtain ⟨hs0, hs1, hs2, hs3, hr4, hr5, hr6⟩ := id hH
  have hT := hS.hall (q := 37) (by decide)
  obtain ⟨hq0, hq1, hq2, hq3, hq4, hq5, hq6⟩ := id hT
  have hf37 : ∀ i j, i < 9 → j < 4 → f + i ≠ 37 + j := fun i j hi hj => hf_apart 37 (by decide) f hfm i hi j hj
  obtain ⟨z0, z1, z2, z3, z4, z5, z6⟩ := hse
  obtain ⟨o5, o1, o2, o3⟩ := ok
  obtain ⟨j0, hj0, ej⟩ := wy.1
  have hX : ∀ a2, a2 < 8 → ((0 ≤ nI a2 ∧ nI a2 < I f 1) ∧ I 37 0 ≤ nI a2 ↔ a2 < N ∧ y 0 ≤ nI a2) := fun a2 h => by
    rw [rY.1, eN]
    exact ⟨fun q => ⟨(nI_lt_iff (by omega) (by omega)).mp q.1.2, q.2⟩, fun q => ⟨⟨nI_pos' (by omega), nI_lt q.1 (by omega)⟩, q.2⟩⟩
  have hc0 : act = 0 → XX G 0 0 64 [some (.ref 0), some (.int (nI k)), some (.int w1), some (.int w2)] [] S R I J := by
    intro ea
    subst ea
    unfold dMay at h1 h0
    unfold dDo dMask at h1
    rw [if_pos rfl, if_pos rfl] at h1
    refine x_aload_n C0 rfl dX11_play_64 ?_
    refine x_getR C0 wf_X11_26 (fixd.k0 hS) rfl rfl hf dX11_play_65 ?_
    refine x_aload_n C0 rfl dX11_play_68 ?_
    refine x_getR C0 wf_X11_50 (fixd.k0 hS) rfl rfl (fixd.trial hS) dX11_play_69 ?_
    refine x_callV [_] C0 hN rfl (xRf_of hR (by decide) (Nat.zero_le _) (Nat.zero_le _)) mv_X2_screen wm_X11_179 dX11_play_72 (by assumption) rfl rfl (Nat.le_of_ble_eq_true rfl) (c_X2_screen hF hT hf37 wl wy rF rY (fun q => ?_) (fun k2 I2 hk2 q0 s2 r2 => ?_))
    · refine x_iret C0 E (by decide) (by decide) dX11_play_75 ?_
      exact h0 (fun z => by
        rcases z with z | z | z | z | z
        · exact z.2 q
        all_goals exact absurd z.1 (by decide)) I FQ.rf rY
    · refine x_iret C0 E (by decide) (by decide) dX11_play_75 ?_
      rw [q0, nI_clamp (by omega)] at h1
      exact h1 (Or.inl ⟨rfl, fun q => absurd ((nI_eq (by omega) (by omega)).mp q) (by omega)⟩) I2 (FQ.hall s2) r2
  have hn89 : ∀ I2, post (some (.int (-1))) S R I2 J → XX G 0 0 89 [some (.ref 0), some (.int (nI k)), some (.int w1), some (.int w2)] [.int 0] S R I2 J := by
    intro I2 h
    refine x_if_eq (tgt := 96) C0 (by decide) dX11_play_89 (fun _ => ?_) (fun hkk => absurd (by decide) hkk)
    refine x_iconst (v := -1) C0 rfl dX11_play_96 ?_
    refine x_iret C0 E (by decide) (by decide) dX11_play_97 ?_
    exact h
  have hy89 : ∀ I2, post (some (.int 0)) S R I2 J → XX G 0 0 89 [some (.ref 0), some (.int (nI k)), some (.int w1), some (.int w2)] [.int 1] S R I2 J := by
    intro I2 h
    refine x_if_eq (tgt := 96) C0 (by decide) dX11_play_89 (fun hkk => absurd hkk (by decide)) (fun _ => ?_)
    refine x_iconst (v := 0) C0 rfl dX11_play_92 ?_
    refine x_goto (tgt := 97) C0 (by decide) dX11_play_93 ?_
    refine x_iret C0 E (by decide) (by decide) dX11_play_97 ?_
    exact h
  have hc1 : act = 1 → XX G 0 0 76 [some (.ref 0), some (.int (nI k)), some (.int w1), some (.int w2)] [] S R I J := by
    intro ea
    subst ea
    unfold dMay at h1 h0
    unfold dDo dMask at h1
    rw [if_neg (by decide), if_pos rfl, if_neg (by decide)] at h1
    have e1 := m2 (Or.inl rfl)
    have e2 := m3 rfl
    have o9 := o1 rfl
    subst e1
    subst e2
    refine x_aload_n C0 rfl dX11_play_76 ?_
    refine x_getR C0 wf_X11_26 (fixd.k0 hS) rfl rfl hf dX11_play_77 ?_
    refine x_aload_n C0 rfl dX11_play_80 ?_
    refine x_getR C0 wf_X11_50 (fixd.k0 hS) rfl rfl (fixd.trial hS) dX11_play_81 ?_
    refine x_iload_n C0 rfl dX11_play_84 ?_
    refine x_iload_n C0 rfl dX11_play_85 ?_
    refine x_callV [_, _, _] C0 hN rfl (xRf_of hR (by decide) (Nat.zero_le _) (Nat.zero_le _)) mv_X2_rewrite wm_X11_194 dX11_play_86 (by assumption) rfl rfl (Nat.le_of_ble_eq_true rfl) (c_X2_rewrite hF hT (fun z => ?_) (fun k9 e9 hk9 z => ?_) ⟨N, hN8, eN⟩)
    · exact hn89 I (h0 (fun z => by
        rcases z with z | z | z | z | z
        · exact absurd z.1 (by decide)
        · exact absurd ((hX a o9.1).mpr z.2) (by assumption)
        · exact absurd z.1 (by decide)
        · exact absurd z.1 (by decide)
        · exact absurd z.1 (by decide)) I FQ.rf rY)
    · have ek : k9 = a := ((nI_eq (by omega) (by omega)).mp e9).symm
      subst ek
      have zN := ((hX k9 o9.1).mp z).1
      exact hy89 _ (h1 (Or.inr (Or.inl ⟨rfl, (hX k9 o9.1).mp z⟩)) _ FQ.u38 (RHall_wr rY (by omega) hN8))
  have hn110 : ∀ I2, post (some (.int (-1))) S R I2 J → XX G 0 0 110 [some (.ref 0), some (.int (nI k)), some (.int w1), some (.int w2)] [.int 0] S R I2 J := by
    intro I2 h
    refine x_if_eq (tgt := 117) C0 (by decide) dX11_play_110 (fun _ => ?_) (fun hkk => absurd (by decide) hkk)
    refine x_iconst (v := -1) C0 rfl dX11_play_117 ?_
    refine x_iret C0 E (by decide) (by decide) dX11_play_118 ?_
    exact h
  have hy110 : ∀ I2, post (some (.int 0)) S R I2 J → XX G 0 0 110 [some (.ref 0), some (.int (nI k)), some (.int w1), some (.int w2)] [.int 1] S R I2 J := by
    intro I2 h
    refine x_if_eq (tgt := 117) C0 (by decide) dX11_play_110 (fun hkk => absurd hkk (by decide)) (fun _ => ?_)
    refine x_iconst (v := 0) C0 rfl dX11_play_113 ?_
    refine x_goto (tgt := 118) C0 (by decide) dX11_play_114 ?_
    refine x_iret C0 E (by decide) (by decide) dX11_play_118 ?_
    exact h
  have hc2 : act = 2 → XX G 0 0 98 [some (.ref 0), some (.int (nI k)), some (.int w1), some (.int w2)] [] S R I J := by
    intro ea
    subst ea
    unfold dMay at h1 h0
    unfold dDo dMask at h1
    rw [if_neg (by decide), if_neg (by decide), if_pos rfl, if_neg (by decide)] at h1
    have e1 := m2 (Or.inr (Or.inl rfl))
    have o9 := o2 rfl
    subst e1
    refine x_aload_n C0 rfl dX11_play_98 ?_
    refine x_getR C0 wf_X11_26 (fixd.k0 hS) rfl rfl hf dX11_play_99 ?_
    refine x_aload_n C0 rfl dX11_play_102 ?_
    refine x_getR C0 wf_X11_50 (fixd.k0 hS) rfl rfl (fixd.trial hS) dX11_play_103 ?_
    refine x_iload_n C0 rfl dX11_play_106 ?_
    refine x_callV [_, _] C0 hN rfl (xRf_of hR (by decide) (Nat.zero_le _) (Nat.zero_le _)) mv_X2_takeAway wm_X11_198 dX11_play_107 (by assumption) rfl rfl (Nat.le_of_ble_eq_true rfl) (c_X2_takeAway hF hT ⟨N, hN8, eN⟩ (fun k9 e9 hk9 z => ?_) (fun z => ?_) (fun k9 e9 hk9 z zc => ?_))
    · have ek : k9 = a := ((nI_eq (by omega) (by omega)).mp e9).symm
      subst ek
      exact hn110 I (h0 (fun z => by
        rcases z with z | z | z | z | z
        · exact absurd z.1 (by decide)
        · exact absurd z.1 (by decide)
        · exact z.2.2.2 (by rw [← rY.2.2.2.1]; assumption)
        · exact absurd z.1 (by decide)
        · exact absurd z.1 (by decide)) I FQ.rf rY)
    · exact hn110 I (h0 (fun z => by
        rcases z with z | z | z | z | z
        · exact absurd z.1 (by decide)
        · exact absurd z.1 (by decide)
        · exact absurd ((hX a o9).mpr ⟨z.2.1, z.2.2.1⟩) (by assumption)
        · exact absurd z.1 (by decide)
        · exact absurd z.1 (by decide)) I FQ.rf rY)
    · have ek : k9 = a := ((nI_eq (by omega) (by omega)).mp e9).symm
      subst ek
      have zN := (hX k9 o9).mp z
      have zl := zN.1
      refine hy110 _ (h1 (Or.inr (Or.inr (Or.inl ⟨rfl, zN.1, zN.2, by rw [← rY.2.2.2.1]; exact zc⟩))) _ FQ.u37 ?_)
      rw [rY.2.2.2.1]
      exact RHall_fld rY (by omega) hN8
  have hn132 : ∀ I2, post (some (.int (-1))) S R I2 J → XX G 0 0 132 [some (.ref 0), some (.int (nI k)), some (.int w1), some (.int w2)] [.int (-1)] S R I2 J := by
    intro I2 h
    refine x_iconst (v := -1) C0 rfl dX11_play_132 ?_
    refine x_icmp_eq (tgt := 140) C0 (by decide) dX11_play_133 (fun _ => ?_) (fun hkk => absurd (by decide) hkk)
    refine x_iconst (v := -1) C0 rfl dX11_play_140 ?_
    refine x_iret C0 E (by decide) (by decide) dX11_play_141 ?_
    exact h
  have hy132 : ∀ I2 z, ¬ z = -1 → post (some (.int 0)) S R I2 J → XX G 0 0 132 [some (.ref 0), some (.int (nI k)), some (.int w1), some (.int w2)] [.int z] S R I2 J := by
    intro I2 z hz h
    refine x_iconst (v := -1) C0 rfl dX11_play_132 ?_
    refine x_icmp_eq (tgt := 140) C0 (by decide) dX11_play_133 (fun hkk => absurd hkk (hz)) (fun _ => ?_)
    refine x_iconst (v := 0) C0 rfl dX11_play_136 ?_
    refine x_goto (tgt := 141) C0 (by decide) dX11_play_137 ?_
    refine x_iret C0 E (by decide) (by decide) dX11_play_141 ?_
    exact h
  have hc3 : act = 3 → XX G 0 0 119 [some (.ref 0), some (.int (nI k)), some (.int w1), some (.int w2)] [] S R I J := by
    intro ea
    subst ea
    unfold dMay at h1 h0
    unfold dDo dMask at h1
    rw [if_neg (by decide), if_neg (by decide), if_neg (by decide), if_pos rfl, if_neg (by decide)] at h1
    have e1 := m2 (Or.inr (Or.inr rfl))
    have e2 := m4 rfl
    have o9 := o3 rfl
    subst e1
    subst e2
    refine x_aload_n C0 rfl dX11_play_119 ?_
    refine x_getR C0 wf_X11_26 (fixd.k0 hS) rfl rfl hf dX11_play_120 ?_
    refine x_aload_n C0 rfl dX11_play_123 ?_
    refine x_getR C0 wf_X11_50 (fixd.k0 hS) rfl rfl (fixd.trial hS) dX11_play_124 ?_
    refine x_iload_n C0 rfl dX11_play_127 ?_
    refine x_iload_n C0 rfl dX11_play_128 ?_
    refine x_callV [_, _, _] C0 hN rfl (xRf_of hR (by decide) (Nat.zero_le _) (Nat.zero_le _)) mv_X2_persuade wm_X11_202 dX11_play_129 (by assumption) rfl rfl (Nat.le_of_ble_eq_true rfl) (c_X2_persuade hF hT hf37 wl wy rF rY (fun q => ?_) (fun a2 b2 I2 ha2 hb2 hab ei ej ia ib s2 r2 => ?_))
    · exact hn132 I (h0 (fun z => by
        rcases z with z | z | z | z | z
        · exact absurd z.1 (by decide)
        · exact absurd z.1 (by decide)
        · exact absurd z.1 (by decide)
        · exact q a v o9.1 o9.2.1 o9.2.2 rfl rfl z.2.1 z.2.2
        · exact absurd z.1 (by decide)) I FQ.rf rY)
    · have e1 : a2 = a := ((nI_eq (by omega) (by omega)).mp ei).symm
      have e2 : b2 = v := ((nI_eq (by omega) (by omega)).mp ej).symm
      subst e1
      subst e2
      have hc9 := sCnt_le fl y a2 b2 T
      refine hy132 _ _ (fun z => ?_) (h1 (Or.inr (Or.inr (Or.inr (Or.inl ⟨rfl, ia, ib⟩)))) _ (FQ.hall s2) r2)
      have := nI_pos' (n := sCnt fl y a2 b2 T) (by omega)
      rw [z] at this
      exact absurd this (by decide)
  have hn153 : ∀ I2, post (some (.int (-1))) S R I2 J → XX G 0 0 153 [some (.ref 0), some (.int (nI k)), some (.int w1), some (.int w2)] [.int (-1)] S R I2 J := by
    intro I2 h
    refine x_iconst (v := -1) C0 rfl dX11_play_153 ?_
    refine x_icmp_eq (tgt := 161) C0 (by decide) dX11_play_154 (fun _ => ?_) (fun hkk => absurd (by decide) hkk)
    refine x_iconst (v := -1) C0 rfl dX11_play_161 ?_
    refine x_iret C0 E (by decide) (by decide) dX11_play_162 ?_
    exact h
  have hy153 : ∀ I2 z, ¬ z = -1 → post (some (.int 0)) S R I2 J → XX G 0 0 153 [some (.ref 0), some (.int (nI k)), some (.int w1), some (.int w2)] [.int z] S R I2 J := by
    intro I2 z hz h
    refine x_iconst (v := -1) C0 rfl dX11_play_153 ?_
    refine x_icmp_eq (tgt := 161) C0 (by decide) dX11_play_154 (fun hkk => absurd hkk (hz)) (fun _ => ?_)
    refine x_iconst (v := 0) C0 rfl dX11_play_157 ?_
    refine x_goto (tgt := 162) C0 (by decide) dX11_play_158 ?_
    refine x_iret C0 E (by decide) (by decide) dX11_play_162 ?_
    exact h
  have hc4 : act = 4 → XX G 0 0 142 [some (.ref 0), some (.int (nI k)), some (.int w1), some (.int w2)] [] S R I J := by
    intro ea
    subst ea
    unfold dMay at h1 h0
    unfold dDo dMask at h1
    rw [if_neg (by decide), if_neg (by decide), if_neg (by decide), if_neg (by decide), if_neg (by decide)] at h1

    refine x_aload_n C0 rfl dX11_play_142 ?_
    refine x_getR C0 wf_X11_26 (fixd.k0 hS) rfl rfl hf dX11_play_143 ?_
    refine x_aload_n C0 rfl dX11_play_146 ?_
    refine x_getR C0 wf_X11_50 (fixd.k0 hS) rfl rfl (fixd.trial hS) dX11_play_147 ?_
    refine x_callV [_] C0 hN rfl (xRf_of hR (by decide) (Nat.zero_le _) (Nat.zero_le _)) mv_X2_reissue wm_X11_206 dX11_play_150 (by assumption) rfl rfl (Nat.le_of_ble_eq_true rfl) (c_X2_reissue hF hT (fun q => ?_) (fun q => ?_))
    · refine hn153 I (h0 (fun z => by
        rcases z with z | z | z | z | z
        · exact absurd z.1 (by decide)
        · exact absurd z.1 (by decide)
        · exact absurd z.1 (by decide)
        · exact absurd z.1 (by decide)
        · exact absurd q (by rw [rY.1, z.2, eN]; exact Int32.lt_irrefl)) I FQ.rf rY)
    · have ey : y 0 = nI N := by
        rw [rY.1, eN, ej] at q
        rw [ej]
        have : ¬ j0 < N := fun z => q ((nI_lt_iff (by omega) (by omega)).mpr z)
        exact congrArg nI (by omega)
      rw [rY.2.1]
      refine hy153 _ _ (fun z => ?_) (h1 (Or.inr (Or.inr (Or.inr (Or.inr ⟨rfl, ey⟩)))) _ (FQ.u37.trans FQ.u37) (RHall_fld (RHall_fld rY (by omega) hN8) (by omega) hN8))
      obtain ⟨r, hr1, er⟩ := hr
      rw [er, show nI r + 1 = nI (r + 1) from (nI_succ r).symm] at z
      have := nI_pos' (n := r + 1) (by omega)
      rw [z] at this
      exact absurd this (by decide)
  have hact : act = 0 ∨ act = 1 ∨ act = 2 ∨ act = 3 ∨ act = 4 := by omega
  refine x_aload_n C0 rfl dX11_play_0 ?_
  refine x_getR C0 wf_X11_36 (fixd.k0 hS) rfl rfl he dX11_play_1 ?_
  refine x_getR C0 wf_X11_227 (by assumption) rfl rfl z5 dX11_play_4 ?_
  refine x_iload_n C0 rfl dX11_play_7 ?_
  refine x_callS [_, _] C0 (xRf_of hR (by decide) (Nat.zero_le _) (Nat.zero_le _)) ms_X8_get wm_X11_150 dX11_play_8 rfl rfl (Nat.le_of_ble_eq_true rfl) (c_X8_get z2 hk (by decide) ?_)
  refine x_topi l2 ?_
  refine x_istore_n (L' := [_, _, _, _]) C0 hN (by decide) rfl dX11_play_11 ?_
  refine x_aload_n C0 rfl dX11_play_12 ?_
  refine x_getR C0 wf_X11_36 (fixd.k0 hS) rfl rfl he dX11_play_13 ?_
  refine x_getR C0 wf_X11_230 (by assumption) rfl rfl z6 dX11_play_16 ?_
  refine x_iload_n C0 rfl dX11_play_19 ?_
  refine x_callS [_, _] C0 (xRf_of hR (by decide) (Nat.zero_le _) (Nat.zero_le _)) ms_X8_get wm_X11_150 dX11_play_20 rfl rfl (Nat.le_of_ble_eq_true rfl) (c_X8_get z3 hk (by decide) ?_)
  refine x_topi l3 ?_
  refine x_istore_n (L' := [_, _, _, _]) C0 hN (by decide) rfl dX11_play_23 ?_
  refine x_aload_n C0 rfl dX11_play_24 ?_
  refine x_getR C0 wf_X11_36 (fixd.k0 hS) rfl rfl he dX11_play_25 ?_
  refine x_getR C0 wf_X11_233 (by assumption) rfl rfl z4 dX11_play_28 ?_
  refine x_iload_n C0 rfl dX11_play_31 ?_
  refine x_callS [_, _] C0 (xRf_of hR (by decide) (Nat.zero_le _) (Nat.zero_le _)) ms_X8_get wm_X11_150 dX11_play_32 rfl rfl (Nat.le_of_ble_eq_true rfl) (c_X8_get z1 hk (by decide) ?_)
  refine x_topi l1 ?_
  by_cases g0 : (nI act) = 0
  · refine x_tabIn (tgt := 64) C0 (by rw [g0]; decide) (by rw [g0]; decide) (by rw [g0]; rfl) (by decide) dX11_play_35 ?_
    exact hc0 ((nI_eq (b := 0) (by omega) (by omega)).mp g0)
  by_cases g1 : (nI act) = 1
  · refine x_tabIn (tgt := 76) C0 (by rw [g1]; decide) (by rw [g1]; decide) (by rw [g1]; rfl) (by decide) dX11_play_35 ?_
    exact hc1 ((nI_eq (b := 1) (by omega) (by omega)).mp g1)
  by_cases g2 : (nI act) = 2
  · refine x_tabIn (tgt := 98) C0 (by rw [g2]; decide) (by rw [g2]; decide) (by rw [g2]; rfl) (by decide) dX11_play_35 ?_
    exact hc2 ((nI_eq (b := 2) (by omega) (by omega)).mp g2)
  by_cases g3 : (nI act) = 3
  · refine x_tabIn (tgt := 119) C0 (by rw [g3]; decide) (by rw [g3]; decide) (by rw [g3]; rfl) (by decide) dX11_play_35 ?_
    exact hc3 ((nI_eq (b := 3) (by omega) (by omega)).mp g3)
  refine x_tabOut (tgt := 142) C0 (sw_out (n := 3) (by decide) (fun j hj => by rcases (show j = 0 ∨ j = 1 ∨ j = 2 ∨ j = 3 by omega) with rfl | rfl | rfl | rfl <;> assumption)) (by decide) dX11_play_35 ?_
  exact hc4 (by
    rcases hact with e | e | e | e | e
    · exact absurd (by rw [e]; rfl) g0
    · exact absurd (by rw [e]; rfl) g1
    · exact absurd (by rw [e]; rfl) g2
    · exact absurd (by rw [e]; rfl) g3
    · exact e)
