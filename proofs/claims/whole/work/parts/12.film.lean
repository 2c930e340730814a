/-! THE FILM'S OWN METHODS over the plain memory -/
theorem c_X11_thingOf {S : xTS} {R : xTR} {I : xTI} {J : xTJ} {post : xPost} {c : Int32} (hp : post (some (.int (cThing c))) S R I J) : xSpec 1 yX11_thingOf cX11_thingOf 1 (some .int) 0 0 [.int c] S R I J post := by
  refine xSpec_of mt_X11_thingOf (Nat.le_of_ble_eq_true rfl) (fun G C0 hN hR E hI hZ => ?_)
  change XX G 0 0 0 [some (.int c)] [] S R I J
  refine x_iload_n C0 rfl dX11_thingOf_0 ?_
  refine x_iconst (v := -1) C0 rfl dX11_thingOf_1 ?_
  refine x_icmp_ne (tgt := 9) C0 (by decide) dX11_thingOf_2 (fun h2 => ?_) (fun h2 => ?_)
  · refine x_iload_n C0 rfl dX11_thingOf_9 ?_
    refine x_iconst (v := 1) C0 rfl dX11_thingOf_10 ?_
    refine x_ishr C0 dX11_thingOf_11 ?_
    refine x_iret C0 E (by decide) (by decide) dX11_thingOf_12 ?_
    rw [cThing, if_neg h2] at hp
    exact hp
  · refine x_iconst (v := -1) C0 rfl dX11_thingOf_5 ?_
    refine x_goto (tgt := 12) C0 (by decide) dX11_thingOf_6 ?_
    refine x_iret C0 E (by decide) (by decide) dX11_thingOf_12 ?_
    rw [cThing, if_pos h2] at hp
    exact hp
theorem c_X11_isOf {S : xTS} {R : xTR} {I : xTI} {J : xTJ} {post : xPost} {c : Int32} (hp : post (some (.int (cIs c))) S R I J) : xSpec 1 yX11_isOf cX11_isOf 1 (some .int) 0 0 [.int c] S R I J post := by
  refine xSpec_of mt_X11_isOf (Nat.le_of_ble_eq_true rfl) (fun G C0 hN hR E hI hZ => ?_)
  change XX G 0 0 0 [some (.int c)] [] S R I J
  refine x_iload_n C0 rfl dX11_isOf_0 ?_
  refine x_iconst (v := -1) C0 rfl dX11_isOf_1 ?_
  refine x_icmp_ne (tgt := 9) C0 (by decide) dX11_isOf_2 (fun h2 => ?_) (fun h2 => ?_)
  · refine x_iload_n C0 rfl dX11_isOf_9 ?_
    refine x_iconst (v := 1) C0 rfl dX11_isOf_10 ?_
    refine x_iand C0 dX11_isOf_11 ?_
    refine x_iret C0 E (by decide) (by decide) dX11_isOf_12 ?_
    rw [cIs, if_neg h2] at hp
    exact hp
  · refine x_iconst (v := -1) C0 rfl dX11_isOf_5 ?_
    refine x_goto (tgt := 12) C0 (by decide) dX11_isOf_6 ?_
    refine x_iret C0 E (by decide) (by decide) dX11_isOf_12 ?_
    rw [cIs, if_pos h2] at hp
    exact hp
theorem c_X11_claim {S : xTS} {R : xTR} {I : xTI} {J : xTJ} {post : xPost} {c y : Int32} (hp : post (some (.int (2 * c + (if y = 0 then 0 else 1)))) S R I J) : xSpec 1 yX11_claim cX11_claim 2 (some .int) 0 0 [.int c, .int y] S R I J post := by
  refine xSpec_of mt_X11_claim (Nat.le_of_ble_eq_true rfl) (fun G C0 hN hR E hI hZ => ?_)
  change XX G 0 0 0 [some (.int c), some (.int y)] [] S R I J
  refine x_iconst (v := 2) C0 rfl dX11_claim_0 ?_
  refine x_iload_n C0 rfl dX11_claim_1 ?_
  refine x_imul C0 dX11_claim_2 ?_
  refine x_iload_n C0 rfl dX11_claim_3 ?_
  refine x_if_eq (tgt := 11) C0 (by decide) dX11_claim_4 (fun h4 => ?_) (fun h4 => ?_)
  · refine x_iconst (v := 0) C0 rfl dX11_claim_11 ?_
    refine x_iadd C0 dX11_claim_12 ?_
    refine x_iret C0 E (by decide) (by decide) dX11_claim_13 ?_
    rw [if_pos h4] at hp
    exact hp
  · refine x_iconst (v := 1) C0 rfl dX11_claim_7 ?_
    refine x_goto (tgt := 12) C0 (by decide) dX11_claim_8 ?_
    refine x_iadd C0 dX11_claim_12 ?_
    refine x_iret C0 E (by decide) (by decide) dX11_claim_13 ?_
    rw [if_neg h4] at hp
    exact hp
theorem c_X2_hasThing {S : xTS} {R : xTR} {I : xTI} {J : xTJ} {post : xPost} {f : Nat} {i : Int32} (hF : isFilm S R f) (h1 : 0 ≤ i ∧ i < I f 0 → post (some (.int 1)) S R I J) (h0 : ¬ (0 ≤ i ∧ i < I f 0) → post (some (.int 0)) S R I J) : xSpec 1 yX2_hasThing cX2_hasThing 2 (some .boolean) 0 0 [.ref f, .int i] S R I J post := by
  refine xSpec_of mt_X2_hasThing (Nat.le_of_ble_eq_true rfl) (fun G C0 hN hR E hI hZ => ?_)
  change XX G 0 0 0 [some (.ref f), some (.int i)] [] S R I J
  obtain ⟨fs0, fs1, fs2, fs3, fs4, fs5, fs6, fs7, fs8, fr4, fr5, fr6, fr7, fr8, fr9, fr10, fr11⟩ := id hF
  refine x_iload_n C0 rfl dX2_hasThing_0 ?_
  refine x_if_lt (tgt := 16) C0 (by decide) dX2_hasThing_1 (fun g1 => ?_) (fun g1 => ?_)
  · refine x_iconst (v := 0) C0 rfl dX2_hasThing_16 ?_
    refine x_zret C0 E (by decide) (by decide) rfl dX2_hasThing_17 ?_
    exact h0 (fun q => i_nlt.mpr q.1 g1)
  · refine x_iload_n C0 rfl dX2_hasThing_4 ?_
    refine x_aload_n C0 rfl dX2_hasThing_5 ?_
    refine x_getI C0 wf_X2_41 (by assumption) rfl dX2_hasThing_6 ?_
    refine x_icmp_ge (tgt := 16) C0 (by decide) dX2_hasThing_9 (fun g2 => ?_) (fun g2 => ?_)
    · refine x_iconst (v := 0) C0 rfl dX2_hasThing_16 ?_
      refine x_zret C0 E (by decide) (by decide) rfl dX2_hasThing_17 ?_
      exact h0 (fun q => i_nle.mpr q.2 g2)
    · refine x_iconst (v := 1) C0 rfl dX2_hasThing_12 ?_
      refine x_goto (tgt := 17) C0 (by decide) dX2_hasThing_13 ?_
      refine x_zret C0 E (by decide) (by decide) rfl dX2_hasThing_17 ?_
      exact h1 ⟨i_nlt.mp g1, i_nle.mp g2⟩
theorem c_X2_hasScene {S : xTS} {R : xTR} {I : xTI} {J : xTJ} {post : xPost} {f : Nat} {i : Int32} (hF : isFilm S R f) (h1 : 0 ≤ i ∧ i < I f 1 → post (some (.int 1)) S R I J) (h0 : ¬ (0 ≤ i ∧ i < I f 1) → post (some (.int 0)) S R I J) : xSpec 1 yX2_hasScene cX2_hasScene 2 (some .boolean) 0 0 [.ref f, .int i] S R I J post := by
  refine xSpec_of mt_X2_hasScene (Nat.le_of_ble_eq_true rfl) (fun G C0 hN hR E hI hZ => ?_)
  change XX G 0 0 0 [some (.ref f), some (.int i)] [] S R I J
  obtain ⟨fs0, fs1, fs2, fs3, fs4, fs5, fs6, fs7, fs8, fr4, fr5, fr6, fr7, fr8, fr9, fr10, fr11⟩ := id hF
  refine x_iload_n C0 rfl dX2_hasScene_0 ?_
  refine x_if_lt (tgt := 16) C0 (by decide) dX2_hasScene_1 (fun g1 => ?_) (fun g1 => ?_)
  · refine x_iconst (v := 0) C0 rfl dX2_hasScene_16 ?_
    refine x_zret C0 E (by decide) (by decide) rfl dX2_hasScene_17 ?_
    exact h0 (fun q => i_nlt.mpr q.1 g1)
  · refine x_iload_n C0 rfl dX2_hasScene_4 ?_
    refine x_aload_n C0 rfl dX2_hasScene_5 ?_
    refine x_getI C0 wf_X2_44 (by assumption) rfl dX2_hasScene_6 ?_
    refine x_icmp_ge (tgt := 16) C0 (by decide) dX2_hasScene_9 (fun g2 => ?_) (fun g2 => ?_)
    · refine x_iconst (v := 0) C0 rfl dX2_hasScene_16 ?_
      refine x_zret C0 E (by decide) (by decide) rfl dX2_hasScene_17 ?_
      exact h0 (fun q => i_nle.mpr q.2 g2)
    · refine x_iconst (v := 1) C0 rfl dX2_hasScene_12 ?_
      refine x_goto (tgt := 17) C0 (by decide) dX2_hasScene_13 ?_
      refine x_zret C0 E (by decide) (by decide) rfl dX2_hasScene_17 ?_
      exact h1 ⟨i_nlt.mp g1, i_nle.mp g2⟩
theorem c_X2_hasWatcher {S : xTS} {R : xTR} {I : xTI} {J : xTJ} {post : xPost} {f : Nat} {i : Int32} (hF : isFilm S R f) (h1 : 0 ≤ i ∧ i < I f 2 → post (some (.int 1)) S R I J) (h0 : ¬ (0 ≤ i ∧ i < I f 2) → post (some (.int 0)) S R I J) : xSpec 1 yX2_hasWatcher cX2_hasWatcher 2 (some .boolean) 0 0 [.ref f, .int i] S R I J post := by
  refine xSpec_of mt_X2_hasWatcher (Nat.le_of_ble_eq_true rfl) (fun G C0 hN hR E hI hZ => ?_)
  change XX G 0 0 0 [some (.ref f), some (.int i)] [] S R I J
  obtain ⟨fs0, fs1, fs2, fs3, fs4, fs5, fs6, fs7, fs8, fr4, fr5, fr6, fr7, fr8, fr9, fr10, fr11⟩ := id hF
  refine x_iload_n C0 rfl dX2_hasWatcher_0 ?_
  refine x_if_lt (tgt := 16) C0 (by decide) dX2_hasWatcher_1 (fun g1 => ?_) (fun g1 => ?_)
  · refine x_iconst (v := 0) C0 rfl dX2_hasWatcher_16 ?_
    refine x_zret C0 E (by decide) (by decide) rfl dX2_hasWatcher_17 ?_
    exact h0 (fun q => i_nlt.mpr q.1 g1)
  · refine x_iload_n C0 rfl dX2_hasWatcher_4 ?_
    refine x_aload_n C0 rfl dX2_hasWatcher_5 ?_
    refine x_getI C0 wf_X2_47 (by assumption) rfl dX2_hasWatcher_6 ?_
    refine x_icmp_ge (tgt := 16) C0 (by decide) dX2_hasWatcher_9 (fun g2 => ?_) (fun g2 => ?_)
    · refine x_iconst (v := 0) C0 rfl dX2_hasWatcher_16 ?_
      refine x_zret C0 E (by decide) (by decide) rfl dX2_hasWatcher_17 ?_
      exact h0 (fun q => i_nle.mpr q.2 g2)
    · refine x_iconst (v := 1) C0 rfl dX2_hasWatcher_12 ?_
      refine x_goto (tgt := 17) C0 (by decide) dX2_hasWatcher_13 ?_
      refine x_zret C0 E (by decide) (by decide) rfl dX2_hasWatcher_17 ?_
      exact h1 ⟨i_nlt.mp g1, i_nle.mp g2⟩
theorem c_X2_hasView {S : xTS} {R : xTR} {I : xTI} {J : xTJ} {post : xPost} {f : Nat} {i j : Int32} (hF : isFilm S R f) (h1 : (0 ≤ i ∧ i < I f 2) ∧ (0 ≤ j ∧ j < I f 0) → post (some (.int 1)) S R I J) (h0 : ¬ ((0 ≤ i ∧ i < I f 2) ∧ (0 ≤ j ∧ j < I f 0)) → post (some (.int 0)) S R I J) : xSpec 2 yX2_hasView cX2_hasView 3 (some .boolean) 0 0 [.ref f, .int i, .int j] S R I J post := by
  refine xSpec_of mt_X2_hasView (Nat.le_of_ble_eq_true rfl) (fun G C0 hN hR E hI hZ => ?_)
  change XX G 0 0 0 [some (.ref f), some (.int i), some (.int j)] [] S R I J
  obtain ⟨fs0, fs1, fs2, fs3, fs4, fs5, fs6, fs7, fs8, fr4, fr5, fr6, fr7, fr8, fr9, fr10, fr11⟩ := id hF
  refine x_aload_n C0 rfl dX2_hasView_0 ?_
  refine x_iload_n C0 rfl dX2_hasView_1 ?_
  refine x_callV [_] C0 hN rfl (xRf_of hR (by decide) (Nat.zero_le _) (Nat.zero_le _)) mv_X2_hasWatcher wm_X2_82 dX2_hasView_2 (by assumption) rfl rfl (Nat.le_of_ble_eq_true rfl) (c_X2_hasWatcher (by assumption) (fun g1 => ?_) (fun g1 => ?_))
  · refine x_if_eq (tgt := 20) C0 (by decide) dX2_hasView_5 (fun hkk => absurd hkk (by decide)) (fun _ => ?_)
    refine x_aload_n C0 rfl dX2_hasView_8 ?_
    refine x_iload_n C0 rfl dX2_hasView_9 ?_
    refine x_callV [_] C0 hN rfl (xRf_of hR (by decide) (Nat.zero_le _) (Nat.zero_le _)) mv_X2_hasThing wm_X2_86 dX2_hasView_10 (by assumption) rfl rfl (Nat.le_of_ble_eq_true rfl) (c_X2_hasThing (by assumption) (fun g2 => ?_) (fun g2 => ?_))
    · refine x_if_eq (tgt := 20) C0 (by decide) dX2_hasView_13 (fun hkk => absurd hkk (by decide)) (fun _ => ?_)
      refine x_iconst (v := 1) C0 rfl dX2_hasView_16 ?_
      refine x_goto (tgt := 21) C0 (by decide) dX2_hasView_17 ?_
      refine x_zret C0 E (by decide) (by decide) rfl dX2_hasView_21 ?_
      exact h1 ⟨g1, g2⟩
    · refine x_if_eq (tgt := 20) C0 (by decide) dX2_hasView_13 (fun _ => ?_) (fun hkk => absurd (by decide) hkk)
      refine x_iconst (v := 0) C0 rfl dX2_hasView_20 ?_
      refine x_zret C0 E (by decide) (by decide) rfl dX2_hasView_21 ?_
      exact h0 (fun q => g2 q.2)
  · refine x_if_eq (tgt := 20) C0 (by decide) dX2_hasView_5 (fun _ => ?_) (fun hkk => absurd (by decide) hkk)
    refine x_iconst (v := 0) C0 rfl dX2_hasView_20 ?_
    refine x_zret C0 E (by decide) (by decide) rfl dX2_hasView_21 ?_
    exact h0 (fun q => g1 q.1)
theorem c_X2_allScenes {S : xTS} {R : xTR} {I : xTI} {J : xTJ} {post : xPost} {f : Nat} (hF : isFilm S R f) (hp : post (some (.int ((1 : Int32) <<< (I f 1 &&& 31) - 1))) S R I J) : xSpec 1 yX2_allScenes cX2_allScenes 1 (some .int) 0 0 [.ref f] S R I J post := by
  refine xSpec_of mt_X2_allScenes (Nat.le_of_ble_eq_true rfl) (fun G C0 hN hR E hI hZ => ?_)
  change XX G 0 0 0 [some (.ref f)] [] S R I J
  obtain ⟨fs0, fs1, fs2, fs3, fs4, fs5, fs6, fs7, fs8, fr4, fr5, fr6, fr7, fr8, fr9, fr10, fr11⟩ := id hF
  refine x_iconst (v := 1) C0 rfl dX2_allScenes_0 ?_
  refine x_aload_n C0 rfl dX2_allScenes_1 ?_
  refine x_getI C0 wf_X2_44 (by assumption) rfl dX2_allScenes_2 ?_
  refine x_ishl C0 dX2_allScenes_5 ?_
  refine x_iconst (v := 1) C0 rfl dX2_allScenes_6 ?_
  refine x_isub C0 dX2_allScenes_7 ?_
  refine x_iret C0 E (by decide) (by decide) dX2_allScenes_8 ?_
  exact hp
theorem e_doubt (w k c o : Nat) : (nI w * 8 + nI k) * 4 + 2 * nI c + nI o = nI ((w * 8 + k) * 4 + 2 * c + o) := by
  rw [show (8 : Int32) = nI 8 from rfl, show (4 : Int32) = nI 4 from rfl, show (2 : Int32) = nI 2 from rfl, nI_mul, nI_add, nI_mul, nI_mul, nI_add, nI_add]
theorem c_X2_doubtAt {S : xTS} {R : xTR} {I : xTI} {J : xTJ} {post : xPost} {w k c o : Nat} (hp : post (some (.int (nI ((w * 8 + k) * 4 + 2 * c + o)))) S R I J) : xSpec 1 yX2_doubtAt cX2_doubtAt 4 (some .int) 0 0 [.int (nI w), .int (nI k), .int (nI c), .int (nI o)] S R I J post := by
  refine xSpec_of mt_X2_doubtAt (Nat.le_of_ble_eq_true rfl) (fun G C0 hN hR E hI hZ => ?_)
  change XX G 0 0 0 [some (.int (nI w)), some (.int (nI k)), some (.int (nI c)), some (.int (nI o))] [] S R I J
  refine x_iload_n C0 rfl dX2_doubtAt_0 ?_
  refine x_bipush (v := 8) C0 rfl dX2_doubtAt_1 ?_
  refine x_imul C0 dX2_doubtAt_3 ?_
  refine x_iload_n C0 rfl dX2_doubtAt_4 ?_
  refine x_iadd C0 dX2_doubtAt_5 ?_
  refine x_iconst (v := 4) C0 rfl dX2_doubtAt_6 ?_
  refine x_imul C0 dX2_doubtAt_7 ?_
  refine x_iconst (v := 2) C0 rfl dX2_doubtAt_8 ?_
  refine x_iload_n C0 rfl dX2_doubtAt_9 ?_
  refine x_imul C0 dX2_doubtAt_10 ?_
  refine x_iadd C0 dX2_doubtAt_11 ?_
  refine x_iload_n C0 rfl dX2_doubtAt_12 ?_
  refine x_iadd C0 dX2_doubtAt_13 ?_
  refine x_iret C0 E (by decide) (by decide) dX2_doubtAt_14 ?_
  rw [e_doubt]
  exact hp
theorem c_X2_clash {S : xTS} {R : xTR} {I : xTI} {J : xTJ} {post : xPost} {a b : Int32} (hp : post (some (.int (cClash a b))) S R I J) : xSpec 2 yX2_clash cX2_clash 2 (some .int) 0 0 [.int a, .int b] S R I J post := by
  refine xSpec_of mt_X2_clash (Nat.le_of_ble_eq_true rfl) (fun G C0 hN hR E hI hZ => ?_)
  change XX G 0 0 0 [some (.int a), some (.int b)] [] S R I J
  refine x_iload_n C0 rfl dX2_clash_0 ?_
  refine x_callSN [_] C0 (xRf_of hR (by decide) (Nat.zero_le _) (Nat.zero_le _)) ms_X11_thingOf wm_X2_129 dX2_clash_1 rfl rfl (Nat.le_of_ble_eq_true rfl) (c_X11_thingOf  ?_)
  refine x_iload_n C0 rfl dX2_clash_4 ?_
  refine x_callSN [_] C0 (xRf_of hR (by decide) (Nat.zero_le _) (Nat.zero_le _)) ms_X11_thingOf wm_X2_129 dX2_clash_5 rfl rfl (Nat.le_of_ble_eq_true rfl) (c_X11_thingOf  ?_)
  refine x_icmp_ne (tgt := 20) C0 (by decide) dX2_clash_8 (fun h8 => ?_) (fun h8 => ?_)
  · refine x_iconst (v := 0) C0 rfl dX2_clash_20 ?_
    refine x_iret C0 E (by decide) (by decide) dX2_clash_21 ?_
    rw [cClash, if_neg (fun q => h8 q.1)] at hp
    exact hp
  · refine x_iload_n C0 rfl dX2_clash_11 ?_
    refine x_iload_n C0 rfl dX2_clash_12 ?_
    refine x_icmp_eq (tgt := 20) C0 (by decide) dX2_clash_13 (fun h13 => ?_) (fun h13 => ?_)
    · refine x_iconst (v := 0) C0 rfl dX2_clash_20 ?_
      refine x_iret C0 E (by decide) (by decide) dX2_clash_21 ?_
      rw [cClash, if_neg (fun q => q.2 h13)] at hp
      exact hp
    · refine x_iconst (v := 1) C0 rfl dX2_clash_16 ?_
      refine x_goto (tgt := 21) C0 (by decide) dX2_clash_17 ?_
      refine x_iret C0 E (by decide) (by decide) dX2_clash_21 ?_
      rw [cClash, if_pos ⟨h8, h13⟩] at hp
      exact hp
def cOdd (th b : Int32) : Int32 := if ¬ th = -1 ∧ ¬ th = b then 1 else 0
theorem c_X2_odd_none {S : xTS} {R : xTR} {I : xTI} {J : xTJ} {post : xPost} {h w : Nat} (hH : isHall S R h) (hp : post (some (.int 0)) S R I J) : xSpec 2 yX2_odd cX2_odd 4 (some .int) 0 0 [.ref h, .int (nI w), .int (-1)] S R I J post := by
  refine xSpec_of mt_X2_odd (Nat.le_of_ble_eq_true rfl) (fun G C0 hN hR E hI hZ => ?_)
  change XX G 0 0 0 [some (.ref h), some (.int (nI w)), some (.int (-1)), none] [] S R I J
  obtain ⟨hs0, hs1, hs2, hs3, hr4, hr5, hr6⟩ := id hH
  refine x_iload_n C0 rfl dX2_odd_0 ?_
  refine x_iconst (v := -1) C0 rfl dX2_odd_1 ?_
  refine x_icmp_ne (tgt := 7) C0 (by decide) dX2_odd_2 (fun hkk => absurd (rfl) hkk) (fun _ => ?_)
  refine x_iconst (v := 0) C0 rfl dX2_odd_5 ?_
  refine x_iret C0 E (by decide) (by decide) dX2_odd_6 ?_
  exact hp
theorem c_X2_odd_some {S : xTS} {R : xTR} {I : xTI} {J : xTJ} {post : xPost} {h w t b : Nat} (hH : isHall S R h) (hw : w < 6) (ht : t < 6) (hb : b < 2) (hp : post (some (.int (cOdd (I (h + 2) (6 * w + t)) (nI b)))) S R I J) : xSpec 2 yX2_odd cX2_odd 4 (some .int) 0 0 [.ref h, .int (nI w), .int (nI (2 * t + b))] S R I J post := by
  refine xSpec_of mt_X2_odd (Nat.le_of_ble_eq_true rfl) (fun G C0 hN hR E hI hZ => ?_)
  change XX G 0 0 0 [some (.ref h), some (.int (nI w)), some (.int (nI (2 * t + b))), none] [] S R I J
  obtain ⟨hs0, hs1, hs2, hs3, hr4, hr5, hr6⟩ := id hH
  refine x_iload_n C0 rfl dX2_odd_0 ?_
  refine x_iconst (v := -1) C0 rfl dX2_odd_1 ?_
  refine x_icmp_ne (tgt := 7) C0 (by decide) dX2_odd_2 (fun _ => ?_) (fun hkk => absurd hkk (nI_ne_m1 (by omega)))
  refine x_aload_n C0 rfl dX2_odd_7 ?_
  refine x_iload_n C0 rfl dX2_odd_8 ?_
  refine x_iload_n C0 rfl dX2_odd_9 ?_
  refine x_callSN [_] C0 (xRf_of hR (by decide) (Nat.zero_le _) (Nat.zero_le _)) ms_X11_thingOf wm_X2_129 dX2_odd_10 rfl rfl (Nat.le_of_ble_eq_true rfl) (c_X11_thingOf  ?_)
  refine x_topi (cThing_nI (by omega) hb) ?_
  refine x_callV [_, _] C0 hN rfl (xRf_of hR (by decide) (Nat.zero_le _) (Nat.zero_le _)) mv_X3_thought wm_X2_132 dX2_odd_13 (by assumption) rfl rfl (Nat.le_of_ble_eq_true rfl) (c_X3_thought (by assumption) hw ht ?_)
  refine x_istore_n (L' := [_, _, _, _]) C0 hN (by decide) rfl dX2_odd_16 ?_
  refine x_iload_n C0 rfl dX2_odd_17 ?_
  refine x_iconst (v := -1) C0 rfl dX2_odd_18 ?_
  refine x_icmp_eq (tgt := 34) C0 (by decide) dX2_odd_19 (fun h19 => ?_) (fun h19 => ?_)
  · refine x_iconst (v := 0) C0 rfl dX2_odd_34 ?_
    refine x_iret C0 E (by decide) (by decide) dX2_odd_35 ?_
    rw [cOdd, if_neg (fun q => q.1 h19)] at hp
    exact hp
  · refine x_iload_n C0 rfl dX2_odd_22 ?_
    refine x_iload_n C0 rfl dX2_odd_23 ?_
    refine x_callSN [_] C0 (xRf_of hR (by decide) (Nat.zero_le _) (Nat.zero_le _)) ms_X11_isOf wm_X2_135 dX2_odd_24 rfl rfl (Nat.le_of_ble_eq_true rfl) (c_X11_isOf  ?_)
    refine x_topi (cIs_nI (by omega) hb) ?_
    refine x_icmp_eq (tgt := 34) C0 (by decide) dX2_odd_27 (fun h27 => ?_) (fun h27 => ?_)
    · refine x_iconst (v := 0) C0 rfl dX2_odd_34 ?_
      refine x_iret C0 E (by decide) (by decide) dX2_odd_35 ?_
      rw [cOdd, if_neg (fun q => q.2 h27)] at hp
      exact hp
    · refine x_iconst (v := 1) C0 rfl dX2_odd_30 ?_
      refine x_goto (tgt := 35) C0 (by decide) dX2_odd_31 ?_
      refine x_iret C0 E (by decide) (by decide) dX2_odd_35 ?_
      rw [cOdd, if_pos ⟨h19, h27⟩] at hp
      exact hp
theorem c_X2_taken {S : xTS} {R : xTR} {I : xTI} {J : xTJ} {post : xPost} {f w kd : Nat} {hd rd : Int32} (hF : isFilm S R f) (hw : w < 6) (hkd : kd < 4) (hk : I (f + 5) w = nI kd) (hp : post (some (.int (cTaken (nI kd) (I (f + 6) w) hd rd))) S R I J) : xSpec 2 yX2_taken cX2_taken 4 (some .int) 0 0 [.ref f, .int (nI w), .int hd, .int rd] S R I J post := by
  refine xSpec_of mt_X2_taken (Nat.le_of_ble_eq_true rfl) (fun G C0 hN hR E hI hZ => ?_)
  change XX G 0 0 0 [some (.ref f), some (.int (nI w)), some (.int hd), some (.int rd)] [] S R I J
  obtain ⟨fs0, fs1, fs2, fs3, fs4, fs5, fs6, fs7, fs8, fr4, fr5, fr6, fr7, fr8, fr9, fr10, fr11⟩ := id hF
  refine x_aload_n C0 rfl dX2_taken_0 ?_
  refine x_getR C0 wf_X2_29 (by assumption) rfl rfl (by assumption) dX2_taken_1 ?_
  refine x_iload_n C0 rfl dX2_taken_4 ?_
  refine x_callS [_, _] C0 (xRf_of hR (by decide) (Nat.zero_le _) (Nat.zero_le _)) ms_X8_get wm_X2_60 dX2_taken_5 rfl rfl (Nat.le_of_ble_eq_true rfl) (c_X8_get (by assumption) (by omega) (by omega) ?_)
  rw [hk]
  by_cases g0 : kd = 0
  · refine x_tabIn (tgt := 36) C0 (by rw [g0]; decide) (by rw [g0]; decide) (by rw [g0]; rfl) (by decide) dX2_taken_8 ?_
    refine x_iload_n C0 rfl dX2_taken_36 ?_
    refine x_iret C0 E (by decide) (by decide) dX2_taken_37 ?_
    rw [g0] at hp
    exact hp
  by_cases g1 : kd = 1
  · refine x_tabIn (tgt := 38) C0 (by rw [g1]; decide) (by rw [g1]; decide) (by rw [g1]; rfl) (by decide) dX2_taken_8 ?_
    refine x_iload_n C0 rfl dX2_taken_38 ?_
    refine x_iret C0 E (by decide) (by decide) dX2_taken_39 ?_
    rw [g1] at hp
    exact hp
  by_cases g2 : kd = 2
  · refine x_tabIn (tgt := 40) C0 (by rw [g2]; decide) (by rw [g2]; decide) (by rw [g2]; rfl) (by decide) dX2_taken_8 ?_
    refine x_iload_n C0 rfl dX2_taken_40 ?_
    refine x_iconst (v := -1) C0 rfl dX2_taken_41 ?_
    refine x_icmp_eq (tgt := 61) C0 (by decide) dX2_taken_42 (fun h42 => ?_) (fun h42 => ?_)
    · refine x_iload_n C0 rfl dX2_taken_61 ?_
      refine x_iret C0 E (by decide) (by decide) dX2_taken_62 ?_
      rw [g2] at hp
      rw [cTaken, if_neg (by decide), if_neg (by decide), if_pos (by decide), if_neg (fun q => q.1 h42)] at hp
      exact hp
    · refine x_aload_n C0 rfl dX2_taken_45 ?_
      refine x_getR C0 wf_X2_32 (by assumption) rfl rfl (by assumption) dX2_taken_46 ?_
      refine x_iload_n C0 rfl dX2_taken_49 ?_
      refine x_callS [_, _] C0 (xRf_of hR (by decide) (Nat.zero_le _) (Nat.zero_le _)) ms_X8_get wm_X2_60 dX2_taken_50 rfl rfl (Nat.le_of_ble_eq_true rfl) (c_X8_get (by assumption) (by omega) (by omega) ?_)
      refine x_iconst (v := 5) C0 rfl dX2_taken_53 ?_
      refine x_icmp_ge (tgt := 61) C0 (by decide) dX2_taken_54 (fun h54 => ?_) (fun h54 => ?_)
      · refine x_iload_n C0 rfl dX2_taken_61 ?_
        refine x_iret C0 E (by decide) (by decide) dX2_taken_62 ?_
        rw [g2] at hp
        rw [cTaken, if_neg (by decide), if_neg (by decide), if_pos (by decide), if_neg (fun q => i_nlt.mpr h54 q.2)] at hp
        exact hp
      · refine x_iload_n C0 rfl dX2_taken_57 ?_
        refine x_goto (tgt := 62) C0 (by decide) dX2_taken_58 ?_
        refine x_iret C0 E (by decide) (by decide) dX2_taken_62 ?_
        rw [g2] at hp
        rw [cTaken, if_neg (by decide), if_neg (by decide), if_pos (by decide), if_pos ⟨h42, i_nle.mp h54⟩] at hp
        exact hp
  refine x_tabOut (tgt := 63) C0 (by rcases (show kd = 3 by omega) with rfl; decide) (by decide) dX2_taken_8 ?_
  refine x_iload_n C0 rfl dX2_taken_63 ?_
  refine x_iload_n C0 rfl dX2_taken_64 ?_
  refine x_icmp_ne (tgt := 72) C0 (by decide) dX2_taken_65 (fun h65 => ?_) (fun h65 => ?_)
  · refine x_iconst (v := -1) C0 rfl dX2_taken_72 ?_
    refine x_iret C0 E (by decide) (by decide) dX2_taken_73 ?_
    rw [show kd = 3 by omega, cTaken, if_neg (by decide), if_neg (by decide), if_neg (by decide), if_neg h65] at hp
    exact hp
  · refine x_iload_n C0 rfl dX2_taken_68 ?_
    refine x_goto (tgt := 73) C0 (by decide) dX2_taken_69 ?_
    refine x_iret C0 E (by decide) (by decide) dX2_taken_73 ?_
    rw [show kd = 3 by omega, cTaken, if_neg (by decide), if_neg (by decide), if_neg (by decide), if_pos h65] at hp
    exact hp
