/-! THE REFERENCE: ends, copies, beginnings, writing, talk -/
theorem c_X12_clearWavers {S : xTS} {R : xTR} {I : xTI} {J : xTJ} {post : xPost} (hM : isModel S R) (hp : post none S R (ufill I 153 6 0) J) : xSpec 1 yX12_clearWavers cX12_clearWavers 2 none 0 0 [.ref 135] S R I J post := by
  refine xSpec_of mt_X12_clearWavers (Nat.le_of_ble_eq_true rfl) (fun G C0 hN hR E hI hZ => ?_)
  change XX G 0 0 0 [some (.ref 135), none] [] S R I J
  have hloop : ∀ m k, k + m = 6 → XX G 0 0 2 [some (.ref 135), some (.int (nI k))] [] S R (ufill I 153 k 0) J := by
    intro m
    induction m with
    | zero =>
      intro k hk
      have hk' : k = 6 := by omega
      subst hk'
      refine x_iload_n C0 rfl dX12_clearWavers_2 ?_
      refine x_bipush (v := nI 6) C0 rfl dX12_clearWavers_3 ?_
      refine x_icmp_ge (tgt := 21) C0 (by decide) dX12_clearWavers_5 (fun _ => ?_) (fun hkk => absurd ((Int32.le_refl _)) hkk)
      refine x_vret C0 E (by decide) (by decide) dX12_clearWavers_21 ?_
      exact hp
    | succ m ih =>
      intro k hk
      have e : u2 (ufill I 153 k 0) 153 k (nI 0) = ufill I 153 (k + 1) 0 := by
        funext x i
        unfold u2 ufill
        by_cases h1 : x = 153
        · by_cases h2 : i = k
          · simp [h1, h2, nI_0]
          · simp only [h1, h2, true_and, and_false, if_false]
            by_cases h3 : i < k
            · rw [if_pos h3, if_pos (by omega)]
            · rw [if_neg h3, if_neg (by omega)]
        · simp [h1]
      refine x_iload_n C0 rfl dX12_clearWavers_2 ?_
      refine x_bipush (v := nI 6) C0 rfl dX12_clearWavers_3 ?_
      refine x_icmp_ge (tgt := 21) C0 (by decide) dX12_clearWavers_5 (fun hkk => absurd hkk (nI_ge (by omega) (by omega))) (fun _ => ?_)
      refine x_aload_n C0 rfl dX12_clearWavers_8 ?_
      refine x_getR C0 wf_X12_126 (isModel.k0 hM) rfl rfl (isModel.r27 hM) dX12_clearWavers_9 ?_
      refine x_iload_n C0 rfl dX12_clearWavers_12 ?_
      refine x_iconst (v := nI 0) C0 rfl dX12_clearWavers_13 ?_
      refine x_iastoreN C0 (isModel.s27 hM) (by omega) (by omega) dX12_clearWavers_14 ?_
      refine x_I e ?_
      refine x_iinc (v := nI (k + 1)) (L' := [_, _]) C0 hN rfl (by decide) (nI_inc k) rfl dX12_clearWavers_15 ?_
      refine x_goto (tgt := 2) C0 (by decide) dX12_clearWavers_18 ?_
      exact ih (k + 1) (by omega)
  refine x_iconst (v := nI 0) C0 rfl dX12_clearWavers_0 ?_
  refine x_istore_n (L' := [_, _]) C0 hN (by decide) rfl dX12_clearWavers_1 ?_
  exact (by have := hloop 6 0 (by omega); have e : ufill I 153 0 0 = I := by funext x i; simp [ufill]
            rw [e] at this; exact this)
def sWvE (fl : xRow) (dq : xDq) (V w : Nat) : Nat → Nat → xRow → Int32 → Int32
  | 0, _, _, a => a
  | n + 1, k, x, a => sWvE fl dq V w n (k + 1) (sShowK fl dq k V x).1 (a + sWv fl x V k w)
theorem c_X12_ends {S : xTS} {R : xTR} {I : xTI} {J : xTJ} {post : xPost} (hM : isModel S R) {b T N V : Nat} {fl x : xRow} {lw : Option (List (Nat × Nat))} (hb : b ≤ 2192) (wl : WFl fl T N V) (wx : WFx x T N V) (hf : MFilm I fl) (hl : MLaw I fl lw) (hx : MHall I b x) (hp : ∀ k I', k ≤ N → x 0 = nI k → MSame I I' b → MHall I' b (sEnd fl (sDq fl lw) V (N - k) k x) → (∀ w, w < 6 → I' 153 w = sWvE fl (sDq fl lw) V w (N - k) k x 0) → post none S R I' J) : xSpec 6 yX12_ends cX12_ends 2 none 0 0 [.ref 135, .int (nI b)] S R I J post := by
  refine xSpec_of mt_X12_ends (Nat.le_of_ble_eq_true rfl) (fun G C0 hN hR E hI hZ => ?_)
  change XX G 0 0 0 [some (.ref 135), some (.int (nI b))] [] S R I J
  have hN8 := wl.2.2.2.1
  obtain ⟨k, hkN, hx0⟩ := wx.1
  have hloop : ∀ n j I1 y (a : Nat → Int32), j + n = N → y 0 = nI j → WFx y T N V → MSame I I1 b → MHall I1 b y → (∀ w, w < 6 → I1 153 w = a w) → sEnd fl (sDq fl lw) V (N - k) k x = sEnd fl (sDq fl lw) V n j y → (∀ w, sWvE fl (sDq fl lw) V w (N - k) k x 0 = sWvE fl (sDq fl lw) V w n j y (a w)) → XX G 0 0 4 [some (.ref 135), some (.int (nI b))] [] S R I1 J := by
    intro n
    induction n with
    | zero =>
      intro j I1 y a hj hy0 wy s1 r1 v1 he hv
      have e1 : I1 141 1 = nI j := by rw [s1.film hf 1 (by decide), wl.2.2.1, show N = j by omega]
      have y0 : I1 151 (b + 0) = nI j := (r1 0 (by decide)).trans hy0
      refine x_aload_n C0 rfl dX12_ends_4 ?_
      refine x_getR C0 wf_X12_119 (isModel.k0 hM) rfl rfl (isModel.r24 hM) dX12_ends_5 ?_
      refine x_iload_n C0 rfl dX12_ends_8 ?_
      refine x_iconst (v := nI 0) C0 rfl dX12_ends_9 ?_
      refine x_iaddN C0 dX12_ends_10 ?_
      refine x_ialoadN C0 (isModel.s24 hM) (by omega) (by omega) dX12_ends_11 ?_
      refine x_topi y0 ?_
      refine x_aload_n C0 rfl dX12_ends_12 ?_
      refine x_callV [] C0 hN rfl (xRf_of hR (by decide) (Nat.zero_le _) (Nat.zero_le _)) mv_X12_scenes wm_X12_285 dX12_ends_13 (isModel.k0 hM) rfl rfl (Nat.le_of_ble_eq_true rfl) (c_X12_scenes hM ?_)
      refine x_topi e1 ?_
      refine x_icmp_ge (tgt := 28) C0 (by decide) dX12_ends_16 (fun _ => ?_) (fun hkk => absurd ((Int32.le_refl _)) hkk)
      refine x_vret C0 E (by decide) (by decide) dX12_ends_28 ?_
      exact hp k I1 hkN hx0 s1 (by rw [he]; exact r1) (fun w hw => by rw [hv w]; exact v1 w hw)
    | succ n ih =>
      intro j I1 y a hj hy0 wy s1 r1 v1 he hv
      have e1 : I1 141 1 = nI N := by rw [s1.film hf 1 (by decide), wl.2.2.1]
      have y0 : I1 151 (b + 0) = nI j := (r1 0 (by decide)).trans hy0
      refine x_aload_n C0 rfl dX12_ends_4 ?_
      refine x_getR C0 wf_X12_119 (isModel.k0 hM) rfl rfl (isModel.r24 hM) dX12_ends_5 ?_
      refine x_iload_n C0 rfl dX12_ends_8 ?_
      refine x_iconst (v := nI 0) C0 rfl dX12_ends_9 ?_
      refine x_iaddN C0 dX12_ends_10 ?_
      refine x_ialoadN C0 (isModel.s24 hM) (by omega) (by omega) dX12_ends_11 ?_
      refine x_topi y0 ?_
      refine x_aload_n C0 rfl dX12_ends_12 ?_
      refine x_callV [] C0 hN rfl (xRf_of hR (by decide) (Nat.zero_le _) (Nat.zero_le _)) mv_X12_scenes wm_X12_285 dX12_ends_13 (isModel.k0 hM) rfl rfl (Nat.le_of_ble_eq_true rfl) (c_X12_scenes hM ?_)
      refine x_topi e1 ?_
      refine x_icmp_ge (tgt := 28) C0 (by decide) dX12_ends_16 (fun hkk => absurd hkk (nI_ge (by omega) (by omega))) (fun _ => ?_)
      refine x_aload_n C0 rfl dX12_ends_19 ?_
      refine x_iload_n C0 rfl dX12_ends_20 ?_
      refine x_callV [_] C0 hN rfl (xRf_of hR (by decide) (Nat.zero_le _) (Nat.zero_le _)) mv_X12_shows wm_X12_338 dX12_ends_21 (isModel.k0 hM) rfl rfl (Nat.le_of_ble_eq_true rfl) (c_X12_shows hM hb wl wy (s1.film hf) (s1.law hl) r1 (k := j) (by omega) hy0 (fun I2 s2 r2 v2 => ?_))
      refine x_pop C0 rfl dX12_ends_24 ?_
      refine x_goto (tgt := 4) C0 (by decide) dX12_ends_25 ?_
      exact ih (j + 1) I2 _ (fun w => a w + sWv fl y V j w) (by omega) sShowK_0 (sShowK_WFx wl wy (by omega)) (s1.trans s2) r2 (fun w hw => by rw [v2 w hw, v1 w hw]) he hv
  refine x_aload_n C0 rfl dX12_ends_0 ?_
  refine x_callV [] C0 hN rfl (xRf_of hR (by decide) (Nat.zero_le _) (Nat.zero_le _)) mv_X12_clearWavers wm_X12_335 dX12_ends_1 (isModel.k0 hM) rfl rfl (Nat.le_of_ble_eq_true rfl) (c_X12_clearWavers hM ?_)
  exact hloop (N - k) k (ufill I 153 6 0) x (fun _ => 0) (by omega) hx0 wx ⟨fun a _ _ _ a4 => ufill_row _ _ _ a4, fun j _ => by rw [ufill_row _ _ _ (by decide)]⟩ (hx.congr (ufill_row _ _ _ (by decide))) (fun w hw => ufill_in _ _ hw) rfl (fun w => rfl)
def ucp (I : xTI) (fr to n : Nat) : xTI := fun a j => if a = 151 ∧ to ≤ j ∧ j < to + n then I 151 (fr + (j - to)) else I a j
theorem ucp_row (I : xTI) {fr to n a : Nat} (h : a ≠ 151) : ucp I fr to n a = I a := by funext j; simp [ucp, h]
theorem c_X12_copies {S : xTS} {R : xTR} {I : xTI} {J : xTJ} {post : xPost} (hM : isModel S R) {fr to n : Nat} (h1 : fr + n ≤ to ∨ to + n ≤ fr) (h2 : fr + n ≤ 2254) (h3 : to + n ≤ 2254) (hp : post none S R (ucp I fr to n) J) : xSpec 1 yX12_copies cX12_copies 5 none 0 0 [.ref 135, .int (nI fr), .int (nI to), .int (nI n)] S R I J post := by
  refine xSpec_of mt_X12_copies (Nat.le_of_ble_eq_true rfl) (fun G C0 hN hR E hI hZ => ?_)
  change XX G 0 0 0 [some (.ref 135), some (.int (nI fr)), some (.int (nI to)), some (.int (nI n)), none] [] S R I J
  have hloop : ∀ m k, k + m = n → XX G 0 0 3 [some (.ref 135), some (.int (nI fr)), some (.int (nI to)), some (.int (nI n)), some (.int (nI k))] [] S R (ucp I fr to k) J := by
    intro m
    induction m with
    | zero =>
      intro k hk
      have hk' : k = n := by omega
      subst hk'
      refine x_iload C0 rfl dX12_copies_3 ?_
      refine x_iload_n C0 rfl dX12_copies_5 ?_
      refine x_icmp_ge (tgt := 33) C0 (by decide) dX12_copies_6 (fun _ => ?_) (fun hkk => absurd ((Int32.le_refl _)) hkk)
      refine x_vret C0 E (by decide) (by decide) dX12_copies_33 ?_
      exact hp
    | succ m ih =>
      intro k hk
      have e0 : ucp I fr to k 151 (fr + k) = I 151 (fr + k) := by unfold ucp; rw [if_neg (by omega)]
      have e : u2 (ucp I fr to k) 151 (to + k) (I 151 (fr + k)) = ucp I fr to (k + 1) := by
        funext x i
        unfold u2 ucp
        by_cases h1 : x = 151
        · by_cases h2 : i = to + k
          · rw [if_pos ⟨h1, h2⟩, if_pos ⟨h1, by omega, by omega⟩, h2, Nat.add_sub_cancel_left]
          · rw [if_neg (fun q => h2 q.2)]
            by_cases h3 : to ≤ i ∧ i < to + k
            · rw [if_pos ⟨h1, h3.1, h3.2⟩, if_pos ⟨h1, h3.1, by omega⟩]
            · rw [if_neg (fun q => h3 q.2), if_neg (fun q => h3 ⟨q.2.1, by omega⟩)]
        · rw [if_neg (fun q => h1 q.1), if_neg (fun q => h1 q.1), if_neg (fun q => h1 q.1)]
      refine x_iload C0 rfl dX12_copies_3 ?_
      refine x_iload_n C0 rfl dX12_copies_5 ?_
      refine x_icmp_ge (tgt := 33) C0 (by decide) dX12_copies_6 (fun hkk => absurd hkk (nI_ge (by omega) (by omega))) (fun _ => ?_)
      refine x_aload_n C0 rfl dX12_copies_9 ?_
      refine x_getR C0 wf_X12_119 (isModel.k0 hM) rfl rfl (isModel.r24 hM) dX12_copies_10 ?_
      refine x_iload_n C0 rfl dX12_copies_13 ?_
      refine x_iload C0 rfl dX12_copies_14 ?_
      refine x_iaddN C0 dX12_copies_16 ?_
      refine x_aload_n C0 rfl dX12_copies_17 ?_
      refine x_getR C0 wf_X12_119 (isModel.k0 hM) rfl rfl (isModel.r24 hM) dX12_copies_18 ?_
      refine x_iload_n C0 rfl dX12_copies_21 ?_
      refine x_iload C0 rfl dX12_copies_22 ?_
      refine x_iaddN C0 dX12_copies_24 ?_
      refine x_ialoadN C0 (isModel.s24 hM) (by omega) (by omega) dX12_copies_25 ?_
      refine x_topi e0 ?_
      refine x_iastoreN C0 (isModel.s24 hM) (by omega) (by omega) dX12_copies_26 ?_
      refine x_I e ?_
      refine x_iinc (v := nI (k + 1)) (L' := [_, _, _, _, _]) C0 hN rfl (by decide) (nI_inc k) rfl dX12_copies_27 ?_
      refine x_goto (tgt := 3) C0 (by decide) dX12_copies_30 ?_
      exact ih (k + 1) (by omega)
  refine x_iconst (v := nI 0) C0 rfl dX12_copies_0 ?_
  refine x_istore (L' := [_, _, _, _, _]) C0 hN (by decide) rfl dX12_copies_1 ?_
  exact (by have := hloop n 0 (by omega); have e : ucp I fr to 0 = I := by funext x i; unfold ucp; rw [if_neg (by omega)]
            rw [e] at this; exact this)
theorem c_X12_writes {S : xTS} {R : xTR} {I : xTI} {J : xTJ} {post : xPost} (hM : isModel S R) {b k : Nat} {t v : Int32} (hb : b ≤ 2192) (hk : k < 8) (hp : post none S R (u2 (u2 I 151 (b + 4 + k) t) 151 (b + 12 + k) v) J) : xSpec 1 yX12_writes cX12_writes 5 none 0 0 [.ref 135, .int (nI b), .int (nI k), .int t, .int v] S R I J post := by
  refine xSpec_of mt_X12_writes (Nat.le_of_ble_eq_true rfl) (fun G C0 hN hR E hI hZ => ?_)
  change XX G 0 0 0 [some (.ref 135), some (.int (nI b)), some (.int (nI k)), some (.int t), some (.int v)] [] S R I J
  refine x_aload_n C0 rfl dX12_writes_0 ?_
  refine x_getR C0 wf_X12_119 (isModel.k0 hM) rfl rfl (isModel.r24 hM) dX12_writes_1 ?_
  refine x_iload_n C0 rfl dX12_writes_4 ?_
  refine x_iconst (v := nI 4) C0 rfl dX12_writes_5 ?_
  refine x_iaddN C0 dX12_writes_6 ?_
  refine x_iload_n C0 rfl dX12_writes_7 ?_
  refine x_iaddN C0 dX12_writes_8 ?_
  refine x_iload_n C0 rfl dX12_writes_9 ?_
  refine x_iastoreN C0 (isModel.s24 hM) (by omega) (by omega) dX12_writes_10 ?_
  refine x_aload_n C0 rfl dX12_writes_11 ?_
  refine x_getR C0 wf_X12_119 (isModel.k0 hM) rfl rfl (isModel.r24 hM) dX12_writes_12 ?_
  refine x_iload_n C0 rfl dX12_writes_15 ?_
  refine x_bipush (v := nI 12) C0 rfl dX12_writes_16 ?_
  refine x_iaddN C0 dX12_writes_18 ?_
  refine x_iload_n C0 rfl dX12_writes_19 ?_
  refine x_iaddN C0 dX12_writes_20 ?_
  refine x_iload C0 rfl dX12_writes_21 ?_
  refine x_iastoreN C0 (isModel.s24 hM) (by omega) (by omega) dX12_writes_23 ?_
  refine x_vret C0 E (by decide) (by decide) dX12_writes_24 ?_
  exact hp
theorem c_X12_begunAgain {S : xTS} {R : xTR} {I : xTI} {J : xTJ} {post : xPost} (hM : isModel S R) {b : Nat} (hb : b ≤ 2192) (hp : post none S R (u2 (u2 I 151 (b + 0) 0) 151 (b + 1) (I 151 (b + 1) + 1)) J) : xSpec 1 yX12_begunAgain cX12_begunAgain 2 none 0 0 [.ref 135, .int (nI b)] S R I J post := by
  refine xSpec_of mt_X12_begunAgain (Nat.le_of_ble_eq_true rfl) (fun G C0 hN hR E hI hZ => ?_)
  change XX G 0 0 0 [some (.ref 135), some (.int (nI b))] [] S R I J
  refine x_aload_n C0 rfl dX12_begunAgain_0 ?_
  refine x_getR C0 wf_X12_119 (isModel.k0 hM) rfl rfl (isModel.r24 hM) dX12_begunAgain_1 ?_
  refine x_iload_n C0 rfl dX12_begunAgain_4 ?_
  refine x_iconst (v := nI 0) C0 rfl dX12_begunAgain_5 ?_
  refine x_iaddN C0 dX12_begunAgain_6 ?_
  refine x_iconst (v := 0) C0 rfl dX12_begunAgain_7 ?_
  refine x_iastoreN C0 (isModel.s24 hM) (by omega) (by omega) dX12_begunAgain_8 ?_
  refine x_aload_n C0 rfl dX12_begunAgain_9 ?_
  refine x_getR C0 wf_X12_119 (isModel.k0 hM) rfl rfl (isModel.r24 hM) dX12_begunAgain_10 ?_
  refine x_iload_n C0 rfl dX12_begunAgain_13 ?_
  refine x_iconst (v := nI 1) C0 rfl dX12_begunAgain_14 ?_
  refine x_iaddN C0 dX12_begunAgain_15 ?_
  refine x_dup2 C0 rfl rfl dX12_begunAgain_16 ?_
  refine x_ialoadN C0 (isModel.s24 hM) (by omega) (by omega) dX12_begunAgain_17 ?_
  refine x_topi (v := I 151 (b + 1)) (by rw [u2_off _ _ (by omega)]) ?_
  refine x_iconst (v := 1) C0 rfl dX12_begunAgain_18 ?_
  refine x_iadd C0 dX12_begunAgain_19 ?_
  refine x_iastoreN C0 (isModel.s24 hM) (by omega) (by omega) dX12_begunAgain_20 ?_
  refine x_vret C0 E (by decide) (by decide) dX12_begunAgain_21 ?_
  exact hp
theorem c_X12_isToCome {S : xTS} {R : xTR} {I : xTI} {J : xTJ} {post : xPost} (hM : isModel S R) {b : Nat} {i : Int32} (hb : b ≤ 2192) (h1 : (0 ≤ i ∧ i < I 141 1) ∧ I 151 (b + 0) ≤ i → post (some (.int 1)) S R I J) (h0 : ¬ ((0 ≤ i ∧ i < I 141 1) ∧ I 151 (b + 0) ≤ i) → post (some (.int 0)) S R I J) : xSpec 3 yX12_isToCome cX12_isToCome 3 (some .boolean) 0 0 [.ref 135, .int (nI b), .int i] S R I J post := by
  refine xSpec_of mt_X12_isToCome (Nat.le_of_ble_eq_true rfl) (fun G C0 hN hR E hI hZ => ?_)
  change XX G 0 0 0 [some (.ref 135), some (.int (nI b)), some (.int i)] [] S R I J
  refine x_aload_n C0 rfl dX12_isToCome_0 ?_
  refine x_iload_n C0 rfl dX12_isToCome_1 ?_
  refine x_callV [_] C0 hN rfl (xRf_of hR (by decide) (Nat.zero_le _) (Nat.zero_le _)) mv_X12_isScene wm_X12_341 dX12_isToCome_2 (isModel.k0 hM) rfl rfl (Nat.le_of_ble_eq_true rfl) (c_X12_isScene hM (fun g2 => ?_) (fun g2 => ?_))
  · refine x_if_eq (tgt := 24) C0 (by decide) dX12_isToCome_5 (fun hkk => absurd hkk (by decide)) (fun _ => ?_)
    refine x_iload_n C0 rfl dX12_isToCome_8 ?_
    refine x_aload_n C0 rfl dX12_isToCome_9 ?_
    refine x_getR C0 wf_X12_119 (isModel.k0 hM) rfl rfl (isModel.r24 hM) dX12_isToCome_10 ?_
    refine x_iload_n C0 rfl dX12_isToCome_13 ?_
    refine x_iconst (v := nI 0) C0 rfl dX12_isToCome_14 ?_
    refine x_iaddN C0 dX12_isToCome_15 ?_
    refine x_ialoadN C0 (isModel.s24 hM) (by omega) (by omega) dX12_isToCome_16 ?_
    refine x_icmp_lt (tgt := 24) C0 (by decide) dX12_isToCome_17 (fun g17 => ?_) (fun g17 => ?_)
    · refine x_iconst (v := 0) C0 rfl dX12_isToCome_24 ?_
      refine x_zret C0 E (by decide) (by decide) rfl dX12_isToCome_25 ?_
      exact h0 (fun q => i_nle.mpr g17 q.2)
    · refine x_iconst (v := 1) C0 rfl dX12_isToCome_20 ?_
      refine x_goto (tgt := 25) C0 (by decide) dX12_isToCome_21 ?_
      refine x_zret C0 E (by decide) (by decide) rfl dX12_isToCome_25 ?_
      exact h1 ⟨g2, i_nlt.mp g17⟩
  · refine x_if_eq (tgt := 24) C0 (by decide) dX12_isToCome_5 (fun _ => ?_) (fun hkk => absurd (by decide) hkk)
    refine x_iconst (v := 0) C0 rfl dX12_isToCome_24 ?_
    refine x_zret C0 E (by decide) (by decide) rfl dX12_isToCome_25 ?_
    exact h0 (fun q => g2 q.1)
def sBits (v : Int32) : Nat → Int32
  | 0 => 0
  | n + 1 => sBits v n + (v >>> (nI n &&& 31) &&& 1)
theorem c_X12_bits {S : xTS} {R : xTR} {I : xTI} {J : xTJ} {post : xPost} {v : Int32} (hp : post (some (.int (sBits v 30))) S R I J) : xSpec 1 yX12_bits cX12_bits 3 (some .int) 0 0 [.int v] S R I J post := by
  refine xSpec_of mt_X12_bits (Nat.le_of_ble_eq_true rfl) (fun G C0 hN hR E hI hZ => ?_)
  change XX G 0 0 0 [some (.int v), none, none] [] S R I J
  have hloop : ∀ m k, k + m = 30 → XX G 0 0 4 [some (.int v), some (.int (sBits v k)), some (.int (nI k))] [] S R I J := by
    intro m
    induction m with
    | zero =>
      intro k hk
      have hk' : k = 30 := by omega
      subst hk'
      refine x_iload_n C0 rfl dX12_bits_4 ?_
      refine x_bipush (v := 30) C0 rfl dX12_bits_5 ?_
      refine x_icmp_ge (tgt := 24) C0 (by decide) dX12_bits_7 (fun _ => ?_) (fun hkk => absurd ((by decide)) hkk)
      refine x_iload_n C0 rfl dX12_bits_24 ?_
      refine x_iret C0 E (by decide) (by decide) dX12_bits_25 ?_
      exact hp
    | succ m ih =>
      intro k hk
      refine x_iload_n C0 rfl dX12_bits_4 ?_
      refine x_bipush (v := 30) C0 rfl dX12_bits_5 ?_
      refine x_icmp_ge (tgt := 24) C0 (by decide) dX12_bits_7 (fun hkk => absurd hkk ((nI_ge (b := 30) (by omega) (by omega)))) (fun _ => ?_)
      refine x_iload_n C0 rfl dX12_bits_10 ?_
      refine x_iload_n C0 rfl dX12_bits_11 ?_
      refine x_iload_n C0 rfl dX12_bits_12 ?_
      refine x_ishr C0 dX12_bits_13 ?_
      refine x_iconst (v := 1) C0 rfl dX12_bits_14 ?_
      refine x_iand C0 dX12_bits_15 ?_
      refine x_iadd C0 dX12_bits_16 ?_
      refine x_istore_n (L' := [_, _, _]) C0 hN (by decide) rfl dX12_bits_17 ?_
      refine x_iinc (v := nI (k + 1)) (L' := [_, _, _]) C0 hN rfl (by decide) (nI_inc k) rfl dX12_bits_18 ?_
      refine x_goto (tgt := 4) C0 (by decide) dX12_bits_21 ?_
      exact ih (k + 1) (by omega)
  refine x_iconst (v := 0) C0 rfl dX12_bits_0 ?_
  refine x_istore_n (L' := [_, _, _]) C0 hN (by decide) rfl dX12_bits_1 ?_
  refine x_iconst (v := 0) C0 rfl dX12_bits_2 ?_
  refine x_istore_n (L' := [_, _, _]) C0 hN (by decide) rfl dX12_bits_3 ?_
  exact hloop 30 0 (by omega)
theorem sTalk_pers2 (fl x : xRow) {a b t : Nat} (ht : t < 6) : sPers fl (sTalk fl x a b t) a b t ↔ sPers fl x a b t := by
  by_cases hab : a = b
  · subst hab
    exact ⟨fun q => absurd rfl q.2.1, fun q => absurd rfl q.2.1⟩
  · exact sTalk_pers fl x hab ht
theorem upd_self (y : xRow) (i : Nat) : upd y i (y i) = y := by funext j; by_cases h : j = i; subst h; rw [upd_eq]; rw [upd_ne h]
theorem th_le {v : Int32} (h : v = -1 ∨ v = 0 ∨ v = 1) : (v < 0 ↔ v = -1) ∧ (0 ≤ v ↔ ¬ v = -1) := by rcases h with rfl | rfl | rfl <;> decide
theorem WFx.th {x : xRow} {T N V w t : Nat} (h : WFx x T N V) (hw : w < 6) (ht : t < 6) : x (20 + 6 * w + t) = -1 ∨ x (20 + 6 * w + t) = 0 ∨ x (20 + 6 * w + t) = 1 := by
  rcases h.2.2.2.2 w t hw ht with h | ⟨-, -, h⟩
  · exact Or.inl h
  · exact Or.inr h
theorem c_X12_talks {S : xTS} {R : xTR} {I : xTI} {J : xTJ} {post : xPost} (hM : isModel S R) {b c d T N V : Nat} {fl x : xRow} (hb : b ≤ 2192) (wl : WFl fl T N V) (wx : WFx x T N V) (hf : MFilm I fl) (hx : MHall I b x) (hc : c < V) (hd : d < V) (hp : ∀ I', (∀ a, a ≠ 151 → I' a = I a) → MSame I I' b → MHall I' b (sTalk fl x c d T) → post (some (.int (nI (sCnt fl x c d T)))) S R I' J) : xSpec 2 yX12_talks cX12_talks 9 (some .int) 0 0 [.ref 135, .int (nI b), .int (nI c), .int (nI d)] S R I J post := by
  refine xSpec_of mt_X12_talks (Nat.le_of_ble_eq_true rfl) (fun G C0 hN hR E hI hZ => ?_)
  change XX G 0 0 0 [some (.ref 135), some (.int (nI b)), some (.int (nI c)), some (.int (nI d)), none, none, none, none, none] [] S R I J
  have hT6 := wl.2.1
  have hV6 := wl.2.2.2.2.2.1
  have hloop : ∀ n t I1 (q6 q7 q8 : Option Value), t + n = T → (∀ a, a ≠ 151 → I1 a = I a) → MSame I I1 b → MHall I1 b (sTalk fl x c d t) → XX G 0 0 6 [some (.ref 135), some (.int (nI b)), some (.int (nI c)), some (.int (nI d)), some (.int (nI (sCnt fl x c d t))), some (.int (nI t)), q6, q7, q8] [] S R I1 J := by
    intro n
    induction n with
    | zero =>
      intro t I1 q6 q7 q8 ht f1 s1 m1
      have ht' : t = T := by omega
      subst ht'
      have e0 : I1 141 0 = nI t := (s1.film hf 0 (by decide)).trans wl.1
      refine x_iload C0 rfl dX12_talks_6 ?_
      refine x_aload_n C0 rfl dX12_talks_8 ?_
      refine x_callV [] C0 hN rfl (xRf_of hR (by decide) (Nat.zero_le _) (Nat.zero_le _)) mv_X12_things wm_X12_297 dX12_talks_9 (isModel.k0 hM) rfl rfl (Nat.le_of_ble_eq_true rfl) (c_X12_things hM ?_)
      refine x_topi e0 ?_
      refine x_icmp_ge (tgt := 119) C0 (by decide) dX12_talks_12 (fun _ => ?_) (fun hkk => absurd ((Int32.le_refl _)) hkk)
      refine x_iload C0 rfl dX12_talks_119 ?_
      refine x_iret C0 E (by decide) (by decide) dX12_talks_121 ?_
      exact hp I1 f1 s1 m1
    | succ n ih =>
      intro t I1 q6 q7 q8 ht f1 s1 m1
      have e0 : I1 141 0 = nI T := (s1.film hf 0 (by decide)).trans wl.1
      have hf1 := s1.film hf
      have wy := sTalk_WFx wl wx hc hd t (by omega)
      have hpp := sTalk_pers2 fl x (a := c) (b := d) (t := t) (by omega)
      have hS1 : sTalk fl x c d (t + 1) = if sPers fl (sTalk fl x c d t) c d t then upd (sTalk fl x c d t) (20 + 6 * d + t) (sTalk fl x c d t (20 + 6 * c + t)) else sTalk fl x c d t := rfl
      have hC1 : sCnt fl x c d (t + 1) = sCnt fl x c d t + if sPers fl x c d t then 1 else 0 := rfl
      generalize hy : sTalk fl x c d t = y at m1 wy hS1 hpp
      have yc : I1 151 (b + 20 + 6 * c + t) = y (20 + 6 * c + t) := m1.at (by omega) (by omega)
      have yd : I1 151 (b + 20 + 6 * d + t) = y (20 + 6 * d + t) := m1.at (by omega) (by omega)
      have lc := th_le (wy.th (w := c) (t := t) (by omega) (by omega))
      have ld := th_le (wy.th (w := d) (t := t) (by omega) (by omega))
      have hmid : ∀ tk : Int32, (¬ tk = 0 ↔ sPers fl y c d t) → XX G 0 0 69 [some (.ref 135), some (.int (nI b)), some (.int (nI c)), some (.int (nI d)), some (.int (nI (sCnt fl x c d t))), some (.int (nI t)), some (.int (y (20 + 6 * c + t))), some (.int (y (20 + 6 * d + t))), some (.int tk)] [] S R I1 J := by
        intro tk htk
        by_cases pp : sPers fl y c d t
        · have hne := htk.mpr pp
          rw [if_pos pp] at hS1
          rw [if_pos (hpp.mp pp)] at hC1
          refine x_aload_n C0 rfl dX12_talks_69 ?_
          refine x_getR C0 wf_X12_119 (isModel.k0 hM) rfl rfl (isModel.r24 hM) dX12_talks_70 ?_
          refine x_iload_n C0 rfl dX12_talks_73 ?_
          refine x_bipush (v := nI 20) C0 rfl dX12_talks_74 ?_
          refine x_iaddN C0 dX12_talks_76 ?_
          refine x_bipush (v := nI 6) C0 rfl dX12_talks_77 ?_
          refine x_iload_n C0 rfl dX12_talks_79 ?_
          refine x_imulN C0 dX12_talks_80 ?_
          refine x_iaddN C0 dX12_talks_81 ?_
          refine x_iload C0 rfl dX12_talks_82 ?_
          refine x_iaddN C0 dX12_talks_84 ?_
          refine x_iload C0 rfl dX12_talks_85 ?_
          refine x_if_eq (tgt := 95) C0 (by decide) dX12_talks_87 (fun hkk => absurd hkk (hne)) (fun _ => ?_)
          refine x_iload C0 rfl dX12_talks_90 ?_
          refine x_goto (tgt := 97) C0 (by decide) dX12_talks_92 ?_
          refine x_iastoreN C0 (isModel.s24 hM) (by omega) (by omega) dX12_talks_97 ?_
          refine x_iload C0 rfl dX12_talks_98 ?_
          refine x_iload C0 rfl dX12_talks_100 ?_
          refine x_if_eq (tgt := 109) C0 (by decide) dX12_talks_102 (fun hkk => absurd hkk (hne)) (fun _ => ?_)
          refine x_iconst (v := nI 1) C0 rfl dX12_talks_105 ?_
          refine x_goto (tgt := 110) C0 (by decide) dX12_talks_106 ?_
          refine x_iaddN C0 dX12_talks_110 ?_
          refine x_istore (L' := [_, _, _, _, _, _, _, _, _]) C0 hN (by decide) rfl dX12_talks_111 ?_
          refine x_iinc (v := nI (t + 1)) (L' := [_, _, _, _, _, _, _, _, _]) C0 hN rfl (by decide) (nI_inc t) rfl dX12_talks_113 ?_
          refine x_goto (tgt := 6) C0 (by decide) dX12_talks_116 ?_
          rw [← hC1]
          exact ih (t + 1) _ _ _ _ (by omega) (fun a ha => by rw [u2_row _ _ _ ha]; exact f1 a ha) (s1.trans (MSame.st (by omega) (by omega))) (by rw [hS1]; exact m1.upd (by omega) (by omega))
        · have h0 : tk = 0 := Decidable.byContradiction (fun q => pp (htk.mp q))
          rw [if_neg pp] at hS1
          rw [if_neg (fun q => pp (hpp.mpr q)), Nat.add_zero] at hC1
          have mu := m1.upd (i := 20 + 6 * d + t) (v := y (20 + 6 * d + t)) (j := b + 20 + 6 * d + t) (by omega) (by omega)
          rw [upd_self] at mu
          refine x_aload_n C0 rfl dX12_talks_69 ?_
          refine x_getR C0 wf_X12_119 (isModel.k0 hM) rfl rfl (isModel.r24 hM) dX12_talks_70 ?_
          refine x_iload_n C0 rfl dX12_talks_73 ?_
          refine x_bipush (v := nI 20) C0 rfl dX12_talks_74 ?_
          refine x_iaddN C0 dX12_talks_76 ?_
          refine x_bipush (v := nI 6) C0 rfl dX12_talks_77 ?_
          refine x_iload_n C0 rfl dX12_talks_79 ?_
          refine x_imulN C0 dX12_talks_80 ?_
          refine x_iaddN C0 dX12_talks_81 ?_
          refine x_iload C0 rfl dX12_talks_82 ?_
          refine x_iaddN C0 dX12_talks_84 ?_
          refine x_iload C0 rfl dX12_talks_85 ?_
          refine x_if_eq (tgt := 95) C0 (by decide) dX12_talks_87 (fun _ => ?_) (fun hkk => absurd (h0) hkk)
          refine x_iload C0 rfl dX12_talks_95 ?_
          refine x_iastoreN C0 (isModel.s24 hM) (by omega) (by omega) dX12_talks_97 ?_
          refine x_iload C0 rfl dX12_talks_98 ?_
          refine x_iload C0 rfl dX12_talks_100 ?_
          refine x_if_eq (tgt := 109) C0 (by decide) dX12_talks_102 (fun _ => ?_) (fun hkk => absurd (h0) hkk)
          refine x_iconst (v := nI 0) C0 rfl dX12_talks_109 ?_
          refine x_iaddN C0 dX12_talks_110 ?_
          refine x_istore (L' := [_, _, _, _, _, _, _, _, _]) C0 hN (by decide) rfl dX12_talks_111 ?_
          refine x_iinc (v := nI (t + 1)) (L' := [_, _, _, _, _, _, _, _, _]) C0 hN rfl (by decide) (nI_inc t) rfl dX12_talks_113 ?_
          refine x_goto (tgt := 6) C0 (by decide) dX12_talks_116 ?_
          rw [← hC1]
          exact ih (t + 1) _ _ _ _ (by omega) (fun a ha => by rw [u2_row _ _ _ ha]; exact f1 a ha) (s1.trans (MSame.st (by omega) (by omega))) (by rw [hS1]; exact mu)
      refine x_iload C0 rfl dX12_talks_6 ?_
      refine x_aload_n C0 rfl dX12_talks_8 ?_
      refine x_callV [] C0 hN rfl (xRf_of hR (by decide) (Nat.zero_le _) (Nat.zero_le _)) mv_X12_things wm_X12_297 dX12_talks_9 (isModel.k0 hM) rfl rfl (Nat.le_of_ble_eq_true rfl) (c_X12_things hM ?_)
      refine x_topi e0 ?_
      refine x_icmp_ge (tgt := 119) C0 (by decide) dX12_talks_12 (fun hkk => absurd hkk (nI_ge (by omega) (by omega))) (fun _ => ?_)
      refine x_aload_n C0 rfl dX12_talks_15 ?_
      refine x_iload_n C0 rfl dX12_talks_16 ?_
      refine x_iload_n C0 rfl dX12_talks_17 ?_
      refine x_iload C0 rfl dX12_talks_18 ?_
      refine x_callV [_, _, _] C0 hN rfl (xRf_of hR (by decide) (Nat.zero_le _) (Nat.zero_le _)) mv_X12_thoughtOf wm_X12_325 dX12_talks_20 (isModel.k0 hM) rfl rfl (Nat.le_of_ble_eq_true rfl) (c_X12_thoughtOf hM (by omega) (by omega) (by omega) ?_)
      refine x_topi yc ?_
      refine x_istore (L' := [_, _, _, _, _, _, _, _, _]) C0 hN (by decide) rfl dX12_talks_23 ?_
      refine x_aload_n C0 rfl dX12_talks_25 ?_
      refine x_iload_n C0 rfl dX12_talks_26 ?_
      refine x_iload_n C0 rfl dX12_talks_27 ?_
      refine x_iload C0 rfl dX12_talks_28 ?_
      refine x_callV [_, _, _] C0 hN rfl (xRf_of hR (by decide) (Nat.zero_le _) (Nat.zero_le _)) mv_X12_thoughtOf wm_X12_325 dX12_talks_30 (isModel.k0 hM) rfl rfl (Nat.le_of_ble_eq_true rfl) (c_X12_thoughtOf hM (by omega) (by omega) (by omega) ?_)
      refine x_topi yd ?_
      refine x_istore (L' := [_, _, _, _, _, _, _, _, _]) C0 hN (by decide) rfl dX12_talks_33 ?_
      refine x_iload C0 rfl dX12_talks_35 ?_
      refine x_if_lt (tgt := 66) C0 (by decide) dX12_talks_37 (fun g37 => ?_) (fun g37 => ?_)
      · refine x_iconst (v := 0) C0 rfl dX12_talks_66 ?_
        refine x_istore (L' := [_, _, _, _, _, _, _, _, _]) C0 hN (by decide) rfl dX12_talks_67 ?_
        exact hmid 0 ⟨fun q => absurd rfl q, fun q => absurd g37 (i_nlt.mpr (lc.2.mpr q.1))⟩
      · refine x_iload C0 rfl dX12_talks_40 ?_
        refine x_iload C0 rfl dX12_talks_42 ?_
        refine x_icmp_eq (tgt := 66) C0 (by decide) dX12_talks_44 (fun g44 => ?_) (fun g44 => ?_)
        · refine x_iconst (v := 0) C0 rfl dX12_talks_66 ?_
          refine x_istore (L' := [_, _, _, _, _, _, _, _, _]) C0 hN (by decide) rfl dX12_talks_67 ?_
          exact hmid 0 ⟨fun q => absurd rfl q, fun q => absurd g44 q.2.1⟩
        · refine x_iload C0 rfl dX12_talks_47 ?_
          refine x_if_lt (tgt := 62) C0 (by decide) dX12_talks_49 (fun g49 => ?_) (fun g49 => ?_)
          · refine x_iconst (v := 1) C0 rfl dX12_talks_62 ?_
            refine x_goto (tgt := 67) C0 (by decide) dX12_talks_63 ?_
            refine x_istore (L' := [_, _, _, _, _, _, _, _, _]) C0 hN (by decide) rfl dX12_talks_67 ?_
            exact hmid 1 ⟨fun _ => ⟨lc.2.mp (i_nlt.mp g37), g44, Or.inl (ld.1.mp g49)⟩, fun _ => by decide⟩
          · refine x_aload_n C0 rfl dX12_talks_52 ?_
            refine x_iload_n C0 rfl dX12_talks_53 ?_
            refine x_iconst (v := nI 1) C0 rfl dX12_talks_54 ?_
            refine x_callV [_, _] C0 hN rfl (xRf_of hR (by decide) (Nat.zero_le _) (Nat.zero_le _)) mv_X12_watcherOf wm_X12_310 dX12_talks_55 (isModel.k0 hM) rfl rfl (Nat.le_of_ble_eq_true rfl) (c_X12_watcherOf hM (by omega) (by omega) ?_)
            refine x_topi (v := fl (38 + 3 * d)) (by rw [hf1 (37 + 3 * d + 1) (by omega), show 37 + 3 * d + 1 = 38 + 3 * d by omega]) ?_
            refine x_iconst (v := 4) C0 rfl dX12_talks_58 ?_
            refine x_icmp_le (tgt := 66) C0 (by decide) dX12_talks_59 (fun g59 => ?_) (fun g59 => ?_)
            · refine x_iconst (v := 0) C0 rfl dX12_talks_66 ?_
              refine x_istore (L' := [_, _, _, _, _, _, _, _, _]) C0 hN (by decide) rfl dX12_talks_67 ?_
              exact hmid 0 ⟨fun q => absurd rfl q, fun q => q.2.2.elim (fun z => absurd (ld.1.mpr z) g49) (fun z => absurd z (i_nlt.mpr g59))⟩
            · refine x_iconst (v := 1) C0 rfl dX12_talks_62 ?_
              refine x_goto (tgt := 67) C0 (by decide) dX12_talks_63 ?_
              refine x_istore (L' := [_, _, _, _, _, _, _, _, _]) C0 hN (by decide) rfl dX12_talks_67 ?_
              exact hmid 1 ⟨fun _ => ⟨lc.2.mp (i_nlt.mp g37), g44, Or.inr (i_nle.mp g59)⟩, fun _ => by decide⟩
  refine x_iconst (v := nI 0) C0 rfl dX12_talks_0 ?_
  refine x_istore (L' := [_, _, _, _, _, _, _, _, _]) C0 hN (by decide) rfl dX12_talks_1 ?_
  refine x_iconst (v := nI 0) C0 rfl dX12_talks_3 ?_
  refine x_istore (L' := [_, _, _, _, _, _, _, _, _]) C0 hN (by decide) rfl dX12_talks_4 ?_
  exact hloop T 0 I none none none (by omega) (fun _ _ => rfl) MSame.rf hx
