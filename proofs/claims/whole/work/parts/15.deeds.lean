/-! THE REST OF A FILM'S DEEDS -/
theorem xSame.trans {I I1 I2 : xTI} {h : Nat} (a : xSame I I1 h) (b : xSame I1 I2 h) : xSame I I2 h := fun q a1 a2 a3 => (b q a1 a2 a3).trans (a q a1 a2 a3)
theorem xSame.rf {I : xTI} {h : Nat} : xSame I I h := fun _ _ _ _ => rfl
theorem xSame.film {I I' : xTI} {f h N V : Nat} {fl : xRow} {dq : xDq} (s : xSame I I' h) (hfh : ∀ i j, i < 9 → j < 4 → f + i ≠ h + j) (r : RFilm I f fl dq N V) : RFilm I' f fl dq N V :=
  r.congr fun i hi => s _ (hfh i 0 hi (by decide)) (hfh i 2 hi (by decide)) (hfh i 3 hi (by decide))
theorem u2_xSame {I : xTI} {h a k : Nat} {v : Int32} (ha : a = h ∨ a = h + 2 ∨ a = h + 3) : xSame I (u2 I a k v) h := fun q a1 a2 a3 => u2_row I k v (by rcases ha with rfl | rfl | rfl <;> assumption)
theorem c_X2_finish {S : xTS} {R : xTR} {I : xTI} {J : xTJ} {post : xPost} {f h T N V : Nat} {fl x : xRow} {dq : xDq} (hF : isFilm S R f) (hH : isHall S R h) (hfh : ∀ i j, i < 9 → j < 4 → f + i ≠ h + j) (wl : WFl fl T N V) (wx : WFx x T N V) (rF : RFilm I f fl dq N V) (rH : RHall I h x N) (hp : ∀ k I', k ≤ N → x 0 = nI k → xSame I I' h → RHall I' h (sEnd fl dq V (N - k) k x) N → post none S R I' J) : xSpec 5 yX2_finish cX2_finish 3 none 0 0 [.ref f, .ref h] S R I J post := by
  refine xSpec_of mt_X2_finish (Nat.le_of_ble_eq_true rfl) (fun G C0 hN hR E hI hZ => ?_)
  change XX G 0 0 0 [some (.ref f), some (.ref h), none] [] S R I J
  obtain ⟨hs0, hs1, hs2, hs3, hr4, hr5, hr6⟩ := id hH
  obtain ⟨fs0, fs1, fs2, fs3, fs4, fs5, fs6, fs7, fs8, fr4, fr5, fr6, fr7, fr8, fr9, fr10, fr11⟩ := id hF
  have hN8 := wl.2.2.2.1
  obtain ⟨k, hkN, hx0⟩ := wx.1
  have e0 : I h 0 = nI k := rH.1.trans hx0
  have hloop : ∀ n j I1 y, j + n = N → y 0 = nI j → WFx y T N V → xSame I I1 h → RHall I1 h y N → sEnd fl dq V (N - k) k x = sEnd fl dq V n j y → XX G 0 0 5 [some (.ref f), some (.ref h), some (.int (nI j))] [] S R I1 J := by
    intro n
    induction n with
    | zero =>
      intro j I1 y hj hy0 wy s1 r1 he
      have e1 : I1 f 1 = nI j := by rw [(s1.film hfh rF).2.1, wl.2.2.1, show N = j by omega]
      refine x_iload_n C0 rfl dX2_finish_5 ?_
      refine x_aload_n C0 rfl dX2_finish_6 ?_
      refine x_getI C0 wf_X2_44 (by assumption) rfl dX2_finish_7 ?_
      refine x_topi e1 ?_
      refine x_icmp_ge (tgt := 25) C0 (by decide) dX2_finish_10 (fun _ => ?_) (fun hkk => absurd ((Int32.le_refl _)) hkk)
      refine x_vret C0 E (by decide) (by decide) dX2_finish_25 ?_
      exact hp k I1 hkN hx0 s1 (by rw [he]; exact r1)
    | succ n ih =>
      intro j I1 y hj hy0 wy s1 r1 he
      have e1 : I1 f 1 = nI N := by rw [(s1.film hfh rF).2.1, wl.2.2.1]
      refine x_iload_n C0 rfl dX2_finish_5 ?_
      refine x_aload_n C0 rfl dX2_finish_6 ?_
      refine x_getI C0 wf_X2_44 (by assumption) rfl dX2_finish_7 ?_
      refine x_topi e1 ?_
      refine x_icmp_ge (tgt := 25) C0 (by decide) dX2_finish_10 (fun hkk => absurd hkk (nI_ge (by omega) (by omega))) (fun _ => ?_)
      refine x_aload_n C0 rfl dX2_finish_13 ?_
      refine x_aload_n C0 rfl dX2_finish_14 ?_
      refine x_callV [_] C0 hN rfl (xRf_of hR (by decide) (Nat.zero_le _) (Nat.zero_le _)) mv_X2_screen wm_X2_163 dX2_finish_15 (by assumption) rfl rfl (Nat.le_of_ble_eq_true rfl) (c_X2_screen hF hH hfh wl wy (s1.film hfh rF) r1 (fun q => absurd ((nI_eq (by omega) (by omega)).mp (hy0.symm.trans q)) (by omega)) (fun k2 I2 hk2 q2 s2 r2 => ?_))
      have hkk : k2 = j := (nI_eq (by omega) (by omega)).mp (q2.symm.trans hy0)
      subst hkk
      refine x_pop C0 rfl dX2_finish_18 ?_
      refine x_iinc (v := nI (k2 + 1)) (L' := [_, _, _]) C0 hN rfl (by decide) (nI_inc k2) rfl dX2_finish_19 ?_
      refine x_goto (tgt := 5) C0 (by decide) dX2_finish_22 ?_
      exact ih (k2 + 1) I2 _ (by omega) sShowK_0 (sShowK_WFx wl wy hk2) (s1.trans s2) r2 he
  refine x_aload_n C0 rfl dX2_finish_0 ?_
  refine x_getI C0 wf_X2_89 (by assumption) rfl dX2_finish_1 ?_
  refine x_topi e0 ?_
  refine x_istore_n (L' := [_, _, _]) C0 hN (by decide) rfl dX2_finish_4 ?_
  exact hloop (N - k) k I x (by omega) hx0 wx xSame.rf rH rfl
theorem RHall_wr {I : xTI} {h N k t b : Nat} {y : xRow} (r : RHall I h y N) (hk : k < 8) (hN : N ≤ 8) : RHall (u2 I (h + 1) k (nI (2 * t + b))) h (upd (upd y (4 + k) (nI t)) (12 + k) (nI b)) N := by
  obtain ⟨r0, r1, r2, r3, r4, r5, r6⟩ := r
  refine ⟨?_, ?_, ?_, ?_, fun j hj => ?_, fun i hi => ?_, fun u hu => ?_⟩
  · rw [u2_row _ _ _ (by omega), upd_ne (by omega), upd_ne (by omega)]; exact r0
  · rw [u2_row _ _ _ (by omega), upd_ne (by omega), upd_ne (by omega)]; exact r1
  · rw [u2_row _ _ _ (by omega), upd_ne (by omega), upd_ne (by omega)]; exact r2
  · rw [u2_row _ _ _ (by omega), upd_ne (by omega), upd_ne (by omega)]; exact r3
  · by_cases e : j = k
    · subst e; rw [u2_same, upd_ne (by omega), upd_eq, upd_eq, two_nI]
    · rw [u2_at, upd_ne (by omega), upd_ne (by omega), upd_ne (by omega), upd_ne (by omega)]; simp only [e, if_false]; exact r4 j hj
  · rw [u2_row _ _ _ (by omega), upd_ne (by omega), upd_ne (by omega)]; exact r5 i hi
  · rw [u2_row _ _ _ (by omega), upd_ne (by omega), upd_ne (by omega)]; exact r6 u hu
theorem WFx_wr {y : xRow} {T N V k t b : Nat} (h : WFx y T N V) (hk : k < 8) (hN : N ≤ 8) (ht : t < T) (hb : b < 2) : WFx (upd (upd y (4 + k) (nI t)) (12 + k) (nI b)) T N V := by
  obtain ⟨h0, h2, h3, h4, h5⟩ := h
  refine ⟨by rw [upd_ne (by omega), upd_ne (by omega)]; exact h0, by rw [upd_ne (by omega), upd_ne (by omega)]; exact h2, by rw [upd_ne (by omega), upd_ne (by omega)]; exact h3, fun j hj => ?_, fun u q hu hq => ?_⟩
  · by_cases e : j = k
    · subst e; exact ⟨t, b, ht, hb, by rw [upd_ne (by omega), upd_eq], by rw [upd_eq]⟩
    · rw [upd_ne (by omega), upd_ne (by omega), upd_ne (by omega), upd_ne (by omega)]; exact h4 j hj
  · rw [upd_ne (by omega), upd_ne (by omega)]; exact h5 u q hu hq
def sWr (x : xRow) (k t b : Nat) : xRow := upd (upd x (4 + k) (nI t)) (12 + k) (nI b)
theorem c_X2_rewrite {S : xTS} {R : xTR} {I : xTI} {J : xTJ} {post : xPost} {f h : Nat} {i c : Int32} (hF : isFilm S R f) (hH : isHall S R h) (h0 : ¬ ((0 ≤ i ∧ i < I f 1) ∧ I h 0 ≤ i) → post (some (.int 0)) S R I J) (h1 : ∀ k, i = nI k → k < 8 → (0 ≤ i ∧ i < I f 1) ∧ I h 0 ≤ i → post (some (.int 1)) S R (u2 I (h + 1) k c) J) (h8 : ∃ N, N ≤ 8 ∧ I f 1 = nI N) : xSpec 2 yX2_rewrite cX2_rewrite 4 (some .boolean) 0 0 [.ref f, .ref h, .int i, .int c] S R I J post := by
  refine xSpec_of mt_X2_rewrite (Nat.le_of_ble_eq_true rfl) (fun G C0 hN hR E hI hZ => ?_)
  change XX G 0 0 0 [some (.ref f), some (.ref h), some (.int i), some (.int c)] [] S R I J
  obtain ⟨hs0, hs1, hs2, hs3, hr4, hr5, hr6⟩ := id hH
  obtain ⟨fs0, fs1, fs2, fs3, fs4, fs5, fs6, fs7, fs8, fr4, fr5, fr6, fr7, fr8, fr9, fr10, fr11⟩ := id hF
  refine x_aload_n C0 rfl dX2_rewrite_0 ?_
  refine x_iload_n C0 rfl dX2_rewrite_1 ?_
  refine x_callV [_] C0 hN rfl (xRf_of hR (by decide) (Nat.zero_le _) (Nat.zero_le _)) mv_X2_hasScene wm_X2_167 dX2_rewrite_2 (by assumption) rfl rfl (Nat.le_of_ble_eq_true rfl) (c_X2_hasScene (by assumption) (fun g2 => ?_) (fun g2 => ?_))
  · refine x_if_eq (tgt := 16) C0 (by decide) dX2_rewrite_5 (fun hkk => absurd hkk (by decide)) (fun _ => ?_)
    refine x_iload_n C0 rfl dX2_rewrite_8 ?_
    refine x_aload_n C0 rfl dX2_rewrite_9 ?_
    refine x_getI C0 wf_X2_89 (by assumption) rfl dX2_rewrite_10 ?_
    refine x_icmp_ge (tgt := 18) C0 (by decide) dX2_rewrite_13 (fun g13 => ?_) (fun g13 => ?_)
    · obtain ⟨N, hN9, eN⟩ := h8
      obtain ⟨k, hk, ek⟩ := nI_ofi (n := N) (by omega) g2.1 (eN ▸ g2.2)
      subst ek
      refine x_aload_n C0 rfl dX2_rewrite_18 ?_
      refine x_getR C0 wf_X2_103 (by assumption) rfl rfl (by assumption) dX2_rewrite_19 ?_
      refine x_iload_n C0 rfl dX2_rewrite_22 ?_
      refine x_iload_n C0 rfl dX2_rewrite_23 ?_
      refine x_callS [_, _, _] C0 (xRf_of hR (by decide) (Nat.zero_le _) (Nat.zero_le _)) ms_X8_set wm_X2_50 dX2_rewrite_24 rfl rfl (Nat.le_of_ble_eq_true rfl) (c_X8_set hs1 (by omega) (by decide) ?_)
      refine x_iconst (v := 1) C0 rfl dX2_rewrite_27 ?_
      refine x_zret C0 E (by decide) (by decide) rfl dX2_rewrite_28 ?_
      exact h1 k rfl (by omega) ⟨g2, g13⟩
    · refine x_iconst (v := 0) C0 rfl dX2_rewrite_16 ?_
      refine x_zret C0 E (by decide) (by decide) rfl dX2_rewrite_17 ?_
      exact h0 (fun q => g13 q.2)
  · refine x_if_eq (tgt := 16) C0 (by decide) dX2_rewrite_5 (fun _ => ?_) (fun hkk => absurd (by decide) hkk)
    refine x_iconst (v := 0) C0 rfl dX2_rewrite_16 ?_
    refine x_zret C0 E (by decide) (by decide) rfl dX2_rewrite_17 ?_
    exact h0 (fun q => g2 q.1)
theorem c_X2_takeAway {S : xTS} {R : xTR} {I : xTI} {J : xTJ} {post : xPost} {f h : Nat} {i : Int32} (hF : isFilm S R f) (hH : isHall S R h) (h8 : ∃ N, N ≤ 8 ∧ I f 1 = nI N) (h0 : ∀ k, i = nI k → k < 8 → xbit (I h 3) k → post (some (.int 0)) S R I J) (h2 : ¬ ((0 ≤ i ∧ i < I f 1) ∧ I h 0 ≤ i) → post (some (.int 0)) S R I J) (h1 : ∀ k, i = nI k → k < 8 → (0 ≤ i ∧ i < I f 1) ∧ I h 0 ≤ i → ¬ xbit (I h 3) k → post (some (.int 1)) S R (u2 I h 3 (I h 3 ||| (1 : Int32) <<< (nI k &&& 31))) J) : xSpec 2 yX2_takeAway cX2_takeAway 3 (some .boolean) 0 0 [.ref f, .ref h, .int i] S R I J post := by
  refine xSpec_of mt_X2_takeAway (Nat.le_of_ble_eq_true rfl) (fun G C0 hN hR E hI hZ => ?_)
  change XX G 0 0 0 [some (.ref f), some (.ref h), some (.int i)] [] S R I J
  obtain ⟨hs0, hs1, hs2, hs3, hr4, hr5, hr6⟩ := id hH
  obtain ⟨fs0, fs1, fs2, fs3, fs4, fs5, fs6, fs7, fs8, fr4, fr5, fr6, fr7, fr8, fr9, fr10, fr11⟩ := id hF
  refine x_aload_n C0 rfl dX2_takeAway_0 ?_
  refine x_iload_n C0 rfl dX2_takeAway_1 ?_
  refine x_callV [_] C0 hN rfl (xRf_of hR (by decide) (Nat.zero_le _) (Nat.zero_le _)) mv_X2_hasScene wm_X2_167 dX2_takeAway_2 (by assumption) rfl rfl (Nat.le_of_ble_eq_true rfl) (c_X2_hasScene (by assumption) (fun g2 => ?_) (fun g2 => ?_))
  · refine x_if_eq (tgt := 24) C0 (by decide) dX2_takeAway_5 (fun hkk => absurd hkk (by decide)) (fun _ => ?_)
    refine x_iload_n C0 rfl dX2_takeAway_8 ?_
    refine x_aload_n C0 rfl dX2_takeAway_9 ?_
    refine x_getI C0 wf_X2_89 (by assumption) rfl dX2_takeAway_10 ?_
    refine x_icmp_lt (tgt := 24) C0 (by decide) dX2_takeAway_13 (fun g13 => ?_) (fun g13 => ?_)
    · refine x_iconst (v := 0) C0 rfl dX2_takeAway_24 ?_
      refine x_zret C0 E (by decide) (by decide) rfl dX2_takeAway_25 ?_
      exact h2 (fun q => i_nle.mpr g13 q.2)
    · obtain ⟨N, hN9, eN⟩ := h8
      obtain ⟨k, hk, ek⟩ := nI_ofi (n := N) (by omega) g2.1 (eN ▸ g2.2)
      subst ek
      refine x_aload_n C0 rfl dX2_takeAway_16 ?_
      refine x_iload_n C0 rfl dX2_takeAway_17 ?_
      refine x_callV [_] C0 hN rfl (xRf_of hR (by decide) (Nat.zero_le _) (Nat.zero_le _)) mv_X3_isCut wm_X2_122 dX2_takeAway_18 (by assumption) rfl rfl (Nat.le_of_ble_eq_true rfl) (c_X3_isCut (by assumption) (fun g18 => ?_) (fun g18 => ?_))
      · refine x_if_eq (tgt := 26) C0 (by decide) dX2_takeAway_21 (fun hkk => absurd hkk (by decide)) (fun _ => ?_)
        refine x_iconst (v := 0) C0 rfl dX2_takeAway_24 ?_
        refine x_zret C0 E (by decide) (by decide) rfl dX2_takeAway_25 ?_
        exact h0 k rfl (by omega) g18
      · refine x_if_eq (tgt := 26) C0 (by decide) dX2_takeAway_21 (fun _ => ?_) (fun hkk => absurd (by decide) hkk)
        refine x_aload_n C0 rfl dX2_takeAway_26 ?_
        refine x_dup C0 rfl dX2_takeAway_27 ?_
        refine x_getI C0 wf_X2_100 (by assumption) rfl dX2_takeAway_28 ?_
        refine x_iconst (v := 1) C0 rfl dX2_takeAway_31 ?_
        refine x_iload_n C0 rfl dX2_takeAway_32 ?_
        refine x_ishl C0 dX2_takeAway_33 ?_
        refine x_ior C0 dX2_takeAway_34 ?_
        refine x_putI C0 wf_X2_100 (by assumption) rfl dX2_takeAway_35 ?_
        refine x_iconst (v := 1) C0 rfl dX2_takeAway_38 ?_
        refine x_zret C0 E (by decide) (by decide) rfl dX2_takeAway_39 ?_
        exact h1 k rfl (by omega) ⟨g2, i_nlt.mp g13⟩ g18
  · refine x_if_eq (tgt := 24) C0 (by decide) dX2_takeAway_5 (fun _ => ?_) (fun hkk => absurd (by decide) hkk)
    refine x_iconst (v := 0) C0 rfl dX2_takeAway_24 ?_
    refine x_zret C0 E (by decide) (by decide) rfl dX2_takeAway_25 ?_
    exact h2 (fun q => g2 q.1)
abbrev cPers (a o tr : Int32) : Prop := ¬ a = -1 ∧ ¬ a = o ∧ (o = -1 ∨ 4 < tr)
theorem c_X2_persuades {S : xTS} {R : xTR} {I : xTI} {J : xTJ} {post : xPost} {f h a b t : Nat} (hF : isFilm S R f) (hH : isHall S R h) (ha : a < 6) (hb : b < 6) (ht : t < 6) (h1 : cPers (I (h + 2) (6 * a + t)) (I (h + 2) (6 * b + t)) (I (f + 6) b) → post (some (.int 1)) S R I J) (h0 : ¬ cPers (I (h + 2) (6 * a + t)) (I (h + 2) (6 * b + t)) (I (f + 6) b) → post (some (.int 0)) S R I J) : xSpec 2 yX2_persuades cX2_persuades 7 (some .boolean) 0 0 [.ref f, .ref h, .int (nI a), .int (nI b), .int (nI t)] S R I J post := by
  refine xSpec_of mt_X2_persuades (Nat.le_of_ble_eq_true rfl) (fun G C0 hN hR E hI hZ => ?_)
  change XX G 0 0 0 [some (.ref f), some (.ref h), some (.int (nI a)), some (.int (nI b)), some (.int (nI t)), none, none] [] S R I J
  obtain ⟨hs0, hs1, hs2, hs3, hr4, hr5, hr6⟩ := id hH
  obtain ⟨fs0, fs1, fs2, fs3, fs4, fs5, fs6, fs7, fs8, fr4, fr5, fr6, fr7, fr8, fr9, fr10, fr11⟩ := id hF
  refine x_aload_n C0 rfl dX2_persuades_0 ?_
  refine x_iload_n C0 rfl dX2_persuades_1 ?_
  refine x_iload C0 rfl dX2_persuades_2 ?_
  refine x_callV [_, _] C0 hN rfl (xRf_of hR (by decide) (Nat.zero_le _) (Nat.zero_le _)) mv_X3_thought wm_X2_132 dX2_persuades_4 (by assumption) rfl rfl (Nat.le_of_ble_eq_true rfl) (c_X3_thought (by assumption) (by omega) (by omega) ?_)
  refine x_istore (L' := [_, _, _, _, _, _, _]) C0 hN (by decide) rfl dX2_persuades_7 ?_
  refine x_aload_n C0 rfl dX2_persuades_9 ?_
  refine x_iload_n C0 rfl dX2_persuades_10 ?_
  refine x_iload C0 rfl dX2_persuades_11 ?_
  refine x_callV [_, _] C0 hN rfl (xRf_of hR (by decide) (Nat.zero_le _) (Nat.zero_le _)) mv_X3_thought wm_X2_132 dX2_persuades_13 (by assumption) rfl rfl (Nat.le_of_ble_eq_true rfl) (c_X3_thought (by assumption) (by omega) (by omega) ?_)
  refine x_istore (L' := [_, _, _, _, _, _, _]) C0 hN (by decide) rfl dX2_persuades_16 ?_
  refine x_iload C0 rfl dX2_persuades_18 ?_
  refine x_iconst (v := -1) C0 rfl dX2_persuades_20 ?_
  refine x_icmp_eq (tgt := 53) C0 (by decide) dX2_persuades_21 (fun g21 => ?_) (fun g21 => ?_)
  · refine x_iconst (v := 0) C0 rfl dX2_persuades_53 ?_
    refine x_zret C0 E (by decide) (by decide) rfl dX2_persuades_54 ?_
    exact h0 (fun q => q.1 g21)
  · refine x_iload C0 rfl dX2_persuades_24 ?_
    refine x_iload C0 rfl dX2_persuades_26 ?_
    refine x_icmp_eq (tgt := 53) C0 (by decide) dX2_persuades_28 (fun g28 => ?_) (fun g28 => ?_)
    · refine x_iconst (v := 0) C0 rfl dX2_persuades_53 ?_
      refine x_zret C0 E (by decide) (by decide) rfl dX2_persuades_54 ?_
      exact h0 (fun q => q.2.1 g28)
    · refine x_iload C0 rfl dX2_persuades_31 ?_
      refine x_iconst (v := -1) C0 rfl dX2_persuades_33 ?_
      refine x_icmp_eq (tgt := 49) C0 (by decide) dX2_persuades_34 (fun g34 => ?_) (fun g34 => ?_)
      · refine x_iconst (v := 1) C0 rfl dX2_persuades_49 ?_
        refine x_goto (tgt := 54) C0 (by decide) dX2_persuades_50 ?_
        refine x_zret C0 E (by decide) (by decide) rfl dX2_persuades_54 ?_
        exact h1 ⟨g21, g28, Or.inl g34⟩
      · refine x_aload_n C0 rfl dX2_persuades_37 ?_
        refine x_getR C0 wf_X2_32 (by assumption) rfl rfl (by assumption) dX2_persuades_38 ?_
        refine x_iload_n C0 rfl dX2_persuades_41 ?_
        refine x_callS [_, _] C0 (xRf_of hR (by decide) (Nat.zero_le _) (Nat.zero_le _)) ms_X8_get wm_X2_60 dX2_persuades_42 rfl rfl (Nat.le_of_ble_eq_true rfl) (c_X8_get fs6 hb (by decide) ?_)
        refine x_iconst (v := 4) C0 rfl dX2_persuades_45 ?_
        refine x_icmp_le (tgt := 53) C0 (by decide) dX2_persuades_46 (fun g46 => ?_) (fun g46 => ?_)
        · refine x_iconst (v := 0) C0 rfl dX2_persuades_53 ?_
          refine x_zret C0 E (by decide) (by decide) rfl dX2_persuades_54 ?_
          exact h0 (fun q => q.2.2.elim g34 (fun z => i_nlt.mpr g46 z))
        · refine x_iconst (v := 1) C0 rfl dX2_persuades_49 ?_
          refine x_goto (tgt := 54) C0 (by decide) dX2_persuades_50 ?_
          refine x_zret C0 E (by decide) (by decide) rfl dX2_persuades_54 ?_
          exact h1 ⟨g21, g28, Or.inr (i_nle.mp g46)⟩
abbrev sPers (fl x : xRow) (a b t : Nat) : Prop := cPers (x (20 + 6 * a + t)) (x (20 + 6 * b + t)) (fl (38 + 3 * b))
def sCnt (fl x : xRow) (a b : Nat) : Nat → Nat
  | 0 => 0
  | t + 1 => sCnt fl x a b t + if sPers fl x a b t then 1 else 0
def sTalk (fl x : xRow) (a b : Nat) : Nat → xRow
  | 0 => x
  | t + 1 => if sPers fl (sTalk fl x a b t) a b t then upd (sTalk fl x a b t) (20 + 6 * b + t) (sTalk fl x a b t (20 + 6 * a + t)) else sTalk fl x a b t
theorem sCnt_le (fl x : xRow) (a b : Nat) : ∀ t, sCnt fl x a b t ≤ t
  | 0 => Nat.le_refl 0
  | t + 1 => by have := sCnt_le fl x a b t; unfold sCnt; split <;> omega
theorem sTalk_out (fl x : xRow) (a b : Nat) : ∀ t i, (∀ q, q < t → i ≠ 20 + 6 * b + q) → sTalk fl x a b t i = x i
  | 0, _, _ => rfl
  | t + 1, i, h => by
    unfold sTalk
    have ih := sTalk_out fl x a b t i (fun q hq => h q (by omega))
    split
    · rw [upd_ne (h t (by omega)), ih]
    · exact ih
theorem sTalk_pers (fl x : xRow) {a b t : Nat} (hab : a ≠ b) (ht : t < 6) : sPers fl (sTalk fl x a b t) a b t ↔ sPers fl x a b t := by
  unfold sPers
  rw [sTalk_out fl x a b t _ (fun q hq => by omega), sTalk_out fl x a b t _ (fun q hq => by omega)]
theorem sTalk_none (fl x : xRow) {a b : Nat} (hab : a ≠ b) : ∀ t, t ≤ 6 → sCnt fl x a b t = 0 → sTalk fl x a b t = x
  | 0, _, _ => rfl
  | t + 1, ht, h => by
    unfold sCnt at h
    unfold sTalk
    by_cases q : sPers fl x a b t
    · rw [if_pos q] at h; omega
    · rw [if_neg (fun z => q ((sTalk_pers fl x hab (by omega)).mp z))]
      exact sTalk_none fl x hab t (by omega) (by omega)
theorem sTalk_WFx {fl x : xRow} {T N V a b : Nat} (wl : WFl fl T N V) (wx : WFx x T N V) (ha : a < V) (hb : b < V) : ∀ t, t ≤ T → WFx (sTalk fl x a b t) T N V
  | 0, _ => wx
  | t + 1, ht => by
    have ih := sTalk_WFx wl wx ha hb t (by omega)
    have hT := wl.2.1
    have hV := wl.2.2.2.2.2.1
    unfold sTalk
    split
    · rename_i q
      rcases ih.2.2.2.2 a t (by omega) (by omega) with h | ⟨-, -, h | h⟩
      · exact absurd h q.1
      · rw [h]; exact WFx_th (b := 0) ih wl.2.2.2.1 hb hV (by omega) hT (by decide)
      · rw [h]; exact WFx_th (b := 1) ih wl.2.2.2.1 hb hV (by omega) hT (by decide)
    · exact ih
theorem c_X2_persuasions {S : xTS} {R : xTR} {I : xTI} {J : xTJ} {post : xPost} {f h T N V : Nat} {i j : Int32} {fl x : xRow} {dq : xDq} (hF : isFilm S R f) (hH : isHall S R h) (hfh : ∀ i j, i < 9 → j < 4 → f + i ≠ h + j) (wl : WFl fl T N V) (wx : WFx x T N V) (rF : RFilm I f fl dq N V) (rH : RHall I h x N) (h0 : (∀ a b, a < V → b < V → a ≠ b → i = nI a → j = nI b → xbit (x 2) a → xbit (x 2) b → False) → post (some (.int (-1))) S R I J) (hp : ∀ a b, a < V → b < V → a ≠ b → i = nI a → j = nI b → xbit (x 2) a → xbit (x 2) b → post (some (.int (nI (sCnt fl x a b T)))) S R I J) : xSpec 3 yX2_persuasions cX2_persuasions 6 (some .int) 0 0 [.ref f, .ref h, .int i, .int j] S R I J post := by
  refine xSpec_of mt_X2_persuasions (Nat.le_of_ble_eq_true rfl) (fun G C0 hN hR E hI hZ => ?_)
  change XX G 0 0 0 [some (.ref f), some (.ref h), some (.int i), some (.int j), none, none] [] S R I J
  obtain ⟨hs0, hs1, hs2, hs3, hr4, hr5, hr6⟩ := id hH
  obtain ⟨fs0, fs1, fs2, fs3, fs4, fs5, fs6, fs7, fs8, fr4, fr5, fr6, fr7, fr8, fr9, fr10, fr11⟩ := id hF
  have hT6 := wl.2.1
  have hV6 := wl.2.2.2.2.2.1
  have eT : I f 0 = nI T := rF.1.trans wl.1
  have eV : I f 2 = nI V := rF.2.2.1.trans wl.2.2.2.2.1
  have e2 : I h 2 = x 2 := rH.2.2.1
  have hloop : ∀ a b, a < V → b < V → a ≠ b → i = nI a → j = nI b → xbit (x 2) a → xbit (x 2) b → ∀ n t, t + n = T → XX G 0 0 45 [some (.ref f), some (.ref h), some (.int (nI a)), some (.int (nI b)), some (.int (nI (sCnt fl x a b t))), some (.int (nI t))] [] S R I J := by
    intro a b ha hb hab ei ej ia ib n
    induction n with
    | zero =>
      intro t ht
      have ht' : t = T := by omega
      subst ht'
      refine x_iload C0 rfl dX2_persuasions_45 ?_
      refine x_aload_n C0 rfl dX2_persuasions_47 ?_
      refine x_getI C0 wf_X2_41 (by assumption) rfl dX2_persuasions_48 ?_
      refine x_topi eT ?_
      refine x_icmp_ge (tgt := 82) C0 (by decide) dX2_persuasions_51 (fun _ => ?_) (fun hkk => absurd ((Int32.le_refl _)) hkk)
      refine x_iload C0 rfl dX2_persuasions_82 ?_
      refine x_iret C0 E (by decide) (by decide) dX2_persuasions_84 ?_
      exact hp a b ha hb hab ei ej ia ib
    | succ n ih =>
      intro t ht
      have hth : ∀ u q, u < 6 → q < 6 → I (h + 2) (6 * u + q) = x (20 + 6 * u + q) := fun u q hu hq => by
          rw [rH.2.2.2.2.2.1 (6 * u + q) (by omega), Nat.add_assoc]
      have hpc : cPers (I (h + 2) (6 * a + t)) (I (h + 2) (6 * b + t)) (I (f + 6) b) ↔ sPers fl x a b t := by
        unfold sPers; rw [hth a t (by omega) (by omega), hth b t (by omega) (by omega), (rF.2.2.2.2.2.2.1 b hb).2.1]
      have hS1 : sCnt fl x a b (t + 1) = sCnt fl x a b t + if sPers fl x a b t then 1 else 0 := rfl
      refine x_iload C0 rfl dX2_persuasions_45 ?_
      refine x_aload_n C0 rfl dX2_persuasions_47 ?_
      refine x_getI C0 wf_X2_41 (by assumption) rfl dX2_persuasions_48 ?_
      refine x_topi eT ?_
      refine x_icmp_ge (tgt := 82) C0 (by decide) dX2_persuasions_51 (fun hkk => absurd hkk (nI_ge (by omega) (by omega))) (fun _ => ?_)
      refine x_iload C0 rfl dX2_persuasions_54 ?_
      refine x_aload_n C0 rfl dX2_persuasions_56 ?_
      refine x_aload_n C0 rfl dX2_persuasions_57 ?_
      refine x_iload_n C0 rfl dX2_persuasions_58 ?_
      refine x_iload_n C0 rfl dX2_persuasions_59 ?_
      refine x_iload C0 rfl dX2_persuasions_60 ?_
      refine x_callV [_, _, _, _] C0 hN rfl (xRf_of hR (by decide) (Nat.zero_le _) (Nat.zero_le _)) mv_X2_persuades wm_X2_170 dX2_persuasions_62 (by assumption) rfl rfl (Nat.le_of_ble_eq_true rfl) (c_X2_persuades hF hH (by omega) (by omega) (by omega) (fun g62 => ?_) (fun g62 => ?_))
      · refine x_if_eq (tgt := 72) C0 (by decide) dX2_persuasions_65 (fun hkk => absurd hkk (by decide)) (fun _ => ?_)
        refine x_iconst (v := 1) C0 rfl dX2_persuasions_68 ?_
        refine x_goto (tgt := 73) C0 (by decide) dX2_persuasions_69 ?_
        refine x_iadd C0 dX2_persuasions_73 ?_
        rw [if_pos (hpc.mp g62)] at hS1
        refine x_topi (v := nI (sCnt fl x a b (t + 1))) (by rw [hS1]; exact nI_1 _) ?_
        refine x_istore (L' := [_, _, _, _, _, _]) C0 hN (by decide) rfl dX2_persuasions_74 ?_
        refine x_iinc (v := nI (t + 1)) (L' := [_, _, _, _, _, _]) C0 hN rfl (by decide) (nI_inc t) rfl dX2_persuasions_76 ?_
        refine x_goto (tgt := 45) C0 (by decide) dX2_persuasions_79 ?_
        exact ih (t + 1) (by omega)
      · refine x_if_eq (tgt := 72) C0 (by decide) dX2_persuasions_65 (fun _ => ?_) (fun hkk => absurd (by decide) hkk)
        refine x_iconst (v := 0) C0 rfl dX2_persuasions_72 ?_
        refine x_iadd C0 dX2_persuasions_73 ?_
        rw [if_neg (fun q => g62 (hpc.mpr q))] at hS1
        refine x_topi (v := nI (sCnt fl x a b (t + 1))) (by rw [hS1]; exact nI_add _ 0) ?_
        refine x_istore (L' := [_, _, _, _, _, _]) C0 hN (by decide) rfl dX2_persuasions_74 ?_
        refine x_iinc (v := nI (t + 1)) (L' := [_, _, _, _, _, _]) C0 hN rfl (by decide) (nI_inc t) rfl dX2_persuasions_76 ?_
        refine x_goto (tgt := 45) C0 (by decide) dX2_persuasions_79 ?_
        exact ih (t + 1) (by omega)
  refine x_aload_n C0 rfl dX2_persuasions_0 ?_
  refine x_iload_n C0 rfl dX2_persuasions_1 ?_
  refine x_callV [_] C0 hN rfl (xRf_of hR (by decide) (Nat.zero_le _) (Nat.zero_le _)) mv_X2_hasWatcher wm_X2_82 dX2_persuasions_2 (by assumption) rfl rfl (Nat.le_of_ble_eq_true rfl) (c_X2_hasWatcher (by assumption) (fun g2 => ?_) (fun g2 => ?_))
  · refine x_if_eq (tgt := 37) C0 (by decide) dX2_persuasions_5 (fun hkk => absurd hkk (by decide)) (fun _ => ?_)
    refine x_aload_n C0 rfl dX2_persuasions_8 ?_
    refine x_iload_n C0 rfl dX2_persuasions_9 ?_
    refine x_callV [_] C0 hN rfl (xRf_of hR (by decide) (Nat.zero_le _) (Nat.zero_le _)) mv_X2_hasWatcher wm_X2_82 dX2_persuasions_10 (by assumption) rfl rfl (Nat.le_of_ble_eq_true rfl) (c_X2_hasWatcher (by assumption) (fun g10 => ?_) (fun g10 => ?_))
    · refine x_if_eq (tgt := 37) C0 (by decide) dX2_persuasions_13 (fun hkk => absurd hkk (by decide)) (fun _ => ?_)
      refine x_iload_n C0 rfl dX2_persuasions_16 ?_
      refine x_iload_n C0 rfl dX2_persuasions_17 ?_
      refine x_icmp_eq (tgt := 37) C0 (by decide) dX2_persuasions_18 (fun g18 => ?_) (fun g18 => ?_)
      · refine x_iconst (v := -1) C0 rfl dX2_persuasions_37 ?_
        refine x_iret C0 E (by decide) (by decide) dX2_persuasions_38 ?_
        exact h0 (fun a b _ _ hab ea eb _ _ => hab ((nI_eq (by omega) (by omega)).mp (ea.symm.trans (g18.trans eb))))
      · obtain ⟨a, ha, ea⟩ := nI_ofi (n := V) (by omega) g2.1 (eV ▸ g2.2)
        obtain ⟨b, hb, eb⟩ := nI_ofi (n := V) (by omega) g10.1 (eV ▸ g10.2)
        subst ea
        subst eb
        have hab : a ≠ b := fun q => g18 (by rw [q])
        refine x_aload_n C0 rfl dX2_persuasions_21 ?_
        refine x_iload_n C0 rfl dX2_persuasions_22 ?_
        refine x_callV [_] C0 hN rfl (xRf_of hR (by decide) (Nat.zero_le _) (Nat.zero_le _)) mv_X3_isIn wm_X2_142 dX2_persuasions_23 (by assumption) rfl rfl (Nat.le_of_ble_eq_true rfl) (c_X3_isIn (by assumption) (fun g23 => ?_) (fun g23 => ?_))
        · refine x_if_eq (tgt := 37) C0 (by decide) dX2_persuasions_26 (fun hkk => absurd hkk (by decide)) (fun _ => ?_)
          refine x_aload_n C0 rfl dX2_persuasions_29 ?_
          refine x_iload_n C0 rfl dX2_persuasions_30 ?_
          refine x_callV [_] C0 hN rfl (xRf_of hR (by decide) (Nat.zero_le _) (Nat.zero_le _)) mv_X3_isIn wm_X2_142 dX2_persuasions_31 (by assumption) rfl rfl (Nat.le_of_ble_eq_true rfl) (c_X3_isIn (by assumption) (fun g31 => ?_) (fun g31 => ?_))
          · refine x_if_ne (tgt := 39) C0 (by decide) dX2_persuasions_34 (fun _ => ?_) (fun hkk => absurd hkk (by decide))
            refine x_iconst (v := 0) C0 rfl dX2_persuasions_39 ?_
            refine x_istore (L' := [_, _, _, _, _, _]) C0 hN (by decide) rfl dX2_persuasions_40 ?_
            refine x_iconst (v := 0) C0 rfl dX2_persuasions_42 ?_
            refine x_istore (L' := [_, _, _, _, _, _]) C0 hN (by decide) rfl dX2_persuasions_43 ?_
            exact hloop a b ha hb hab rfl rfl (by rw [← e2]; exact g23) (by rw [← e2]; exact g31) T 0 (by omega)
          · refine x_if_ne (tgt := 39) C0 (by decide) dX2_persuasions_34 (fun hkk => absurd (by decide) hkk) (fun _ => ?_)
            refine x_iconst (v := -1) C0 rfl dX2_persuasions_37 ?_
            refine x_iret C0 E (by decide) (by decide) dX2_persuasions_38 ?_
            exact h0 (fun a2 b2 ha2 hb2 _ ea eb _ ib => g31 (by rw [e2, (nI_eq (by omega) (by omega)).mp eb]; exact ib))
        · refine x_if_eq (tgt := 37) C0 (by decide) dX2_persuasions_26 (fun _ => ?_) (fun hkk => absurd (by decide) hkk)
          refine x_iconst (v := -1) C0 rfl dX2_persuasions_37 ?_
          refine x_iret C0 E (by decide) (by decide) dX2_persuasions_38 ?_
          exact h0 (fun a2 b2 ha2 hb2 _ ea eb ia _ => g23 (by rw [e2, (nI_eq (by omega) (by omega)).mp ea]; exact ia))
    · refine x_if_eq (tgt := 37) C0 (by decide) dX2_persuasions_13 (fun _ => ?_) (fun hkk => absurd (by decide) hkk)
      refine x_iconst (v := -1) C0 rfl dX2_persuasions_37 ?_
      refine x_iret C0 E (by decide) (by decide) dX2_persuasions_38 ?_
      exact h0 (fun a b ha hb _ ea eb _ _ => g10 (by rw [eb, eV]; exact ⟨nI_pos' (by omega), nI_lt hb (by omega)⟩))
  · refine x_if_eq (tgt := 37) C0 (by decide) dX2_persuasions_5 (fun _ => ?_) (fun hkk => absurd (by decide) hkk)
    refine x_iconst (v := -1) C0 rfl dX2_persuasions_37 ?_
    refine x_iret C0 E (by decide) (by decide) dX2_persuasions_38 ?_
    exact h0 (fun a b ha hb _ ea eb _ _ => g2 (by rw [ea, eV]; exact ⟨nI_pos' (by omega), nI_lt ha (by omega)⟩))
