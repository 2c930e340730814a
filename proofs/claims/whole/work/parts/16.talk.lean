/-! TALK, REISSUE, BEGINNING, COPIES -/
theorem c_X2_persuade {S : xTS} {R : xTR} {I : xTI} {J : xTJ} {post : xPost} {f h T N V : Nat} {i j : Int32} {fl x : xRow} {dq : xDq} (hF : isFilm S R f) (hH : isHall S R h) (hfh : ∀ i j, i < 9 → j < 4 → f + i ≠ h + j) (wl : WFl fl T N V) (wx : WFx x T N V) (rF : RFilm I f fl dq N V) (rH : RHall I h x N) (h0 : (∀ a b, a < V → b < V → a ≠ b → i = nI a → j = nI b → xbit (x 2) a → xbit (x 2) b → False) → post (some (.int (-1))) S R I J) (hp : ∀ a b I', a < V → b < V → a ≠ b → i = nI a → j = nI b → xbit (x 2) a → xbit (x 2) b → xSame I I' h → RHall I' h (sTalk fl x a b T) N → post (some (.int (nI (sCnt fl x a b T)))) S R I' J) : xSpec 4 yX2_persuade cX2_persuade 6 (some .int) 0 0 [.ref f, .ref h, .int i, .int j] S R I J post := by
  refine xSpec_of mt_X2_persuade (Nat.le_of_ble_eq_true rfl) (fun G C0 hN hR E hI hZ => ?_)
  change XX G 0 0 0 [some (.ref f), some (.ref h), some (.int i), some (.int j), none, none] [] S R I J
  obtain ⟨hs0, hs1, hs2, hs3, hr4, hr5, hr6⟩ := id hH
  obtain ⟨fs0, fs1, fs2, fs3, fs4, fs5, fs6, fs7, fs8, fr4, fr5, fr6, fr7, fr8, fr9, fr10, fr11⟩ := id hF
  have hT6 := wl.2.1
  have hV6 := wl.2.2.2.2.2.1
  have hN8 := wl.2.2.2.1
  have hloop : ∀ a b, a < V → b < V → a ≠ b → i = nI a → j = nI b → xbit (x 2) a → xbit (x 2) b → ¬ sCnt fl x a b T = 0 → ∀ n t I1, t + n = T → xSame I I1 h → RHall I1 h (sTalk fl x a b t) N → XX G 0 0 12 [some (.ref f), some (.ref h), some (.int (nI a)), some (.int (nI b)), some (.int (nI (sCnt fl x a b T))), some (.int (nI t))] [] S R I1 J := by
    intro a b ha hb hab ei ej ia ib hc n
    have hcT := sCnt_le fl x a b T
    induction n with
    | zero =>
      intro t I1 ht s1 r1
      have ht' : t = T := by omega
      subst ht'
      have e0 : I1 f 0 = nI t := (s1.film hfh rF).1.trans wl.1
      refine x_iload C0 rfl dX2_persuade_12 ?_
      refine x_aload_n C0 rfl dX2_persuade_14 ?_
      refine x_getI C0 wf_X2_41 (by assumption) rfl dX2_persuade_15 ?_
      refine x_topi e0 ?_
      refine x_icmp_ge (tgt := 58) C0 (by decide) dX2_persuade_18 (fun _ => ?_) (fun hkk => absurd ((Int32.le_refl _)) hkk)
      refine x_iload C0 rfl dX2_persuade_58 ?_
      refine x_iret C0 E (by decide) (by decide) dX2_persuade_60 ?_
      exact hp a b I1 ha hb hab ei ej ia ib s1 r1
    | succ n ih =>
      intro t I1 ht s1 r1
      have e0 : I1 f 0 = nI T := (s1.film hfh rF).1.trans wl.1
      have rF1 := s1.film hfh rF
      have hth : ∀ u q, u < 6 → q < 6 → I1 (h + 2) (6 * u + q) = sTalk fl x a b t (20 + 6 * u + q) := fun u q hu hq => by
          rw [r1.2.2.2.2.2.1 (6 * u + q) (by omega), Nat.add_assoc]
      have hpc : cPers (I1 (h + 2) (6 * a + t)) (I1 (h + 2) (6 * b + t)) (I1 (f + 6) b) ↔ sPers fl (sTalk fl x a b t) a b t := by
        unfold sPers; rw [hth a t (by omega) (by omega), hth b t (by omega) (by omega), (rF1.2.2.2.2.2.2.1 b hb).2.1]
      have hS1 : sTalk fl x a b (t + 1) = if sPers fl (sTalk fl x a b t) a b t then upd (sTalk fl x a b t) (20 + 6 * b + t) (sTalk fl x a b t (20 + 6 * a + t)) else sTalk fl x a b t := rfl
      refine x_iload C0 rfl dX2_persuade_12 ?_
      refine x_aload_n C0 rfl dX2_persuade_14 ?_
      refine x_getI C0 wf_X2_41 (by assumption) rfl dX2_persuade_15 ?_
      refine x_topi e0 ?_
      refine x_icmp_ge (tgt := 58) C0 (by decide) dX2_persuade_18 (fun hkk => absurd hkk (nI_ge (by omega) (by omega))) (fun _ => ?_)
      refine x_iload C0 rfl dX2_persuade_21 ?_
      refine x_if_le (tgt := 58) C0 (by decide) dX2_persuade_23 (fun hkk => absurd hkk ((fun q => by rw [show (0 : Int32) = nI 0 from rfl, nI_le_iff (by omega) (by decide)] at q; omega))) (fun _ => ?_)
      refine x_aload_n C0 rfl dX2_persuade_26 ?_
      refine x_aload_n C0 rfl dX2_persuade_27 ?_
      refine x_iload_n C0 rfl dX2_persuade_28 ?_
      refine x_iload_n C0 rfl dX2_persuade_29 ?_
      refine x_iload C0 rfl dX2_persuade_30 ?_
      refine x_callV [_, _, _, _] C0 hN rfl (xRf_of hR (by decide) (Nat.zero_le _) (Nat.zero_le _)) mv_X2_persuades wm_X2_170 dX2_persuade_32 (by assumption) rfl rfl (Nat.le_of_ble_eq_true rfl) (c_X2_persuades hF hH (by omega) (by omega) (by omega) (fun g32 => ?_) (fun g32 => ?_))
      · refine x_if_eq (tgt := 52) C0 (by decide) dX2_persuade_35 (fun hkk => absurd hkk (by decide)) (fun _ => ?_)
        refine x_aload_n C0 rfl dX2_persuade_38 ?_
        refine x_iload_n C0 rfl dX2_persuade_39 ?_
        refine x_iload C0 rfl dX2_persuade_40 ?_
        refine x_aload_n C0 rfl dX2_persuade_42 ?_
        refine x_iload_n C0 rfl dX2_persuade_43 ?_
        refine x_iload C0 rfl dX2_persuade_44 ?_
        refine x_callV [_, _] C0 hN rfl (xRf_of hR (by decide) (Nat.zero_le _) (Nat.zero_le _)) mv_X3_thought wm_X2_132 dX2_persuade_46 (by assumption) rfl rfl (Nat.le_of_ble_eq_true rfl) (c_X3_thought hH (by omega) (by omega) ?_)
        refine x_topi (hth a t (by omega) (by omega)) ?_
        refine x_callV [_, _, _] C0 hN rfl (xRf_of hR (by decide) (Nat.zero_le _) (Nat.zero_le _)) mv_X3_think wm_X2_159 dX2_persuade_49 (by assumption) rfl rfl (Nat.le_of_ble_eq_true rfl) (c_X3_think hH (by omega) (by omega) ?_)
        refine x_iinc (v := nI (t + 1)) (L' := [_, _, _, _, _, _]) C0 hN rfl (by decide) (nI_inc t) rfl dX2_persuade_52 ?_
        refine x_goto (tgt := 12) C0 (by decide) dX2_persuade_55 ?_
        rw [if_pos (hpc.mp g32)] at hS1
        exact ih (t + 1) _ (by omega) (s1.trans (u2_xSame (Or.inr (Or.inl rfl)))) (by rw [hS1]; exact RHall_th r1 (by omega) (by omega) hN8)
      · refine x_if_eq (tgt := 52) C0 (by decide) dX2_persuade_35 (fun _ => ?_) (fun hkk => absurd (by decide) hkk)
        refine x_iinc (v := nI (t + 1)) (L' := [_, _, _, _, _, _]) C0 hN rfl (by decide) (nI_inc t) rfl dX2_persuade_52 ?_
        refine x_goto (tgt := 12) C0 (by decide) dX2_persuade_55 ?_
        rw [if_neg (fun q => g32 (hpc.mpr q))] at hS1
        exact ih (t + 1) _ (by omega) s1 (by rw [hS1]; exact r1)
  have hall : ∀ a b, a < V → b < V → a ≠ b → i = nI a → j = nI b → xbit (x 2) a → xbit (x 2) b → XX G 0 0 7 [some (.ref f), some (.ref h), some (.int i), some (.int j), none, none] [.int (nI (sCnt fl x a b T))] S R I J := by
    intro a b ha hb hab ei ej ia ib
    have hcT := sCnt_le fl x a b T
    by_cases hc : sCnt fl x a b T = 0
    · have e0 : I f 0 = nI T := rF.1.trans wl.1
      have hnone : post (some (.int (nI (sCnt fl x a b T)))) S R I J := hp a b I ha hb hab ei ej ia ib xSame.rf (by rw [sTalk_none fl x hab T (by omega) hc]; exact rH)
      rw [hc] at hnone ⊢
      refine x_istore (L' := [_, _, _, _, _, _]) C0 hN (by decide) rfl dX2_persuade_7 ?_
      refine x_iconst (v := 0) C0 rfl dX2_persuade_9 ?_
      refine x_istore (L' := [_, _, _, _, _, _]) C0 hN (by decide) rfl dX2_persuade_10 ?_
      refine x_iload C0 rfl dX2_persuade_12 ?_
      refine x_aload_n C0 rfl dX2_persuade_14 ?_
      refine x_getI C0 wf_X2_41 (by assumption) rfl dX2_persuade_15 ?_
      refine x_icmp_ge (tgt := 58) C0 (by decide) dX2_persuade_18 (fun g18 => ?_) (fun g18 => ?_)
      · refine x_iload C0 rfl dX2_persuade_58 ?_
        refine x_iret C0 E (by decide) (by decide) dX2_persuade_60 ?_
        exact hnone
      · refine x_iload C0 rfl dX2_persuade_21 ?_
        refine x_if_le (tgt := 58) C0 (by decide) dX2_persuade_23 (fun _ => ?_) (fun hkk => absurd ((by decide)) hkk)
        refine x_iload C0 rfl dX2_persuade_58 ?_
        refine x_iret C0 E (by decide) (by decide) dX2_persuade_60 ?_
        exact hnone
    · subst ei
      subst ej
      refine x_istore (L' := [_, _, _, _, _, _]) C0 hN (by decide) rfl dX2_persuade_7 ?_
      refine x_iconst (v := 0) C0 rfl dX2_persuade_9 ?_
      refine x_istore (L' := [_, _, _, _, _, _]) C0 hN (by decide) rfl dX2_persuade_10 ?_
      exact hloop a b ha hb hab rfl rfl ia ib hc T 0 I (by omega) xSame.rf rH
  have hneg : (∀ a b, a < V → b < V → a ≠ b → i = nI a → j = nI b → xbit (x 2) a → xbit (x 2) b → False) → XX G 0 0 7 [some (.ref f), some (.ref h), some (.int i), some (.int j), none, none] [.int (-1)] S R I J := by
    intro hq
    refine x_istore (L' := [_, _, _, _, _, _]) C0 hN (by decide) rfl dX2_persuade_7 ?_
    refine x_iconst (v := 0) C0 rfl dX2_persuade_9 ?_
    refine x_istore (L' := [_, _, _, _, _, _]) C0 hN (by decide) rfl dX2_persuade_10 ?_
    refine x_iload C0 rfl dX2_persuade_12 ?_
    refine x_aload_n C0 rfl dX2_persuade_14 ?_
    refine x_getI C0 wf_X2_41 (by assumption) rfl dX2_persuade_15 ?_
    refine x_icmp_ge (tgt := 58) C0 (by decide) dX2_persuade_18 (fun g18 => ?_) (fun g18 => ?_)
    · refine x_iload C0 rfl dX2_persuade_58 ?_
      refine x_iret C0 E (by decide) (by decide) dX2_persuade_60 ?_
      exact h0 hq
    · refine x_iload C0 rfl dX2_persuade_21 ?_
      refine x_if_le (tgt := 58) C0 (by decide) dX2_persuade_23 (fun _ => ?_) (fun hkk => absurd ((by decide)) hkk)
      refine x_iload C0 rfl dX2_persuade_58 ?_
      refine x_iret C0 E (by decide) (by decide) dX2_persuade_60 ?_
      exact h0 hq
  refine x_aload_n C0 rfl dX2_persuade_0 ?_
  refine x_aload_n C0 rfl dX2_persuade_1 ?_
  refine x_iload_n C0 rfl dX2_persuade_2 ?_
  refine x_iload_n C0 rfl dX2_persuade_3 ?_
  refine x_callV [_, _, _] C0 hN rfl (xRf_of hR (by decide) (Nat.zero_le _) (Nat.zero_le _)) mv_X2_persuasions wm_X2_173 dX2_persuade_4 (by assumption) rfl rfl (Nat.le_of_ble_eq_true rfl) (c_X2_persuasions hF hH hfh wl wx rF rH (fun q => ?_) (fun a b ha hb hab ei ej ia ib => ?_))
  · exact hneg q
  · exact hall a b ha hb hab ei ej ia ib
theorem c_X2_reissue {S : xTS} {R : xTR} {I : xTI} {J : xTJ} {post : xPost} {f h : Nat} (hF : isFilm S R f) (hH : isHall S R h) (h0 : I h 0 < I f 1 → post (some (.int (-1))) S R I J) (h1 : ¬ I h 0 < I f 1 → post (some (.int (I h 1 + 1))) S R (u2 (u2 I h 0 0) h 1 (I h 1 + 1)) J) : xSpec 1 yX2_reissue cX2_reissue 2 (some .int) 0 0 [.ref f, .ref h] S R I J post := by
  refine xSpec_of mt_X2_reissue (Nat.le_of_ble_eq_true rfl) (fun G C0 hN hR E hI hZ => ?_)
  change XX G 0 0 0 [some (.ref f), some (.ref h)] [] S R I J
  obtain ⟨hs0, hs1, hs2, hs3, hr4, hr5, hr6⟩ := id hH
  obtain ⟨fs0, fs1, fs2, fs3, fs4, fs5, fs6, fs7, fs8, fr4, fr5, fr6, fr7, fr8, fr9, fr10, fr11⟩ := id hF
  refine x_aload_n C0 rfl dX2_reissue_0 ?_
  refine x_getI C0 wf_X2_89 (by assumption) rfl dX2_reissue_1 ?_
  refine x_aload_n C0 rfl dX2_reissue_4 ?_
  refine x_getI C0 wf_X2_44 (by assumption) rfl dX2_reissue_5 ?_
  refine x_icmp_ge (tgt := 13) C0 (by decide) dX2_reissue_8 (fun g8 => ?_) (fun g8 => ?_)
  · refine x_aload_n C0 rfl dX2_reissue_13 ?_
    refine x_iconst (v := 0) C0 rfl dX2_reissue_14 ?_
    refine x_putI C0 wf_X2_89 (by assumption) rfl dX2_reissue_15 ?_
    refine x_aload_n C0 rfl dX2_reissue_18 ?_
    refine x_dup C0 rfl dX2_reissue_19 ?_
    refine x_getI C0 wf_X2_94 (by assumption) rfl dX2_reissue_20 ?_
    refine x_topi (v := I h 1) (by simp [u2]) ?_
    refine x_iconst (v := 1) C0 rfl dX2_reissue_23 ?_
    refine x_iadd C0 dX2_reissue_24 ?_
    refine x_putI C0 wf_X2_94 (by assumption) rfl dX2_reissue_25 ?_
    refine x_aload_n C0 rfl dX2_reissue_28 ?_
    refine x_getI C0 wf_X2_94 (by assumption) rfl dX2_reissue_29 ?_
    refine x_topi (v := I h 1 + 1) (by simp [u2]) ?_
    refine x_iret C0 E (by decide) (by decide) dX2_reissue_32 ?_
    exact h1 (i_nlt.mpr g8)
  · refine x_iconst (v := -1) C0 rfl dX2_reissue_11 ?_
    refine x_iret C0 E (by decide) (by decide) dX2_reissue_12 ?_
    exact h0 (i_nle.mp g8)
def ufill (I : xTI) (a n : Nat) (v : Int32) : xTI := fun x k => if x = a ∧ k < n then v else I x k
theorem ufill_row (I : xTI) {a i : Nat} (n : Nat) (v : Int32) (h : i ≠ a) : ufill I a n v i = I i := by funext j; simp [ufill, h]
theorem ucopy_row (I : xTI) {a b i : Nat} (n : Nat) (h : i ≠ b) : ucopy I a b n i = I i := by funext j; simp [ucopy, h]
theorem ufill_in (I : xTI) {a n k : Nat} (v : Int32) (h : k < n) : ufill I a n v a k = v := by simp [ufill, h]
theorem ucopy_in (I : xTI) {a b n k : Nat} (h : k < n) : ucopy I a b n b k = I a k := by simp [ucopy, h]
theorem c_J7_fill_53178 {S : xTS} {R : xTR} {I : xTI} {J : xTJ} {post : xPost} {a n : Nat} {v : Int32} (hs : S[a]? = some (11, n)) (hn : n < 2 ^ 30) (hp : post none S R (ufill I a n v) J) : xSpec 1 yJ7_fill_53178 cJ7_fill_53178 4 none 0 0 [.ref a, .int v] S R I J post := by
  refine xSpec_of mt_J7_fill_53178 (Nat.le_of_ble_eq_true rfl) (fun G C0 hN hR E hI hZ => ?_)
  change XX G 0 0 0 [some (.ref a), some (.int v), none, none] [] S R I J
  have hloop : ∀ m k, k + m = n → XX G 0 0 5 [some (.ref a), some (.int v), some (.int (nI k)), some (.int (nI n))] [] S R (ufill I a k v) J := by
    intro m
    induction m with
    | zero =>
      intro k hk
      have hk' : k = n := by omega
      subst hk'
      refine x_iload_n C0 rfl dJ7_fill_53178_5 ?_
      refine x_iload_n C0 rfl dJ7_fill_53178_6 ?_
      refine x_icmp_ge (tgt := 20) C0 (by decide) dJ7_fill_53178_7 (fun _ => ?_) (fun hkk => absurd ((Int32.le_refl _)) hkk)
      refine x_vret C0 E (by decide) (by decide) dJ7_fill_53178_20 ?_
      exact hp
    | succ m ih =>
      intro k hk
      have e : u2 (ufill I a k v) a k v = ufill I a (k + 1) v := by
        funext x i
        unfold u2 ufill
        by_cases h1 : x = a
        · by_cases h2 : i = k
          · simp [h1, h2]
          · simp only [h1, h2, true_and, and_false, if_false]
            by_cases h3 : i < k
            · rw [if_pos h3, if_pos (by omega)]
            · rw [if_neg h3, if_neg (by omega)]
        · simp [h1]
      refine x_iload_n C0 rfl dJ7_fill_53178_5 ?_
      refine x_iload_n C0 rfl dJ7_fill_53178_6 ?_
      refine x_icmp_ge (tgt := 20) C0 (by decide) dJ7_fill_53178_7 (fun hkk => absurd hkk (nI_ge (by omega) (by omega))) (fun _ => ?_)
      refine x_aload_n C0 rfl dJ7_fill_53178_10 ?_
      refine x_iload_n C0 rfl dJ7_fill_53178_11 ?_
      refine x_iload_n C0 rfl dJ7_fill_53178_12 ?_
      refine x_iastoreN C0 (by assumption) (by omega) (by omega) dJ7_fill_53178_13 ?_
      refine x_I e ?_
      refine x_iinc (v := nI (k + 1)) (L' := [_, _, _, _]) C0 hN rfl (by decide) (nI_inc k) rfl dJ7_fill_53178_14 ?_
      refine x_goto (tgt := 5) C0 (by decide) dJ7_fill_53178_17 ?_
      exact ih (k + 1) (by omega)
  refine x_iconst (v := 0) C0 rfl dJ7_fill_53178_0 ?_
  refine x_istore_n (L' := [_, _, _, _]) C0 hN (by decide) rfl dJ7_fill_53178_1 ?_
  refine x_aload_n C0 rfl dJ7_fill_53178_2 ?_
  refine x_alen C0 (by assumption) (by decide) (by decide) rfl dJ7_fill_53178_3 ?_
  refine x_istore_n (L' := [_, _, _, _]) C0 hN (by decide) rfl dJ7_fill_53178_4 ?_
  exact (by have := hloop n 0 (by omega); have e : ufill I a 0 v = I := by funext x i; simp [ufill]
            rw [e] at this; exact this)
theorem xneq {h g : Nat} (hg : ∀ i j, i < 4 → j < 4 → h + i ≠ g + j) : g ≠ h ∧ g ≠ h + 1 ∧ g ≠ h + 2 ∧ g ≠ h + 3 ∧ g + 1 ≠ h ∧ g + 1 ≠ h + 1 ∧ g + 1 ≠ h + 2 ∧ g + 1 ≠ h + 3 ∧ g + 2 ≠ h ∧ g + 2 ≠ h + 1 ∧ g + 2 ≠ h + 2 ∧ g + 2 ≠ h + 3 ∧ g + 3 ≠ h ∧ g + 3 ≠ h + 1 ∧ g + 3 ≠ h + 2 ∧ g + 3 ≠ h + 3 := by
  have a := fun i j hi hj => hg i j hi hj
  refine ⟨?_, ?_, ?_, ?_, ?_, ?_, ?_, ?_, ?_, ?_, ?_, ?_, ?_, ?_, ?_, ?_⟩ <;> intro e
  · exact a 0 0 (by decide) (by decide) (by omega)
  · exact a 1 0 (by decide) (by decide) (by omega)
  · exact a 2 0 (by decide) (by decide) (by omega)
  · exact a 3 0 (by decide) (by decide) (by omega)
  · exact a 0 1 (by decide) (by decide) (by omega)
  · exact a 1 1 (by decide) (by decide) (by omega)
  · exact a 2 1 (by decide) (by decide) (by omega)
  · exact a 3 1 (by decide) (by decide) (by omega)
  · exact a 0 2 (by decide) (by decide) (by omega)
  · exact a 1 2 (by decide) (by decide) (by omega)
  · exact a 2 2 (by decide) (by decide) (by omega)
  · exact a 3 2 (by decide) (by decide) (by omega)
  · exact a 0 3 (by decide) (by decide) (by omega)
  · exact a 1 3 (by decide) (by decide) (by omega)
  · exact a 2 3 (by decide) (by decide) (by omega)
  · exact a 3 3 (by decide) (by decide) (by omega)
def uhall (I : xTI) (h g : Nat) : xTI := ucopy (ucopy (ucopy (u2 (u2 (u2 (u2 I h 0 (I g 0)) h 1 (I g 1)) h 2 (I g 2)) h 3 (I g 3)) (g + 1) (h + 1) 8) (g + 2) (h + 2) 36) (g + 3) (h + 3) 6
theorem uhall_row (I : xTI) {h g a : Nat} (h0 : a ≠ h) (h1 : a ≠ h + 1) (h2 : a ≠ h + 2) (h3 : a ≠ h + 3) : uhall I h g a = I a := by
  unfold uhall
  rw [ucopy_row _ _ h3, ucopy_row _ _ h2, ucopy_row _ _ h1, u2_row _ _ _ h0, u2_row _ _ _ h0, u2_row _ _ _ h0, u2_row _ _ _ h0]
theorem uhall_hall {I : xTI} {h g N : Nat} {x : xRow} (hg : ∀ i j, i < 4 → j < 4 → h + i ≠ g + j) (hN : N ≤ 8) (r : RHall I g x N) : RHall (uhall I h g) h x N := by
  obtain ⟨n0, n1, n2, n3, n4, n5, n6, n7, n8, n9, n10, n11, n12, n13, n14, n15⟩ := xneq hg
  obtain ⟨r0, r1, r2, r3, r4, r5, r6⟩ := r
  have f0 : ∀ a, (a ≠ h) → u2 (u2 (u2 (u2 I h 0 (I g 0)) h 1 (I g 1)) h 2 (I g 2)) h 3 (I g 3) a = I a := fun a q => by rw [u2_row _ _ _ q, u2_row _ _ _ q, u2_row _ _ _ q, u2_row _ _ _ q]
  have fh : uhall I h g h = u2 (u2 (u2 (u2 I h 0 (I g 0)) h 1 (I g 1)) h 2 (I g 2)) h 3 (I g 3) h := by
    unfold uhall
    rw [ucopy_row _ _ (by omega), ucopy_row _ _ (by omega), ucopy_row _ _ (by omega)]
  refine ⟨?_, ?_, ?_, ?_, fun k hk => ?_, fun i hi => ?_, fun w hw => ?_⟩
  · rw [fh]; simp [u2]; exact r0
  · rw [fh]; simp [u2]; exact r1
  · rw [fh]; simp [u2]; exact r2
  · rw [fh]; simp [u2]; exact r3
  · unfold uhall
    rw [ucopy_row _ _ (by omega), ucopy_row _ _ (by omega), ucopy_in _ (by omega), f0 _ n4]; exact r4 k hk
  · unfold uhall
    rw [ucopy_row _ _ (by omega), ucopy_in _ (by omega), ucopy_row _ _ n9, f0 _ n8]; exact r5 i hi
  · unfold uhall
    rw [ucopy_in _ (by omega), ucopy_row _ _ n14, ucopy_row _ _ n13, f0 _ n12]; exact r6 w hw
theorem c_X3_copy {S : xTS} {R : xTR} {I : xTI} {J : xTJ} {post : xPost} {h g : Nat} (hH : isHall S R h) (hG : isHall S R g) (hg : ∀ i j, i < 4 → j < 4 → h + i ≠ g + j) (hp : post none S R (uhall I h g) J) : xSpec 3 yX3_copy cX3_copy 2 none 0 0 [.ref h, .ref g] S R I J post := by
  refine xSpec_of mt_X3_copy (Nat.le_of_ble_eq_true rfl) (fun G C0 hN hR E hI hZ => ?_)
  change XX G 0 0 0 [some (.ref h), some (.ref g)] [] S R I J
  obtain ⟨hs0, hs1, hs2, hs3, hr4, hr5, hr6⟩ := id hH
  obtain ⟨gs0, gs1, gs2, gs3, gr4, gr5, gr6⟩ := id hG
  obtain ⟨n0, n1, n2, n3, n4, n5, n6, n7, n8, n9, n10, n11, n12, n13, n14, n15⟩ := xneq hg
  refine x_aload_n C0 rfl dX3_copy_0 ?_
  refine x_aload_n C0 rfl dX3_copy_1 ?_
  refine x_getI C0 wf_X3_21 (by assumption) rfl dX3_copy_2 ?_
  refine x_putI C0 wf_X3_21 (by assumption) rfl dX3_copy_5 ?_
  refine x_aload_n C0 rfl dX3_copy_8 ?_
  refine x_aload_n C0 rfl dX3_copy_9 ?_
  refine x_getI C0 wf_X3_25 (by assumption) rfl dX3_copy_10 ?_
  refine x_topi (v := I g 1) (by rw [u2_row _ _ _ n0]) ?_
  refine x_putI C0 wf_X3_25 (by assumption) rfl dX3_copy_13 ?_
  refine x_aload_n C0 rfl dX3_copy_16 ?_
  refine x_aload_n C0 rfl dX3_copy_17 ?_
  refine x_getI C0 wf_X3_28 (by assumption) rfl dX3_copy_18 ?_
  refine x_topi (v := I g 2) (by rw [u2_row _ _ _ n0, u2_row _ _ _ n0]) ?_
  refine x_putI C0 wf_X3_28 (by assumption) rfl dX3_copy_21 ?_
  refine x_aload_n C0 rfl dX3_copy_24 ?_
  refine x_aload_n C0 rfl dX3_copy_25 ?_
  refine x_getI C0 wf_X3_31 (by assumption) rfl dX3_copy_26 ?_
  refine x_topi (v := I g 3) (by rw [u2_row _ _ _ n0, u2_row _ _ _ n0, u2_row _ _ _ n0]) ?_
  refine x_putI C0 wf_X3_31 (by assumption) rfl dX3_copy_29 ?_
  refine x_aload_n C0 rfl dX3_copy_32 ?_
  refine x_getR C0 wf_X3_9 (by assumption) rfl rfl (by assumption) dX3_copy_33 ?_
  refine x_aload_n C0 rfl dX3_copy_36 ?_
  refine x_getR C0 wf_X3_9 (by assumption) rfl rfl (by assumption) dX3_copy_37 ?_
  refine x_callS [_, _] C0 (xRf_of hR (by decide) (Nat.zero_le _) (Nat.zero_le _)) ms_X8_copy wm_X3_34 dX3_copy_40 rfl rfl (Nat.le_of_ble_eq_true rfl) (c_X8_copy (by assumption) (by assumption) (by decide) ?_)
  refine x_aload_n C0 rfl dX3_copy_43 ?_
  refine x_getR C0 wf_X3_15 (by assumption) rfl rfl (by assumption) dX3_copy_44 ?_
  refine x_aload_n C0 rfl dX3_copy_47 ?_
  refine x_getR C0 wf_X3_15 (by assumption) rfl rfl (by assumption) dX3_copy_48 ?_
  refine x_callS [_, _] C0 (xRf_of hR (by decide) (Nat.zero_le _) (Nat.zero_le _)) ms_X8_copy wm_X3_34 dX3_copy_51 rfl rfl (Nat.le_of_ble_eq_true rfl) (c_X8_copy (by assumption) (by assumption) (by decide) ?_)
  refine x_aload_n C0 rfl dX3_copy_54 ?_
  refine x_getR C0 wf_X3_18 (by assumption) rfl rfl (by assumption) dX3_copy_55 ?_
  refine x_aload_n C0 rfl dX3_copy_58 ?_
  refine x_getR C0 wf_X3_18 (by assumption) rfl rfl (by assumption) dX3_copy_59 ?_
  refine x_callS [_, _] C0 (xRf_of hR (by decide) (Nat.zero_le _) (Nat.zero_le _)) ms_X8_copy wm_X3_34 dX3_copy_62 rfl rfl (Nat.le_of_ble_eq_true rfl) (c_X8_copy (by assumption) (by assumption) (by decide) ?_)
  refine x_vret C0 E (by decide) (by decide) dX3_copy_65 ?_
  exact hp
