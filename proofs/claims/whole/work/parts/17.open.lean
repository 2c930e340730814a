/-! BEGINNING -/
def sStart (fl : xRow) (N : Nat) : xRow := fun j => if j = 2 then ((1 : Int32) <<< (fl 2 &&& 31)) - 1 else if 20 ≤ j ∧ j < 56 then -1 else if 4 ≤ j ∧ j < 4 + N then fl (7 + 4 * (j - 4)) else if 12 ≤ j ∧ j < 12 + N then fl (8 + 4 * (j - 12)) else 0
def uopen (I : xTI) (f h : Nat) : xTI := ufill (ufill (ucopy (u2 (u2 (u2 (u2 I h 0 0) h 1 0) h 2 (((1 : Int32) <<< (I f 2 &&& 31)) - 1)) h 3 0) (f + 4) (h + 1) 8) (h + 2) 36 (-1)) (h + 3) 6 0
theorem uopen_row (I : xTI) {f h a : Nat} (h0 : a ≠ h) (h1 : a ≠ h + 1) (h2 : a ≠ h + 2) (h3 : a ≠ h + 3) : uopen I f h a = I a := by
  unfold uopen
  rw [ufill_row _ _ _ h3, ufill_row _ _ _ h2, ucopy_row _ _ h1, u2_row _ _ _ h0, u2_row _ _ _ h0, u2_row _ _ _ h0, u2_row _ _ _ h0]
theorem one_shl_sub {V : Nat} (h : V ≤ 8) : ((1 : Int32) <<< (nI V &&& 31)) - 1 = nI (2 ^ V - 1) := by
  have : ∀ V, V ≤ 8 → ((1 : Int32) <<< (nI V &&& 31)) - 1 = nI (2 ^ V - 1) := by decide +kernel
  exact this V h
theorem sStart_WFx {fl : xRow} {T N V : Nat} (wl : WFl fl T N V) : WFx (sStart fl N) T N V := by
  have hN := wl.2.2.2.1
  have hV := wl.2.2.2.2.2.1
  refine ⟨⟨0, Nat.zero_le _, ?_⟩, ⟨2 ^ V - 1, ?_, ?_⟩, ⟨0, Nat.two_pow_pos N, ?_⟩, fun k hk => ?_, fun w t hw ht => Or.inl ?_⟩
  · simp [sStart]; rfl
  · have := Nat.two_pow_pos V; omega
  · unfold sStart; rw [if_pos rfl, wl.2.2.2.2.1, one_shl_sub (by omega)]
  · simp [sStart]; rfl
  · obtain ⟨t, b, h1, h2, h3, h4⟩ := wl.2.2.2.2.2.2.2.2.1 k hk
    refine ⟨t, b, h1, h2, ?_, ?_⟩
    · unfold sStart; rw [if_neg (by omega), if_neg (by omega), if_pos (by omega), Nat.add_sub_cancel_left, h3]
    · unfold sStart; rw [if_neg (by omega), if_neg (by omega), if_neg (by omega), if_pos (by omega), Nat.add_sub_cancel_left, h4]
  · unfold sStart; rw [if_neg (by omega), if_pos (by omega)]
theorem uopen_hall {I : xTI} {f h T N V : Nat} {fl : xRow} {dq : xDq} (hfh : ∀ i j, i < 9 → j < 4 → f + i ≠ h + j) (wl : WFl fl T N V) (rF : RFilm I f fl dq N V) : RHall (uopen I f h) h (sStart fl N) N := by
  have hN := wl.2.2.2.1
  have fh : uopen I f h h = u2 (u2 (u2 (u2 I h 0 0) h 1 0) h 2 (((1 : Int32) <<< (I f 2 &&& 31)) - 1)) h 3 0 h := by
    unfold uopen
    rw [ufill_row _ _ _ (by omega), ufill_row _ _ _ (by omega), ucopy_row _ _ (by omega)]
  refine ⟨?_, ?_, ?_, ?_, fun k hk => ?_, fun i hi => ?_, fun w hw => ?_⟩
  · rw [fh]; simp [u2, sStart]
  · rw [fh]; simp [u2, sStart]
  · rw [fh]; simp [u2, sStart, rF.2.2.1]
  · rw [fh]; simp [u2, sStart]
  · have e1 : sStart fl N (4 + k) = fl (7 + 4 * k) := by unfold sStart; rw [if_neg (by omega), if_neg (by omega), if_pos (by omega), Nat.add_sub_cancel_left]
    have e2 : sStart fl N (12 + k) = fl (8 + 4 * k) := by unfold sStart; rw [if_neg (by omega), if_neg (by omega), if_neg (by omega), if_pos (by omega), Nat.add_sub_cancel_left]
    rw [e1, e2]
    have n4 : f + 4 ≠ h := by have := hfh 4 0 (by decide) (by decide); omega
    unfold uopen
    rw [ufill_row _ _ _ (by omega), ufill_row _ _ _ (by omega), ucopy_in _ (by omega), u2_row _ _ _ n4, u2_row _ _ _ n4, u2_row _ _ _ n4, u2_row _ _ _ n4]
    exact rF.2.2.2.2.2.1 k hk
  · have e1 : sStart fl N (20 + i) = -1 := by unfold sStart; rw [if_neg (by omega), if_pos (by omega)]
    rw [e1]
    unfold uopen
    rw [ufill_row _ _ _ (by omega), ufill_in _ _ hi]
  · have e1 : sStart fl N (56 + w) = 0 := by unfold sStart; rw [if_neg (by omega), if_neg (by omega), if_neg (by omega), if_neg (by omega)]
    rw [e1]
    unfold uopen
    rw [ufill_in _ _ hw]
theorem c_X2_open {S : xTS} {R : xTR} {I : xTI} {J : xTJ} {post : xPost} {f h : Nat} (hF : isFilm S R f) (hH : isHall S R h) (hfh : ∀ i j, i < 9 → j < 4 → f + i ≠ h + j) (hp : post none S R (uopen I f h) J) : xSpec 3 yX2_open cX2_open 2 none 0 0 [.ref f, .ref h] S R I J post := by
  refine xSpec_of mt_X2_open (Nat.le_of_ble_eq_true rfl) (fun G C0 hN hR E hI hZ => ?_)
  change XX G 0 0 0 [some (.ref f), some (.ref h)] [] S R I J
  obtain ⟨hs0, hs1, hs2, hs3, hr4, hr5, hr6⟩ := id hH
  obtain ⟨fs0, fs1, fs2, fs3, fs4, fs5, fs6, fs7, fs8, fr4, fr5, fr6, fr7, fr8, fr9, fr10, fr11⟩ := id hF
  have n0 : f ≠ h := by have := hfh 0 0 (by decide) (by decide); omega
  refine x_aload_n C0 rfl dX2_open_0 ?_
  refine x_iconst (v := 0) C0 rfl dX2_open_1 ?_
  refine x_putI C0 wf_X2_89 (by assumption) rfl dX2_open_2 ?_
  refine x_aload_n C0 rfl dX2_open_5 ?_
  refine x_iconst (v := 0) C0 rfl dX2_open_6 ?_
  refine x_putI C0 wf_X2_94 (by assumption) rfl dX2_open_7 ?_
  refine x_aload_n C0 rfl dX2_open_10 ?_
  refine x_iconst (v := 1) C0 rfl dX2_open_11 ?_
  refine x_aload_n C0 rfl dX2_open_12 ?_
  refine x_getI C0 wf_X2_47 (by assumption) rfl dX2_open_13 ?_
  refine x_topi (v := I f 2) (by rw [u2_row _ _ _ n0, u2_row _ _ _ n0]) ?_
  refine x_ishl C0 dX2_open_16 ?_
  refine x_iconst (v := 1) C0 rfl dX2_open_17 ?_
  refine x_isub C0 dX2_open_18 ?_
  refine x_putI C0 wf_X2_97 (by assumption) rfl dX2_open_19 ?_
  refine x_aload_n C0 rfl dX2_open_22 ?_
  refine x_iconst (v := 0) C0 rfl dX2_open_23 ?_
  refine x_putI C0 wf_X2_100 (by assumption) rfl dX2_open_24 ?_
  refine x_aload_n C0 rfl dX2_open_27 ?_
  refine x_getR C0 wf_X2_26 (by assumption) rfl rfl (by assumption) dX2_open_28 ?_
  refine x_aload_n C0 rfl dX2_open_31 ?_
  refine x_getR C0 wf_X2_103 (by assumption) rfl rfl (by assumption) dX2_open_32 ?_
  refine x_callS [_, _] C0 (xRf_of hR (by decide) (Nat.zero_le _) (Nat.zero_le _)) ms_X8_copy wm_X2_106 dX2_open_35 rfl rfl (Nat.le_of_ble_eq_true rfl) (c_X8_copy (by assumption) (by assumption) (by decide) ?_)
  refine x_aload_n C0 rfl dX2_open_38 ?_
  refine x_getR C0 wf_X2_110 (by assumption) rfl rfl (by assumption) dX2_open_39 ?_
  refine x_iconst (v := -1) C0 rfl dX2_open_42 ?_
  refine x_callS [_, _] C0 (xRf_of hR (by decide) (Nat.zero_le _) (Nat.zero_le _)) ms_J7_fill_53178 wm_X2_113 dX2_open_43 rfl rfl (Nat.le_of_ble_eq_true rfl) (c_J7_fill_53178 hs2 (by decide) ?_)
  refine x_aload_n C0 rfl dX2_open_46 ?_
  refine x_getR C0 wf_X2_119 (by assumption) rfl rfl (by assumption) dX2_open_47 ?_
  refine x_iconst (v := 0) C0 rfl dX2_open_50 ?_
  refine x_callS [_, _] C0 (xRf_of hR (by decide) (Nat.zero_le _) (Nat.zero_le _)) ms_J7_fill_53178 wm_X2_113 dX2_open_51 rfl rfl (Nat.le_of_ble_eq_true rfl) (c_J7_fill_53178 hs3 (by decide) ?_)
  refine x_vret C0 E (by decide) (by decide) dX2_open_54 ?_
  exact hp
