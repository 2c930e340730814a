/-! A SHOWING; THE END; WRITING, CUTTING, TALK, REISSUE -/
def xSame (I I' : xTI) (h : Nat) : Prop := ∀ a, a ≠ h → a ≠ h + 2 → a ≠ h + 3 → I' a = I a
theorem c_X2_screen {S : xTS} {R : xTR} {I : xTI} {J : xTJ} {post : xPost} {f h T N V : Nat} {fl x : xRow} {dq : xDq} (hF : isFilm S R f) (hH : isHall S R h) (hfh : ∀ i j, i < 9 → j < 4 → f + i ≠ h + j) (wl : WFl fl T N V) (wx : WFx x T N V) (rF : RFilm I f fl dq N V) (rH : RHall I h x N) (h0 : x 0 = nI N → post (some (.int (-1))) S R I J) (hp : ∀ k I', k < N → x 0 = nI k → xSame I I' h → RHall I' h (sShowK fl dq k V x).1 N → post (some (.int (sShowK fl dq k V x).2)) S R I' J) : xSpec 4 yX2_screen cX2_screen 6 (some .int) 0 0 [.ref f, .ref h] S R I J post := by
  refine xSpec_of mt_X2_screen (Nat.le_of_ble_eq_true rfl) (fun G C0 hN hR E hI hZ => ?_)
  change XX G 0 0 0 [some (.ref f), some (.ref h), none, none, none, none] [] S R I J
  obtain ⟨hs0, hs1, hs2, hs3, hr4, hr5, hr6⟩ := id hH
  obtain ⟨fs0, fs1, fs2, fs3, fs4, fs5, fs6, fs7, fs8, fr4, fr5, fr6, fr7, fr8, fr9, fr10, fr11⟩ := id hF
  have hN8 := wl.2.2.2.1
  have hT6 := wl.2.1
  have hV6 := wl.2.2.2.2.2.1
  have e1 : I f 1 = nI N := rF.2.1.trans wl.2.2.1
  have e2 : I f 2 = nI V := rF.2.2.1.trans wl.2.2.2.2.1
  have e3 : I h 3 = x 3 := rH.2.2.2.1
  obtain ⟨k, hkN, hx0⟩ := wx.1
  have e0 : I h 0 = nI k := rH.1.trans hx0
  have hrest : ∀ hd, k < N → ((xbit (x 3) k ∧ hd = -1) ∨ (¬ xbit (x 3) k ∧ ∃ t b, t < T ∧ b < 2 ∧ sThing fl x k = nI t ∧ sIs fl x k = nI b ∧ hd = nI (2 * t + b))) → XX G 0 0 22 [some (.ref f), some (.ref h), none, none, none, none] [.int hd] S R I J := by
    intro hd hk hhd
    obtain ⟨tr, br, htr, hbr, w1, w2, w3⟩ := rH.wr wx hk
    have hcl := clash_spec wl hhd htr hbr w1 w2 rfl
    have hcn : sClN fl x k < 2 := by unfold sClN; split <;> decide
    generalize hrd : nI (2 * tr + br) = rd at hcl w3
    have hloop : ∀ n w, w + n = V → ∀ I1, (∀ a, a ≠ h + 2 → a ≠ h + 3 → I1 a = I a) → RHall I1 h (sAll fl dq k (sClN fl x k) x w).1 N → XX G 0 0 38 [some (.ref f), some (.ref h), some (.int hd), some (.int rd), some (.int (sAll fl dq k (sClN fl x k) x w).2), some (.int (nI w))] [] S R I1 J := by
      intro n
      induction n with
      | zero =>
        intro w hw I1 hI1 r1
        have hw' : w = V := by omega
        subst hw'
        have q1 : I1 f 2 = nI w := by rw [hI1 f (hfh 0 2 (by decide) (by decide)) (hfh 0 3 (by decide) (by decide))]; exact e2
        have q2 : I1 h 0 = nI k := by rw [hI1 h (by omega) (by omega)]; exact e0
        refine x_iload C0 rfl dX2_screen_38 ?_
        refine x_aload_n C0 rfl dX2_screen_40 ?_
        refine x_getI C0 wf_X2_47 (by assumption) rfl dX2_screen_41 ?_
        refine x_topi q1 ?_
        refine x_icmp_ge (tgt := 83) C0 (by decide) dX2_screen_44 (fun _ => ?_) (fun hkk => absurd ((Int32.le_refl _)) hkk)
        refine x_aload_n C0 rfl dX2_screen_83 ?_
        refine x_dup C0 rfl dX2_screen_84 ?_
        refine x_getI C0 wf_X2_97 (by assumption) rfl dX2_screen_85 ?_
        refine x_iload C0 rfl dX2_screen_88 ?_
        refine x_iconst (v := -1) C0 rfl dX2_screen_90 ?_
        refine x_ixor C0 dX2_screen_91 ?_
        refine x_iand C0 dX2_screen_92 ?_
        refine x_putI C0 wf_X2_97 (by assumption) rfl dX2_screen_93 ?_
        refine x_aload_n C0 rfl dX2_screen_96 ?_
        refine x_dup C0 rfl dX2_screen_97 ?_
        refine x_getI C0 wf_X2_89 (by assumption) rfl dX2_screen_98 ?_
        refine x_topi (v := nI k) (by simp [u2, q2]) ?_
        refine x_iconst (v := 1) C0 rfl dX2_screen_101 ?_
        refine x_iadd C0 dX2_screen_102 ?_
        refine x_topi (nI_1 k) ?_
        refine x_putI C0 wf_X2_89 (by assumption) rfl dX2_screen_103 ?_
        refine x_iload C0 rfl dX2_screen_106 ?_
        refine x_iret C0 E (by decide) (by decide) dX2_screen_108 ?_
        refine hp k _ hk hx0 (fun a a1 a2 a3 => ?_) ?_
        · rw [u2_row _ _ _ a1, u2_row _ _ _ a1]; exact hI1 a a2 a3
        · have r2 := RHall_fld (j := 0) (v := nI (k + 1)) (RHall_fld (j := 2) (v := (sAll fl dq k (sClN fl x k) x w).1 2 &&& ((sAll fl dq k (sClN fl x k) x w).2 ^^^ (-1))) r1 (by decide) hN8) (by decide) hN8
          rw [r1.2.2.1]
          exact r2
      | succ n ih =>
        intro w hw I1 hI1 r1
        have hwV : w < V := by omega
        have q1 : I1 f 2 = nI V := by rw [hI1 f (hfh 0 2 (by decide) (by decide)) (hfh 0 3 (by decide) (by decide))]; exact e2
        have q2 : I1 h 0 = nI k := by rw [hI1 h (by omega) (by omega)]; exact e0
        obtain ⟨kd, tw, wk, hkd, -, -, f1, f2, f3⟩ := wl.2.2.2.2.2.2.2.2.2 w hwV
        have q5 : I1 (f + 5) w = nI kd := by rw [hI1 (f + 5) (hfh 5 2 (by decide) (by decide)) (hfh 5 3 (by decide) (by decide)), (rF.2.2.2.2.2.2.1 w hwV).1]; exact f1
        have q6 : I1 (f + 6) w = fl (38 + 3 * w) := by rw [hI1 (f + 6) (hfh 6 2 (by decide) (by decide)) (hfh 6 3 (by decide) (by decide))]; exact (rF.2.2.2.2.2.2.1 w hwV).2.1
        have q7 : I1 (f + 7) w = fl (39 + 3 * w) := by rw [hI1 (f + 7) (hfh 7 2 (by decide) (by decide)) (hfh 7 3 (by decide) (by decide))]; exact (rF.2.2.2.2.2.2.1 w hwV).2.2
        have q8 : ∀ c o, c < 2 → o < 2 → I1 (f + 8) ((w * 8 + k) * 4 + 2 * c + o) = dq w k c o := by
          intro c o hc ho
          rw [hI1 (f + 8) (hfh 8 2 (by decide) (by decide)) (hfh 8 3 (by decide) (by decide))]
          exact rF.2.2.2.2.2.2.2 w k c o hwV hk hc ho
        have hlow := sAll_low (fl := fl) (dq := dq) (k := k) (cl := sClN fl x k) (x := x) w
        have wy := sAll_WFx (dq := dq) (cl := sClN fl x k) wl wx hk w (by omega)
        have htk := taken_spec wl wx hk hwV hhd htr hbr w1 w2 hrd.symm
        have q2' : I1 h 2 = (sAll fl dq k (sClN fl x k) x w).1 2 := r1.2.2.1
        have hS1 : sAll fl dq k (sClN fl x k) x (w + 1) = if xbit ((sAll fl dq k (sClN fl x k) x w).1 2) w then
      (sOne fl dq k (sClN fl x k) w (sAll fl dq k (sClN fl x k) x w).1, if fl (39 + 3 * w) ≤ (sOne fl dq k (sClN fl x k) w (sAll fl dq k (sClN fl x k) x w).1) (56 + w) then (sAll fl dq k (sClN fl x k) x w).2 ||| ((1 : Int32) <<< (nI w &&& 31)) else (sAll fl dq k (sClN fl x k) x w).2)
    else sAll fl dq k (sClN fl x k) x w := rfl
        have hdb : I1 (h + 3) w = (sAll fl dq k (sClN fl x k) x w).1 (56 + w) := r1.2.2.2.2.2.2 w (by omega)
        have hth : ∀ t, t < 6 → I1 (h + 2) (6 * w + t) = (sAll fl dq k (sClN fl x k) x w).1 (20 + 6 * w + t) := fun t ht => by
          rw [r1.2.2.2.2.2.1 (6 * w + t) (by omega), Nat.add_assoc]
        generalize hy : (sAll fl dq k (sClN fl x k) x w).1 = y at r1 hlow wy q2' hS1 hdb hth
        have hbody : xbit (y 2) w → XX G 0 0 56 [some (.ref f), some (.ref h), some (.int hd), some (.int rd), some (.int (sAll fl dq k (sClN fl x k) x w).2), some (.int (nI w))] [] S R I1 J := by
          intro hin
          rw [if_pos hin] at hS1
          by_cases tk : sTakes fl x w k
          · obtain ⟨t, b, ht, hb, st, sb, ctk⟩ := htk.1 tk
            have tky : sTakes fl y w k := (sTakes_low hlow (by omega)).mpr tk
            have sty : sT fl y w k = nI t := (sT_low hlow (by omega)).trans st
            have sby : sB fl y w k = nI b := (sB_low hlow (by omega)).trans sb
            have hod := odd_spec wy hT6 (by omega) ht tky sty sby
            have hon : sOddN fl y w k < 2 := by unfold sOddN; split <;> decide
            have hone : sOne fl dq k (sClN fl x k) w y = upd (upd y (56 + w) (y (56 + w) + dq w k (sClN fl x k) (sOddN fl y w k))) (20 + 6 * w + t) (nI b) := by
              unfold sOne; rw [if_pos tky, sty, sby, nI_clamp (by omega)]
            have hone56 : sOne fl dq k (sClN fl x k) w y (56 + w) = y (56 + w) + dq w k (sClN fl x k) (sOddN fl y w k) := by
              rw [hone, upd_ne (by omega), upd_eq]
            have r2 := RHall_th (t := t) (v := nI b) (w := w) (RHall_db (w := w) (D := y (56 + w) + dq w k (sClN fl x k) (sOddN fl y w k)) r1 (by omega) hN8) (by omega) (by omega) hN8
            rw [← hone] at r2
            have hfr : ∀ a, a ≠ h + 2 → a ≠ h + 3 → u2 (u2 I1 (h + 3) w (y (56 + w) + dq w k (sClN fl x k) (sOddN fl y w k))) (h + 2) (6 * w + t) (nI b) a = I a := fun a a2 a3 => by rw [u2_row _ _ _ a2, u2_row _ _ _ a3]; exact hI1 a a2 a3
            refine x_aload_n C0 rfl dX2_screen_56 ?_
            refine x_aload_n C0 rfl dX2_screen_57 ?_
            refine x_iload C0 rfl dX2_screen_58 ?_
            refine x_iload_n C0 rfl dX2_screen_60 ?_
            refine x_iload_n C0 rfl dX2_screen_61 ?_
            refine x_callV [_, _, _, _] C0 hN rfl (xRf_of hR (by decide) (Nat.zero_le _) (Nat.zero_le _)) mv_X2_watch wm_X2_145 dX2_screen_62 (by assumption) rfl rfl (Nat.le_of_ble_eq_true rfl) (c_X2_watch_some (t := t) (b := b) (on := sOddN fl y w k) hF hH hfh (by omega) (by omega) hcn hkd q2 q5 hcl (by omega) hb hon (by rw [q6, ← f1]; exact ctk) (by rw [hth t (by omega)]; exact hod) (by rw [hdb, q8 _ _ hcn hon]) (fun g62 => ?_) (fun g62 => ?_))
            · refine x_if_eq (tgt := 77) C0 (by decide) dX2_screen_65 (fun hkk => absurd hkk (by decide)) (fun _ => ?_)
              refine x_iload C0 rfl dX2_screen_68 ?_
              refine x_iconst (v := 1) C0 rfl dX2_screen_70 ?_
              refine x_iload C0 rfl dX2_screen_71 ?_
              refine x_ishl C0 dX2_screen_73 ?_
              refine x_ior C0 dX2_screen_74 ?_
              refine x_istore (L' := [_, _, _, _, _, _]) C0 hN (by decide) rfl dX2_screen_75 ?_
              refine x_iinc (v := nI (w + 1)) (L' := [_, _, _, _, _, _]) C0 hN rfl (by decide) (nI_inc w) rfl dX2_screen_77 ?_
              refine x_goto (tgt := 38) C0 (by decide) dX2_screen_80 ?_
              rw [hone56, if_pos (by rw [← q7]; exact g62)] at hS1
              have := ih (w + 1) (by omega) _ hfr (by rw [hS1]; exact r2)
              rw [hS1] at this
              exact this
            · refine x_if_eq (tgt := 77) C0 (by decide) dX2_screen_65 (fun _ => ?_) (fun hkk => absurd (by decide) hkk)
              refine x_iinc (v := nI (w + 1)) (L' := [_, _, _, _, _, _]) C0 hN rfl (by decide) (nI_inc w) rfl dX2_screen_77 ?_
              refine x_goto (tgt := 38) C0 (by decide) dX2_screen_80 ?_
              rw [hone56, if_neg (by rw [← q7]; exact g62)] at hS1
              have := ih (w + 1) (by omega) _ hfr (by rw [hS1]; exact r2)
              rw [hS1] at this
              exact this
          · have tky : ¬ sTakes fl y w k := fun q => tk ((sTakes_low hlow (by omega)).mp q)
            have hon : sOddN fl y w k = 0 := by unfold sOddN; rw [if_neg (fun q => tky q.1)]
            have hone : sOne fl dq k (sClN fl x k) w y = upd y (56 + w) (y (56 + w) + dq w k (sClN fl x k) 0) := by
              unfold sOne; rw [if_neg tky, hon]
            have hone56 : sOne fl dq k (sClN fl x k) w y (56 + w) = y (56 + w) + dq w k (sClN fl x k) 0 := by rw [hone, upd_eq]
            have r2 := RHall_db (w := w) (D := y (56 + w) + dq w k (sClN fl x k) 0) r1 (by omega) hN8
            rw [← hone] at r2
            have hfr : ∀ a, a ≠ h + 2 → a ≠ h + 3 → u2 I1 (h + 3) w (y (56 + w) + dq w k (sClN fl x k) 0) a = I a := fun a a2 a3 => by rw [u2_row _ _ _ a3]; exact hI1 a a2 a3
            refine x_aload_n C0 rfl dX2_screen_56 ?_
            refine x_aload_n C0 rfl dX2_screen_57 ?_
            refine x_iload C0 rfl dX2_screen_58 ?_
            refine x_iload_n C0 rfl dX2_screen_60 ?_
            refine x_iload_n C0 rfl dX2_screen_61 ?_
            refine x_callV [_, _, _, _] C0 hN rfl (xRf_of hR (by decide) (Nat.zero_le _) (Nat.zero_le _)) mv_X2_watch wm_X2_145 dX2_screen_62 (by assumption) rfl rfl (Nat.le_of_ble_eq_true rfl) (c_X2_watch_none hF hH hfh (by omega) (by omega) hcn hkd q2 q5 hcl (by rw [q6, ← f1]; exact htk.2 tk) (by rw [hdb, q8 _ _ hcn (by decide)]) (fun g62 => ?_) (fun g62 => ?_))
            · refine x_if_eq (tgt := 77) C0 (by decide) dX2_screen_65 (fun hkk => absurd hkk (by decide)) (fun _ => ?_)
              refine x_iload C0 rfl dX2_screen_68 ?_
              refine x_iconst (v := 1) C0 rfl dX2_screen_70 ?_
              refine x_iload C0 rfl dX2_screen_71 ?_
              refine x_ishl C0 dX2_screen_73 ?_
              refine x_ior C0 dX2_screen_74 ?_
              refine x_istore (L' := [_, _, _, _, _, _]) C0 hN (by decide) rfl dX2_screen_75 ?_
              refine x_iinc (v := nI (w + 1)) (L' := [_, _, _, _, _, _]) C0 hN rfl (by decide) (nI_inc w) rfl dX2_screen_77 ?_
              refine x_goto (tgt := 38) C0 (by decide) dX2_screen_80 ?_
              rw [hone56, if_pos (by rw [← q7]; exact g62)] at hS1
              have := ih (w + 1) (by omega) _ hfr (by rw [hS1]; exact r2)
              rw [hS1] at this
              exact this
            · refine x_if_eq (tgt := 77) C0 (by decide) dX2_screen_65 (fun _ => ?_) (fun hkk => absurd (by decide) hkk)
              refine x_iinc (v := nI (w + 1)) (L' := [_, _, _, _, _, _]) C0 hN rfl (by decide) (nI_inc w) rfl dX2_screen_77 ?_
              refine x_goto (tgt := 38) C0 (by decide) dX2_screen_80 ?_
              rw [hone56, if_neg (by rw [← q7]; exact g62)] at hS1
              have := ih (w + 1) (by omega) _ hfr (by rw [hS1]; exact r2)
              rw [hS1] at this
              exact this
        refine x_iload C0 rfl dX2_screen_38 ?_
        refine x_aload_n C0 rfl dX2_screen_40 ?_
        refine x_getI C0 wf_X2_47 (by assumption) rfl dX2_screen_41 ?_
        refine x_topi q1 ?_
        refine x_icmp_ge (tgt := 83) C0 (by decide) dX2_screen_44 (fun hkk => absurd hkk (nI_ge hwV (by omega))) (fun _ => ?_)
        refine x_aload_n C0 rfl dX2_screen_47 ?_
        refine x_iload C0 rfl dX2_screen_48 ?_
        refine x_callV [_] C0 hN rfl (xRf_of hR (by decide) (Nat.zero_le _) (Nat.zero_le _)) mv_X3_isIn wm_X2_142 dX2_screen_50 (by assumption) rfl rfl (Nat.le_of_ble_eq_true rfl) (c_X3_isIn (by assumption) (fun g50 => ?_) (fun g50 => ?_))
        · refine x_if_eq (tgt := 77) C0 (by decide) dX2_screen_53 (fun hkk => absurd hkk (by decide)) (fun _ => ?_)
          exact hbody (by rw [← q2']; exact g50)
        · refine x_if_eq (tgt := 77) C0 (by decide) dX2_screen_53 (fun _ => ?_) (fun hkk => absurd (by decide) hkk)
          refine x_iinc (v := nI (w + 1)) (L' := [_, _, _, _, _, _]) C0 hN rfl (by decide) (nI_inc w) rfl dX2_screen_77 ?_
          refine x_goto (tgt := 38) C0 (by decide) dX2_screen_80 ?_
          rw [if_neg (by rw [← q2']; exact g50)] at hS1
          have := ih (w + 1) (by omega) I1 hI1 (by rw [hS1, hy]; exact r1)
          rw [hS1] at this
          exact this
    refine x_istore_n (L' := [_, _, _, _, _, _]) C0 hN (by decide) rfl dX2_screen_22 ?_
    refine x_aload_n C0 rfl dX2_screen_23 ?_
    refine x_aload_n C0 rfl dX2_screen_24 ?_
    refine x_getI C0 wf_X2_89 (by assumption) rfl dX2_screen_25 ?_
    refine x_topi e0 ?_
    refine x_callV [_] C0 hN rfl (xRf_of hR (by decide) (Nat.zero_le _) (Nat.zero_le _)) mv_X3_writing wm_X2_125 dX2_screen_28 (by assumption) rfl rfl (Nat.le_of_ble_eq_true rfl) (c_X3_writing (by assumption) (by omega) ?_)
    refine x_topi w3 ?_
    refine x_istore_n (L' := [_, _, _, _, _, _]) C0 hN (by decide) rfl dX2_screen_31 ?_
    refine x_iconst (v := 0) C0 rfl dX2_screen_32 ?_
    refine x_istore (L' := [_, _, _, _, _, _]) C0 hN (by decide) rfl dX2_screen_33 ?_
    refine x_iconst (v := 0) C0 rfl dX2_screen_35 ?_
    refine x_istore (L' := [_, _, _, _, _, _]) C0 hN (by decide) rfl dX2_screen_36 ?_
    exact hloop V 0 (by omega) I (fun _ _ _ => rfl) (by exact rH)
  refine x_aload_n C0 rfl dX2_screen_0 ?_
  refine x_getI C0 wf_X2_89 (by assumption) rfl dX2_screen_1 ?_
  refine x_topi e0 ?_
  refine x_aload_n C0 rfl dX2_screen_4 ?_
  refine x_getI C0 wf_X2_44 (by assumption) rfl dX2_screen_5 ?_
  refine x_topi e1 ?_
  refine x_icmp_lt (tgt := 13) C0 (by decide) dX2_screen_8 (fun g8 => ?_) (fun g8 => ?_)
  · refine x_aload_n C0 rfl dX2_screen_13 ?_
    refine x_aload_n C0 rfl dX2_screen_14 ?_
    refine x_aload_n C0 rfl dX2_screen_15 ?_
    refine x_getI C0 wf_X2_89 (by assumption) rfl dX2_screen_16 ?_
    refine x_topi e0 ?_
    refine x_callV [_, _] C0 hN rfl (xRf_of hR (by decide) (Nat.zero_le _) (Nat.zero_le _)) mv_X2_saying wm_X2_138 dX2_screen_19 (by assumption) rfl rfl (Nat.le_of_ble_eq_true rfl) (c_X2_saying hF hH wl wx rF rH ((nI_lt_iff (by omega) (by omega)).mp g8) (fun q => ?_) (fun t b q ht hb s1 s2 => ?_))
    · exact hrest _ ((nI_lt_iff (by omega) (by omega)).mp g8) (Or.inl ⟨q, rfl⟩)
    · exact hrest _ ((nI_lt_iff (by omega) (by omega)).mp g8) (Or.inr ⟨q, t, b, ht, hb, s1, s2, rfl⟩)
  · refine x_iconst (v := -1) C0 rfl dX2_screen_11 ?_
    refine x_iret C0 E (by decide) (by decide) dX2_screen_12 ?_
    exact h0 (by rw [hx0, show k = N from by have : ¬ k < N := fun q => g8 ((nI_lt_iff (by omega) (by omega)).mpr q); omega])
