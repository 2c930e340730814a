/-! THE QUESTIONS: ask -/
/-- how often the ends keep value j - 1 at place i -/
def talN (fl : xRow) (dq : xDq) (x td : xRow) (T N V : Nat) (i j : Nat) : Nat → Nat
  | 0 => 0
  | s + 1 => if sHit fl dq x td T N V s then (if sEndCut fl dq x V N s (20 + i) + 1 = nI j then talN fl dq x td T N V i j s + 1 else talN fl dq x td T N V i j s) else talN fl dq x td T N V i j s
theorem talN_yes {fl : xRow} {dq : xDq} {x td : xRow} {T N V : Nat} {i j s : Nat} (h : sHit fl dq x td T N V s) : talN fl dq x td T N V i j (s + 1) = talN fl dq x td T N V i j s + (if sEndCut fl dq x V N s (20 + i) + 1 = nI j then 1 else 0) := by
  conv => lhs; unfold talN
  rw [if_pos h]
  split <;> rfl
theorem talN_no {fl : xRow} {dq : xDq} {x td : xRow} {T N V : Nat} {i j s : Nat} (h : ¬ sHit fl dq x td T N V s) : talN fl dq x td T N V i j (s + 1) = talN fl dq x td T N V i j s := by
  conv => lhs; unfold talN
  rw [if_neg h]
theorem talN_le {fl : xRow} {dq : xDq} {x td : xRow} {T N V : Nat} (i j : Nat) : ∀ s, talN fl dq x td T N V i j s ≤ s
  | 0 => Nat.le_refl _
  | s + 1 => by
    have := talN_le (fl := fl) (dq := dq) (x := x) (td := td) (T := T) (N := N) (V := V) i j s
    by_cases g : sHit fl dq x td T N V s
    · rw [talN_yes g]; split <;> omega
    · rw [talN_no g]; omega
theorem talN_end {fl : xRow} {dq : xDq} {x td : xRow} {T N V : Nat} {i j : Nat} (wx : WFx x T N V) (hN : N ≤ 8) : ∀ n, 2 ^ N + n ≤ 256 → talN fl dq x td T N V i j (2 ^ N + n) = talN fl dq x td T N V i j (2 ^ N)
  | 0, _ => rfl
  | n + 1, h => by
    rw [← Nat.add_assoc, talN_no (fun q => cut_out wx hN (by omega) (by omega) q.1)]
    exact talN_end wx hN n (by omega)
def mx3 (f : Nat → Nat) : Nat := max (f 0) (max (f 1) (f 2))
def akB (td : xRow) (m : Nat → Nat) (w : Nat) (s : Nat × Int32) : Nat → Nat × Int32
  | 0 => s
  | t + 1 => if td (6 * w + t) = -2 ∧ m (6 * w + t) < (akB td m w s t).1 then (m (6 * w + t), nI (8 * w + t)) else akB td m w s t
theorem akB_yes {td : xRow} {m : Nat → Nat} {w t : Nat} {s : Nat × Int32} (h : td (6 * w + t) = -2 ∧ m (6 * w + t) < (akB td m w s t).1) : akB td m w s (t + 1) = (m (6 * w + t), nI (8 * w + t)) := by conv => lhs; unfold akB; rw [if_pos h]
theorem akB_no {td : xRow} {m : Nat → Nat} {w t : Nat} {s : Nat × Int32} (h : ¬ (td (6 * w + t) = -2 ∧ m (6 * w + t) < (akB td m w s t).1)) : akB td m w s (t + 1) = akB td m w s t := by conv => lhs; unfold akB; rw [if_neg h]
theorem akB_le {td : xRow} {m : Nat → Nat} {w B : Nat} {s : Nat × Int32} (h : s.1 ≤ B) : ∀ t, (akB td m w s t).1 ≤ B
  | 0 => h
  | t + 1 => by
    have := akB_le (td := td) (m := m) (w := w) h t
    by_cases g : td (6 * w + t) = -2 ∧ m (6 * w + t) < (akB td m w s t).1
    · rw [akB_yes g]
      have g2 := g.2
      show m (6 * w + t) ≤ B
      omega
    · rw [akB_no g]; exact this
def akA (td : xRow) (m : Nat → Nat) (T c : Nat) : Nat → Nat × Int32
  | 0 => (c, -1)
  | w + 1 => akB td m w (akA td m T c w) T
theorem akA_le {td : xRow} {m : Nat → Nat} {T c : Nat} : ∀ w, (akA td m T c w).1 ≤ c
  | 0 => Nat.le_refl _
  | w + 1 => akB_le (akA_le w) T
def aAsk (fl : xRow) (dq : xDq) (x td : xRow) (T N V : Nat) : Int32 := (akA td (fun i => mx3 (fun j => talN fl dq x td T N V i j (2 ^ N))) T (seN fl dq x td T N V (2 ^ N)) V).2
theorem nmax {a b : Nat} (ha : a < 2 ^ 31) (hb : b < 2 ^ 31) : (if nI a < nI b then nI b else nI a) = nI (max a b) := by
  by_cases h : a < b
  · rw [if_pos ((nI_lt_iff ha hb).mpr h), Nat.max_eq_right (by omega)]
  · rw [if_neg (fun q => h ((nI_lt_iff ha hb).mp q)), Nat.max_eq_left (by omega)]
/-- the row of tallies at r holds c -/
abbrev tlF (I : xTI) (c : Nat → Nat → Nat) (T V : Nat) : Prop := ∀ w t j, w < V → t < T → j < 3 → I 109 (3 * (6 * w + t) + j) = nI (c (6 * w + t) j)
theorem three_nI {v : Int32} (h : v = -1 ∨ v = 0 ∨ v = 1) : ∃ j, j < 3 ∧ v + 1 = nI j := by
  rcases h with rfl | rfl | rfl
  · exact ⟨0, by decide, rfl⟩
  · exact ⟨1, by decide, rfl⟩
  · exact ⟨2, by decide, rfl⟩
theorem c_X11_tallyEnd {S : xTS} {R : xTR} {I : xTI} {J : xTJ} {post : xPost} {f T N V : Nat} {fl x : xRow} {lw : Option (List (Nat × Nat))} (hS : fixd S R) (hf : R 0 2 = some f) (C : FCore I f fl lw T N V x) {y : xRow} {c : Nat → Nat → Nat} (rY : RHall I 37 y N) (wy : ∀ w t, w < 6 → t < 6 → y (20 + 6 * w + t) = -1 ∨ y (20 + 6 * w + t) = 0 ∨ y (20 + 6 * w + t) = 1) (tl : tlF I c T V) (hp : ∀ I', (∀ a, a ≠ 109 → I' a = I a) → tlF I' (fun i j => c i j + if y (20 + i) + 1 = nI j then 1 else 0) T V → post none S R I' J) : xSpec 2 yX11_tallyEnd cX11_tallyEnd 5 none 0 0 [.ref 0] S R I J post := by
  refine xSpec_of mt_X11_tallyEnd (Nat.le_of_ble_eq_true rfl) (fun G C0 hN hR E hI hZ => ?_)
  change XX G 0 0 0 [some (.ref 0), none, none, none, none] [] S R I J
  obtain ⟨hfm, wl, rF, rH, wx⟩ := id C
  have hF := hS.film hfm
  have hH := hS.hall (q := 33) (by decide)
  have hT6 := wl.2.1
  have hN8 := wl.2.2.2.1
  have hV6 := wl.2.2.2.2.2.1
  have eT : I f 0 = nI T := rF.1.trans wl.1
  have eN : I f 1 = nI N := rF.2.1.trans wl.2.2.1
  have eV : I f 2 = nI V := rF.2.2.1.trans wl.2.2.2.2.1
  have hfh : ∀ i j, i < 9 → j < 4 → f + i ≠ 33 + j := fun i j hi hj => hf_apart 33 (by decide) f hfm i hi j hj
  obtain ⟨fs0, fs1, fs2, fs3, fs4, fs5, fs6, fs7, fs8, fr4, fr5, fr6, fr7, fr8, fr9, fr10, fr11⟩ := id hF
  obtain ⟨hs0, hs1, hs2, hs3, hr4, hr5, hr6⟩ := id hH
  have hT := hS.hall (q := 37) (by decide)
  obtain ⟨hq0, hq1, hq2, hq3, -⟩ := id hT
  have hout : ∀ n w I1 v2 v3 v4, w + n = V → (∀ a, a ≠ 109 → I1 a = I a) → tlF I1 (fun i j => c i j + if i < 6 * w ∧ y (20 + i) + 1 = nI j then 1 else 0) T V → XX G 0 0 2 [some (.ref 0), some (.int (nI w)), v2, v3, v4] [] S R I1 J := by
    intro n
    induction n with
    | zero =>
      intro w I1 v2 v3 v4 hn9 s1 t1
      have hn8 : w = V := by omega
      subst hn8
      have eV1 : I1 f 2 = nI w := by rw [s1 f (by rcases List.mem_cons.mp hfm with rfl | h; decide; rcases List.mem_cons.mp h with rfl | h; decide; cases h)]; exact eV
      refine x_iload_n C0 rfl dX11_tallyEnd_2 ?_
      refine x_aload_n C0 rfl dX11_tallyEnd_3 ?_
      refine x_getR C0 wf_X11_26 (fixd.k0 hS) rfl rfl hf dX11_tallyEnd_4 ?_
      refine x_getI C0 wf_X11_289 (by assumption) rfl dX11_tallyEnd_7 ?_
      refine x_topi eV1 ?_
      refine x_icmp_ge (tgt := 82) C0 (by decide) dX11_tallyEnd_10 (fun _ => ?_) (fun hkk => absurd ((Int32.le_refl _)) hkk)
      refine x_vret C0 E (by decide) (by decide) dX11_tallyEnd_82 ?_
      refine hp I1 s1 (fun w2 t j h1 h2 h3 => ?_)
      rw [t1 w2 t j h1 h2 h3]
      have e : 6 * w2 + t < 6 * w := by omega
      simp only [e, true_and]
    | succ n ih =>
      intro w I1 v2 v3 v4 hn9 s1 t1
      have hf9 : f ≠ 109 := by rcases List.mem_cons.mp hfm with rfl | h; decide; rcases List.mem_cons.mp h with rfl | h; decide; cases h
      have eV1 : I1 f 2 = nI V := by rw [s1 f hf9]; exact eV
      have hin : ∀ p t I2 v3 v4, t + p = T → (∀ a, a ≠ 109 → I2 a = I a) → tlF I2 (fun i j => c i j + if i < 6 * w + t ∧ y (20 + i) + 1 = nI j then 1 else 0) T V → XX G 0 0 15 [some (.ref 0), some (.int (nI w)), some (.int (nI t)), v3, v4] [] S R I2 J := by
        intro p
        induction p with
        | zero =>
          intro t I2 v3 v4 hm9 s2 t2
          have hm8 : t = T := by omega
          have eT2 : I2 f 0 = nI T := by rw [s2 f hf9]; exact eT
          refine x_iload_n C0 rfl dX11_tallyEnd_15 ?_
          refine x_aload_n C0 rfl dX11_tallyEnd_16 ?_
          refine x_getR C0 wf_X11_26 (fixd.k0 hS) rfl rfl hf dX11_tallyEnd_17 ?_
          refine x_getI C0 wf_X11_280 (by assumption) rfl dX11_tallyEnd_20 ?_
          refine x_topi eT2 ?_
          refine x_icmp_ge (tgt := 76) C0 (by decide) dX11_tallyEnd_23 (fun _ => ?_) (fun hkk => absurd ((by rw [hm8]; exact Int32.le_refl _)) hkk)
          refine x_iinc (v := nI (w + 1)) (L' := [_, _, _, _, _]) C0 hN rfl (by decide) (nI_inc w) rfl dX11_tallyEnd_76 ?_
          refine x_goto (tgt := 2) C0 (by decide) dX11_tallyEnd_79 ?_
          refine ih (w + 1) I2 _ _ _ (by omega) s2 (fun w2 t9 j h1 h2 h3 => ?_)
          rw [t2 w2 t9 j h1 h2 h3]
          have e : (6 * w2 + t9 < 6 * w + t) = (6 * w2 + t9 < 6 * (w + 1)) := propext (by omega)
          simp only [e]
        | succ p ihp =>
          intro t I2 v3 v4 hm9 s2 t2
          have eT2 : I2 f 0 = nI T := by rw [s2 f hf9]; exact eT
          have rY2 : RHall I2 37 y N := rY.congr (fun i hi => s2 _ (by omega))
          obtain ⟨j0, hj0, ej⟩ := three_nI (wy w t (by omega) (by omega))
          have ek : nI ((w * 6 + t) * 3) + y (20 + 6 * w + t) + nI 1 = nI (3 * (6 * w + t) + j0) := by
            rw [Int32.add_assoc, show y (20 + 6 * w + t) + nI 1 = nI j0 from ej, nI_add, show (w * 6 + t) * 3 + j0 = 3 * (6 * w + t) + j0 by omega]
          refine x_iload_n C0 rfl dX11_tallyEnd_15 ?_
          refine x_aload_n C0 rfl dX11_tallyEnd_16 ?_
          refine x_getR C0 wf_X11_26 (fixd.k0 hS) rfl rfl hf dX11_tallyEnd_17 ?_
          refine x_getI C0 wf_X11_280 (by assumption) rfl dX11_tallyEnd_20 ?_
          refine x_topi eT2 ?_
          refine x_icmp_ge (tgt := 76) C0 (by decide) dX11_tallyEnd_23 (fun hkk => absurd hkk (nI_ge (by omega) (by omega))) (fun _ => ?_)
          refine x_iload_n C0 rfl dX11_tallyEnd_26 ?_
          refine x_bipush (v := nI 6) C0 rfl dX11_tallyEnd_27 ?_
          refine x_imulN C0 dX11_tallyEnd_29 ?_
          refine x_iload_n C0 rfl dX11_tallyEnd_30 ?_
          refine x_iaddN C0 dX11_tallyEnd_31 ?_
          refine x_istore_n (L' := [_, _, _, _, _]) C0 hN (by decide) rfl dX11_tallyEnd_32 ?_
          refine x_iload_n C0 rfl dX11_tallyEnd_33 ?_
          refine x_iconst (v := nI 3) C0 rfl dX11_tallyEnd_34 ?_
          refine x_imulN C0 dX11_tallyEnd_35 ?_
          refine x_aload_n C0 rfl dX11_tallyEnd_36 ?_
          refine x_getR C0 wf_X11_50 (fixd.k0 hS) rfl rfl (fixd.trial hS) dX11_tallyEnd_37 ?_
          refine x_iload_n C0 rfl dX11_tallyEnd_40 ?_
          refine x_iload_n C0 rfl dX11_tallyEnd_41 ?_
          refine x_callV [_, _] C0 hN rfl (xRf_of hR (by decide) (Nat.zero_le _) (Nat.zero_le _)) mv_X3_thought wm_X11_172 dX11_tallyEnd_42 (by assumption) rfl rfl (Nat.le_of_ble_eq_true rfl) (c_X3_thought hT (by omega) (by omega) ?_)
          refine x_topi (th_at rY2 (by omega) (by omega)) ?_
          refine x_iadd C0 dX11_tallyEnd_45 ?_
          refine x_iconst (v := nI 1) C0 rfl dX11_tallyEnd_46 ?_
          refine x_iadd C0 dX11_tallyEnd_47 ?_
          refine x_topi ek ?_
          refine x_istore (L' := [_, _, _, _, _]) C0 hN (by decide) rfl dX11_tallyEnd_48 ?_
          refine x_aload_n C0 rfl dX11_tallyEnd_50 ?_
          refine x_getR C0 wf_X11_70 (fixd.k0 hS) rfl rfl (fixd.tally hS) dX11_tallyEnd_51 ?_
          refine x_iload C0 rfl dX11_tallyEnd_54 ?_
          refine x_aload_n C0 rfl dX11_tallyEnd_56 ?_
          refine x_getR C0 wf_X11_70 (fixd.k0 hS) rfl rfl (fixd.tally hS) dX11_tallyEnd_57 ?_
          refine x_iload C0 rfl dX11_tallyEnd_60 ?_
          refine x_callS [_, _] C0 (xRf_of hR (by decide) (Nat.zero_le _) (Nat.zero_le _)) ms_X8_get wm_X11_150 dX11_tallyEnd_62 rfl rfl (Nat.le_of_ble_eq_true rfl) (c_X8_get (fixd.s109 hS) (by omega) (by decide) ?_)
          refine x_topi (t2 w t j0 (by omega) (by omega) hj0) ?_
          refine x_iconst (v := nI 1) C0 rfl dX11_tallyEnd_65 ?_
          refine x_iadd C0 dX11_tallyEnd_66 ?_
          refine x_callS [_, _, _] C0 (xRf_of hR (by decide) (Nat.zero_le _) (Nat.zero_le _)) ms_X8_set wm_X11_259 dX11_tallyEnd_67 rfl rfl (Nat.le_of_ble_eq_true rfl) (c_X8_set (fixd.s109 hS) (by omega) (by decide) ?_)
          refine x_iinc (v := nI (t + 1)) (L' := [_, _, _, _, _]) C0 hN rfl (by decide) (nI_inc t) rfl dX11_tallyEnd_70 ?_
          refine x_goto (tgt := 15) C0 (by decide) dX11_tallyEnd_73 ?_
          refine ihp (t + 1) _ _ _ (by omega) (fun a ha => (u2_row _ _ _ ha).trans (s2 a ha)) (fun w2 t9 j h1 h2 h3 => ?_)
          have e20 : y (20 + (6 * w + t)) + 1 = nI j0 := by rw [show 20 + (6 * w + t) = 20 + 6 * w + t by omega]; exact ej
          by_cases e : 3 * (6 * w2 + t9) + j = 3 * (6 * w + t) + j0
          · have e1 : 6 * w2 + t9 = 6 * w + t := by omega
            have e2 : j = j0 := by omega
            subst e2
            rw [e, u2_same, e1]
            have e3 : ¬ 6 * w + t < 6 * w + t := by omega
            have e4 : 6 * w + t < 6 * w + (t + 1) := by omega
            simp only [e3, e4, false_and, true_and, if_pos e20, if_false, Nat.add_zero]
            exact (nI_succ _).symm
          · rw [u2_off _ _ e, t2 w2 t9 j h1 h2 h3]
            by_cases e1 : 6 * w2 + t9 = 6 * w + t
            · have e5 : ¬ y (20 + (6 * w2 + t9)) + 1 = nI j := fun q => by
                rw [e1, e20] at q
                have := (nI_eq (by omega) (by omega)).mp q
                omega
              simp only [e5, and_false]
            · have e6 : (6 * w2 + t9 < 6 * w + t) = (6 * w2 + t9 < 6 * w + (t + 1)) := propext (by omega)
              simp only [e6]
      refine x_iload_n C0 rfl dX11_tallyEnd_2 ?_
      refine x_aload_n C0 rfl dX11_tallyEnd_3 ?_
      refine x_getR C0 wf_X11_26 (fixd.k0 hS) rfl rfl hf dX11_tallyEnd_4 ?_
      refine x_getI C0 wf_X11_289 (by assumption) rfl dX11_tallyEnd_7 ?_
      refine x_topi eV1 ?_
      refine x_icmp_ge (tgt := 82) C0 (by decide) dX11_tallyEnd_10 (fun hkk => absurd hkk (nI_ge (by omega) (by omega))) (fun _ => ?_)
      refine x_iconst (v := 0) C0 rfl dX11_tallyEnd_13 ?_
      refine x_istore_n (L' := [_, _, _, _, _]) C0 hN (by decide) rfl dX11_tallyEnd_14 ?_
      exact hin T 0 I1 _ _ (by omega) s1 t1
  refine x_iconst (v := 0) C0 rfl dX11_tallyEnd_0 ?_
  refine x_istore_n (L' := [_, _, _, _, _]) C0 hN (by decide) rfl dX11_tallyEnd_1 ?_
  refine hout V 0 I none none none (by omega) (fun _ _ => rfl) (fun w t j h1 h2 h3 => ?_)
  rw [tl w t j h1 h2 h3]
  have e : ¬ 6 * w + t < 6 * 0 := by omega
  simp only [e, false_and, if_false, Nat.add_zero]
theorem c_X11_greatestTally {S : xTS} {R : xTR} {I : xTI} {J : xTJ} {post : xPost} (hS : fixd S R) {i : Nat} {m : Nat → Nat} (hi : i < 36) (hm : ∀ j, j < 3 → m j < 1000) (he : ∀ j, j < 3 → I 109 (3 * i + j) = nI (m j)) (hp : post (some (.int (nI (mx3 m)))) S R I J) : xSpec 2 yX11_greatestTally cX11_greatestTally 5 (some .int) 0 0 [.ref 0, .int (nI i)] S R I J post := by
  refine xSpec_of mt_X11_greatestTally (Nat.le_of_ble_eq_true rfl) (fun G C0 hN hR E hI hZ => ?_)
  change XX G 0 0 0 [some (.ref 0), some (.int (nI i)), none, none, none] [] S R I J
  have m0 := hm 0 (by decide)
  have m1 := hm 1 (by decide)
  have m2 := hm 2 (by decide)
  have g0 : I 109 (i * 3) = nI (m 0) := by rw [← he 0 (by decide)]; congr 1; omega
  have g1 : I 109 (i * 3 + 1) = nI (m 1) := by rw [← he 1 (by decide)]; congr 1; omega
  have g2 : I 109 (i * 3 + 2) = nI (m 2) := by rw [← he 2 (by decide)]; congr 1; omega
  refine x_aload_n C0 rfl dX11_greatestTally_0 ?_
  refine x_getR C0 wf_X11_70 (fixd.k0 hS) rfl rfl (fixd.tally hS) dX11_greatestTally_1 ?_
  refine x_iload_n C0 rfl dX11_greatestTally_4 ?_
  refine x_iconst (v := nI 3) C0 rfl dX11_greatestTally_5 ?_
  refine x_imulN C0 dX11_greatestTally_6 ?_
  refine x_callS [_, _] C0 (xRf_of hR (by decide) (Nat.zero_le _) (Nat.zero_le _)) ms_X8_get wm_X11_150 dX11_greatestTally_7 rfl rfl (Nat.le_of_ble_eq_true rfl) (c_X8_get (fixd.s109 hS) (by omega) (by decide) ?_)
  refine x_topi g0 ?_
  refine x_istore_n (L' := [_, _, _, _, _]) C0 hN (by decide) rfl dX11_greatestTally_10 ?_
  refine x_aload_n C0 rfl dX11_greatestTally_11 ?_
  refine x_getR C0 wf_X11_70 (fixd.k0 hS) rfl rfl (fixd.tally hS) dX11_greatestTally_12 ?_
  refine x_iload_n C0 rfl dX11_greatestTally_15 ?_
  refine x_iconst (v := nI 3) C0 rfl dX11_greatestTally_16 ?_
  refine x_imulN C0 dX11_greatestTally_17 ?_
  refine x_iconst (v := nI 1) C0 rfl dX11_greatestTally_18 ?_
  refine x_iaddN C0 dX11_greatestTally_19 ?_
  refine x_callS [_, _] C0 (xRf_of hR (by decide) (Nat.zero_le _) (Nat.zero_le _)) ms_X8_get wm_X11_150 dX11_greatestTally_20 rfl rfl (Nat.le_of_ble_eq_true rfl) (c_X8_get (fixd.s109 hS) (by omega) (by decide) ?_)
  refine x_topi g1 ?_
  refine x_istore_n (L' := [_, _, _, _, _]) C0 hN (by decide) rfl dX11_greatestTally_23 ?_
  refine x_aload_n C0 rfl dX11_greatestTally_24 ?_
  refine x_getR C0 wf_X11_70 (fixd.k0 hS) rfl rfl (fixd.tally hS) dX11_greatestTally_25 ?_
  refine x_iload_n C0 rfl dX11_greatestTally_28 ?_
  refine x_iconst (v := nI 3) C0 rfl dX11_greatestTally_29 ?_
  refine x_imulN C0 dX11_greatestTally_30 ?_
  refine x_iconst (v := nI 2) C0 rfl dX11_greatestTally_31 ?_
  refine x_iaddN C0 dX11_greatestTally_32 ?_
  refine x_callS [_, _] C0 (xRf_of hR (by decide) (Nat.zero_le _) (Nat.zero_le _)) ms_X8_get wm_X11_150 dX11_greatestTally_33 rfl rfl (Nat.le_of_ble_eq_true rfl) (c_X8_get (fixd.s109 hS) (by omega) (by decide) ?_)
  refine x_topi g2 ?_
  refine x_istore (L' := [_, _, _, _, _]) C0 hN (by decide) rfl dX11_greatestTally_36 ?_
  refine x_iload_n C0 rfl dX11_greatestTally_38 ?_
  refine x_iload_n C0 rfl dX11_greatestTally_39 ?_
  refine x_iload C0 rfl dX11_greatestTally_40 ?_
  refine x_mmax (v := nI (max (m 1) (m 2))) C0 (xRf_of hR (by decide) (Nat.zero_le _) (Nat.zero_le _)) wk_X11_317 (Nat.le_of_ble_eq_true rfl) (nmax (by omega) (by omega)) dX11_greatestTally_42 ?_
  refine x_mmax (v := nI (mx3 m)) C0 (xRf_of hR (by decide) (Nat.zero_le _) (Nat.zero_le _)) wk_X11_317 (Nat.le_of_ble_eq_true rfl) (nmax (by omega) (by omega)) dX11_greatestTally_45 ?_
  refine x_iret C0 E (by decide) (by decide) dX11_greatestTally_48 ?_
  exact hp
