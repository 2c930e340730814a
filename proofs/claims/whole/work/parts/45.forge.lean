/-! THE QUESTIONS: forge -/
def fgW (x : xRow) (s t b : Nat) : Nat → xRow
  | 0 => x
  | k + 1 => if xbit (nI s) k then sWr (fgW x s t b k) k t b else fgW x s t b k
theorem fgW_yes {x : xRow} {s t b k : Nat} (h : xbit (nI s) k) : fgW x s t b (k + 1) = sWr (fgW x s t b k) k t b := by conv => lhs; unfold fgW; rw [if_pos h]
theorem fgW_no {x : xRow} {s t b k : Nat} (h : ¬ xbit (nI s) k) : fgW x s t b (k + 1) = fgW x s t b k := by conv => lhs; unfold fgW; rw [if_neg h]
theorem fgW_0 {x : xRow} {s t b : Nat} : ∀ k, fgW x s t b k 0 = x 0
  | 0 => rfl
  | k + 1 => by
    by_cases h : xbit (nI s) k
    · rw [fgW_yes h]
      unfold sWr
      rw [upd_ne (by omega), upd_ne (by omega)]
      exact fgW_0 k
    · rw [fgW_no h]; exact fgW_0 k
theorem fgW_WFx {x : xRow} {T N V s t b : Nat} (wx : WFx x T N V) (hN : N ≤ 8) (ht : t < T) (hb : b < 2) : ∀ k, k ≤ N → WFx (fgW x s t b k) T N V
  | 0, _ => wx
  | k + 1, hk => by
    have ih := fgW_WFx (s := s) wx hN ht hb k (by omega)
    by_cases h : xbit (nI s) k
    · rw [fgW_yes h]
      exact WFx_wr ih (by omega) hN ht hb
    · rw [fgW_no h]; exact ih
def sFg (fl : xRow) (dq : xDq) (x : xRow) (V N s t b : Nat) : xRow := sEnd fl dq V (N - (x 0).toNatClampNeg) (x 0).toNatClampNeg (fgW x s t b N)
abbrev fgHit (fl : xRow) (dq : xDq) (x : xRow) (V N a t b s : Nat) : Prop := sFg fl dq x V N s t b (20 + 6 * a + t) = nI b ∧ sEnd fl dq V (N - (x 0).toNatClampNeg) (x 0).toNatClampNeg x 2 &&& (sFg fl dq x V N s t b 2 ^^^ (-1)) = 0
def fgB (fl : xRow) (dq : xDq) (x : xRow) (V N a t b : Nat) : Nat → Int32
  | 0 => -1
  | s + 1 => if nI s &&& (sToCome x N ^^^ (-1)) = 0 ∧ sFewer s (fgB fl dq x V N a t b s) ∧ fgHit fl dq x V N a t b s then nI s else fgB fl dq x V N a t b s
theorem fgB_yes {fl : xRow} {dq : xDq} {x : xRow} {V N a t b s : Nat} (h : nI s &&& (sToCome x N ^^^ (-1)) = 0 ∧ sFewer s (fgB fl dq x V N a t b s) ∧ fgHit fl dq x V N a t b s) : fgB fl dq x V N a t b (s + 1) = nI s := by conv => lhs; unfold fgB; rw [if_pos h]
theorem fgB_no {fl : xRow} {dq : xDq} {x : xRow} {V N a t b s : Nat} (h : ¬ (nI s &&& (sToCome x N ^^^ (-1)) = 0 ∧ sFewer s (fgB fl dq x V N a t b s) ∧ fgHit fl dq x V N a t b s)) : fgB fl dq x V N a t b (s + 1) = fgB fl dq x V N a t b s := by conv => lhs; unfold fgB; rw [if_neg h]
theorem fgB_or {fl : xRow} {dq : xDq} {x : xRow} {V N a t b : Nat} : ∀ s, fgB fl dq x V N a t b s = -1 ∨ ∃ m, m < s ∧ fgB fl dq x V N a t b s = nI m
  | 0 => Or.inl rfl
  | s + 1 => by
    by_cases h : nI s &&& (sToCome x N ^^^ (-1)) = 0 ∧ sFewer s (fgB fl dq x V N a t b s) ∧ fgHit fl dq x V N a t b s
    · exact Or.inr ⟨s, by omega, fgB_yes h⟩
    · rw [fgB_no h]
      exact (fgB_or s).imp id (fun ⟨m, hm, e⟩ => ⟨m, by omega, e⟩)
theorem come_out {x : xRow} {T N V s : Nat} (wx : WFx x T N V) (hN : N ≤ 8) (h1 : 2 ^ N ≤ s) (h2 : s < 256) : ¬ nI s &&& (sToCome x N ^^^ (-1)) = 0 := by
  obtain ⟨c, hc, e⟩ := come_nI wx hN
  have := shl_le hN
  rw [e]
  intro q
  have := sub_le (by omega) (by omega) q
  omega
theorem fgB_end {fl : xRow} {dq : xDq} {x : xRow} {T N V a t b : Nat} (wx : WFx x T N V) (hN : N ≤ 8) : ∀ n, 2 ^ N + n ≤ 256 → fgB fl dq x V N a t b (2 ^ N + n) = fgB fl dq x V N a t b (2 ^ N)
  | 0, _ => rfl
  | n + 1, h => by
    rw [← Nat.add_assoc, fgB_no (fun q => come_out wx hN (by omega) (by omega) q.1)]
    exact fgB_end wx hN n (by omega)
def bOf (c : Int32) : Nat := if c = 0 then 0 else 1
theorem bOf_lt {c : Int32} : bOf c < 2 := by unfold bOf; split <;> decide
def aForge (fl : xRow) (dq : xDq) (x : xRow) (V N : Nat) (i j c : Int32) : Int32 := if (0 ≤ i ∧ i < fl 2) ∧ (0 ≤ j ∧ j < fl 0) then fgB fl dq x V N i.toNatClampNeg j.toNatClampNeg (bOf c) (2 ^ N) else -1
theorem claim_bOf {t : Nat} {c : Int32} : 2 * nI t + (if c = 0 then 0 else 1) = nI (2 * t + bOf c) := by
  unfold bOf
  split
  · exact two_nI' t 0
  · exact two_nI' t 1
theorem c_X11_finishWritten {S : xTS} {R : xTR} {I : xTI} {J : xTJ} {post : xPost} {f T N V : Nat} {fl x : xRow} {lw : Option (List (Nat × Nat))} (hS : fixd S R) (hf : R 0 2 = some f) (C : FCore I f fl lw T N V x) {s t b : Nat} (ht : t < T) (hb : b < 2) (hp : ∀ I', FQ I I' → RHall I' 37 (sFg fl (sDq fl lw) x V N s t b) N → post none S R I' J) : xSpec 6 yX11_finishWritten cX11_finishWritten 4 none 0 0 [.ref 0, .int (nI s), .int (nI (2 * t + b))] S R I J post := by
  refine xSpec_of mt_X11_finishWritten (Nat.le_of_ble_eq_true rfl) (fun G C0 hN hR E hI hZ => ?_)
  change XX G 0 0 0 [some (.ref 0), some (.int (nI s)), some (.int (nI (2 * t + b))), none] [] S R I J
  obtain ⟨hfm, wl, rF, rH, wx⟩ := id C
  have hF := hS.film hfm
  have hH := hS.hall (q := 33) (by decide)
  have hT6 := wl.2.1
  have hN8 := wl.2.2.2.1
  have hV6 := wl.2.2.2.2.2.1
  have eT : I f 0 = nI T := rF.1.trans wl.1
  have eN : I f 1 = nI N := rF.2.1.trans wl.2.2.1
  have eV : I f 2 = nI V := rF.2.2.1.trans wl.2.2.2.2.1
  have hfh : ∀ i j, i < 9 → j < 4 → f + i ≠ 33 + j := fun i j hi hj => hf_apart 33 (by decide) f hfm i hi j hj
  obtain ⟨fs0, fs1, fs2, fs3, fs4, fs5, fs6, fs7, fs8, fr4, fr5, fr6, fr7, fr8, fr9, fr10, fr11⟩ := id hF
  obtain ⟨hs0, hs1, hs2, hs3, hr4, hr5, hr6⟩ := id hH
  have hT := hS.hall (q := 37) (by decide)
  obtain ⟨hq0, hq1, hq2, hq3, -⟩ := id hT
  have hf37 : ∀ i j, i < 9 → j < 4 → f + i ≠ 37 + j := fun i j hi hj => hf_apart 37 (by decide) f hfm i hi j hj
  have h3733 : ∀ i j, i < 4 → j < 4 → 37 + i ≠ 33 + j := fun i j hi hj => hh_apart 37 (by decide) 33 (by decide) (by decide) i hi j hj
  have rT : RHall (uhall I 37 33) 37 x N := uhall_hall h3733 hN8 rH
  obtain ⟨hq0, hq1, hq2, hq3, hq4, hq5, hq6⟩ := id hT
  have hloop : ∀ n k I1, k + n = N → FQ I I1 → RHall I1 37 (fgW x s t b k) N → XX G 0 0 13 [some (.ref 0), some (.int (nI s)), some (.int (nI (2 * t + b))), some (.int (nI k))] [] S R I1 J := by
    intro n
    induction n with
    | zero =>
      intro k I1 hn9 s1 r1
      have hn8 : k = N := by omega
      have rF1 := (C.fq s1).2.2.1
      have eN1 : I1 f 1 = nI N := by rw [rF1.2.1, wl.2.2.1]
      subst hn8
      refine x_iload_n C0 rfl dX11_finishWritten_13 ?_
      refine x_aload_n C0 rfl dX11_finishWritten_14 ?_
      refine x_getR C0 wf_X11_26 (fixd.k0 hS) rfl rfl hf dX11_finishWritten_15 ?_
      refine x_getI C0 wf_X11_239 (by assumption) rfl dX11_finishWritten_18 ?_
      refine x_topi eN1 ?_
      refine x_icmp_ge (tgt := 51) C0 (by decide) dX11_finishWritten_21 (fun _ => ?_) (fun hkk => absurd ((Int32.le_refl _)) hkk)
      refine x_aload_n C0 rfl dX11_finishWritten_51 ?_
      refine x_getR C0 wf_X11_26 (fixd.k0 hS) rfl rfl hf dX11_finishWritten_52 ?_
      refine x_aload_n C0 rfl dX11_finishWritten_55 ?_
      refine x_getR C0 wf_X11_50 (fixd.k0 hS) rfl rfl (fixd.trial hS) dX11_finishWritten_56 ?_
      refine x_callV [_] C0 hN rfl (xRf_of hR (by decide) (Nat.zero_le _) (Nat.zero_le _)) mv_X2_finish wm_X11_236 dX11_finishWritten_59 (by assumption) rfl rfl (Nat.le_of_ble_eq_true rfl) (c_X2_finish hF hT hf37 wl (fgW_WFx wx hN8 ht hb k (Nat.le_refl k)) rF1 r1 (fun k0 I2 hkN hx0 s2 r3 => ?_))
      refine x_vret C0 E (by decide) (by decide) dX11_finishWritten_62 ?_
      rw [fgW_0] at hx0
      unfold sFg at hp
      rw [hx0, nI_clamp (by omega)] at hp
      exact hp I2 (s1.trans (FQ.hall s2)) r3
    | succ n ih =>
      intro k I1 hn9 s1 r1
      have eN1 : I1 f 1 = nI N := by rw [(C.fq s1).2.2.1.2.1, wl.2.2.1]
      refine x_iload_n C0 rfl dX11_finishWritten_13 ?_
      refine x_aload_n C0 rfl dX11_finishWritten_14 ?_
      refine x_getR C0 wf_X11_26 (fixd.k0 hS) rfl rfl hf dX11_finishWritten_15 ?_
      refine x_getI C0 wf_X11_239 (by assumption) rfl dX11_finishWritten_18 ?_
      refine x_topi eN1 ?_
      refine x_icmp_ge (tgt := 51) C0 (by decide) dX11_finishWritten_21 (fun hkk => absurd hkk (nI_ge (by omega) (by omega))) (fun _ => ?_)
      refine x_iload_n C0 rfl dX11_finishWritten_24 ?_
      refine x_iload_n C0 rfl dX11_finishWritten_25 ?_
      refine x_ishr C0 dX11_finishWritten_26 ?_
      refine x_iconst (v := 1) C0 rfl dX11_finishWritten_27 ?_
      refine x_iand C0 dX11_finishWritten_28 ?_
      refine x_iconst (v := 1) C0 rfl dX11_finishWritten_29 ?_
      refine x_icmp_ne (tgt := 45) C0 (by decide) dX11_finishWritten_30 (fun g30 => ?_) (fun g30 => ?_)
      · refine x_iinc (v := nI (k + 1)) (L' := [_, _, _, _]) C0 hN rfl (by decide) (nI_inc k) rfl dX11_finishWritten_45 ?_
        refine x_goto (tgt := 13) C0 (by decide) dX11_finishWritten_48 ?_
        exact ih (k + 1) I1 (by omega) s1 (by rw [fgW_no g30]; exact r1)
      · refine x_aload_n C0 rfl dX11_finishWritten_33 ?_
        refine x_getR C0 wf_X11_50 (fixd.k0 hS) rfl rfl (fixd.trial hS) dX11_finishWritten_34 ?_
        refine x_getR C0 wf_X11_256 (by assumption) rfl rfl hq4 dX11_finishWritten_37 ?_
        refine x_iload_n C0 rfl dX11_finishWritten_40 ?_
        refine x_iload_n C0 rfl dX11_finishWritten_41 ?_
        refine x_callS [_, _, _] C0 (xRf_of hR (by decide) (Nat.zero_le _) (Nat.zero_le _)) ms_X8_set wm_X11_259 dX11_finishWritten_42 rfl rfl (Nat.le_of_ble_eq_true rfl) (c_X8_set hq1 (by omega) (by decide) ?_)
        refine x_iinc (v := nI (k + 1)) (L' := [_, _, _, _]) C0 hN rfl (by decide) (nI_inc k) rfl dX11_finishWritten_45 ?_
        refine x_goto (tgt := 13) C0 (by decide) dX11_finishWritten_48 ?_
        exact ih (k + 1) _ (by omega) (s1.trans FQ.u38) (by rw [fgW_yes g30]; exact RHall_wr r1 (by omega) hN8)
  refine x_aload_n C0 rfl dX11_finishWritten_0 ?_
  refine x_getR C0 wf_X11_50 (fixd.k0 hS) rfl rfl (fixd.trial hS) dX11_finishWritten_1 ?_
  refine x_aload_n C0 rfl dX11_finishWritten_4 ?_
  refine x_getR C0 wf_X11_46 (fixd.k0 hS) rfl rfl (fixd.now hS) dX11_finishWritten_5 ?_
  refine x_callV [_] C0 hN rfl (xRf_of hR (by decide) (Nat.zero_le _) (Nat.zero_le _)) mv_X3_copy wm_X11_176 dX11_finishWritten_8 (by assumption) rfl rfl (Nat.le_of_ble_eq_true rfl) (c_X3_copy hT hH h3733 ?_)
  refine x_iconst (v := 0) C0 rfl dX11_finishWritten_11 ?_
  refine x_istore_n (L' := [_, _, _, _]) C0 hN (by decide) rfl dX11_finishWritten_12 ?_
  exact hloop N 0 _ (by omega) FQ.copy rT
theorem c_X11_forge {S : xTS} {R : xTR} {I : xTI} {J : xTJ} {post : xPost} {f T N V : Nat} {fl x : xRow} {lw : Option (List (Nat × Nat))} (hS : fixd S R) (hf : R 0 2 = some f) (C : FCore I f fl lw T N V x) {i j c : Int32} (hp : ∀ I', FQ I I' → post (some (.int (aForge fl (sDq fl lw) x V N i j c))) S R I' J) : xSpec 7 yX11_forge cX11_forge 8 (some .int) 0 0 [.ref 0, .int i, .int j, .int c] S R I J post := by
  refine xSpec_of mt_X11_forge (Nat.le_of_ble_eq_true rfl) (fun G C0 hN hR E hI hZ => ?_)
  change XX G 0 0 0 [some (.ref 0), some (.int i), some (.int j), some (.int c), none, none, none, none] [] S R I J
  obtain ⟨hfm, wl, rF, rH, wx⟩ := id C
  have hF := hS.film hfm
  have hH := hS.hall (q := 33) (by decide)
  have hT6 := wl.2.1
  have hN8 := wl.2.2.2.1
  have hV6 := wl.2.2.2.2.2.1
  have eT : I f 0 = nI T := rF.1.trans wl.1
  have eN : I f 1 = nI N := rF.2.1.trans wl.2.2.1
  have eV : I f 2 = nI V := rF.2.2.1.trans wl.2.2.2.2.1
  have hfh : ∀ i j, i < 9 → j < 4 → f + i ≠ 33 + j := fun i j hi hj => hf_apart 33 (by decide) f hfm i hi j hj
  obtain ⟨fs0, fs1, fs2, fs3, fs4, fs5, fs6, fs7, fs8, fr4, fr5, fr6, fr7, fr8, fr9, fr10, fr11⟩ := id hF
  obtain ⟨hs0, hs1, hs2, hs3, hr4, hr5, hr6⟩ := id hH
  unfold aForge at hp
  rw [← rF.2.2.1, ← rF.1] at hp
  have h256 := shl_le hN8
  have hT := hS.hall (q := 37) (by decide)
  obtain ⟨hq0, hq1, hq2, hq3, -⟩ := id hT
  have hf37 : ∀ i j, i < 9 → j < 4 → f + i ≠ 37 + j := fun i j hi hj => hf_apart 37 (by decide) f hfm i hi j hj
  have h3733 : ∀ i j, i < 4 → j < 4 → 37 + i ≠ 33 + j := fun i j hi hj => hh_apart 37 (by decide) 33 (by decide) (by decide) i hi j hj
  have rT : RHall (uhall I 37 33) 37 x N := uhall_hall h3733 hN8 rH
  have h57 : ∀ a t, a < V → t < T → (∀ I', FQ I I' → post (some (.int (fgB fl (sDq fl lw) x V N a t (bOf c) (2 ^ N)))) S R I' J) → ∀ n s I1, s + n = 256 → FQ I I1 → XX G 0 0 57 [some (.ref 0), some (.int (nI a)), some (.int (nI t)), some (.int c), some (.int (sEnd fl (sDq fl lw) V (N - (x 0).toNatClampNeg) (x 0).toNatClampNeg x 2)), some (.int (sToCome x N)), some (.int (fgB fl (sDq fl lw) x V N a t (bOf c) s)), some (.int (nI s))] [] S R I1 J := by
    intro a t ha ht hp n
    induction n with
    | zero =>
      intro s I1 hn9 s1
      have hn8 : s = 256 := by omega
      refine x_iload C0 rfl dX11_forge_57 ?_
      refine x_sipush (v := 256) C0 rfl dX11_forge_59 ?_
      refine x_icmp_ge (tgt := 142) C0 (by decide) dX11_forge_62 (fun _ => ?_) (fun hkk => absurd ((by rw [hn8]; decide)) hkk)
      refine x_iload C0 rfl dX11_forge_142 ?_
      refine x_iret C0 E (by decide) (by decide) dX11_forge_144 ?_
      subst hn8
      have e := fgB_end (fl := fl) (dq := sDq fl lw) (a := a) (t := t) (b := bOf c) wx hN8 (256 - 2 ^ N) (by omega)
      rw [show 2 ^ N + (256 - 2 ^ N) = 256 by omega] at e
      rw [e]
      exact hp I1 s1
    | succ n ih =>
      intro s I1 hn9 s1
      have CC := C.fq s1
      have hb1 : c = 0 → nI (bOf c) = 0 := fun q => by unfold bOf; rw [if_pos q]; rfl
      have hb2 : ¬ c = 0 → nI (bOf c) = 1 := fun q => by unfold bOf; rw [if_neg q]; rfl
      refine x_iload C0 rfl dX11_forge_57 ?_
      refine x_sipush (v := 256) C0 rfl dX11_forge_59 ?_
      refine x_icmp_ge (tgt := 142) C0 (by decide) dX11_forge_62 (fun hkk => absurd hkk ((nI_ge (b := 256) (by omega) (by omega)))) (fun _ => ?_)
      refine x_iload C0 rfl dX11_forge_65 ?_
      refine x_iload C0 rfl dX11_forge_67 ?_
      refine x_iconst (v := -1) C0 rfl dX11_forge_69 ?_
      refine x_ixor C0 dX11_forge_70 ?_
      refine x_iand C0 dX11_forge_71 ?_
      refine x_if_ne (tgt := 136) C0 (by decide) dX11_forge_72 (fun g72 => ?_) (fun g72 => ?_)
      · refine x_iinc (v := nI (s + 1)) (L' := [_, _, _, _, _, _, _, _]) C0 hN rfl (by decide) (nI_inc s) rfl dX11_forge_136 ?_
        refine x_goto (tgt := 57) C0 (by decide) dX11_forge_139 ?_
        have := ih (s + 1) I1 (by omega) s1
        rw [fgB_no (fun z => g72 z.1)] at this
        exact this
      · refine x_iload C0 rfl dX11_forge_75 ?_
        refine x_iload C0 rfl dX11_forge_77 ?_
        refine x_callS [_, _] C0 (xRf_of hR (by decide) (Nat.zero_le _) (Nat.zero_le _)) ms_X11_isFewer wm_X11_249 dX11_forge_79 rfl rfl (Nat.le_of_ble_eq_true rfl) (c_X11_isFewer (by omega) ((fgB_or s).imp id (fun ⟨m, hm, e⟩ => ⟨m, by omega, e⟩)) (fun g82 => ?_) (fun g82 => ?_))
        · refine x_if_eq (tgt := 136) C0 (by decide) dX11_forge_82 (fun hkk => absurd hkk (by decide)) (fun _ => ?_)
          refine x_aload_n C0 rfl dX11_forge_85 ?_
          refine x_iload C0 rfl dX11_forge_86 ?_
          refine x_iload_n C0 rfl dX11_forge_88 ?_
          refine x_iload_n C0 rfl dX11_forge_89 ?_
          refine x_callS [_, _] C0 (xRf_of hR (by decide) (Nat.zero_le _) (Nat.zero_le _)) ms_X11_claim wm_X11_190 dX11_forge_90 rfl rfl (Nat.le_of_ble_eq_true rfl) (c_X11_claim  ?_)
          refine x_topi claim_bOf ?_
          refine x_callV [_, _] C0 hN rfl (xRf_of hR (by decide) (Nat.zero_le _) (Nat.zero_le _)) mv_X11_finishWritten wm_X11_252 dX11_forge_93 (fixd.k0 hS) rfl rfl (Nat.le_of_ble_eq_true rfl) (c_X11_finishWritten hS hf CC ht bOf_lt (fun I2 s2 r2 => ?_))
          refine x_aload_n C0 rfl dX11_forge_96 ?_
          refine x_getR C0 wf_X11_50 (fixd.k0 hS) rfl rfl (fixd.trial hS) dX11_forge_97 ?_
          refine x_iload_n C0 rfl dX11_forge_100 ?_
          refine x_iload_n C0 rfl dX11_forge_101 ?_
          refine x_callV [_, _] C0 hN rfl (xRf_of hR (by decide) (Nat.zero_le _) (Nat.zero_le _)) mv_X3_thought wm_X11_172 dX11_forge_102 (by assumption) rfl rfl (Nat.le_of_ble_eq_true rfl) (c_X3_thought hT (by omega) (by omega) ?_)
          refine x_topi (th_at r2 (by omega) (by omega)) ?_
          refine x_iload_n C0 rfl dX11_forge_105 ?_
          refine x_if_eq (tgt := 113) C0 (by decide) dX11_forge_106 (fun g106 => ?_) (fun g106 => ?_)
          · refine x_iconst (v := 0) C0 rfl dX11_forge_113 ?_
            refine x_icmp_ne (tgt := 136) C0 (by decide) dX11_forge_114 (fun g114 => ?_) (fun g114 => ?_)
            · refine x_iinc (v := nI (s + 1)) (L' := [_, _, _, _, _, _, _, _]) C0 hN rfl (by decide) (nI_inc s) rfl dX11_forge_136 ?_
              refine x_goto (tgt := 57) C0 (by decide) dX11_forge_139 ?_
              have := ih (s + 1) I2 (by omega) (s1.trans s2)
              rw [fgB_no (fun z => g114 (by rw [z.2.2.1, hb1 g106]))] at this
              exact this
            · refine x_iload C0 rfl dX11_forge_117 ?_
              refine x_aload_n C0 rfl dX11_forge_119 ?_
              refine x_getR C0 wf_X11_50 (fixd.k0 hS) rfl rfl (fixd.trial hS) dX11_forge_120 ?_
              refine x_getI C0 wf_X11_219 (by assumption) rfl dX11_forge_123 ?_
              refine x_iconst (v := -1) C0 rfl dX11_forge_126 ?_
              refine x_ixor C0 dX11_forge_127 ?_
              refine x_iand C0 dX11_forge_128 ?_
              refine x_if_ne (tgt := 136) C0 (by decide) dX11_forge_129 (fun g129 => ?_) (fun g129 => ?_)
              · refine x_iinc (v := nI (s + 1)) (L' := [_, _, _, _, _, _, _, _]) C0 hN rfl (by decide) (nI_inc s) rfl dX11_forge_136 ?_
                refine x_goto (tgt := 57) C0 (by decide) dX11_forge_139 ?_
                have := ih (s + 1) I2 (by omega) (s1.trans s2)
                rw [fgB_no (fun z => g129 (by rw [r2.2.2.1]; exact z.2.2.2))] at this
                exact this
              · refine x_iload C0 rfl dX11_forge_132 ?_
                refine x_istore (L' := [_, _, _, _, _, _, _, _]) C0 hN (by decide) rfl dX11_forge_134 ?_
                refine x_iinc (v := nI (s + 1)) (L' := [_, _, _, _, _, _, _, _]) C0 hN rfl (by decide) (nI_inc s) rfl dX11_forge_136 ?_
                refine x_goto (tgt := 57) C0 (by decide) dX11_forge_139 ?_
                have := ih (s + 1) I2 (by omega) (s1.trans s2)
                rw [fgB_yes ⟨g72, g82, by rw [hb1 g106]; exact g114, by rw [← r2.2.2.1]; exact g129⟩] at this
                exact this
          · refine x_iconst (v := 1) C0 rfl dX11_forge_109 ?_
            refine x_goto (tgt := 114) C0 (by decide) dX11_forge_110 ?_
            refine x_icmp_ne (tgt := 136) C0 (by decide) dX11_forge_114 (fun g114 => ?_) (fun g114 => ?_)
            · refine x_iinc (v := nI (s + 1)) (L' := [_, _, _, _, _, _, _, _]) C0 hN rfl (by decide) (nI_inc s) rfl dX11_forge_136 ?_
              refine x_goto (tgt := 57) C0 (by decide) dX11_forge_139 ?_
              have := ih (s + 1) I2 (by omega) (s1.trans s2)
              rw [fgB_no (fun z => g114 (by rw [z.2.2.1, hb2 g106]))] at this
              exact this
            · refine x_iload C0 rfl dX11_forge_117 ?_
              refine x_aload_n C0 rfl dX11_forge_119 ?_
              refine x_getR C0 wf_X11_50 (fixd.k0 hS) rfl rfl (fixd.trial hS) dX11_forge_120 ?_
              refine x_getI C0 wf_X11_219 (by assumption) rfl dX11_forge_123 ?_
              refine x_iconst (v := -1) C0 rfl dX11_forge_126 ?_
              refine x_ixor C0 dX11_forge_127 ?_
              refine x_iand C0 dX11_forge_128 ?_
              refine x_if_ne (tgt := 136) C0 (by decide) dX11_forge_129 (fun g129 => ?_) (fun g129 => ?_)
              · refine x_iinc (v := nI (s + 1)) (L' := [_, _, _, _, _, _, _, _]) C0 hN rfl (by decide) (nI_inc s) rfl dX11_forge_136 ?_
                refine x_goto (tgt := 57) C0 (by decide) dX11_forge_139 ?_
                have := ih (s + 1) I2 (by omega) (s1.trans s2)
                rw [fgB_no (fun z => g129 (by rw [r2.2.2.1]; exact z.2.2.2))] at this
                exact this
              · refine x_iload C0 rfl dX11_forge_132 ?_
                refine x_istore (L' := [_, _, _, _, _, _, _, _]) C0 hN (by decide) rfl dX11_forge_134 ?_
                refine x_iinc (v := nI (s + 1)) (L' := [_, _, _, _, _, _, _, _]) C0 hN rfl (by decide) (nI_inc s) rfl dX11_forge_136 ?_
                refine x_goto (tgt := 57) C0 (by decide) dX11_forge_139 ?_
                have := ih (s + 1) I2 (by omega) (s1.trans s2)
                rw [fgB_yes ⟨g72, g82, by rw [hb2 g106]; exact g114, by rw [← r2.2.2.1]; exact g129⟩] at this
                exact this
        · refine x_if_eq (tgt := 136) C0 (by decide) dX11_forge_82 (fun _ => ?_) (fun hkk => absurd (by decide) hkk)
          refine x_iinc (v := nI (s + 1)) (L' := [_, _, _, _, _, _, _, _]) C0 hN rfl (by decide) (nI_inc s) rfl dX11_forge_136 ?_
          refine x_goto (tgt := 57) C0 (by decide) dX11_forge_139 ?_
          have := ih (s + 1) I1 (by omega) s1
          rw [fgB_no (fun z => g82 z.2.1)] at this
          exact this
  refine x_aload_n C0 rfl dX11_forge_0 ?_
  refine x_getR C0 wf_X11_26 (fixd.k0 hS) rfl rfl hf dX11_forge_1 ?_
  refine x_iload_n C0 rfl dX11_forge_4 ?_
  refine x_iload_n C0 rfl dX11_forge_5 ?_
  refine x_callV [_, _] C0 hN rfl (xRf_of hR (by decide) (Nat.zero_le _) (Nat.zero_le _)) mv_X2_hasView wm_X11_168 dX11_forge_6 (by assumption) rfl rfl (Nat.le_of_ble_eq_true rfl) (c_X2_hasView (by assumption) (fun g6 => ?_) (fun g6 => ?_))
  · refine x_if_ne (tgt := 14) C0 (by decide) dX11_forge_9 (fun _ => ?_) (fun hkk => absurd hkk (by decide))
    obtain ⟨a, ha, ea⟩ := nI_ofi' eV (by omega) g6.1
    obtain ⟨t, ht, et⟩ := nI_ofi' eT (by omega) g6.2
    rw [if_pos g6] at hp
    subst ea
    subst et
    rw [nI_clamp (by omega), nI_clamp (by omega)] at hp
    refine x_aload_n C0 rfl dX11_forge_14 ?_
    refine x_getR C0 wf_X11_50 (fixd.k0 hS) rfl rfl (fixd.trial hS) dX11_forge_15 ?_
    refine x_aload_n C0 rfl dX11_forge_18 ?_
    refine x_getR C0 wf_X11_46 (fixd.k0 hS) rfl rfl (fixd.now hS) dX11_forge_19 ?_
    refine x_callV [_] C0 hN rfl (xRf_of hR (by decide) (Nat.zero_le _) (Nat.zero_le _)) mv_X3_copy wm_X11_176 dX11_forge_22 (by assumption) rfl rfl (Nat.le_of_ble_eq_true rfl) (c_X3_copy hT hH h3733 ?_)
    refine x_aload_n C0 rfl dX11_forge_25 ?_
    refine x_getR C0 wf_X11_26 (fixd.k0 hS) rfl rfl hf dX11_forge_26 ?_
    refine x_aload_n C0 rfl dX11_forge_29 ?_
    refine x_getR C0 wf_X11_50 (fixd.k0 hS) rfl rfl (fixd.trial hS) dX11_forge_30 ?_
    refine x_callV [_] C0 hN rfl (xRf_of hR (by decide) (Nat.zero_le _) (Nat.zero_le _)) mv_X2_finish wm_X11_236 dX11_forge_33 (by assumption) rfl rfl (Nat.le_of_ble_eq_true rfl) (c_X2_finish hF hT hf37 wl wx (C.fq FQ.copy).2.2.1 rT (fun k0 I2 hkN hx0 s2 r2 => ?_))
    refine x_aload_n C0 rfl dX11_forge_36 ?_
    refine x_getR C0 wf_X11_50 (fixd.k0 hS) rfl rfl (fixd.trial hS) dX11_forge_37 ?_
    refine x_getI C0 wf_X11_219 (by assumption) rfl dX11_forge_40 ?_
    have s9 : FQ I I2 := FQ.copy.trans (FQ.hall s2)
    refine x_topi (show I2 37 2 = (sEnd fl (sDq fl lw) V (N - (x 0).toNatClampNeg) (x 0).toNatClampNeg x 2) by rw [r2.2.2.1, hx0, nI_clamp (by omega)]) ?_
    refine x_istore (L' := [_, _, _, _, _, _, _, _]) C0 hN (by decide) rfl dX11_forge_43 ?_
    refine x_aload_n C0 rfl dX11_forge_45 ?_
    refine x_callV [] C0 hN rfl (xRf_of hR (by decide) (Nat.zero_le _) (Nat.zero_le _)) mv_X11_notShown wm_X11_245 dX11_forge_46 (fixd.k0 hS) rfl rfl (Nat.le_of_ble_eq_true rfl) (c_X11_notShown hS hf (C.fq s9) ?_)
    refine x_istore (L' := [_, _, _, _, _, _, _, _]) C0 hN (by decide) rfl dX11_forge_49 ?_
    refine x_iconst (v := -1) C0 rfl dX11_forge_51 ?_
    refine x_istore (L' := [_, _, _, _, _, _, _, _]) C0 hN (by decide) rfl dX11_forge_52 ?_
    refine x_iconst (v := 0) C0 rfl dX11_forge_54 ?_
    refine x_istore (L' := [_, _, _, _, _, _, _, _]) C0 hN (by decide) rfl dX11_forge_55 ?_
    exact h57 a t ha ht hp 256 0 I2 (by omega) s9
  · refine x_if_ne (tgt := 14) C0 (by decide) dX11_forge_9 (fun hkk => absurd (by decide) hkk) (fun _ => ?_)
    refine x_iconst (v := -1) C0 rfl dX11_forge_12 ?_
    refine x_iret C0 E (by decide) (by decide) dX11_forge_13 ?_
    rw [if_neg g6] at hp
    exact hp I FQ.rf
