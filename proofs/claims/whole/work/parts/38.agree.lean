/-! THE QUESTIONS: agree -/
def cyc (V w k : Nat) : Nat := if w + k < V then w + k else w + k - V
theorem cyc_lt {V w k : Nat} (h1 : w < V) (h2 : k ≤ V) : cyc V w k < V := by unfold cyc; split <;> omega
theorem cyc_up {V w k : Nat} (h1 : w < V) (h2 : k < V) : (if cyc V w k + 1 < V then cyc V w k + 1 else 0) = cyc V w (k + 1) := by
  unfold cyc
  split <;> split <;> split <;> omega
theorem rem_up : ∀ V, V ≤ 6 → ∀ d, d < V → nI (d + 1) - nI (d + 1) / nI V * nI V = nI (if d + 1 < V then d + 1 else 0) := by decide +kernel
/-- the next who is in, after w -/
def nxF (y : xRow) (V w : Nat) : Nat → Nat → Nat
  | _, 0 => w
  | k, n + 1 => if xbit (y 2) (cyc V w k) then cyc V w k else nxF y V w (k + 1) n
def nxt (y : xRow) (V w : Nat) : Nat := nxF y V w 1 (V - 1)
theorem nxF_lt {y : xRow} {V w : Nat} (hw : w < V) : ∀ n k, k + n ≤ V → nxF y V w k n < V
  | 0, _, _ => hw
  | n + 1, k, h => by
    unfold nxF
    split
    · exact cyc_lt hw (by omega)
    · exact nxF_lt hw n (k + 1) (by omega)
theorem nxt_lt {y : xRow} {V w : Nat} (hw : w < V) : nxt y V w < V := nxF_lt hw _ _ (by omega)
theorem nxF_in {y : xRow} {V w : Nat} (hi : xbit (y 2) w) : ∀ n k, xbit (y 2) (nxF y V w k n)
  | 0, _ => hi
  | n + 1, k => by
    unfold nxF
    split
    · assumption
    · exact nxF_in hi n (k + 1)
theorem sTalk_self {fl y : xRow} {w : Nat} : ∀ t, sTalk fl y w w t = y ∧ sCnt fl y w w t = 0
  | 0 => ⟨rfl, rfl⟩
  | t + 1 => by
    have ih := sTalk_self (fl := fl) (y := y) (w := w) t
    have hn : ¬ sPers fl y w w t := fun q => q.2.1 rfl
    refine ⟨?_, ?_⟩
    · unfold sTalk
      rw [ih.1, if_neg hn]
    · unfold sCnt
      rw [ih.2, if_neg hn]
/-- a round of talk -/
def rdS (fl : xRow) (T V : Nat) (y : xRow) : Nat → xRow
  | 0 => y
  | w + 1 => if xbit (rdS fl T V y w 2) w then sTalk fl (rdS fl T V y w) w (nxt (rdS fl T V y w) V w) T else rdS fl T V y w
def rdC (fl : xRow) (T V : Nat) (y : xRow) : Nat → Nat
  | 0 => 0
  | w + 1 => if xbit (rdS fl T V y w 2) w then rdC fl T V y w + sCnt fl (rdS fl T V y w) w (nxt (rdS fl T V y w) V w) T else rdC fl T V y w
theorem rd_yes {fl y : xRow} {T V w : Nat} (h : xbit (rdS fl T V y w 2) w) : rdS fl T V y (w + 1) = sTalk fl (rdS fl T V y w) w (nxt (rdS fl T V y w) V w) T ∧ rdC fl T V y (w + 1) = rdC fl T V y w + sCnt fl (rdS fl T V y w) w (nxt (rdS fl T V y w) V w) T := by
  constructor
  · conv => lhs; unfold rdS; rw [if_pos h]
  · conv => lhs; unfold rdC; rw [if_pos h]
theorem rd_no {fl y : xRow} {T V w : Nat} (h : ¬ xbit (rdS fl T V y w 2) w) : rdS fl T V y (w + 1) = rdS fl T V y w ∧ rdC fl T V y (w + 1) = rdC fl T V y w := by
  constructor
  · conv => lhs; unfold rdS; rw [if_neg h]
  · conv => lhs; unfold rdC; rw [if_neg h]
theorem rdS_WFx {fl y : xRow} {T N V : Nat} (wl : WFl fl T N V) (wy : WFx y T N V) : ∀ w, w ≤ V → WFx (rdS fl T V y w) T N V
  | 0, _ => wy
  | w + 1, h => by
    have ih := rdS_WFx wl wy w (by omega)
    by_cases g : xbit (rdS fl T V y w 2) w
    · rw [(rd_yes g).1]
      exact sTalk_WFx wl ih (by omega) (nxt_lt (by omega)) T (Nat.le_refl T)
    · rw [(rd_no g).1]; exact ih
theorem rdC_le {fl y : xRow} {T V : Nat} : ∀ w, rdC fl T V y w ≤ T * w
  | 0 => Nat.le_refl _
  | w + 1 => by
    have ih := rdC_le (fl := fl) (y := y) (T := T) (V := V) w
    have := sCnt_le fl (rdS fl T V y w) w (nxt (rdS fl T V y w) V w) T
    rw [Nat.mul_succ]
    by_cases g : xbit (rdS fl T V y w 2) w
    · rw [(rd_yes g).2]; omega
    · rw [(rd_no g).2]; omega
def agB (fl : xRow) (T V : Nat) : Nat → Nat → xRow → Int32
  | 0, _, _ => -1
  | n + 1, i, y => if rdC fl T V y V = 0 then nI i else agB fl T V n (i + 1) (rdS fl T V y V)
def aAgree (fl x : xRow) (T V : Nat) : Int32 := agB fl T V 21 0 x
theorem c_X11_nextIn {S : xTS} {R : xTR} {I : xTI} {J : xTJ} {post : xPost} {f T N V : Nat} {fl x : xRow} {lw : Option (List (Nat × Nat))} (hS : fixd S R) (hf : R 0 2 = some f) (C : FCore I f fl lw T N V x) {y : xRow} {w : Nat} (rY : RHall I 37 y N) (hw : w < V) (hp : post (some (.int (nI (nxt y V w)))) S R I J) : xSpec 2 yX11_nextIn cX11_nextIn 4 (some .int) 0 0 [.ref 0, .int (nI w)] S R I J post := by
  refine xSpec_of mt_X11_nextIn (Nat.le_of_ble_eq_true rfl) (fun G C0 hN hR E hI hZ => ?_)
  change XX G 0 0 0 [some (.ref 0), some (.int (nI w)), none, none] [] S R I J
  obtain ⟨hfm, wl, rF, rH, wx⟩ := id C
  have hF := hS.film hfm
  have hH := hS.hall (q := 33) (by decide)
  have hT6 := wl.2.1
  have hN8 := wl.2.2.2.1
  have hV6 := wl.2.2.2.2.2.1
  have eT : I f 0 = nI T := rF.1.trans wl.1
  have eN : I f 1 = nI N := rF.2.1.trans wl.2.2.1
  have eV : I f 2 = nI V := rF.2.2.1.trans wl.2.2.2.2.1
  have hfh : ∀ i j, i < 9 → j < 4 → f + i ≠ 33 + j := fun i j hi hj => hf_apart 33 (by decide) f hfm i hi j hj
  obtain ⟨fs0, fs1, fs2, fs3, fs4, fs5, fs6, fs7, fs8, fr4, fr5, fr6, fr7, fr8, fr9, fr10, fr11⟩ := id hF
  obtain ⟨hs0, hs1, hs2, hs3, hr4, hr5, hr6⟩ := id hH
  unfold nxt at hp
  have hT := hS.hall (q := 37) (by decide)
  obtain ⟨hq0, hq1, hq2, hq3, -⟩ := id hT
  have eS : ∀ k, k < V → ¬ w + k < V → nI (w + k) - nI V = nI (cyc V w k) := fun k h1 h2 => by
    rw [nI_subn (by omega)]
    unfold cyc
    rw [if_neg h2]
  have eL : ∀ k, w + k < V → nI (w + k) = nI (cyc V w k) := fun k h => by unfold cyc; rw [if_pos h]
  have h44 : ∀ k v3, k < V → (xbit (y 2) (cyc V w k) → post (some (.int (nI (cyc V w k)))) S R I J) → (¬ xbit (y 2) (cyc V w k) → XX G 0 0 2 [some (.ref 0), some (.int (nI w)), some (.int (nI (k + 1))), some (.int (nI (cyc V w k)))] [] S R I J) → XX G 0 0 43 [some (.ref 0), some (.int (nI w)), some (.int (nI k)), v3] [.int (nI (cyc V w k))] S R I J := by
    intro k v3 hk h1 h0
    refine x_istore_n (L' := [_, _, _, _]) C0 hN (by decide) rfl dX11_nextIn_43 ?_
    refine x_aload_n C0 rfl dX11_nextIn_44 ?_
    refine x_getR C0 wf_X11_50 (fixd.k0 hS) rfl rfl (fixd.trial hS) dX11_nextIn_45 ?_
    refine x_iload_n C0 rfl dX11_nextIn_48 ?_
    refine x_callV [_] C0 hN rfl (xRf_of hR (by decide) (Nat.zero_le _) (Nat.zero_le _)) mv_X3_isIn wm_X11_165 dX11_nextIn_49 (by assumption) rfl rfl (Nat.le_of_ble_eq_true rfl) (c_X3_isIn hT (fun g49 => ?_) (fun g49 => ?_))
    · refine x_if_eq (tgt := 57) C0 (by decide) dX11_nextIn_52 (fun hkk => absurd hkk (by decide)) (fun _ => ?_)
      refine x_iload_n C0 rfl dX11_nextIn_55 ?_
      refine x_iret C0 E (by decide) (by decide) dX11_nextIn_56 ?_
      exact h1 (by rw [← rY.2.2.1]; exact g49)
    · refine x_if_eq (tgt := 57) C0 (by decide) dX11_nextIn_52 (fun _ => ?_) (fun hkk => absurd (by decide) hkk)
      refine x_iinc (v := nI (k + 1)) (L' := [_, _, _, _]) C0 hN rfl (by decide) (nI_inc k) rfl dX11_nextIn_57 ?_
      refine x_goto (tgt := 2) C0 (by decide) dX11_nextIn_60 ?_
      exact h0 (fun q => g49 (by rw [rY.2.2.1]; exact q))
  have hloop : ∀ n k v3, k + n = V → nxF y V w 1 (V - 1) = nxF y V w k n → XX G 0 0 2 [some (.ref 0), some (.int (nI w)), some (.int (nI k)), v3] [] S R I J := by
    intro n
    induction n with
    | zero =>
      intro k v3 hk he
      have hk8 : k = V := by omega
      refine x_iload_n C0 rfl dX11_nextIn_2 ?_
      refine x_aload_n C0 rfl dX11_nextIn_3 ?_
      refine x_getR C0 wf_X11_26 (fixd.k0 hS) rfl rfl hf dX11_nextIn_4 ?_
      refine x_getI C0 wf_X11_289 (by assumption) rfl dX11_nextIn_7 ?_
      refine x_topi eV ?_
      refine x_icmp_ge (tgt := 63) C0 (by decide) dX11_nextIn_10 (fun _ => ?_) (fun hkk => absurd ((by rw [hk8]; exact Int32.le_refl _)) hkk)
      refine x_iload_n C0 rfl dX11_nextIn_63 ?_
      refine x_iret C0 E (by decide) (by decide) dX11_nextIn_64 ?_
      rw [he] at hp
      exact hp
    | succ n ih =>
      intro k v3 hk he
      have h9 := h44 k v3 (by omega) (fun g => by
        rw [he] at hp
        unfold nxF at hp
        rw [if_pos g] at hp
        exact hp) (fun g => by
        refine ih (k + 1) _ (by omega) ?_
        rw [he]
        conv => lhs; unfold nxF
        rw [if_neg g])
      refine x_iload_n C0 rfl dX11_nextIn_2 ?_
      refine x_aload_n C0 rfl dX11_nextIn_3 ?_
      refine x_getR C0 wf_X11_26 (fixd.k0 hS) rfl rfl hf dX11_nextIn_4 ?_
      refine x_getI C0 wf_X11_289 (by assumption) rfl dX11_nextIn_7 ?_
      refine x_topi eV ?_
      refine x_icmp_ge (tgt := 63) C0 (by decide) dX11_nextIn_10 (fun hkk => absurd hkk (nI_ge (by omega) (by omega))) (fun _ => ?_)
      refine x_iload_n C0 rfl dX11_nextIn_13 ?_
      refine x_iload_n C0 rfl dX11_nextIn_14 ?_
      refine x_iaddN C0 dX11_nextIn_15 ?_
      refine x_aload_n C0 rfl dX11_nextIn_16 ?_
      refine x_getR C0 wf_X11_26 (fixd.k0 hS) rfl rfl hf dX11_nextIn_17 ?_
      refine x_getI C0 wf_X11_289 (by assumption) rfl dX11_nextIn_20 ?_
      refine x_topi eV ?_
      refine x_icmp_ge (tgt := 32) C0 (by decide) dX11_nextIn_23 (fun g23 => ?_) (fun g23 => ?_)
      · refine x_iload_n C0 rfl dX11_nextIn_32 ?_
        refine x_iload_n C0 rfl dX11_nextIn_33 ?_
        refine x_iaddN C0 dX11_nextIn_34 ?_
        refine x_aload_n C0 rfl dX11_nextIn_35 ?_
        refine x_getR C0 wf_X11_26 (fixd.k0 hS) rfl rfl hf dX11_nextIn_36 ?_
        refine x_getI C0 wf_X11_289 (by assumption) rfl dX11_nextIn_39 ?_
        refine x_topi eV ?_
        refine x_isub C0 dX11_nextIn_42 ?_
        rw [eS k (by omega) (fun q => absurd g23 (i_nle.mpr ((nI_lt_iff (by omega) (by omega)).mpr q)))]
        exact h9
      · refine x_iload_n C0 rfl dX11_nextIn_26 ?_
        refine x_iload_n C0 rfl dX11_nextIn_27 ?_
        refine x_iaddN C0 dX11_nextIn_28 ?_
        refine x_goto (tgt := 43) C0 (by decide) dX11_nextIn_29 ?_
        rw [eL k ((nI_lt_iff (by omega) (by omega)).mp (i_nle.mp g23))]
        exact h9
  refine x_iconst (v := nI 1) C0 rfl dX11_nextIn_0 ?_
  refine x_istore_n (L' := [_, _, _, _]) C0 hN (by decide) rfl dX11_nextIn_1 ?_
  rcases Nat.lt_or_ge 0 V with hV | hV
  · exact hloop (V - 1) 1 none (by omega) rfl
  · omega
theorem c_X12_nextIn {S : xTS} {R : xTR} {I : xTI} {J : xTJ} {post : xPost} {T N V : Nat} {fl x : xRow} {lw : Option (List (Nat × Nat))} (hM : isModel S R) (C : MCore I fl lw T N V x) {y : xRow} {w : Nat} (rY : MHall I 2058 y) (hw : w < V) (hi : xbit (y 2) w) (hp : post (some (.int (nI (nxt y V w)))) S R I J) : xSpec 2 yX12_nextIn cX12_nextIn 3 (some .int) 0 0 [.ref 135, .int (nI w)] S R I J post := by
  refine xSpec_of mt_X12_nextIn (Nat.le_of_ble_eq_true rfl) (fun G C0 hN hR E hI hZ => ?_)
  change XX G 0 0 0 [some (.ref 135), some (.int (nI w)), none] [] S R I J
  obtain ⟨wl, mF, mL, mH, wx⟩ := id C
  have hT6 := wl.2.1
  have hN8 := wl.2.2.2.1
  have hV6 := wl.2.2.2.2.2.1
  have eT : I 141 0 = nI T := (mF 0 (by decide)).trans wl.1
  have eN : I 141 1 = nI N := (mF 1 (by decide)).trans wl.2.2.1
  have eV : I 141 2 = nI V := (mF 2 (by decide)).trans wl.2.2.2.2.1
  have hb0 : 0 ≤ 2192 := by decide
  unfold nxt at hp
  have hne : ¬ nI V = 0 := fun q => by
    have := (nI_eq (b := 0) (by omega) (by omega)).mp q
    omega
  have h11 : ∀ k, k < V → (xbit (y 2) (cyc V w (k + 1)) → post (some (.int (nI (cyc V w (k + 1))))) S R I J) → (¬ xbit (y 2) (cyc V w (k + 1)) → XX G 0 0 2 [some (.ref 135), some (.int (nI w)), some (.int (nI (cyc V w (k + 1))))] [] S R I J) → XX G 0 0 2 [some (.ref 135), some (.int (nI w)), some (.int (nI (cyc V w k)))] [] S R I J := by
    intro k hk h1 h0
    refine x_iload_n C0 rfl dX12_nextIn_2 ?_
    refine x_iconst (v := nI 1) C0 rfl dX12_nextIn_3 ?_
    refine x_iaddN C0 dX12_nextIn_4 ?_
    refine x_aload_n C0 rfl dX12_nextIn_5 ?_
    refine x_callV [] C0 hN rfl (xRf_of hR (by decide) (Nat.zero_le _) (Nat.zero_le _)) mv_X12_watchers wm_X12_282 dX12_nextIn_6 (isModel.k0 hM) rfl rfl (Nat.le_of_ble_eq_true rfl) (c_X12_watchers hM ?_)
    refine x_topi eV ?_
    refine x_irem C0 hne dX12_nextIn_9 ?_
    refine x_topi ((rem_up V hV6 _ (cyc_lt hw (by omega))).trans (congrArg nI (cyc_up hw hk))) ?_
    refine x_istore_n (L' := [_, _, _]) C0 hN (by decide) rfl dX12_nextIn_10 ?_
    refine x_aload_n C0 rfl dX12_nextIn_11 ?_
    refine x_sipush (v := nI 2058) C0 rfl dX12_nextIn_12 ?_
    refine x_iload_n C0 rfl dX12_nextIn_15 ?_
    refine x_callV [_, _] C0 hN rfl (xRf_of hR (by decide) (Nat.zero_le _) (Nat.zero_le _)) mv_X12_isIn wm_X12_319 dX12_nextIn_16 (isModel.k0 hM) rfl rfl (Nat.le_of_ble_eq_true rfl) (c_X12_isIn hM (by decide) (fun g16 => ?_) (fun g16 => ?_))
    · refine x_if_eq (tgt := 2) C0 (by decide) dX12_nextIn_19 (fun hkk => absurd hkk (by decide)) (fun _ => ?_)
      refine x_iload_n C0 rfl dX12_nextIn_22 ?_
      refine x_iret C0 E (by decide) (by decide) dX12_nextIn_23 ?_
      exact h1 (by rw [← rY 2 (by decide)]; exact g16)
    · refine x_if_eq (tgt := 2) C0 (by decide) dX12_nextIn_19 (fun _ => ?_) (fun hkk => absurd (by decide) hkk)
      exact h0 (fun q => g16 (by rw [rY 2 (by decide)]; exact q))
  have hloop : ∀ n k, k + n = V - 1 → nxF y V w 1 (V - 1) = nxF y V w (k + 1) n → XX G 0 0 2 [some (.ref 135), some (.int (nI w)), some (.int (nI (cyc V w k)))] [] S R I J := by
    intro n
    induction n with
    | zero =>
      intro k hk he
      have ew : cyc V w (k + 1) = w := by unfold cyc; rw [if_neg (by omega)]; omega
      refine h11 k (by omega) (fun _ => ?_) (fun g => absurd hi (by rw [ew] at g; exact g))
      rw [ew]
      rw [he] at hp
      exact hp
    | succ n ih =>
      intro k hk he
      refine h11 k (by omega) (fun g => ?_) (fun g => ?_)
      · rw [he] at hp
        unfold nxF at hp
        rw [if_pos g] at hp
        exact hp
      · refine ih (k + 1) (by omega) ?_
        rw [he]
        conv => lhs; unfold nxF
        rw [if_neg g]
  have e0 : cyc V w 0 = w := by unfold cyc; rw [if_pos (by omega)]; rfl
  have h2 := hloop (V - 1) 0 (by omega) rfl
  rw [e0] at h2
  refine x_iload_n C0 rfl dX12_nextIn_0 ?_
  refine x_istore_n (L' := [_, _, _]) C0 hN (by decide) rfl dX12_nextIn_1 ?_
  exact h2
theorem c_X11_talkRound {S : xTS} {R : xTR} {I : xTI} {J : xTJ} {post : xPost} {f T N V : Nat} {fl x : xRow} {lw : Option (List (Nat × Nat))} (hS : fixd S R) (hf : R 0 2 = some f) (C : FCore I f fl lw T N V x) {y : xRow} (wy : WFx y T N V) (rY : RHall I 37 y N) (h1 : ∀ I', xSame I I' 37 → RHall I' 37 (rdS fl T V y V) N → ¬ rdC fl T V y V = 0 → post (some (.int 1)) S R I' J) (h0 : ∀ I', xSame I I' 37 → RHall I' 37 (rdS fl T V y V) N → rdC fl T V y V = 0 → post (some (.int 0)) S R I' J) : xSpec 5 yX11_talkRound cX11_talkRound 3 (some .boolean) 0 0 [.ref 0] S R I J post := by
  refine xSpec_of mt_X11_talkRound (Nat.le_of_ble_eq_true rfl) (fun G C0 hN hR E hI hZ => ?_)
  change XX G 0 0 0 [some (.ref 0), none, none] [] S R I J
  obtain ⟨hfm, wl, rF, rH, wx⟩ := id C
  have hF := hS.film hfm
  have hH := hS.hall (q := 33) (by decide)
  have hT6 := wl.2.1
  have hN8 := wl.2.2.2.1
  have hV6 := wl.2.2.2.2.2.1
  have eT : I f 0 = nI T := rF.1.trans wl.1
  have eN : I f 1 = nI N := rF.2.1.trans wl.2.2.1
  have eV : I f 2 = nI V := rF.2.2.1.trans wl.2.2.2.2.1
  have hfh : ∀ i j, i < 9 → j < 4 → f + i ≠ 33 + j := fun i j hi hj => hf_apart 33 (by decide) f hfm i hi j hj
  obtain ⟨fs0, fs1, fs2, fs3, fs4, fs5, fs6, fs7, fs8, fr4, fr5, fr6, fr7, fr8, fr9, fr10, fr11⟩ := id hF
  obtain ⟨hs0, hs1, hs2, hs3, hr4, hr5, hr6⟩ := id hH
  have hT := hS.hall (q := 37) (by decide)
  obtain ⟨hq0, hq1, hq2, hq3, -⟩ := id hT
  have hf37 : ∀ i j, i < 9 → j < 4 → f + i ≠ 37 + j := fun i j hi hj => hf_apart 37 (by decide) f hfm i hi j hj
  have hloop : ∀ n w I1 v, w + n = V → xSame I I1 37 → RHall I1 37 (rdS fl T V y w) N → ((v = nI 1 ∧ ¬ rdC fl T V y w = 0) ∨ (v = nI 0 ∧ rdC fl T V y w = 0)) → XX G 0 0 4 [some (.ref 0), some (.int v), some (.int (nI w))] [] S R I1 J := by
    intro n
    induction n with
    | zero =>
      intro w I1 v hn9 s1 r1 hv
      have hn8 : w = V := by omega
      subst hn8
      have eV1 : I1 f 2 = nI w := by rw [(C.fq (FQ.hall s1)).2.2.1.2.2.1, wl.2.2.2.2.1]
      rcases hv with ⟨rfl, q⟩ | ⟨rfl, q⟩
      · refine x_iload_n C0 rfl dX11_talkRound_4 ?_
        refine x_aload_n C0 rfl dX11_talkRound_5 ?_
        refine x_getR C0 wf_X11_26 (fixd.k0 hS) rfl rfl hf dX11_talkRound_6 ?_
        refine x_getI C0 wf_X11_289 (by assumption) rfl dX11_talkRound_9 ?_
        refine x_topi eV1 ?_
        refine x_icmp_ge (tgt := 43) C0 (by decide) dX11_talkRound_12 (fun _ => ?_) (fun hkk => absurd ((Int32.le_refl _)) hkk)
        refine x_iload_n C0 rfl dX11_talkRound_43 ?_
        refine x_zret C0 E (by decide) (by decide) rfl dX11_talkRound_44 ?_
        exact h1 I1 s1 r1 q
      · refine x_iload_n C0 rfl dX11_talkRound_4 ?_
        refine x_aload_n C0 rfl dX11_talkRound_5 ?_
        refine x_getR C0 wf_X11_26 (fixd.k0 hS) rfl rfl hf dX11_talkRound_6 ?_
        refine x_getI C0 wf_X11_289 (by assumption) rfl dX11_talkRound_9 ?_
        refine x_topi eV1 ?_
        refine x_icmp_ge (tgt := 43) C0 (by decide) dX11_talkRound_12 (fun _ => ?_) (fun hkk => absurd ((Int32.le_refl _)) hkk)
        refine x_iload_n C0 rfl dX11_talkRound_43 ?_
        refine x_zret C0 E (by decide) (by decide) rfl dX11_talkRound_44 ?_
        exact h0 I1 s1 r1 q
    | succ n ih =>
      intro w I1 v hn9 s1 r1 hv
      have CC := C.fq (FQ.hall s1)
      have rF1 := CC.2.2.1
      have eV1 : I1 f 2 = nI V := by rw [rF1.2.2.1, wl.2.2.2.2.1]
      have wz := rdS_WFx wl wy w (by omega)
      have hX := nxt_lt (y := rdS fl T V y w) (V := V) (w := w) (by omega)
      have hneg : (∀ a b, a < V → b < V → a ≠ b → nI w = nI a → nI (nxt (rdS fl T V y w) V w) = nI b → xbit (rdS fl T V y w 2) a → xbit (rdS fl T V y w 2) b → False) → XX G 0 0 32 [some (.ref 0), some (.int v), some (.int (nI w))] [.int (-1)] S R I1 J := by
        intro hno
        have same : rdS fl T V y (w + 1) = rdS fl T V y w ∧ rdC fl T V y (w + 1) = rdC fl T V y w := by
          by_cases g : xbit (rdS fl T V y w 2) w
          · have e2 : nxt (rdS fl T V y w) V w = w := Classical.byContradiction (fun q => hno w _ (by omega) hX (fun z => q z.symm) rfl rfl g (nxF_in g _ _))
            have e3 := rd_yes g
            rw [e2, (sTalk_self T).1, (sTalk_self T).2] at e3
            exact e3
          · exact rd_no g
        refine x_if_le (tgt := 37) C0 (by decide) dX11_talkRound_32 (fun _ => ?_) (fun hkk => absurd ((by decide)) hkk)
        refine x_iinc (v := nI (w + 1)) (L' := [_, _, _]) C0 hN rfl (by decide) (nI_inc w) rfl dX11_talkRound_37 ?_
        refine x_goto (tgt := 4) C0 (by decide) dX11_talkRound_40 ?_
        exact ih (w + 1) I1 v (by omega) s1 (by rw [same.1]; exact r1) (by rw [same.2]; exact hv)
      have hpos : xbit (rdS fl T V y w 2) w → ∀ I2, xSame I1 I2 37 → RHall I2 37 (sTalk fl (rdS fl T V y w) w (nxt (rdS fl T V y w) V w) T) N → XX G 0 0 32 [some (.ref 0), some (.int v), some (.int (nI w))] [.int (nI (sCnt fl (rdS fl T V y w) w (nxt (rdS fl T V y w) V w) T))] S R I2 J := by
        intro g I2 s2 r2
        have e3 := rd_yes g
        have hcl := sCnt_le fl (rdS fl T V y w) w (nxt (rdS fl T V y w) V w) T
        rw [← e3.1] at r2
        refine x_if_le (tgt := 37) C0 (by decide) dX11_talkRound_32 (fun g32 => ?_) (fun g32 => ?_)
        · refine x_iinc (v := nI (w + 1)) (L' := [_, _, _]) C0 hN rfl (by decide) (nI_inc w) rfl dX11_talkRound_37 ?_
          refine x_goto (tgt := 4) C0 (by decide) dX11_talkRound_40 ?_
          have e4 := (nI_le_iff (b := 0) (by omega) (by omega)).mp g32
          exact ih (w + 1) I2 v (by omega) (s1.trans s2) r2 (by rw [e3.2, show sCnt fl (rdS fl T V y w) w (nxt (rdS fl T V y w) V w) T = 0 by omega]; exact hv)
        · refine x_iconst (v := 1) C0 rfl dX11_talkRound_35 ?_
          refine x_istore_n (L' := [_, _, _]) C0 hN (by decide) rfl dX11_talkRound_36 ?_
          refine x_iinc (v := nI (w + 1)) (L' := [_, _, _]) C0 hN rfl (by decide) (nI_inc w) rfl dX11_talkRound_37 ?_
          refine x_goto (tgt := 4) C0 (by decide) dX11_talkRound_40 ?_
          have e4 : ¬ sCnt fl (rdS fl T V y w) w (nxt (rdS fl T V y w) V w) T = 0 := fun q => g32 (by rw [q]; decide)
          exact ih (w + 1) I2 _ (by omega) (s1.trans s2) r2 (Or.inl ⟨rfl, by rw [e3.2]; omega⟩)
      refine x_iload_n C0 rfl dX11_talkRound_4 ?_
      refine x_aload_n C0 rfl dX11_talkRound_5 ?_
      refine x_getR C0 wf_X11_26 (fixd.k0 hS) rfl rfl hf dX11_talkRound_6 ?_
      refine x_getI C0 wf_X11_289 (by assumption) rfl dX11_talkRound_9 ?_
      refine x_topi eV1 ?_
      refine x_icmp_ge (tgt := 43) C0 (by decide) dX11_talkRound_12 (fun hkk => absurd hkk (nI_ge (by omega) (by omega))) (fun _ => ?_)
      refine x_aload_n C0 rfl dX11_talkRound_15 ?_
      refine x_getR C0 wf_X11_26 (fixd.k0 hS) rfl rfl hf dX11_talkRound_16 ?_
      refine x_aload_n C0 rfl dX11_talkRound_19 ?_
      refine x_getR C0 wf_X11_50 (fixd.k0 hS) rfl rfl (fixd.trial hS) dX11_talkRound_20 ?_
      refine x_iload_n C0 rfl dX11_talkRound_23 ?_
      refine x_aload_n C0 rfl dX11_talkRound_24 ?_
      refine x_iload_n C0 rfl dX11_talkRound_25 ?_
      refine x_callV [_] C0 hN rfl (xRf_of hR (by decide) (Nat.zero_le _) (Nat.zero_le _)) mv_X11_nextIn wm_X11_334 dX11_talkRound_26 (fixd.k0 hS) rfl rfl (Nat.le_of_ble_eq_true rfl) (c_X11_nextIn hS hf CC r1 (by omega) ?_)
      refine x_callV [_, _, _] C0 hN rfl (xRf_of hR (by decide) (Nat.zero_le _) (Nat.zero_le _)) mv_X2_persuade wm_X11_202 dX11_talkRound_29 (by assumption) rfl rfl (Nat.le_of_ble_eq_true rfl) (c_X2_persuade hF hT hf37 wl wz rF1 r1 (fun q => ?_) (fun a2 b2 I2 ha2 hb2 hab ei ej ia ib s2 r2 => ?_))
      · exact hneg q
      · have e1 : a2 = w := ((nI_eq (by omega) (by omega)).mp ei).symm
        have e2 : b2 = nxt (rdS fl T V y w) V w := ((nI_eq (by omega) (by omega)).mp ej).symm
        subst e1
        subst e2
        exact hpos ia I2 s2 r2
  refine x_iconst (v := 0) C0 rfl dX11_talkRound_0 ?_
  refine x_istore_n (L' := [_, _, _]) C0 hN (by decide) rfl dX11_talkRound_1 ?_
  refine x_iconst (v := 0) C0 rfl dX11_talkRound_2 ?_
  refine x_istore_n (L' := [_, _, _]) C0 hN (by decide) rfl dX11_talkRound_3 ?_
  exact hloop V 0 I _ (by omega) xSame.rf rY (Or.inr ⟨rfl, rfl⟩)
theorem c_X11_agree {S : xTS} {R : xTR} {I : xTI} {J : xTJ} {post : xPost} {f T N V : Nat} {fl x : xRow} {lw : Option (List (Nat × Nat))} (hS : fixd S R) (hf : R 0 2 = some f) (C : FCore I f fl lw T N V x) (hp : ∀ I', FQ I I' → post (some (.int (aAgree fl x T V))) S R I' J) : xSpec 6 yX11_agree cX11_agree 2 (some .int) 0 0 [.ref 0] S R I J post := by
  refine xSpec_of mt_X11_agree (Nat.le_of_ble_eq_true rfl) (fun G C0 hN hR E hI hZ => ?_)
  change XX G 0 0 0 [some (.ref 0), none] [] S R I J
  obtain ⟨hfm, wl, rF, rH, wx⟩ := id C
  have hF := hS.film hfm
  have hH := hS.hall (q := 33) (by decide)
  have hT6 := wl.2.1
  have hN8 := wl.2.2.2.1
  have hV6 := wl.2.2.2.2.2.1
  have eT : I f 0 = nI T := rF.1.trans wl.1
  have eN : I f 1 = nI N := rF.2.1.trans wl.2.2.1
  have eV : I f 2 = nI V := rF.2.2.1.trans wl.2.2.2.2.1
  have hfh : ∀ i j, i < 9 → j < 4 → f + i ≠ 33 + j := fun i j hi hj => hf_apart 33 (by decide) f hfm i hi j hj
  obtain ⟨fs0, fs1, fs2, fs3, fs4, fs5, fs6, fs7, fs8, fr4, fr5, fr6, fr7, fr8, fr9, fr10, fr11⟩ := id hF
  obtain ⟨hs0, hs1, hs2, hs3, hr4, hr5, hr6⟩ := id hH
  unfold aAgree at hp
  have hT := hS.hall (q := 37) (by decide)
  obtain ⟨hq0, hq1, hq2, hq3, -⟩ := id hT
  have hf37 : ∀ i j, i < 9 → j < 4 → f + i ≠ 37 + j := fun i j hi hj => hf_apart 37 (by decide) f hfm i hi j hj
  have h3733 : ∀ i j, i < 4 → j < 4 → 37 + i ≠ 33 + j := fun i j hi hj => hh_apart 37 (by decide) 33 (by decide) (by decide) i hi j hj
  have rT : RHall (uhall I 37 33) 37 x N := uhall_hall h3733 hN8 rH
  have hloop : ∀ n i I1 y, i + n = 21 → FQ I I1 → RHall I1 37 y N → WFx y T N V → agB fl T V 21 0 x = agB fl T V n i y → XX G 0 0 13 [some (.ref 0), some (.int (nI i))] [] S R I1 J := by
    intro n
    induction n with
    | zero =>
      intro i I1 y hn9 s1 r1 wy he
      have hn8 : i = 21 := by omega
      refine x_iload_n C0 rfl dX11_agree_13 ?_
      refine x_bipush (v := 20) C0 rfl dX11_agree_14 ?_
      refine x_icmp_gt (tgt := 34) C0 (by decide) dX11_agree_16 (fun _ => ?_) (fun hkk => absurd ((by rw [hn8]; decide)) hkk)
      refine x_iconst (v := -1) C0 rfl dX11_agree_34 ?_
      refine x_iret C0 E (by decide) (by decide) dX11_agree_35 ?_
      rw [he] at hp
      exact hp I1 s1
    | succ n ih =>
      intro i I1 y hn9 s1 r1 wy he
      have hyes : ∀ I2, xSame I1 I2 37 → RHall I2 37 (rdS fl T V y V) N → ¬ rdC fl T V y V = 0 → XX G 0 0 23 [some (.ref 0), some (.int (nI i))] [.int 1] S R I2 J := by
        intro I2 s2 r2 hc
        refine x_if_ne (tgt := 28) C0 (by decide) dX11_agree_23 (fun _ => ?_) (fun hkk => absurd hkk (by decide))
        refine x_iinc (v := nI (i + 1)) (L' := [_, _]) C0 hN rfl (by decide) (nI_inc i) rfl dX11_agree_28 ?_
        refine x_goto (tgt := 13) C0 (by decide) dX11_agree_31 ?_
        refine ih (i + 1) I2 _ (by omega) (s1.trans (FQ.hall s2)) r2 (rdS_WFx wl wy V (Nat.le_refl V)) ?_
        rw [he]
        conv => lhs; unfold agB
        rw [if_neg hc]
      have hno : ∀ I2, xSame I1 I2 37 → rdC fl T V y V = 0 → XX G 0 0 23 [some (.ref 0), some (.int (nI i))] [.int 0] S R I2 J := by
        intro I2 s2 hc
        refine x_if_ne (tgt := 28) C0 (by decide) dX11_agree_23 (fun hkk => absurd (by decide) hkk) (fun _ => ?_)
        refine x_iload_n C0 rfl dX11_agree_26 ?_
        refine x_iret C0 E (by decide) (by decide) dX11_agree_27 ?_
        rw [he] at hp
        unfold agB at hp
        rw [if_pos hc] at hp
        exact hp I2 (s1.trans (FQ.hall s2))
      refine x_iload_n C0 rfl dX11_agree_13 ?_
      refine x_bipush (v := nI 20) C0 rfl dX11_agree_14 ?_
      refine x_icmp_gt (tgt := 34) C0 (by decide) dX11_agree_16 (fun hkk => absurd hkk ((fun q => absurd (i_nle.mpr (by first | exact q | exact i_nlt.mp q)) (by intro z; exact z ((nI_le_iff (by omega) (by omega)).mpr (by omega)))))) (fun _ => ?_)
      refine x_aload_n C0 rfl dX11_agree_19 ?_
      refine x_callV [] C0 hN rfl (xRf_of hR (by decide) (Nat.zero_le _) (Nat.zero_le _)) mv_X11_talkRound wm_X11_331 dX11_agree_20 (fixd.k0 hS) rfl rfl (Nat.le_of_ble_eq_true rfl) (c_X11_talkRound hS hf (C.fq s1) wy r1 (fun I2 s2 r2 hc => ?_) (fun I2 s2 r2 hc => ?_))
      · exact hyes I2 s2 r2 hc
      · exact hno I2 s2 hc
  refine x_aload_n C0 rfl dX11_agree_0 ?_
  refine x_getR C0 wf_X11_50 (fixd.k0 hS) rfl rfl (fixd.trial hS) dX11_agree_1 ?_
  refine x_aload_n C0 rfl dX11_agree_4 ?_
  refine x_getR C0 wf_X11_46 (fixd.k0 hS) rfl rfl (fixd.now hS) dX11_agree_5 ?_
  refine x_callV [_] C0 hN rfl (xRf_of hR (by decide) (Nat.zero_le _) (Nat.zero_le _)) mv_X3_copy wm_X11_176 dX11_agree_8 (by assumption) rfl rfl (Nat.le_of_ble_eq_true rfl) (c_X3_copy hT hH h3733 ?_)
  refine x_iconst (v := 0) C0 rfl dX11_agree_11 ?_
  refine x_istore_n (L' := [_, _]) C0 hN (by decide) rfl dX11_agree_12 ?_
  exact hloop 21 0 _ x (by omega) FQ.copy rT wx rfl
theorem c_X12_agree {S : xTS} {R : xTR} {I : xTI} {J : xTJ} {post : xPost} {T N V : Nat} {fl x : xRow} {lw : Option (List (Nat × Nat))} (hM : isModel S R) (C : MCore I fl lw T N V x) (hp : ∀ I', MQs I I' → post (some (.int (aAgree fl x T V))) S R I' J) : xSpec 3 yX12_agree cX12_agree 4 (some .int) 0 0 [.ref 135] S R I J post := by
  refine xSpec_of mt_X12_agree (Nat.le_of_ble_eq_true rfl) (fun G C0 hN hR E hI hZ => ?_)
  change XX G 0 0 0 [some (.ref 135), none, none, none] [] S R I J
  refine x_aload_n C0 rfl dX12_agree_0 ?_
  refine x_iconst (v := nI 0) C0 rfl dX12_agree_1 ?_
  refine x_putI C0 wf_X12_1 (isModel.k0 hM) rfl dX12_agree_2 ?_
  have q1 := MQs.thrown (I := I) (v := nI 0)
  have C := C.mq q1
  generalize u2 I 135 0 (nI 0) = I1 at q1 C ⊢
  obtain ⟨wl, mF, mL, mH, wx⟩ := id C
  have hT6 := wl.2.1
  have hN8 := wl.2.2.2.1
  have hV6 := wl.2.2.2.2.2.1
  have eT : I1 141 0 = nI T := (mF 0 (by decide)).trans wl.1
  have eN : I1 141 1 = nI N := (mF 1 (by decide)).trans wl.2.2.1
  have eV : I1 141 2 = nI V := (mF 2 (by decide)).trans wl.2.2.2.2.1
  have hb0 : 0 ≤ 2192 := by decide
  unfold aAgree at hp
  have hloop : ∀ n i I2 y v2 v3, i + n = 21 → MQs I1 I2 → MHall I2 2058 y → WFx y T N V → agB fl T V 21 0 x = agB fl T V n i y → XX G 0 0 17 [some (.ref 135), some (.int (nI i)), v2, v3] [] S R I2 J := by
    intro n
    induction n with
    | zero =>
      intro i I2 y v2 v3 hn9 s1 r1 wy he
      have hn8 : i = 21 := by omega
      refine x_iload_n C0 rfl dX12_agree_17 ?_
      refine x_bipush (v := nI 20) C0 rfl dX12_agree_18 ?_
      refine x_icmp_gt (tgt := 80) C0 (by decide) dX12_agree_20 (fun _ => ?_) (fun hkk => absurd ((by rw [hn8]; decide)) hkk)
      refine x_iconst (v := -1) C0 rfl dX12_agree_80 ?_
      refine x_iret C0 E (by decide) (by decide) dX12_agree_81 ?_
      rw [he] at hp
      exact hp I2 (q1.trans s1)
    | succ n ih =>
      intro i I2 y v2 v3 hn9 s1 r1 wy he
      have h27 : ∀ p w I3, w + p = V → MQs I1 I3 → MHall I3 2058 (rdS fl T V y w) → XX G 0 0 27 [some (.ref 135), some (.int (nI i)), some (.int (nI (rdC fl T V y w))), some (.int (nI w))] [] S R I3 J := by
        intro p
        induction p with
        | zero =>
          intro w I3 hm9 s3 r3
          have hm8 : w = V := by omega
          subst hm8
          have eV3 : I3 141 2 = nI w := by rw [(C.mq s3).2.1 2 (by decide), wl.2.2.2.2.1]
          have hle := rdC_le (fl := fl) (y := y) (T := T) (V := w) w
          have hTw : T * w ≤ 36 := Nat.mul_le_mul hT6 hV6
          refine x_iload_n C0 rfl dX12_agree_27 ?_
          refine x_aload_n C0 rfl dX12_agree_28 ?_
          refine x_callV [] C0 hN rfl (xRf_of hR (by decide) (Nat.zero_le _) (Nat.zero_le _)) mv_X12_watchers wm_X12_282 dX12_agree_29 (isModel.k0 hM) rfl rfl (Nat.le_of_ble_eq_true rfl) (c_X12_watchers hM ?_)
          refine x_topi eV3 ?_
          refine x_icmp_ge (tgt := 68) C0 (by decide) dX12_agree_32 (fun _ => ?_) (fun hkk => absurd ((Int32.le_refl _)) hkk)
          refine x_iload_n C0 rfl dX12_agree_68 ?_
          refine x_if_ne (tgt := 74) C0 (by decide) dX12_agree_69 (fun g69 => ?_) (fun g69 => ?_)
          · refine x_iinc (v := nI (i + 1)) (L' := [_, _, _, _]) C0 hN rfl (by decide) (nI_inc i) rfl dX12_agree_74 ?_
            refine x_goto (tgt := 17) C0 (by decide) dX12_agree_77 ?_
            refine ih (i + 1) I3 _ _ _ (by omega) s3 r3 (rdS_WFx wl wy w (Nat.le_refl w)) ?_
            rw [he]
            conv => lhs; unfold agB
            rw [if_neg (fun q => g69 (by rw [q]; decide))]
          · refine x_iload_n C0 rfl dX12_agree_72 ?_
            refine x_iret C0 E (by decide) (by decide) dX12_agree_73 ?_
            rw [he] at hp
            unfold agB at hp
            rw [if_pos ((nI_eq (b := 0) (by omega) (by omega)).mp (by first | exact g69 | exact Classical.not_not.mp g69))] at hp
            exact hp I3 (q1.trans s3)
        | succ p ihp =>
          intro w I3 hm9 s3 r3
          have CC := C.mq s3
          have eV3 : I3 141 2 = nI V := by rw [CC.2.1 2 (by decide), wl.2.2.2.2.1]
          have wz := rdS_WFx wl wy w (by omega)
          refine x_iload_n C0 rfl dX12_agree_27 ?_
          refine x_aload_n C0 rfl dX12_agree_28 ?_
          refine x_callV [] C0 hN rfl (xRf_of hR (by decide) (Nat.zero_le _) (Nat.zero_le _)) mv_X12_watchers wm_X12_282 dX12_agree_29 (isModel.k0 hM) rfl rfl (Nat.le_of_ble_eq_true rfl) (c_X12_watchers hM ?_)
          refine x_topi eV3 ?_
          refine x_icmp_ge (tgt := 68) C0 (by decide) dX12_agree_32 (fun hkk => absurd hkk (nI_ge (by omega) (by omega))) (fun _ => ?_)
          refine x_aload_n C0 rfl dX12_agree_35 ?_
          refine x_sipush (v := nI 2058) C0 rfl dX12_agree_36 ?_
          refine x_iload_n C0 rfl dX12_agree_39 ?_
          refine x_callV [_, _] C0 hN rfl (xRf_of hR (by decide) (Nat.zero_le _) (Nat.zero_le _)) mv_X12_isIn wm_X12_319 dX12_agree_40 (isModel.k0 hM) rfl rfl (Nat.le_of_ble_eq_true rfl) (c_X12_isIn hM (by decide) (fun g40 => ?_) (fun g40 => ?_))
          · refine x_if_eq (tgt := 62) C0 (by decide) dX12_agree_43 (fun hkk => absurd hkk (by decide)) (fun _ => ?_)
            refine x_iload_n C0 rfl dX12_agree_46 ?_
            refine x_aload_n C0 rfl dX12_agree_47 ?_
            refine x_sipush (v := nI 2058) C0 rfl dX12_agree_48 ?_
            refine x_iload_n C0 rfl dX12_agree_51 ?_
            refine x_aload_n C0 rfl dX12_agree_52 ?_
            refine x_iload_n C0 rfl dX12_agree_53 ?_
            refine x_callV [_] C0 hN rfl (xRf_of hR (by decide) (Nat.zero_le _) (Nat.zero_le _)) mv_X12_nextIn wm_X12_390 dX12_agree_54 (isModel.k0 hM) rfl rfl (Nat.le_of_ble_eq_true rfl) (c_X12_nextIn hM CC r3 (by omega) (by rw [← r3 2 (by decide)]; exact g40) ?_)
            refine x_callV [_, _, _] C0 hN rfl (xRf_of hR (by decide) (Nat.zero_le _) (Nat.zero_le _)) mv_X12_talks wm_X12_360 dX12_agree_57 (isModel.k0 hM) rfl rfl (Nat.le_of_ble_eq_true rfl) (c_X12_talks hM (by decide) wl wz CC.2.1 r3 (by omega) (nxt_lt (by omega)) (fun I4 e4 s4 r4 => ?_))
            refine x_iadd C0 dX12_agree_60 ?_
            refine x_istore_n (L' := [_, _, _, _]) C0 hN (by decide) rfl dX12_agree_61 ?_
            refine x_iinc (v := nI (w + 1)) (L' := [_, _, _, _]) C0 hN rfl (by decide) (nI_inc w) rfl dX12_agree_62 ?_
            refine x_goto (tgt := 27) C0 (by decide) dX12_agree_65 ?_
            have e3 := rd_yes (fl := fl) (T := T) (V := V) (y := y) (w := w) (by rw [← r3 2 (by decide)]; exact g40)
            have := ihp (w + 1) I4 (by omega) (s3.trans (MQs.same s4 (by decide))) (by rw [e3.1]; exact r4)
            rw [e3.2, ← nI_add] at this
            exact this
          · refine x_if_eq (tgt := 62) C0 (by decide) dX12_agree_43 (fun _ => ?_) (fun hkk => absurd (by decide) hkk)
            refine x_iinc (v := nI (w + 1)) (L' := [_, _, _, _]) C0 hN rfl (by decide) (nI_inc w) rfl dX12_agree_62 ?_
            refine x_goto (tgt := 27) C0 (by decide) dX12_agree_65 ?_
            have e3 := rd_no (fl := fl) (T := T) (V := V) (y := y) (w := w) (fun q => g40 (by rw [r3 2 (by decide)]; exact q))
            have := ihp (w + 1) I3 (by omega) s3 (by rw [e3.1]; exact r3)
            rw [e3.2] at this
            exact this
      refine x_iload_n C0 rfl dX12_agree_17 ?_
      refine x_bipush (v := nI 20) C0 rfl dX12_agree_18 ?_
      refine x_icmp_gt (tgt := 80) C0 (by decide) dX12_agree_20 (fun hkk => absurd hkk ((fun q => absurd (i_nle.mpr (by first | exact q | exact i_nlt.mp q)) (by intro z; exact z ((nI_le_iff (by omega) (by omega)).mpr (by omega)))))) (fun _ => ?_)
      refine x_iconst (v := nI 0) C0 rfl dX12_agree_23 ?_
      refine x_istore_n (L' := [_, _, _, _]) C0 hN (by decide) rfl dX12_agree_24 ?_
      refine x_iconst (v := nI 0) C0 rfl dX12_agree_25 ?_
      refine x_istore_n (L' := [_, _, _, _]) C0 hN (by decide) rfl dX12_agree_26 ?_
      exact h27 V 0 I2 (by omega) s1 r1
  refine x_aload_n C0 rfl dX12_agree_5 ?_
  refine x_iconst (v := nI 0) C0 rfl dX12_agree_6 ?_
  refine x_sipush (v := nI 2058) C0 rfl dX12_agree_7 ?_
  refine x_bipush (v := nI 62) C0 rfl dX12_agree_10 ?_
  refine x_callV [_, _, _] C0 hN rfl (xRf_of hR (by decide) (Nat.zero_le _) (Nat.zero_le _)) mv_X12_copies wm_X12_294 dX12_agree_12 (isModel.k0 hM) rfl rfl (Nat.le_of_ble_eq_true rfl) (c_X12_copies hM (Or.inl (by omega)) (by omega) (by omega) ?_)
  refine x_iconst (v := nI 0) C0 rfl dX12_agree_15 ?_
  refine x_istore_n (L' := [_, _, _, _]) C0 hN (by decide) rfl dX12_agree_16 ?_
  exact hloop 21 0 _ x none none (by omega) (MQs.copy (by decide)) (ucp_hall mH 62 (by decide)) wx rfl
