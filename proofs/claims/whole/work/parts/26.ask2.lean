/-! THE QUESTIONS THAT COUNT WATCHERS, THINGS AND SCENES -/
/-- the numbers below n for which p holds, as bits -/
def sSet (p : Nat → Prop) [DecidablePred p] : Nat → Int32
  | 0 => 0
  | n + 1 => if p n then sSet p n ||| ((1 : Int32) <<< (nI n &&& 31)) else sSet p n
theorem sSet_yes {p : Nat → Prop} [DecidablePred p] {n : Nat} (h : p n) : sSet p (n + 1) = sSet p n ||| ((1 : Int32) <<< (nI n &&& 31)) := by conv => lhs; unfold sSet; rw [if_pos h]
theorem sSet_no {p : Nat → Prop} [DecidablePred p] {n : Nat} (h : ¬ p n) : sSet p (n + 1) = sSet p n := by conv => lhs; unfold sSet; rw [if_neg h]
theorem sSet_none {p : Nat → Prop} [DecidablePred p] : ∀ n, (∀ k, k < n → ¬ p k) → sSet p n = 0
  | 0, _ => rfl
  | n + 1, h => by rw [sSet_no (h n (by omega))]; exact sSet_none n (fun k hk => h k (by omega))
theorem i_or_eq {a b : Int32} : a ||| b = 0 ↔ a = 0 ∧ b = 0 := by
  constructor
  · intro h
    have h' : a.toBitVec ||| b.toBitVec = 0#32 := by rw [← Int32.toBitVec_or, h]; rfl
    have := BitVec.or_eq_zero_iff.mp h'
    exact ⟨Int32.toBitVec_inj.mp this.1, Int32.toBitVec_inj.mp this.2⟩
  · rintro ⟨rfl, rfl⟩; rfl
theorem i_and_or {a b c : Int32} : (a ||| b) &&& c = (a &&& c) ||| (b &&& c) := by
  apply Int32.toBitVec_inj.mp
  rw [Int32.toBitVec_and, Int32.toBitVec_or, Int32.toBitVec_or, Int32.toBitVec_and, Int32.toBitVec_and]
  ext i
  simp [Bool.and_or_distrib_right]
theorem lone_bit : ∀ n, n < 6 → ∀ i, i < 6 → (((1 : Int32) <<< (nI n &&& 31)) &&& (((1 : Int32) <<< (nI i &&& 31)) ^^^ (-1)) = 0 ↔ n = i) := by decide +kernel
theorem lone_iff {p : Nat → Prop} [DecidablePred p] {i : Nat} (hi : i < 6) : ∀ n, n ≤ 6 → (sSet p n &&& (((1 : Int32) <<< (nI i &&& 31)) ^^^ (-1)) = 0 ↔ ∀ w, w < n → w ≠ i → ¬ p w)
  | 0, _ => by
    refine ⟨fun _ w hw => absurd hw (by omega), fun _ => ?_⟩
    unfold sSet
    exact Int32.zero_and
  | n + 1, h => by
    have ih := lone_iff (p := p) hi n (by omega)
    by_cases g : p n
    · rw [sSet_yes g, i_and_or, i_or_eq, ih, lone_bit n (by omega) i hi]
      constructor
      · rintro ⟨a, b⟩ w hw hwi
        exact a w (by omega) hwi
      · intro a
        refine ⟨fun w hw => a w (by omega), ?_⟩
        by_cases e : n = i
        · exact e
        · exact absurd g (a n (by omega) e)
    · rw [sSet_no g, ih]
      constructor
      · intro a w hw hwi
        by_cases e : w = n
        · subst e; exact g
        · exact a w (by omega) hwi
      · intro a w hw
        exact a w (by omega)
/-- a claim taken apart -/
theorem cT_nI (t : Nat) (ht : t < 8) (b : Nat) (hb : b < 2) : cThing (nI (2 * t + b)) = nI t := cThing_nI ht hb
theorem cI_nI (t : Nat) (ht : t < 8) (b : Nat) (hb : b < 2) : cIs (nI (2 * t + b)) = nI b := cIs_nI ht hb
def sClaim (fl x : xRow) (k : Nat) : Int32 := if xbit (x 3) k then -1 else 2 * sThing fl x k + sIs fl x k
def sCl (fl x : xRow) (c : Int32) (k : Nat) : Int32 := if c = 0 then sClaim fl x k else 2 * x (4 + k) + x (12 + k)
def sTc (fl x : xRow) (c : Int32) (k : Nat) : Int32 := if c = 0 then sThing fl x k else x (4 + k)
def sIc (fl x : xRow) (c : Int32) (k : Nat) : Int32 := if c = 0 then sIs fl x k else x (12 + k)
theorem two_nI' (t b : Nat) : 2 * nI t + nI b = nI (2 * t + b) := by rw [show (2 : Int32) = nI 2 from rfl, nI_mul, nI_add]
theorem sIs_two {fl x : xRow} {T N V k : Nat} (wl : WFl fl T N V) (wx : WFx x T N V) (hk : k < N) (h : ¬ xbit (x 3) k) : ∃ t b, t < T ∧ b < 2 ∧ sThing fl x k = nI t ∧ sIs fl x k = nI b := by
  have hT := wl.2.1
  have hN := wl.2.2.2.1
  obtain ⟨t, b, ht, hb, e1, e2⟩ := wl.2.2.2.2.2.2.2.1 k hk
  have e3 : sThing fl x k = nI t := by unfold sThing; rw [if_neg h]; exact e1
  have hl : ∀ e, e ≤ k → ∃ b', b' < 2 ∧ sLast x (nI t) e (fl (6 + 4 * k)) = nI b' := by
    intro e
    induction e with
    | zero => intro _; exact ⟨b, hb, e2⟩
    | succ e ih =>
      intro he
      unfold sLast
      obtain ⟨t2, b2, -, hb2, -, e4⟩ := wx.2.2.2.1 e (by omega)
      split
      · exact ⟨b2, hb2, e4⟩
      · exact ih (by omega)
  obtain ⟨b', hb', e5⟩ := hl k (Nat.le_refl k)
  unfold sIs
  rw [e3, if_neg (i_nlt.mpr (nI_pos' (by omega)))]
  split
  · exact ⟨t, b', ht, hb', rfl, e5⟩
  · exact ⟨t, b, ht, hb, rfl, e2⟩
theorem sIs_cut {fl x : xRow} {T N V k : Nat} (wl : WFl fl T N V) (wx : WFx x T N V) (hk : k < N) (h : xbit (x 3) k) : sThing fl x k = -1 ∧ sIs fl x k = -1 := by
  have e : sThing fl x k = -1 := by unfold sThing; rw [if_pos h]
  refine ⟨e, ?_⟩
  unfold sIs
  rw [e, if_pos (by decide)]
theorem tOf_cl {fl x : xRow} {T N V k : Nat} (wl : WFl fl T N V) (wx : WFx x T N V) (hk : k < N) (c : Int32) : cThing (sCl fl x c k) = sTc fl x c k ∧ cIs (sCl fl x c k) = sIc fl x c k := by
  have hT := wl.2.1
  unfold sCl sTc sIc
  by_cases hc : c = 0
  · rw [if_pos hc, if_pos hc, if_pos hc]
    unfold sClaim
    by_cases h : xbit (x 3) k
    · obtain ⟨e1, e2⟩ := sIs_cut wl wx hk h
      rw [if_pos h, e1, e2]; exact ⟨rfl, rfl⟩
    · obtain ⟨t, b, ht, hb, e1, e2⟩ := sIs_two wl wx hk h
      rw [if_neg h, e1, e2, two_nI']
      exact ⟨cT_nI t (by omega) b hb, cI_nI t (by omega) b hb⟩
  · rw [if_neg hc, if_neg hc, if_neg hc]
    obtain ⟨t, b, ht, hb, e1, e2⟩ := wx.2.2.2.1 k hk
    rw [e1, e2, two_nI']
    exact ⟨cT_nI t (by omega) b hb, cI_nI t (by omega) b hb⟩
theorem c_sayV {S : xTS} {R : xTR} {I : xTI} {J : xTJ} {post : xPost} {f h T N V k : Nat} {fl x : xRow} {dq : xDq} (hF : isFilm S R f) (hH : isHall S R h) (wl : WFl fl T N V) (wx : WFx x T N V) (rF : RFilm I f fl dq N V) (rH : RHall I h x N) (hk : k < N) (hp : post (some (.int (sClaim fl x k))) S R I J) : xSpec 3 yX2_saying cX2_saying 5 (some .int) 0 0 [.ref f, .ref h, .int (nI k)] S R I J post :=
  c_X2_saying hF hH wl wx rF rH hk (fun h => by unfold sClaim at hp; rw [if_pos h] at hp; exact hp) (fun t b h _ _ e1 e2 => by unfold sClaim at hp; rw [if_neg h, e1, e2, two_nI'] at hp; exact hp)
theorem c_X11_claimOf {S : xTS} {R : xTR} {I : xTI} {J : xTJ} {post : xPost} {f T N V : Nat} {fl x : xRow} {lw : Option (List (Nat × Nat))} (hS : fixd S R) (hf : R 0 2 = some f) (C : FCore I f fl lw T N V x) {k : Nat} {c : Int32} (hk : k < N) (hp : post (some (.int (sCl fl x c k))) S R I J) : xSpec 4 yX11_claimOf cX11_claimOf 3 (some .int) 0 0 [.ref 0, .int (nI k), .int c] S R I J post := by
  refine xSpec_of mt_X11_claimOf (Nat.le_of_ble_eq_true rfl) (fun G C0 hN hR E hI hZ => ?_)
  change XX G 0 0 0 [some (.ref 0), some (.int (nI k)), some (.int c)] [] S R I J
  obtain ⟨hfm, wl, rF, rH, wx⟩ := id C
  have hF := hS.film hfm
  have hH := hS.hall (q := 33) (by decide)
  have hT6 := wl.2.1
  have hN8 := wl.2.2.2.1
  have hV6 := wl.2.2.2.2.2.1
  have eT : I f 0 = nI T := rF.1.trans wl.1
  have eN : I f 1 = nI N := rF.2.1.trans wl.2.2.1
  have eV : I f 2 = nI V := rF.2.2.1.trans wl.2.2.2.2.1
  have hfh : ∀ i j, i < 9 → j < 4 → f + i ≠ 33 + j := fun i j hi hj => hf_apart 33 (by decide) f hfm i hi j hj
  obtain ⟨fs0, fs1, fs2, fs3, fs4, fs5, fs6, fs7, fs8, fr4, fr5, fr6, fr7, fr8, fr9, fr10, fr11⟩ := id hF
  obtain ⟨hs0, hs1, hs2, hs3, hr4, hr5, hr6⟩ := id hH
  unfold sCl at hp
  refine x_iload_n C0 rfl dX11_claimOf_0 ?_
  refine x_if_ne (tgt := 19) C0 (by decide) dX11_claimOf_1 (fun g1 => ?_) (fun g1 => ?_)
  · refine x_aload_n C0 rfl dX11_claimOf_19 ?_
    refine x_getR C0 wf_X11_46 (fixd.k0 hS) rfl rfl (fixd.now hS) dX11_claimOf_20 ?_
    refine x_iload_n C0 rfl dX11_claimOf_23 ?_
    refine x_callV [_] C0 hN rfl (xRf_of hR (by decide) (Nat.zero_le _) (Nat.zero_le _)) mv_X3_writing wm_X11_135 dX11_claimOf_24 (by assumption) rfl rfl (Nat.le_of_ble_eq_true rfl) (c_X3_writing hH (by omega) ?_)
    refine x_iret C0 E (by decide) (by decide) dX11_claimOf_27 ?_
    rw [if_neg g1] at hp
    rw [rH.2.2.2.2.1 k hk]
    exact hp
  · refine x_aload_n C0 rfl dX11_claimOf_4 ?_
    refine x_getR C0 wf_X11_26 (fixd.k0 hS) rfl rfl hf dX11_claimOf_5 ?_
    refine x_aload_n C0 rfl dX11_claimOf_8 ?_
    refine x_getR C0 wf_X11_46 (fixd.k0 hS) rfl rfl (fixd.now hS) dX11_claimOf_9 ?_
    refine x_iload_n C0 rfl dX11_claimOf_12 ?_
    refine x_callV [_, _] C0 hN rfl (xRf_of hR (by decide) (Nat.zero_le _) (Nat.zero_le _)) mv_X2_saying wm_X11_124 dX11_claimOf_13 (by assumption) rfl rfl (Nat.le_of_ble_eq_true rfl) (c_sayV hF hH wl wx rF rH (by assumption) ?_)
    refine x_goto (tgt := 27) C0 (by decide) dX11_claimOf_16 ?_
    refine x_iret C0 E (by decide) (by decide) dX11_claimOf_27 ?_
    rw [if_pos (g1)] at hp
    exact hp
def sLs (fl x : xRow) (c t : Int32) : Nat → Int32
  | 0 => -1
  | n + 1 => if sTc fl x c n = t then sIc fl x c n else sLs fl x c t n
theorem sLs_yes {fl x : xRow} {c t : Int32} {n : Nat} (h : sTc fl x c n = t) : sLs fl x c t (n + 1) = sIc fl x c n := by conv => lhs; unfold sLs; rw [if_pos h]
theorem sLs_no {fl x : xRow} {c t : Int32} {n : Nat} (h : ¬ sTc fl x c n = t) : sLs fl x c t (n + 1) = sLs fl x c t n := by conv => lhs; unfold sLs; rw [if_neg h]
theorem sLs_three {fl x : xRow} {T N V : Nat} (wl : WFl fl T N V) (wx : WFx x T N V) {c : Int32} {t : Nat} (ht : t < T) : ∀ n, n ≤ N → sLs fl x c (nI t) n = -1 ∨ sLs fl x c (nI t) n = 0 ∨ sLs fl x c (nI t) n = 1
  | 0, _ => Or.inl rfl
  | n + 1, hn => by
    have hT := wl.2.1
    have two : ∀ b, b < 2 → nI b = -1 ∨ nI b = 0 ∨ nI b = 1 := by decide
    by_cases h : sTc fl x c n = nI t
    · rw [sLs_yes h]
      unfold sTc at h
      unfold sIc
      by_cases hc : c = 0
      · rw [if_pos hc] at h ⊢
        by_cases hx : xbit (x 3) n
        · exact Or.inl (sIs_cut wl wx (by omega) hx).2
        · obtain ⟨t2, b, -, hb, -, e2⟩ := sIs_two wl wx (k := n) (by omega) hx
          rw [e2]; exact two b hb
      · rw [if_neg hc]
        obtain ⟨t2, b, -, hb, -, e2⟩ := wx.2.2.2.1 n (by omega)
        rw [e2]; exact two b hb
    · rw [sLs_no h]; exact sLs_three wl wx ht n (by omega)
theorem c_X11_last {S : xTS} {R : xTR} {I : xTI} {J : xTJ} {post : xPost} {f T N V : Nat} {fl x : xRow} {lw : Option (List (Nat × Nat))} (hS : fixd S R) (hf : R 0 2 = some f) (C : FCore I f fl lw T N V x) {t0 c : Int32} (hp : post (some (.int (sLs fl x c t0 N))) S R I J) : xSpec 5 yX11_last cX11_last 5 (some .int) 0 0 [.ref 0, .int t0, .int c] S R I J post := by
  refine xSpec_of mt_X11_last (Nat.le_of_ble_eq_true rfl) (fun G C0 hN hR E hI hZ => ?_)
  change XX G 0 0 0 [some (.ref 0), some (.int t0), some (.int c), none, none] [] S R I J
  obtain ⟨hfm, wl, rF, rH, wx⟩ := id C
  have hF := hS.film hfm
  have hH := hS.hall (q := 33) (by decide)
  have hT6 := wl.2.1
  have hN8 := wl.2.2.2.1
  have hV6 := wl.2.2.2.2.2.1
  have eT : I f 0 = nI T := rF.1.trans wl.1
  have eN : I f 1 = nI N := rF.2.1.trans wl.2.2.1
  have eV : I f 2 = nI V := rF.2.2.1.trans wl.2.2.2.2.1
  have hfh : ∀ i j, i < 9 → j < 4 → f + i ≠ 33 + j := fun i j hi hj => hf_apart 33 (by decide) f hfm i hi j hj
  obtain ⟨fs0, fs1, fs2, fs3, fs4, fs5, fs6, fs7, fs8, fr4, fr5, fr6, fr7, fr8, fr9, fr10, fr11⟩ := id hF
  obtain ⟨hs0, hs1, hs2, hs3, hr4, hr5, hr6⟩ := id hH
  have hloop : ∀ n t, t + n = N → XX G 0 0 5 [some (.ref 0), some (.int t0), some (.int c), some (.int (sLs fl x c t0 t)), some (.int (nI t))] [] S R I J := by
    intro n
    induction n with
    | zero =>
      intro t hn9
      have hn8 : t = N := by omega
      refine x_iload C0 rfl dX11_last_5 ?_
      refine x_aload_n C0 rfl dX11_last_7 ?_
      refine x_getR C0 wf_X11_26 (fixd.k0 hS) rfl rfl hf dX11_last_8 ?_
      refine x_getI C0 wf_X11_239 (by assumption) rfl dX11_last_11 ?_
      refine x_topi eN ?_
      refine x_icmp_ge (tgt := 48) C0 (by decide) dX11_last_14 (fun _ => ?_) (fun hkk => absurd ((by rw [hn8]; exact Int32.le_refl _)) hkk)
      refine x_iload_n C0 rfl dX11_last_48 ?_
      refine x_iret C0 E (by decide) (by decide) dX11_last_49 ?_
      subst hn8
      exact hp
    | succ n ih =>
      intro t hn9
      refine x_iload C0 rfl dX11_last_5 ?_
      refine x_aload_n C0 rfl dX11_last_7 ?_
      refine x_getR C0 wf_X11_26 (fixd.k0 hS) rfl rfl hf dX11_last_8 ?_
      refine x_getI C0 wf_X11_239 (by assumption) rfl dX11_last_11 ?_
      refine x_topi eN ?_
      refine x_icmp_ge (tgt := 48) C0 (by decide) dX11_last_14 (fun hkk => absurd hkk (nI_ge (by omega) (by omega))) (fun _ => ?_)
      refine x_aload_n C0 rfl dX11_last_17 ?_
      refine x_iload C0 rfl dX11_last_18 ?_
      refine x_iload_n C0 rfl dX11_last_20 ?_
      refine x_callV [_, _] C0 hN rfl (xRf_of hR (by decide) (Nat.zero_le _) (Nat.zero_le _)) mv_X11_claimOf wm_X11_283 dX11_last_21 (fixd.k0 hS) rfl rfl (Nat.le_of_ble_eq_true rfl) (c_X11_claimOf hS hf C (by omega) ?_)
      refine x_callS [_] C0 (xRf_of hR (by decide) (Nat.zero_le _) (Nat.zero_le _)) ms_X11_thingOf wm_X11_128 dX11_last_24 rfl rfl (Nat.le_of_ble_eq_true rfl) (c_X11_thingOf  ?_)
      refine x_iload_n C0 rfl dX11_last_27 ?_
      refine x_icmp_ne (tgt := 42) C0 (by decide) dX11_last_28 (fun g28 => ?_) (fun g28 => ?_)
      · refine x_iinc (v := nI (t + 1)) (L' := [_, _, _, _, _]) C0 hN rfl (by decide) (nI_inc t) rfl dX11_last_42 ?_
        refine x_goto (tgt := 5) C0 (by decide) dX11_last_45 ?_
        have := ih (t + 1) (by omega)
        rw [sLs_no (fun q => g28 ((tOf_cl wl wx (by omega) c).1.trans q))] at this
        exact this
      · refine x_aload_n C0 rfl dX11_last_31 ?_
        refine x_iload C0 rfl dX11_last_32 ?_
        refine x_iload_n C0 rfl dX11_last_34 ?_
        refine x_callV [_, _] C0 hN rfl (xRf_of hR (by decide) (Nat.zero_le _) (Nat.zero_le _)) mv_X11_claimOf wm_X11_283 dX11_last_35 (fixd.k0 hS) rfl rfl (Nat.le_of_ble_eq_true rfl) (c_X11_claimOf hS hf C (by omega) ?_)
        refine x_callS [_] C0 (xRf_of hR (by decide) (Nat.zero_le _) (Nat.zero_le _)) ms_X11_isOf wm_X11_132 dX11_last_38 rfl rfl (Nat.le_of_ble_eq_true rfl) (c_X11_isOf  ?_)
        refine x_istore_n (L' := [_, _, _, _, _]) C0 hN (by decide) rfl dX11_last_41 ?_
        refine x_iinc (v := nI (t + 1)) (L' := [_, _, _, _, _]) C0 hN rfl (by decide) (nI_inc t) rfl dX11_last_42 ?_
        refine x_goto (tgt := 5) C0 (by decide) dX11_last_45 ?_
        have := ih (t + 1) (by omega)
        rw [sLs_yes ((tOf_cl wl wx (k := t) (by omega) c).1.symm.trans g28), ← (tOf_cl wl wx (k := t) (by omega) c).2] at this
        exact this
  refine x_iconst (v := -1) C0 rfl dX11_last_0 ?_
  refine x_istore_n (L' := [_, _, _, _, _]) C0 hN (by decide) rfl dX11_last_1 ?_
  refine x_iconst (v := 0) C0 rfl dX11_last_2 ?_
  refine x_istore (L' := [_, _, _, _, _]) C0 hN (by decide) rfl dX11_last_3 ?_
  exact hloop N 0 (by omega)
theorem c_X12_lastSaid {S : xTS} {R : xTR} {I : xTI} {J : xTJ} {post : xPost} {T N V : Nat} {fl x : xRow} {lw : Option (List (Nat × Nat))} (hM : isModel S R) (C : MCore I fl lw T N V x) {t0 : Int32} (hp : post (some (.int (sLs fl x 0 t0 N))) S R I J) : xSpec 4 yX12_lastSaid cX12_lastSaid 4 (some .int) 0 0 [.ref 135, .int t0] S R I J post := by
  refine xSpec_of mt_X12_lastSaid (Nat.le_of_ble_eq_true rfl) (fun G C0 hN hR E hI hZ => ?_)
  change XX G 0 0 0 [some (.ref 135), some (.int t0), none, none] [] S R I J
  obtain ⟨wl, mF, mL, mH, wx⟩ := id C
  have hT6 := wl.2.1
  have hN8 := wl.2.2.2.1
  have hV6 := wl.2.2.2.2.2.1
  have eT : I 141 0 = nI T := (mF 0 (by decide)).trans wl.1
  have eN : I 141 1 = nI N := (mF 1 (by decide)).trans wl.2.2.1
  have eV : I 141 2 = nI V := (mF 2 (by decide)).trans wl.2.2.2.2.1
  have hb0 : 0 ≤ 2192 := by decide
  have hloop : ∀ n t, t + n = N → XX G 0 0 4 [some (.ref 135), some (.int t0), some (.int (sLs fl x 0 t0 t)), some (.int (nI t))] [] S R I J := by
    intro n
    induction n with
    | zero =>
      intro t hn9
      have hn8 : t = N := by omega
      refine x_iload_n C0 rfl dX12_lastSaid_4 ?_
      refine x_aload_n C0 rfl dX12_lastSaid_5 ?_
      refine x_callV [] C0 hN rfl (xRf_of hR (by decide) (Nat.zero_le _) (Nat.zero_le _)) mv_X12_scenes wm_X12_285 dX12_lastSaid_6 (isModel.k0 hM) rfl rfl (Nat.le_of_ble_eq_true rfl) (c_X12_scenes hM ?_)
      refine x_topi eN ?_
      refine x_icmp_ge (tgt := 39) C0 (by decide) dX12_lastSaid_9 (fun _ => ?_) (fun hkk => absurd ((by rw [hn8]; exact Int32.le_refl _)) hkk)
      refine x_iload_n C0 rfl dX12_lastSaid_39 ?_
      refine x_iret C0 E (by decide) (by decide) dX12_lastSaid_40 ?_
      subst hn8
      exact hp
    | succ n ih =>
      intro t hn9
      refine x_iload_n C0 rfl dX12_lastSaid_4 ?_
      refine x_aload_n C0 rfl dX12_lastSaid_5 ?_
      refine x_callV [] C0 hN rfl (xRf_of hR (by decide) (Nat.zero_le _) (Nat.zero_le _)) mv_X12_scenes wm_X12_285 dX12_lastSaid_6 (isModel.k0 hM) rfl rfl (Nat.le_of_ble_eq_true rfl) (c_X12_scenes hM ?_)
      refine x_topi eN ?_
      refine x_icmp_ge (tgt := 39) C0 (by decide) dX12_lastSaid_9 (fun hkk => absurd hkk (nI_ge (by omega) (by omega))) (fun _ => ?_)
      refine x_aload_n C0 rfl dX12_lastSaid_12 ?_
      refine x_iconst (v := nI 0) C0 rfl dX12_lastSaid_13 ?_
      refine x_iload_n C0 rfl dX12_lastSaid_14 ?_
      refine x_callV [_, _] C0 hN rfl (xRf_of hR (by decide) (Nat.zero_le _) (Nat.zero_le _)) mv_X12_saidThing wm_X12_304 dX12_lastSaid_15 (isModel.k0 hM) rfl rfl (Nat.le_of_ble_eq_true rfl) (c_X12_saidThing hM hb0 (by omega) mF mH ?_)
      refine x_iload_n C0 rfl dX12_lastSaid_18 ?_
      refine x_icmp_ne (tgt := 31) C0 (by decide) dX12_lastSaid_19 (fun g19 => ?_) (fun g19 => ?_)
      · refine x_iload_n C0 rfl dX12_lastSaid_31 ?_
        refine x_istore_n (L' := [_, _, _, _]) C0 hN (by decide) rfl dX12_lastSaid_32 ?_
        refine x_iinc (v := nI (t + 1)) (L' := [_, _, _, _]) C0 hN rfl (by decide) (nI_inc t) rfl dX12_lastSaid_33 ?_
        refine x_goto (tgt := 4) C0 (by decide) dX12_lastSaid_36 ?_
        have := ih (t + 1) (by omega)
        rw [sLs_no (c := 0) (fun q => g19 q)] at this
        exact this
      · refine x_aload_n C0 rfl dX12_lastSaid_22 ?_
        refine x_iconst (v := nI 0) C0 rfl dX12_lastSaid_23 ?_
        refine x_iload_n C0 rfl dX12_lastSaid_24 ?_
        refine x_callV [_, _] C0 hN rfl (xRf_of hR (by decide) (Nat.zero_le _) (Nat.zero_le _)) mv_X12_saidIs wm_X12_307 dX12_lastSaid_25 (isModel.k0 hM) rfl rfl (Nat.le_of_ble_eq_true rfl) (c_X12_saidIs hM hb0 (by omega) mF mH ?_)
        refine x_goto (tgt := 32) C0 (by decide) dX12_lastSaid_28 ?_
        refine x_istore_n (L' := [_, _, _, _]) C0 hN (by decide) rfl dX12_lastSaid_32 ?_
        refine x_iinc (v := nI (t + 1)) (L' := [_, _, _, _]) C0 hN rfl (by decide) (nI_inc t) rfl dX12_lastSaid_33 ?_
        refine x_goto (tgt := 4) C0 (by decide) dX12_lastSaid_36 ?_
        have := ih (t + 1) (by omega)
        rw [sLs_yes (c := 0) g19] at this
        exact this
  refine x_iconst (v := -1) C0 rfl dX12_lastSaid_0 ?_
  refine x_istore_n (L' := [_, _, _, _]) C0 hN (by decide) rfl dX12_lastSaid_1 ?_
  refine x_iconst (v := nI 0) C0 rfl dX12_lastSaid_2 ?_
  refine x_istore_n (L' := [_, _, _, _]) C0 hN (by decide) rfl dX12_lastSaid_3 ?_
  exact hloop N 0 (by omega)
theorem c_X12_lastWritten {S : xTS} {R : xTR} {I : xTI} {J : xTJ} {post : xPost} {T N V : Nat} {fl x : xRow} {lw : Option (List (Nat × Nat))} (hM : isModel S R) (C : MCore I fl lw T N V x) {t0 : Int32} (hp : post (some (.int (sLs fl x 1 t0 N))) S R I J) : xSpec 2 yX12_lastWritten cX12_lastWritten 4 (some .int) 0 0 [.ref 135, .int t0] S R I J post := by
  refine xSpec_of mt_X12_lastWritten (Nat.le_of_ble_eq_true rfl) (fun G C0 hN hR E hI hZ => ?_)
  change XX G 0 0 0 [some (.ref 135), some (.int t0), none, none] [] S R I J
  obtain ⟨wl, mF, mL, mH, wx⟩ := id C
  have hT6 := wl.2.1
  have hN8 := wl.2.2.2.1
  have hV6 := wl.2.2.2.2.2.1
  have eT : I 141 0 = nI T := (mF 0 (by decide)).trans wl.1
  have eN : I 141 1 = nI N := (mF 1 (by decide)).trans wl.2.2.1
  have eV : I 141 2 = nI V := (mF 2 (by decide)).trans wl.2.2.2.2.1
  have hb0 : 0 ≤ 2192 := by decide
  have hloop : ∀ n t, t + n = N → XX G 0 0 4 [some (.ref 135), some (.int t0), some (.int (sLs fl x 1 t0 t)), some (.int (nI t))] [] S R I J := by
    intro n
    induction n with
    | zero =>
      intro t hn9
      have hn8 : t = N := by omega
      refine x_iload_n C0 rfl dX12_lastWritten_4 ?_
      refine x_aload_n C0 rfl dX12_lastWritten_5 ?_
      refine x_callV [] C0 hN rfl (xRf_of hR (by decide) (Nat.zero_le _) (Nat.zero_le _)) mv_X12_scenes wm_X12_285 dX12_lastWritten_6 (isModel.k0 hM) rfl rfl (Nat.le_of_ble_eq_true rfl) (c_X12_scenes hM ?_)
      refine x_topi eN ?_
      refine x_icmp_ge (tgt := 44) C0 (by decide) dX12_lastWritten_9 (fun _ => ?_) (fun hkk => absurd ((by rw [hn8]; exact Int32.le_refl _)) hkk)
      refine x_iload_n C0 rfl dX12_lastWritten_44 ?_
      refine x_iret C0 E (by decide) (by decide) dX12_lastWritten_45 ?_
      subst hn8
      exact hp
    | succ n ih =>
      intro t hn9
      refine x_iload_n C0 rfl dX12_lastWritten_4 ?_
      refine x_aload_n C0 rfl dX12_lastWritten_5 ?_
      refine x_callV [] C0 hN rfl (xRf_of hR (by decide) (Nat.zero_le _) (Nat.zero_le _)) mv_X12_scenes wm_X12_285 dX12_lastWritten_6 (isModel.k0 hM) rfl rfl (Nat.le_of_ble_eq_true rfl) (c_X12_scenes hM ?_)
      refine x_topi eN ?_
      refine x_icmp_ge (tgt := 44) C0 (by decide) dX12_lastWritten_9 (fun hkk => absurd hkk (nI_ge (by omega) (by omega))) (fun _ => ?_)
      refine x_aload_n C0 rfl dX12_lastWritten_12 ?_
      refine x_getR C0 wf_X12_119 (isModel.k0 hM) rfl rfl (isModel.r24 hM) dX12_lastWritten_13 ?_
      refine x_iconst (v := nI 4) C0 rfl dX12_lastWritten_16 ?_
      refine x_iload_n C0 rfl dX12_lastWritten_17 ?_
      refine x_iaddN C0 dX12_lastWritten_18 ?_
      refine x_ialoadN C0 (isModel.s24 hM) (by omega) (by omega) dX12_lastWritten_19 ?_
      refine x_iload_n C0 rfl dX12_lastWritten_20 ?_
      refine x_nexti (mH.at (i := 4 + t) (by omega) (by omega)) ?_
      refine x_icmp_ne (tgt := 36) C0 (by decide) dX12_lastWritten_21 (fun g21 => ?_) (fun g21 => ?_)
      · refine x_iload_n C0 rfl dX12_lastWritten_36 ?_
        refine x_istore_n (L' := [_, _, _, _]) C0 hN (by decide) rfl dX12_lastWritten_37 ?_
        refine x_iinc (v := nI (t + 1)) (L' := [_, _, _, _]) C0 hN rfl (by decide) (nI_inc t) rfl dX12_lastWritten_38 ?_
        refine x_goto (tgt := 4) C0 (by decide) dX12_lastWritten_41 ?_
        have := ih (t + 1) (by omega)
        rw [sLs_no (c := 1) (fun q => g21 q)] at this
        exact this
      · refine x_aload_n C0 rfl dX12_lastWritten_24 ?_
        refine x_getR C0 wf_X12_119 (isModel.k0 hM) rfl rfl (isModel.r24 hM) dX12_lastWritten_25 ?_
        refine x_bipush (v := nI 12) C0 rfl dX12_lastWritten_28 ?_
        refine x_iload_n C0 rfl dX12_lastWritten_30 ?_
        refine x_iaddN C0 dX12_lastWritten_31 ?_
        refine x_ialoadN C0 (isModel.s24 hM) (by omega) (by omega) dX12_lastWritten_32 ?_
        refine x_goto (tgt := 37) C0 (by decide) dX12_lastWritten_33 ?_
        refine x_istore_n (L' := [_, _, _, _]) C0 hN (by decide) rfl dX12_lastWritten_37 ?_
        refine x_iinc (v := nI (t + 1)) (L' := [_, _, _, _]) C0 hN rfl (by decide) (nI_inc t) rfl dX12_lastWritten_38 ?_
        refine x_goto (tgt := 4) C0 (by decide) dX12_lastWritten_41 ?_
        have := ih (t + 1) (by omega)
        rw [sLs_yes (c := 1) g21] at this
        rw [mH.at (i := 12 + t) (by omega) (by omega)]
        exact this
  refine x_iconst (v := -1) C0 rfl dX12_lastWritten_0 ?_
  refine x_istore_n (L' := [_, _, _, _]) C0 hN (by decide) rfl dX12_lastWritten_1 ?_
  refine x_iconst (v := nI 0) C0 rfl dX12_lastWritten_2 ?_
  refine x_istore_n (L' := [_, _, _, _]) C0 hN (by decide) rfl dX12_lastWritten_3 ?_
  exact hloop N 0 (by omega)
def aMoves (fl x : xRow) (T N : Nat) : Int32 := sSet (fun t => ¬ sLs fl x 1 (nI t) N = sLs fl x 0 (nI t) N) T
theorem c_X11_moves {S : xTS} {R : xTR} {I : xTI} {J : xTJ} {post : xPost} {f T N V : Nat} {fl x : xRow} {lw : Option (List (Nat × Nat))} (hS : fixd S R) (hf : R 0 2 = some f) (C : FCore I f fl lw T N V x) (hp : ∀ I', FQ I I' → post (some (.int (aMoves fl x T N))) S R I' J) : xSpec 6 yX11_moves cX11_moves 3 (some .int) 0 0 [.ref 0] S R I J post := by
  refine xSpec_of mt_X11_moves (Nat.le_of_ble_eq_true rfl) (fun G C0 hN hR E hI hZ => ?_)
  change XX G 0 0 0 [some (.ref 0), none, none] [] S R I J
  obtain ⟨hfm, wl, rF, rH, wx⟩ := id C
  have hF := hS.film hfm
  have hH := hS.hall (q := 33) (by decide)
  have hT6 := wl.2.1
  have hN8 := wl.2.2.2.1
  have hV6 := wl.2.2.2.2.2.1
  have eT : I f 0 = nI T := rF.1.trans wl.1
  have eN : I f 1 = nI N := rF.2.1.trans wl.2.2.1
  have eV : I f 2 = nI V := rF.2.2.1.trans wl.2.2.2.2.1
  have hfh : ∀ i j, i < 9 → j < 4 → f + i ≠ 33 + j := fun i j hi hj => hf_apart 33 (by decide) f hfm i hi j hj
  obtain ⟨fs0, fs1, fs2, fs3, fs4, fs5, fs6, fs7, fs8, fr4, fr5, fr6, fr7, fr8, fr9, fr10, fr11⟩ := id hF
  obtain ⟨hs0, hs1, hs2, hs3, hr4, hr5, hr6⟩ := id hH
  unfold aMoves at hp
  have hloop : ∀ n t, t + n = T → XX G 0 0 4 [some (.ref 0), some (.int (sSet (fun t => ¬ sLs fl x 1 (nI t) N = sLs fl x 0 (nI t) N) t)), some (.int (nI t))] [] S R I J := by
    intro n
    induction n with
    | zero =>
      intro t hn9
      have hn8 : t = T := by omega
      refine x_iload_n C0 rfl dX11_moves_4 ?_
      refine x_aload_n C0 rfl dX11_moves_5 ?_
      refine x_getR C0 wf_X11_26 (fixd.k0 hS) rfl rfl hf dX11_moves_6 ?_
      refine x_getI C0 wf_X11_280 (by assumption) rfl dX11_moves_9 ?_
      refine x_topi eT ?_
      refine x_icmp_ge (tgt := 42) C0 (by decide) dX11_moves_12 (fun _ => ?_) (fun hkk => absurd ((by rw [hn8]; exact Int32.le_refl _)) hkk)
      refine x_iload_n C0 rfl dX11_moves_42 ?_
      refine x_iret C0 E (by decide) (by decide) dX11_moves_43 ?_
      subst hn8
      exact hp I FQ.rf
    | succ n ih =>
      intro t hn9
      refine x_iload_n C0 rfl dX11_moves_4 ?_
      refine x_aload_n C0 rfl dX11_moves_5 ?_
      refine x_getR C0 wf_X11_26 (fixd.k0 hS) rfl rfl hf dX11_moves_6 ?_
      refine x_getI C0 wf_X11_280 (by assumption) rfl dX11_moves_9 ?_
      refine x_topi eT ?_
      refine x_icmp_ge (tgt := 42) C0 (by decide) dX11_moves_12 (fun hkk => absurd hkk (nI_ge (by omega) (by omega))) (fun _ => ?_)
      refine x_aload_n C0 rfl dX11_moves_15 ?_
      refine x_iload_n C0 rfl dX11_moves_16 ?_
      refine x_iconst (v := 1) C0 rfl dX11_moves_17 ?_
      refine x_callV [_, _] C0 hN rfl (xRf_of hR (by decide) (Nat.zero_le _) (Nat.zero_le _)) mv_X11_last wm_X11_286 dX11_moves_18 (fixd.k0 hS) rfl rfl (Nat.le_of_ble_eq_true rfl) (c_X11_last hS hf C ?_)
      refine x_aload_n C0 rfl dX11_moves_21 ?_
      refine x_iload_n C0 rfl dX11_moves_22 ?_
      refine x_iconst (v := 0) C0 rfl dX11_moves_23 ?_
      refine x_callV [_, _] C0 hN rfl (xRf_of hR (by decide) (Nat.zero_le _) (Nat.zero_le _)) mv_X11_last wm_X11_286 dX11_moves_24 (fixd.k0 hS) rfl rfl (Nat.le_of_ble_eq_true rfl) (c_X11_last hS hf C ?_)
      refine x_icmp_eq (tgt := 36) C0 (by decide) dX11_moves_27 (fun g27 => ?_) (fun g27 => ?_)
      · refine x_iinc (v := nI (t + 1)) (L' := [_, _, _]) C0 hN rfl (by decide) (nI_inc t) rfl dX11_moves_36 ?_
        refine x_goto (tgt := 4) C0 (by decide) dX11_moves_39 ?_
        have := ih (t + 1) (by omega)
        rw [sSet_no (fun q => q g27)] at this
        exact this
      · refine x_iload_n C0 rfl dX11_moves_30 ?_
        refine x_iconst (v := 1) C0 rfl dX11_moves_31 ?_
        refine x_iload_n C0 rfl dX11_moves_32 ?_
        refine x_ishl C0 dX11_moves_33 ?_
        refine x_ior C0 dX11_moves_34 ?_
        refine x_istore_n (L' := [_, _, _]) C0 hN (by decide) rfl dX11_moves_35 ?_
        refine x_iinc (v := nI (t + 1)) (L' := [_, _, _]) C0 hN rfl (by decide) (nI_inc t) rfl dX11_moves_36 ?_
        refine x_goto (tgt := 4) C0 (by decide) dX11_moves_39 ?_
        have := ih (t + 1) (by omega)
        rw [sSet_yes g27] at this
        exact this
  refine x_iconst (v := 0) C0 rfl dX11_moves_0 ?_
  refine x_istore_n (L' := [_, _, _]) C0 hN (by decide) rfl dX11_moves_1 ?_
  refine x_iconst (v := 0) C0 rfl dX11_moves_2 ?_
  refine x_istore_n (L' := [_, _, _]) C0 hN (by decide) rfl dX11_moves_3 ?_
  exact hloop T 0 (by omega)
theorem c_X12_moves {S : xTS} {R : xTR} {I : xTI} {J : xTJ} {post : xPost} {T N V : Nat} {fl x : xRow} {lw : Option (List (Nat × Nat))} (hM : isModel S R) (C : MCore I fl lw T N V x) (hp : ∀ I', MQs I I' → post (some (.int (aMoves fl x T N))) S R I' J) : xSpec 5 yX12_moves cX12_moves 3 (some .int) 0 0 [.ref 135] S R I J post := by
  refine xSpec_of mt_X12_moves (Nat.le_of_ble_eq_true rfl) (fun G C0 hN hR E hI hZ => ?_)
  change XX G 0 0 0 [some (.ref 135), none, none] [] S R I J
  refine x_aload_n C0 rfl dX12_moves_0 ?_
  refine x_iconst (v := nI 0) C0 rfl dX12_moves_1 ?_
  refine x_putI C0 wf_X12_1 (isModel.k0 hM) rfl dX12_moves_2 ?_
  have q1 := MQs.thrown (I := I) (v := nI 0)
  have C := C.mq q1
  generalize u2 I 135 0 (nI 0) = I1 at q1 C ⊢
  obtain ⟨wl, mF, mL, mH, wx⟩ := id C
  have hT6 := wl.2.1
  have hN8 := wl.2.2.2.1
  have hV6 := wl.2.2.2.2.2.1
  have eT : I1 141 0 = nI T := (mF 0 (by decide)).trans wl.1
  have eN : I1 141 1 = nI N := (mF 1 (by decide)).trans wl.2.2.1
  have eV : I1 141 2 = nI V := (mF 2 (by decide)).trans wl.2.2.2.2.1
  have hb0 : 0 ≤ 2192 := by decide
  unfold aMoves at hp
  have hloop : ∀ n t, t + n = T → XX G 0 0 9 [some (.ref 135), some (.int (sSet (fun t => ¬ sLs fl x 1 (nI t) N = sLs fl x 0 (nI t) N) t)), some (.int (nI t))] [] S R I1 J := by
    intro n
    induction n with
    | zero =>
      intro t hn9
      have hn8 : t = T := by omega
      refine x_iload_n C0 rfl dX12_moves_9 ?_
      refine x_aload_n C0 rfl dX12_moves_10 ?_
      refine x_callV [] C0 hN rfl (xRf_of hR (by decide) (Nat.zero_le _) (Nat.zero_le _)) mv_X12_things wm_X12_297 dX12_moves_11 (isModel.k0 hM) rfl rfl (Nat.le_of_ble_eq_true rfl) (c_X12_things hM ?_)
      refine x_topi eT ?_
      refine x_icmp_ge (tgt := 46) C0 (by decide) dX12_moves_14 (fun _ => ?_) (fun hkk => absurd ((by rw [hn8]; exact Int32.le_refl _)) hkk)
      refine x_iload_n C0 rfl dX12_moves_46 ?_
      refine x_iret C0 E (by decide) (by decide) dX12_moves_47 ?_
      subst hn8
      exact hp I1 q1
    | succ n ih =>
      intro t hn9
      refine x_iload_n C0 rfl dX12_moves_9 ?_
      refine x_aload_n C0 rfl dX12_moves_10 ?_
      refine x_callV [] C0 hN rfl (xRf_of hR (by decide) (Nat.zero_le _) (Nat.zero_le _)) mv_X12_things wm_X12_297 dX12_moves_11 (isModel.k0 hM) rfl rfl (Nat.le_of_ble_eq_true rfl) (c_X12_things hM ?_)
      refine x_topi eT ?_
      refine x_icmp_ge (tgt := 46) C0 (by decide) dX12_moves_14 (fun hkk => absurd hkk (nI_ge (by omega) (by omega))) (fun _ => ?_)
      refine x_iload_n C0 rfl dX12_moves_17 ?_
      refine x_aload_n C0 rfl dX12_moves_18 ?_
      refine x_iload_n C0 rfl dX12_moves_19 ?_
      refine x_callV [_] C0 hN rfl (xRf_of hR (by decide) (Nat.zero_le _) (Nat.zero_le _)) mv_X12_lastSaid wm_X12_381 dX12_moves_20 (isModel.k0 hM) rfl rfl (Nat.le_of_ble_eq_true rfl) (c_X12_lastSaid hM C ?_)
      refine x_aload_n C0 rfl dX12_moves_23 ?_
      refine x_iload_n C0 rfl dX12_moves_24 ?_
      refine x_callV [_] C0 hN rfl (xRf_of hR (by decide) (Nat.zero_le _) (Nat.zero_le _)) mv_X12_lastWritten wm_X12_384 dX12_moves_25 (isModel.k0 hM) rfl rfl (Nat.le_of_ble_eq_true rfl) (c_X12_lastWritten hM C ?_)
      refine x_icmp_eq (tgt := 37) C0 (by decide) dX12_moves_28 (fun g28 => ?_) (fun g28 => ?_)
      · refine x_iconst (v := 0) C0 rfl dX12_moves_37 ?_
        refine x_ior C0 dX12_moves_38 ?_
        refine x_istore_n (L' := [_, _, _]) C0 hN (by decide) rfl dX12_moves_39 ?_
        refine x_iinc (v := nI (t + 1)) (L' := [_, _, _]) C0 hN rfl (by decide) (nI_inc t) rfl dX12_moves_40 ?_
        refine x_goto (tgt := 9) C0 (by decide) dX12_moves_43 ?_
        have := ih (t + 1) (by omega)
        rw [sSet_no (fun q => q g28.symm)] at this
        rw [Int32.or_zero]
        exact this
      · refine x_iconst (v := 1) C0 rfl dX12_moves_31 ?_
        refine x_iload_n C0 rfl dX12_moves_32 ?_
        refine x_ishl C0 dX12_moves_33 ?_
        refine x_goto (tgt := 38) C0 (by decide) dX12_moves_34 ?_
        refine x_ior C0 dX12_moves_38 ?_
        refine x_istore_n (L' := [_, _, _]) C0 hN (by decide) rfl dX12_moves_39 ?_
        refine x_iinc (v := nI (t + 1)) (L' := [_, _, _]) C0 hN rfl (by decide) (nI_inc t) rfl dX12_moves_40 ?_
        refine x_goto (tgt := 9) C0 (by decide) dX12_moves_43 ?_
        have := ih (t + 1) (by omega)
        rw [sSet_yes (fun q => g28 q.symm)] at this
        exact this
  refine x_iconst (v := nI 0) C0 rfl dX12_moves_5 ?_
  refine x_istore_n (L' := [_, _, _]) C0 hN (by decide) rfl dX12_moves_6 ?_
  refine x_iconst (v := nI 0) C0 rfl dX12_moves_7 ?_
  refine x_istore_n (L' := [_, _, _]) C0 hN (by decide) rfl dX12_moves_8 ?_
  exact hloop T 0 (by omega)
