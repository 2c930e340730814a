/-! THE QUESTIONS: couples -/
theorem sh_bv (x : Int32) {w : Nat} (hw : w < 6) : (x >>> (nI w &&& 31)).toBitVec = x.toBitVec.sshiftRight w := by
  have h : ∀ w, w < 6 → ((nI w &&& 31).toBitVec.smod 32#32).toNat = w := by decide +kernel
  rw [Int32.toBitVec_shiftRight]
  show x.toBitVec.sshiftRight ((nI w &&& 31).toBitVec.smod 32#32).toNat = _
  rw [h w hw]
theorem xbit_lsb (x : Int32) {w : Nat} (hw : w < 6) : xbit x w ↔ x.toBitVec.getLsbD w = true := by
  have h1 : (x >>> (nI w &&& 31) &&& 1 = 1) ↔ (x.toBitVec.sshiftRight w &&& 1#32 = 1#32) := by
    rw [← sh_bv x hw]
    constructor
    · intro h
      have := congrArg Int32.toBitVec h
      rw [Int32.toBitVec_and] at this
      exact this
    · intro h
      apply Int32.toBitVec_inj.mp
      rw [Int32.toBitVec_and]
      exact h
  have h2 : (x.toBitVec.sshiftRight w).getLsbD 0 = x.toBitVec.getLsbD w := by
    rw [BitVec.getLsbD_sshiftRight]
    simp
    intro q
    omega
  refine h1.trans ?_
  rw [BitVec.and_one_eq_setWidth_ofBool_getLsbD, h2]
  cases x.toBitVec.getLsbD w <;> simp
theorem one_bit {a w : Nat} (ha : a < 6) (hw : w < 6) : ((1 : Int32) <<< (nI a &&& 31)).toBitVec.getLsbD w = decide (w = a) := by
  have h : ∀ a, a < 6 → ∀ w, w < 6 → ((1 : Int32) <<< (nI a &&& 31)).toBitVec.getLsbD w = decide (w = a) := by decide +kernel
  exact h a ha w hw
theorem xb_or {u : Int32} {a b w : Nat} (ha : a < 6) (hb : b < 6) (hw : w < 6) : xbit (u ||| (((1 : Int32) <<< (nI a &&& 31)) ||| ((1 : Int32) <<< (nI b &&& 31)))) w ↔ xbit u w ∨ w = a ∨ w = b := by
  rw [xbit_lsb _ hw, xbit_lsb _ hw, Int32.toBitVec_or, Int32.toBitVec_or, BitVec.getLsbD_or, BitVec.getLsbD_or, one_bit ha hw, one_bit hb hw]
  simp
theorem xb_out {u : Int32} {a b w : Nat} (ha : a < 6) (hb : b < 6) (hw : w < 6) : xbit (u &&& ((((1 : Int32) <<< (nI a &&& 31)) ||| ((1 : Int32) <<< (nI b &&& 31))) ^^^ (-1))) w ↔ xbit u w ∧ ¬ w = a ∧ ¬ w = b := by
  rw [xbit_lsb _ hw, xbit_lsb _ hw, Int32.toBitVec_and, Int32.toBitVec_xor, Int32.toBitVec_or, BitVec.getLsbD_and, BitVec.getLsbD_xor, BitVec.getLsbD_or, one_bit ha hw, one_bit hb hw, show (-1 : Int32).toBitVec = BitVec.allOnes 32 from rfl, BitVec.getLsbD_allOnes]
  have : w < 32 := by omega
  simp [this]
theorem and_one (p : Int32) : p &&& 1 = 0 ∨ p &&& 1 = 1 := by
  have h : p.toBitVec &&& 1#32 = 0#32 ∨ p.toBitVec &&& 1#32 = 1#32 := by
    rw [BitVec.and_one_eq_setWidth_ofBool_getLsbD]
    cases p.toBitVec.getLsbD 0 <;> simp
  rcases h with h | h
  · exact Or.inl (Int32.toBitVec_inj.mp (by rw [Int32.toBitVec_and]; exact h))
  · exact Or.inr (Int32.toBitVec_inj.mp (by rw [Int32.toBitVec_and]; exact h))
theorem or_one {p q : Int32} : (p ||| q) &&& 1 = 0 ↔ ¬ p &&& 1 = 1 ∧ ¬ q &&& 1 = 1 := by
  rw [i_and_or, i_or_eq]
  have e : ∀ z : Int32, (z &&& 1 = 0 ↔ ¬ z &&& 1 = 1) := fun z => by
    rcases and_one z with h | h
    · rw [h]; decide
    · rw [h]; decide
  rw [e p, e q]
abbrev sAlike (x : xRow) (T a b : Nat) : Prop := ∀ t, t < T → x (20 + 6 * a + t) = x (20 + 6 * b + t)
abbrev cpOk (x : xRow) (T a b : Nat) (u : Int32) : Prop := (¬ xbit u a ∧ ¬ xbit u b) ∧ xbit (x 2) a ∧ xbit (x 2) b ∧ sAlike x T a b
def cpR (x : xRow) (T a : Nat) (s : Int32 × Nat) : Nat → Int32 × Nat
  | 0 => s
  | m + 1 => if cpOk x T a (a + 1 + m) (cpR x T a s m).1 then ((cpR x T a s m).1 ||| (((1 : Int32) <<< (nI a &&& 31)) ||| ((1 : Int32) <<< (nI (a + 1 + m) &&& 31))), (cpR x T a s m).2 + 1) else cpR x T a s m
theorem cpR_yes {x : xRow} {T a m : Nat} {s : Int32 × Nat} (h : cpOk x T a (a + 1 + m) (cpR x T a s m).1) : cpR x T a s (m + 1) = ((cpR x T a s m).1 ||| (((1 : Int32) <<< (nI a &&& 31)) ||| ((1 : Int32) <<< (nI (a + 1 + m) &&& 31))), (cpR x T a s m).2 + 1) := by conv => lhs; unfold cpR; rw [if_pos h]
theorem cpR_no {x : xRow} {T a m : Nat} {s : Int32 × Nat} (h : ¬ cpOk x T a (a + 1 + m) (cpR x T a s m).1) : cpR x T a s (m + 1) = cpR x T a s m := by conv => lhs; unfold cpR; rw [if_neg h]
theorem cpR_all {x : xRow} {T a : Nat} {s : Int32 × Nat} : ∀ m, (∀ k, k < m → ¬ cpOk x T a (a + 1 + k) s.1) → cpR x T a s m = s
  | 0, _ => rfl
  | m + 1, h => by
    have ih := cpR_all (x := x) (T := T) (a := a) (s := s) m (fun k hk => h k (by omega))
    rw [cpR_no (by rw [ih]; exact h m (by omega)), ih]
theorem cpR_stay {x : xRow} {T a m : Nat} {s : Int32 × Nat} (hx : xbit (cpR x T a s m).1 a) : ∀ k, cpR x T a s (m + k) = cpR x T a s m
  | 0 => rfl
  | k + 1 => by
    have ih := cpR_stay hx k
    rw [← Nat.add_assoc, cpR_no (by rw [ih]; exact fun q => q.1.1 hx), ih]
def cpA (x : xRow) (T V : Nat) : Nat → Int32 × Nat
  | 0 => (0, 0)
  | a + 1 => cpR x T a (cpA x T V a) (V - 1 - a)
def aCouples (x : xRow) (T V : Nat) : Int32 := nI (cpA x T V V).2
theorem c_X11_alike {S : xTS} {R : xTR} {I : xTI} {J : xTJ} {post : xPost} {f T N V : Nat} {fl x : xRow} {lw : Option (List (Nat × Nat))} (hS : fixd S R) (hf : R 0 2 = some f) (C : FCore I f fl lw T N V x) {a b : Nat} (ha : a < 6) (hb : b < 6) (h1 : sAlike x T a b → post (some (.int 1)) S R I J) (h0 : ¬ sAlike x T a b → post (some (.int 0)) S R I J) : xSpec 2 yX11_alike cX11_alike 4 (some .boolean) 0 0 [.ref 0, .int (nI a), .int (nI b)] S R I J post := by
  refine xSpec_of mt_X11_alike (Nat.le_of_ble_eq_true rfl) (fun G C0 hN hR E hI hZ => ?_)
  change XX G 0 0 0 [some (.ref 0), some (.int (nI a)), some (.int (nI b)), none] [] S R I J
  obtain ⟨hfm, wl, rF, rH, wx⟩ := id C
  have hF := hS.film hfm
  have hH := hS.hall (q := 33) (by decide)
  have hT6 := wl.2.1
  have hN8 := wl.2.2.2.1
  have hV6 := wl.2.2.2.2.2.1
  have eT : I f 0 = nI T := rF.1.trans wl.1
  have eN : I f 1 = nI N := rF.2.1.trans wl.2.2.1
  have eV : I f 2 = nI V := rF.2.2.1.trans wl.2.2.2.2.1
  have hfh : ∀ i j, i < 9 → j < 4 → f + i ≠ 33 + j := fun i j hi hj => hf_apart 33 (by decide) f hfm i hi j hj
  obtain ⟨fs0, fs1, fs2, fs3, fs4, fs5, fs6, fs7, fs8, fr4, fr5, fr6, fr7, fr8, fr9, fr10, fr11⟩ := id hF
  obtain ⟨hs0, hs1, hs2, hs3, hr4, hr5, hr6⟩ := id hH
  have hloop : ∀ n t, t + n = T → (∀ s, s < t → x (20 + 6 * a + s) = x (20 + 6 * b + s)) → XX G 0 0 2 [some (.ref 0), some (.int (nI a)), some (.int (nI b)), some (.int (nI t))] [] S R I J := by
    intro n
    induction n with
    | zero =>
      intro t hn9 hq
      have hn8 : t = T := by omega
      subst hn8
      refine x_iload_n C0 rfl dX11_alike_2 ?_
      refine x_aload_n C0 rfl dX11_alike_3 ?_
      refine x_getR C0 wf_X11_26 (fixd.k0 hS) rfl rfl hf dX11_alike_4 ?_
      refine x_getI C0 wf_X11_280 (by assumption) rfl dX11_alike_7 ?_
      refine x_topi eT ?_
      refine x_icmp_ge (tgt := 42) C0 (by decide) dX11_alike_10 (fun _ => ?_) (fun hkk => absurd ((Int32.le_refl _)) hkk)
      refine x_iconst (v := 1) C0 rfl dX11_alike_42 ?_
      refine x_zret C0 E (by decide) (by decide) rfl dX11_alike_43 ?_
      exact h1 hq
    | succ n ih =>
      intro t hn9 hq
      refine x_iload_n C0 rfl dX11_alike_2 ?_
      refine x_aload_n C0 rfl dX11_alike_3 ?_
      refine x_getR C0 wf_X11_26 (fixd.k0 hS) rfl rfl hf dX11_alike_4 ?_
      refine x_getI C0 wf_X11_280 (by assumption) rfl dX11_alike_7 ?_
      refine x_topi eT ?_
      refine x_icmp_ge (tgt := 42) C0 (by decide) dX11_alike_10 (fun hkk => absurd hkk (nI_ge (by omega) (by omega))) (fun _ => ?_)
      refine x_aload_n C0 rfl dX11_alike_13 ?_
      refine x_getR C0 wf_X11_46 (fixd.k0 hS) rfl rfl (fixd.now hS) dX11_alike_14 ?_
      refine x_iload_n C0 rfl dX11_alike_17 ?_
      refine x_iload_n C0 rfl dX11_alike_18 ?_
      refine x_callV [_, _] C0 hN rfl (xRf_of hR (by decide) (Nat.zero_le _) (Nat.zero_le _)) mv_X3_thought wm_X11_172 dX11_alike_19 (by assumption) rfl rfl (Nat.le_of_ble_eq_true rfl) (c_X3_thought hH (by omega) (by omega) ?_)
      refine x_topi (th_at rH (by omega) (by omega)) ?_
      refine x_aload_n C0 rfl dX11_alike_22 ?_
      refine x_getR C0 wf_X11_46 (fixd.k0 hS) rfl rfl (fixd.now hS) dX11_alike_23 ?_
      refine x_iload_n C0 rfl dX11_alike_26 ?_
      refine x_iload_n C0 rfl dX11_alike_27 ?_
      refine x_callV [_, _] C0 hN rfl (xRf_of hR (by decide) (Nat.zero_le _) (Nat.zero_le _)) mv_X3_thought wm_X11_172 dX11_alike_28 (by assumption) rfl rfl (Nat.le_of_ble_eq_true rfl) (c_X3_thought hH (by omega) (by omega) ?_)
      refine x_topi (th_at rH (by omega) (by omega)) ?_
      refine x_icmp_eq (tgt := 36) C0 (by decide) dX11_alike_31 (fun g31 => ?_) (fun g31 => ?_)
      · refine x_iinc (v := nI (t + 1)) (L' := [_, _, _, _]) C0 hN rfl (by decide) (nI_inc t) rfl dX11_alike_36 ?_
        refine x_goto (tgt := 2) C0 (by decide) dX11_alike_39 ?_
        exact ih (t + 1) (by omega) (fun s hs => by
          rcases Nat.lt_or_ge s t with g | g
          · exact hq s g
          · have e : s = t := by omega
            subst e
            exact g31)
      · refine x_iconst (v := 0) C0 rfl dX11_alike_34 ?_
        refine x_zret C0 E (by decide) (by decide) rfl dX11_alike_35 ?_
        exact h0 (fun z => g31 (z t (by omega)))
  refine x_iconst (v := 0) C0 rfl dX11_alike_0 ?_
  refine x_istore_n (L' := [_, _, _, _]) C0 hN (by decide) rfl dX11_alike_1 ?_
  exact hloop T 0 (by omega) (fun s hs => absurd hs (by omega))
theorem c_X12_areAlike {S : xTS} {R : xTR} {I : xTI} {J : xTJ} {post : xPost} {T N V : Nat} {fl x : xRow} {lw : Option (List (Nat × Nat))} (hM : isModel S R) (C : MCore I fl lw T N V x) {a b : Nat} (ha : a < 6) (hb : b < 6) (h1 : sAlike x T a b → post (some (.int 1)) S R I J) (h0 : ¬ sAlike x T a b → post (some (.int 0)) S R I J) : xSpec 2 yX12_areAlike cX12_areAlike 5 (some .boolean) 0 0 [.ref 135, .int (nI a), .int (nI b)] S R I J post := by
  refine xSpec_of mt_X12_areAlike (Nat.le_of_ble_eq_true rfl) (fun G C0 hN hR E hI hZ => ?_)
  change XX G 0 0 0 [some (.ref 135), some (.int (nI a)), some (.int (nI b)), none, none] [] S R I J
  obtain ⟨wl, mF, mL, mH, wx⟩ := id C
  have hT6 := wl.2.1
  have hN8 := wl.2.2.2.1
  have hV6 := wl.2.2.2.2.2.1
  have eT : I 141 0 = nI T := (mF 0 (by decide)).trans wl.1
  have eN : I 141 1 = nI N := (mF 1 (by decide)).trans wl.2.2.1
  have eV : I 141 2 = nI V := (mF 2 (by decide)).trans wl.2.2.2.2.1
  have hb0 : 0 ≤ 2192 := by decide
  have hloop : ∀ n t v, t + n = T → ((v = nI 1 ∧ ∀ s, s < t → x (20 + 6 * a + s) = x (20 + 6 * b + s)) ∨ (v = nI 0 ∧ ¬ ∀ s, s < t → x (20 + 6 * a + s) = x (20 + 6 * b + s))) → XX G 0 0 5 [some (.ref 135), some (.int (nI a)), some (.int (nI b)), some (.int v), some (.int (nI t))] [] S R I J := by
    intro n
    induction n with
    | zero =>
      intro t v hn9 hv
      have hn8 : t = T := by omega
      subst hn8
      rcases hv with ⟨rfl, q⟩ | ⟨rfl, q⟩
      · refine x_iload C0 rfl dX12_areAlike_5 ?_
        refine x_aload_n C0 rfl dX12_areAlike_7 ?_
        refine x_callV [] C0 hN rfl (xRf_of hR (by decide) (Nat.zero_le _) (Nat.zero_le _)) mv_X12_things wm_X12_297 dX12_areAlike_8 (isModel.k0 hM) rfl rfl (Nat.le_of_ble_eq_true rfl) (c_X12_things hM ?_)
        refine x_topi eT ?_
        refine x_icmp_ge (tgt := 49) C0 (by decide) dX12_areAlike_11 (fun _ => ?_) (fun hkk => absurd ((Int32.le_refl _)) hkk)
        refine x_iload_n C0 rfl dX12_areAlike_49 ?_
        refine x_zret C0 E (by decide) (by decide) rfl dX12_areAlike_50 ?_
        exact h1 q
      · refine x_iload C0 rfl dX12_areAlike_5 ?_
        refine x_aload_n C0 rfl dX12_areAlike_7 ?_
        refine x_callV [] C0 hN rfl (xRf_of hR (by decide) (Nat.zero_le _) (Nat.zero_le _)) mv_X12_things wm_X12_297 dX12_areAlike_8 (isModel.k0 hM) rfl rfl (Nat.le_of_ble_eq_true rfl) (c_X12_things hM ?_)
        refine x_topi eT ?_
        refine x_icmp_ge (tgt := 49) C0 (by decide) dX12_areAlike_11 (fun _ => ?_) (fun hkk => absurd ((Int32.le_refl _)) hkk)
        refine x_iload_n C0 rfl dX12_areAlike_49 ?_
        refine x_zret C0 E (by decide) (by decide) rfl dX12_areAlike_50 ?_
        exact h0 q
    | succ n ih =>
      intro t v hn9 hv
      rcases hv with ⟨rfl, q⟩ | ⟨rfl, q⟩
      · refine x_iload C0 rfl dX12_areAlike_5 ?_
        refine x_aload_n C0 rfl dX12_areAlike_7 ?_
        refine x_callV [] C0 hN rfl (xRf_of hR (by decide) (Nat.zero_le _) (Nat.zero_le _)) mv_X12_things wm_X12_297 dX12_areAlike_8 (isModel.k0 hM) rfl rfl (Nat.le_of_ble_eq_true rfl) (c_X12_things hM ?_)
        refine x_topi eT ?_
        refine x_icmp_ge (tgt := 49) C0 (by decide) dX12_areAlike_11 (fun hkk => absurd hkk (nI_ge (by omega) (by omega))) (fun _ => ?_)
        refine x_iload_n C0 rfl dX12_areAlike_14 ?_
        refine x_if_eq (tgt := 41) C0 (by decide) dX12_areAlike_15 (fun hkk => absurd hkk (by decide)) (fun _ => ?_)
        refine x_aload_n C0 rfl dX12_areAlike_18 ?_
        refine x_iconst (v := nI 0) C0 rfl dX12_areAlike_19 ?_
        refine x_iload_n C0 rfl dX12_areAlike_20 ?_
        refine x_iload C0 rfl dX12_areAlike_21 ?_
        refine x_callV [_, _, _] C0 hN rfl (xRf_of hR (by decide) (Nat.zero_le _) (Nat.zero_le _)) mv_X12_thoughtOf wm_X12_325 dX12_areAlike_23 (isModel.k0 hM) rfl rfl (Nat.le_of_ble_eq_true rfl) (c_X12_thoughtOf hM hb0 (by omega) (by omega) ?_)
        refine x_topi (mth_at mH (by omega) (by omega)) ?_
        refine x_aload_n C0 rfl dX12_areAlike_26 ?_
        refine x_iconst (v := nI 0) C0 rfl dX12_areAlike_27 ?_
        refine x_iload_n C0 rfl dX12_areAlike_28 ?_
        refine x_iload C0 rfl dX12_areAlike_29 ?_
        refine x_callV [_, _, _] C0 hN rfl (xRf_of hR (by decide) (Nat.zero_le _) (Nat.zero_le _)) mv_X12_thoughtOf wm_X12_325 dX12_areAlike_31 (isModel.k0 hM) rfl rfl (Nat.le_of_ble_eq_true rfl) (c_X12_thoughtOf hM hb0 (by omega) (by omega) ?_)
        refine x_topi (mth_at mH (by omega) (by omega)) ?_
        refine x_icmp_ne (tgt := 41) C0 (by decide) dX12_areAlike_34 (fun g34 => ?_) (fun g34 => ?_)
        · refine x_iconst (v := nI 0) C0 rfl dX12_areAlike_41 ?_
          refine x_istore_n (L' := [_, _, _, _, _]) C0 hN (by decide) rfl dX12_areAlike_42 ?_
          refine x_iinc (v := nI (t + 1)) (L' := [_, _, _, _, _]) C0 hN rfl (by decide) (nI_inc t) rfl dX12_areAlike_43 ?_
          refine x_goto (tgt := 5) C0 (by decide) dX12_areAlike_46 ?_
          exact ih (t + 1) _ (by omega) (Or.inr ⟨rfl, fun z => g34 (z t (by omega))⟩)
        · refine x_iconst (v := nI 1) C0 rfl dX12_areAlike_37 ?_
          refine x_goto (tgt := 42) C0 (by decide) dX12_areAlike_38 ?_
          refine x_istore_n (L' := [_, _, _, _, _]) C0 hN (by decide) rfl dX12_areAlike_42 ?_
          refine x_iinc (v := nI (t + 1)) (L' := [_, _, _, _, _]) C0 hN rfl (by decide) (nI_inc t) rfl dX12_areAlike_43 ?_
          refine x_goto (tgt := 5) C0 (by decide) dX12_areAlike_46 ?_
          exact ih (t + 1) _ (by omega) (Or.inl ⟨rfl, fun s hs => by
            rcases Nat.lt_or_ge s t with g | g
            · exact q s g
            · have e : s = t := by omega
              subst e
              exact g34⟩)
      · refine x_iload C0 rfl dX12_areAlike_5 ?_
        refine x_aload_n C0 rfl dX12_areAlike_7 ?_
        refine x_callV [] C0 hN rfl (xRf_of hR (by decide) (Nat.zero_le _) (Nat.zero_le _)) mv_X12_things wm_X12_297 dX12_areAlike_8 (isModel.k0 hM) rfl rfl (Nat.le_of_ble_eq_true rfl) (c_X12_things hM ?_)
        refine x_topi eT ?_
        refine x_icmp_ge (tgt := 49) C0 (by decide) dX12_areAlike_11 (fun hkk => absurd hkk (nI_ge (by omega) (by omega))) (fun _ => ?_)
        refine x_iload_n C0 rfl dX12_areAlike_14 ?_
        refine x_if_eq (tgt := 41) C0 (by decide) dX12_areAlike_15 (fun _ => ?_) (fun hkk => absurd (by decide) hkk)
        refine x_iconst (v := nI 0) C0 rfl dX12_areAlike_41 ?_
        refine x_istore_n (L' := [_, _, _, _, _]) C0 hN (by decide) rfl dX12_areAlike_42 ?_
        refine x_iinc (v := nI (t + 1)) (L' := [_, _, _, _, _]) C0 hN rfl (by decide) (nI_inc t) rfl dX12_areAlike_43 ?_
        refine x_goto (tgt := 5) C0 (by decide) dX12_areAlike_46 ?_
        exact ih (t + 1) _ (by omega) (Or.inr ⟨rfl, fun z => q (fun s hs => z s (by omega))⟩)
  refine x_iconst (v := nI 1) C0 rfl dX12_areAlike_0 ?_
  refine x_istore_n (L' := [_, _, _, _, _]) C0 hN (by decide) rfl dX12_areAlike_1 ?_
  refine x_iconst (v := nI 0) C0 rfl dX12_areAlike_2 ?_
  refine x_istore (L' := [_, _, _, _, _]) C0 hN (by decide) rfl dX12_areAlike_3 ?_
  exact hloop T 0 _ (by omega) (Or.inl ⟨rfl, fun s hs => absurd hs (by omega)⟩)
theorem c_X11_partner {S : xTS} {R : xTR} {I : xTI} {J : xTJ} {post : xPost} {f T N V : Nat} {fl x : xRow} {lw : Option (List (Nat × Nat))} (hS : fixd S R) (hf : R 0 2 = some f) (C : FCore I f fl lw T N V x) {a : Nat} {l : Int32} (ha : a < V) (h1 : ∀ m, a + 1 + m < V → (∀ k, k < m → ¬ (xbit l (a + 1 + k) ∧ sAlike x T a (a + 1 + k))) → xbit l (a + 1 + m) → sAlike x T a (a + 1 + m) → post (some (.int (nI (a + 1 + m)))) S R I J) (h0 : (∀ k, a + 1 + k < V → ¬ (xbit l (a + 1 + k) ∧ sAlike x T a (a + 1 + k))) → post (some (.int (-1))) S R I J) : xSpec 3 yX11_partner cX11_partner 4 (some .int) 0 0 [.ref 0, .int (nI a), .int l] S R I J post := by
  refine xSpec_of mt_X11_partner (Nat.le_of_ble_eq_true rfl) (fun G C0 hN hR E hI hZ => ?_)
  change XX G 0 0 0 [some (.ref 0), some (.int (nI a)), some (.int l), none] [] S R I J
  obtain ⟨hfm, wl, rF, rH, wx⟩ := id C
  have hF := hS.film hfm
  have hH := hS.hall (q := 33) (by decide)
  have hT6 := wl.2.1
  have hN8 := wl.2.2.2.1
  have hV6 := wl.2.2.2.2.2.1
  have eT : I f 0 = nI T := rF.1.trans wl.1
  have eN : I f 1 = nI N := rF.2.1.trans wl.2.2.1
  have eV : I f 2 = nI V := rF.2.2.1.trans wl.2.2.2.2.1
  have hfh : ∀ i j, i < 9 → j < 4 → f + i ≠ 33 + j := fun i j hi hj => hf_apart 33 (by decide) f hfm i hi j hj
  obtain ⟨fs0, fs1, fs2, fs3, fs4, fs5, fs6, fs7, fs8, fr4, fr5, fr6, fr7, fr8, fr9, fr10, fr11⟩ := id hF
  obtain ⟨hs0, hs1, hs2, hs3, hr4, hr5, hr6⟩ := id hH
  have hloop : ∀ n m, a + 1 + m + n = V → (∀ k, k < m → ¬ (xbit l (a + 1 + k) ∧ sAlike x T a (a + 1 + k))) → XX G 0 0 4 [some (.ref 0), some (.int (nI a)), some (.int l), some (.int (nI (a + 1 + m)))] [] S R I J := by
    intro n
    induction n with
    | zero =>
      intro m hn9 hq
      have hn8 : a + 1 + m = V := by omega
      refine x_iload_n C0 rfl dX11_partner_4 ?_
      refine x_aload_n C0 rfl dX11_partner_5 ?_
      refine x_getR C0 wf_X11_26 (fixd.k0 hS) rfl rfl hf dX11_partner_6 ?_
      refine x_getI C0 wf_X11_289 (by assumption) rfl dX11_partner_9 ?_
      refine x_topi eV ?_
      refine x_icmp_ge (tgt := 41) C0 (by decide) dX11_partner_12 (fun _ => ?_) (fun hkk => absurd ((by rw [hn8]; exact Int32.le_refl _)) hkk)
      refine x_iconst (v := -1) C0 rfl dX11_partner_41 ?_
      refine x_iret C0 E (by decide) (by decide) dX11_partner_42 ?_
      exact h0 (fun k hk => hq k (by omega))
    | succ n ih =>
      intro m hn9 hq
      refine x_iload_n C0 rfl dX11_partner_4 ?_
      refine x_aload_n C0 rfl dX11_partner_5 ?_
      refine x_getR C0 wf_X11_26 (fixd.k0 hS) rfl rfl hf dX11_partner_6 ?_
      refine x_getI C0 wf_X11_289 (by assumption) rfl dX11_partner_9 ?_
      refine x_topi eV ?_
      refine x_icmp_ge (tgt := 41) C0 (by decide) dX11_partner_12 (fun hkk => absurd hkk (nI_ge (by omega) (by omega))) (fun _ => ?_)
      refine x_iload_n C0 rfl dX11_partner_15 ?_
      refine x_iload_n C0 rfl dX11_partner_16 ?_
      refine x_ishr C0 dX11_partner_17 ?_
      refine x_iconst (v := 1) C0 rfl dX11_partner_18 ?_
      refine x_iand C0 dX11_partner_19 ?_
      refine x_iconst (v := 1) C0 rfl dX11_partner_20 ?_
      refine x_icmp_ne (tgt := 35) C0 (by decide) dX11_partner_21 (fun g21 => ?_) (fun g21 => ?_)
      · refine x_iinc (v := nI (a + 1 + m + 1)) (L' := [_, _, _, _]) C0 hN rfl (by decide) (nI_inc _) rfl dX11_partner_35 ?_
        refine x_goto (tgt := 4) C0 (by decide) dX11_partner_38 ?_
        exact ih (m + 1) (by omega) (fun k hk => by
          rcases Nat.lt_or_ge k m with g | g
          · exact hq k g
          · have e : k = m := by omega
            subst e
            exact fun z => g21 z.1)
      · refine x_aload_n C0 rfl dX11_partner_24 ?_
        refine x_iload_n C0 rfl dX11_partner_25 ?_
        refine x_iload_n C0 rfl dX11_partner_26 ?_
        refine x_callV [_, _] C0 hN rfl (xRf_of hR (by decide) (Nat.zero_le _) (Nat.zero_le _)) mv_X11_alike wm_X11_301 dX11_partner_27 (fixd.k0 hS) rfl rfl (Nat.le_of_ble_eq_true rfl) (c_X11_alike hS hf C (by omega) (by omega) (fun g27 => ?_) (fun g27 => ?_))
        · refine x_if_eq (tgt := 35) C0 (by decide) dX11_partner_30 (fun hkk => absurd hkk (by decide)) (fun _ => ?_)
          refine x_iload_n C0 rfl dX11_partner_33 ?_
          refine x_iret C0 E (by decide) (by decide) dX11_partner_34 ?_
          exact h1 m (by omega) hq (by first | exact g21 | exact Classical.not_not.mp g21) g27
        · refine x_if_eq (tgt := 35) C0 (by decide) dX11_partner_30 (fun _ => ?_) (fun hkk => absurd (by decide) hkk)
          refine x_iinc (v := nI (a + 1 + m + 1)) (L' := [_, _, _, _]) C0 hN rfl (by decide) (nI_inc _) rfl dX11_partner_35 ?_
          refine x_goto (tgt := 4) C0 (by decide) dX11_partner_38 ?_
          exact ih (m + 1) (by omega) (fun k hk => by
            rcases Nat.lt_or_ge k m with g | g
            · exact hq k g
            · have e : k = m := by omega
              subst e
              exact fun z => g27 z.2)
  refine x_iload_n C0 rfl dX11_partner_0 ?_
  refine x_iconst (v := 1) C0 rfl dX11_partner_1 ?_
  refine x_iadd C0 dX11_partner_2 ?_
  refine x_topi (show nI a + 1 = nI (a + 1) from (nI_succ a).symm) ?_
  refine x_istore_n (L' := [_, _, _, _]) C0 hN (by decide) rfl dX11_partner_3 ?_
  exact hloop (V - 1 - a) 0 (by omega) (fun k hk => absurd hk (by omega))
theorem c_X11_couples {S : xTS} {R : xTR} {I : xTI} {J : xTJ} {post : xPost} {f T N V : Nat} {fl x : xRow} {lw : Option (List (Nat × Nat))} (hS : fixd S R) (hf : R 0 2 = some f) (C : FCore I f fl lw T N V x) (hp : ∀ I', FQ I I' → post (some (.int (aCouples x T V))) S R I' J) : xSpec 4 yX11_couples cX11_couples 5 (some .int) 0 0 [.ref 0] S R I J post := by
  refine xSpec_of mt_X11_couples (Nat.le_of_ble_eq_true rfl) (fun G C0 hN hR E hI hZ => ?_)
  change XX G 0 0 0 [some (.ref 0), none, none, none, none] [] S R I J
  obtain ⟨hfm, wl, rF, rH, wx⟩ := id C
  have hF := hS.film hfm
  have hH := hS.hall (q := 33) (by decide)
  have hT6 := wl.2.1
  have hN8 := wl.2.2.2.1
  have hV6 := wl.2.2.2.2.2.1
  have eT : I f 0 = nI T := rF.1.trans wl.1
  have eN : I f 1 = nI N := rF.2.1.trans wl.2.2.1
  have eV : I f 2 = nI V := rF.2.2.1.trans wl.2.2.2.2.1
  have hfh : ∀ i j, i < 9 → j < 4 → f + i ≠ 33 + j := fun i j hi hj => hf_apart 33 (by decide) f hfm i hi j hj
  obtain ⟨fs0, fs1, fs2, fs3, fs4, fs5, fs6, fs7, fs8, fr4, fr5, fr6, fr7, fr8, fr9, fr10, fr11⟩ := id hF
  obtain ⟨hs0, hs1, hs2, hs3, hr4, hr5, hr6⟩ := id hH
  unfold aCouples at hp
  have hloop : ∀ n a l v4, a + n = V → (∀ w, w < 6 → (xbit l w ↔ xbit (x 2) w ∧ ¬ xbit (cpA x T V a).1 w)) → XX G 0 0 12 [some (.ref 0), some (.int (nI (cpA x T V a).2)), some (.int l), some (.int (nI a)), v4] [] S R I J := by
    intro n
    induction n with
    | zero =>
      intro a l v4 hn9 hl
      have hn8 : a = V := by omega
      subst hn8
      refine x_iload_n C0 rfl dX11_couples_12 ?_
      refine x_aload_n C0 rfl dX11_couples_13 ?_
      refine x_getR C0 wf_X11_26 (fixd.k0 hS) rfl rfl hf dX11_couples_14 ?_
      refine x_getI C0 wf_X11_289 (by assumption) rfl dX11_couples_17 ?_
      refine x_topi eV ?_
      refine x_icmp_ge (tgt := 72) C0 (by decide) dX11_couples_20 (fun _ => ?_) (fun hkk => absurd ((Int32.le_refl _)) hkk)
      refine x_iload_n C0 rfl dX11_couples_72 ?_
      refine x_iret C0 E (by decide) (by decide) dX11_couples_73 ?_
      exact hp I FQ.rf
    | succ n ih =>
      intro a l v4 hn9 hl
      have hnone : (∀ k, a + 1 + k < V → ¬ cpOk x T a (a + 1 + k) (cpA x T V a).1) → XX G 0 0 42 [some (.ref 0), some (.int (nI (cpA x T V a).2)), some (.int l), some (.int (nI a)), v4] [.int (-1)] S R I J := by
        intro hno
        have e : cpA x T V (a + 1) = cpA x T V a := cpR_all _ (fun k hk => hno k (by omega))
        refine x_istore (L' := [_, _, _, _, _]) C0 hN (by decide) rfl dX11_couples_42 ?_
        refine x_iload C0 rfl dX11_couples_44 ?_
        refine x_iconst (v := -1) C0 rfl dX11_couples_46 ?_
        refine x_icmp_eq (tgt := 66) C0 (by decide) dX11_couples_47 (fun _ => ?_) (fun hkk => absurd (rfl) hkk)
        refine x_iinc (v := nI (a + 1)) (L' := [_, _, _, _, _]) C0 hN rfl (by decide) (nI_inc a) rfl dX11_couples_66 ?_
        refine x_goto (tgt := 12) C0 (by decide) dX11_couples_69 ?_
        have := ih (a + 1) l (some (.int (-1))) (by omega) (by rw [e]; exact hl)
        rw [e] at this
        exact this
      have hsome : xbit l a → ∀ m, a + 1 + m < V → (∀ k, k < m → ¬ (xbit l (a + 1 + k) ∧ sAlike x T a (a + 1 + k))) → xbit l (a + 1 + m) → sAlike x T a (a + 1 + m) → XX G 0 0 42 [some (.ref 0), some (.int (nI (cpA x T V a).2)), some (.int l), some (.int (nI a)), v4] [.int (nI (a + 1 + m))] S R I J := by
        intro hla m hm hno hlb hal
        have e1 : cpR x T a (cpA x T V a) m = cpA x T V a := cpR_all m (fun k hk z => hno k hk ⟨(hl _ (by omega)).mpr ⟨z.2.2.1, z.1.2⟩, z.2.2.2⟩)
        have qa := (hl a (by omega)).mp hla
        have qb := (hl (a + 1 + m) (by omega)).mp hlb
        have e2 := cpR_yes (x := x) (T := T) (a := a) (m := m) (s := cpA x T V a) (by rw [e1]; exact ⟨⟨qa.2, qb.2⟩, qa.1, qb.1, hal⟩)
        rw [e1] at e2
        have e3 : cpA x T V (a + 1) = cpR x T a (cpA x T V a) (m + 1) := by
          have := cpR_stay (x := x) (T := T) (a := a) (m := m + 1) (s := cpA x T V a) (by rw [e2]; exact (xb_or (by omega) (by omega) (by omega)).mpr (Or.inr (Or.inl rfl))) (V - 1 - a - (m + 1))
          rw [show m + 1 + (V - 1 - a - (m + 1)) = V - 1 - a by omega] at this
          exact this
        rw [e2] at e3
        have h47 : ¬ nI (a + 1 + m) = -1 := fun q => by
          have := nI_pos' (n := a + 1 + m) (by omega)
          rw [q] at this
          exact absurd this (by decide)
        refine x_istore (L' := [_, _, _, _, _]) C0 hN (by decide) rfl dX11_couples_42 ?_
        refine x_iload C0 rfl dX11_couples_44 ?_
        refine x_iconst (v := -1) C0 rfl dX11_couples_46 ?_
        refine x_icmp_eq (tgt := 66) C0 (by decide) dX11_couples_47 (fun hkk => absurd hkk (h47)) (fun _ => ?_)
        refine x_iload_n C0 rfl dX11_couples_50 ?_
        refine x_iconst (v := 1) C0 rfl dX11_couples_51 ?_
        refine x_iload_n C0 rfl dX11_couples_52 ?_
        refine x_ishl C0 dX11_couples_53 ?_
        refine x_iconst (v := 1) C0 rfl dX11_couples_54 ?_
        refine x_iload C0 rfl dX11_couples_55 ?_
        refine x_ishl C0 dX11_couples_57 ?_
        refine x_ior C0 dX11_couples_58 ?_
        refine x_iconst (v := -1) C0 rfl dX11_couples_59 ?_
        refine x_ixor C0 dX11_couples_60 ?_
        refine x_iand C0 dX11_couples_61 ?_
        refine x_istore_n (L' := [_, _, _, _, _]) C0 hN (by decide) rfl dX11_couples_62 ?_
        refine x_iinc (v := nI ((cpA x T V a).2 + 1)) (L' := [_, _, _, _, _]) C0 hN rfl (by decide) (nI_inc _) rfl dX11_couples_63 ?_
        refine x_iinc (v := nI (a + 1)) (L' := [_, _, _, _, _]) C0 hN rfl (by decide) (nI_inc a) rfl dX11_couples_66 ?_
        refine x_goto (tgt := 12) C0 (by decide) dX11_couples_69 ?_
        have := ih (a + 1) (l &&& ((((1 : Int32) <<< (nI a &&& 31)) ||| ((1 : Int32) <<< (nI (a + 1 + m) &&& 31))) ^^^ (-1))) (some (.int (nI (a + 1 + m)))) (by omega) (fun w hw => by
          rw [e3, xb_out (by omega) (by omega) hw, xb_or (by omega) (by omega) hw, hl w hw]
          constructor
          · rintro ⟨⟨z1, z2⟩, z3, z4⟩
            exact ⟨z1, fun q => q.elim z2 (fun q => q.elim z3 z4)⟩
          · rintro ⟨z1, z2⟩
            exact ⟨⟨z1, fun q => z2 (Or.inl q)⟩, fun q => z2 (Or.inr (Or.inl q)), fun q => z2 (Or.inr (Or.inr q))⟩)
        rw [e3] at this
        exact this
      have hstart : xbit l a → XX G 0 0 32 [some (.ref 0), some (.int (nI (cpA x T V a).2)), some (.int l), some (.int (nI a)), v4] [] S R I J := by
        intro hla
        refine x_aload_n C0 rfl dX11_couples_32 ?_
        refine x_iload_n C0 rfl dX11_couples_33 ?_
        refine x_iload_n C0 rfl dX11_couples_34 ?_
        refine x_callV [_, _] C0 hN rfl (xRf_of hR (by decide) (Nat.zero_le _) (Nat.zero_le _)) mv_X11_partner wm_X11_298 dX11_couples_35 (fixd.k0 hS) rfl rfl (Nat.le_of_ble_eq_true rfl) (c_X11_partner hS hf C (by omega) (fun m hm hno hlb hal => ?_) (fun hno => ?_))
        · refine x_goto (tgt := 42) C0 (by decide) dX11_couples_38 ?_
          exact hsome hla m hm hno hlb hal
        · refine x_goto (tgt := 42) C0 (by decide) dX11_couples_38 ?_
          exact hnone (fun k hk z => hno k hk ⟨(hl _ (by omega)).mpr ⟨z.2.2.1, z.1.2⟩, z.2.2.2⟩)
      refine x_iload_n C0 rfl dX11_couples_12 ?_
      refine x_aload_n C0 rfl dX11_couples_13 ?_
      refine x_getR C0 wf_X11_26 (fixd.k0 hS) rfl rfl hf dX11_couples_14 ?_
      refine x_getI C0 wf_X11_289 (by assumption) rfl dX11_couples_17 ?_
      refine x_topi eV ?_
      refine x_icmp_ge (tgt := 72) C0 (by decide) dX11_couples_20 (fun hkk => absurd hkk (nI_ge (by omega) (by omega))) (fun _ => ?_)
      refine x_iload_n C0 rfl dX11_couples_23 ?_
      refine x_iload_n C0 rfl dX11_couples_24 ?_
      refine x_ishr C0 dX11_couples_25 ?_
      refine x_iconst (v := 1) C0 rfl dX11_couples_26 ?_
      refine x_iand C0 dX11_couples_27 ?_
      refine x_iconst (v := 1) C0 rfl dX11_couples_28 ?_
      refine x_icmp_ne (tgt := 41) C0 (by decide) dX11_couples_29 (fun g29 => ?_) (fun g29 => ?_)
      · refine x_iconst (v := -1) C0 rfl dX11_couples_41 ?_
        exact hnone (fun k hk z => g29 ((hl a (by omega)).mpr ⟨z.2.1, z.1.1⟩))
      · exact hstart (by first | exact g29 | exact Classical.not_not.mp g29)
  refine x_iconst (v := 0) C0 rfl dX11_couples_0 ?_
  refine x_istore_n (L' := [_, _, _, _, _]) C0 hN (by decide) rfl dX11_couples_1 ?_
  refine x_aload_n C0 rfl dX11_couples_2 ?_
  refine x_getR C0 wf_X11_46 (fixd.k0 hS) rfl rfl (fixd.now hS) dX11_couples_3 ?_
  refine x_getI C0 wf_X11_219 (by assumption) rfl dX11_couples_6 ?_
  refine x_topi rH.2.2.1 ?_
  refine x_istore_n (L' := [_, _, _, _, _]) C0 hN (by decide) rfl dX11_couples_9 ?_
  refine x_iconst (v := 0) C0 rfl dX11_couples_10 ?_
  refine x_istore_n (L' := [_, _, _, _, _]) C0 hN (by decide) rfl dX11_couples_11 ?_
  exact hloop V 0 _ none (by omega) (fun w hw => by
    have : ¬ xbit (0 : Int32) w := by
      have h : ∀ w, w < 6 → ¬ xbit (0 : Int32) w := by decide +kernel
      exact h w hw
    exact ⟨fun z => ⟨z, this⟩, fun z => z.1⟩)
theorem c_X12_couples {S : xTS} {R : xTR} {I : xTI} {J : xTJ} {post : xPost} {T N V : Nat} {fl x : xRow} {lw : Option (List (Nat × Nat))} (hM : isModel S R) (C : MCore I fl lw T N V x) (hp : ∀ I', MQs I I' → post (some (.int (aCouples x T V))) S R I' J) : xSpec 3 yX12_couples cX12_couples 6 (some .int) 0 0 [.ref 135] S R I J post := by
  refine xSpec_of mt_X12_couples (Nat.le_of_ble_eq_true rfl) (fun G C0 hN hR E hI hZ => ?_)
  change XX G 0 0 0 [some (.ref 135), none, none, none, none, none] [] S R I J
  refine x_aload_n C0 rfl dX12_couples_0 ?_
  refine x_iconst (v := nI 0) C0 rfl dX12_couples_1 ?_
  refine x_putI C0 wf_X12_1 (isModel.k0 hM) rfl dX12_couples_2 ?_
  have q1 := MQs.thrown (I := I) (v := nI 0)
  have C := C.mq q1
  generalize u2 I 135 0 (nI 0) = I1 at q1 C ⊢
  obtain ⟨wl, mF, mL, mH, wx⟩ := id C
  have hT6 := wl.2.1
  have hN8 := wl.2.2.2.1
  have hV6 := wl.2.2.2.2.2.1
  have eT : I1 141 0 = nI T := (mF 0 (by decide)).trans wl.1
  have eN : I1 141 1 = nI N := (mF 1 (by decide)).trans wl.2.2.1
  have eV : I1 141 2 = nI V := (mF 2 (by decide)).trans wl.2.2.2.2.1
  have hb0 : 0 ≤ 2192 := by decide
  unfold aCouples at hp
  have hout : ∀ n a v4 v5, a + n = V → XX G 0 0 11 [some (.ref 135), some (.int (cpA x T V a).1), some (.int (nI (cpA x T V a).2)), some (.int (nI a)), v4, v5] [] S R I1 J := by
    intro n
    induction n with
    | zero =>
      intro a v4 v5 hn9
      have hn8 : a = V := by omega
      subst hn8
      refine x_iload_n C0 rfl dX12_couples_11 ?_
      refine x_aload_n C0 rfl dX12_couples_12 ?_
      refine x_callV [] C0 hN rfl (xRf_of hR (by decide) (Nat.zero_le _) (Nat.zero_le _)) mv_X12_watchers wm_X12_282 dX12_couples_13 (isModel.k0 hM) rfl rfl (Nat.le_of_ble_eq_true rfl) (c_X12_watchers hM ?_)
      refine x_topi eV ?_
      refine x_icmp_ge (tgt := 127) C0 (by decide) dX12_couples_16 (fun _ => ?_) (fun hkk => absurd ((Int32.le_refl _)) hkk)
      refine x_iload_n C0 rfl dX12_couples_127 ?_
      refine x_iret C0 E (by decide) (by decide) dX12_couples_128 ?_
      exact hp I1 q1
    | succ n ih =>
      intro a v4 v5 hn9
      have hin : ∀ p m v5, a + 1 + m + p = V → XX G 0 0 24 [some (.ref 135), some (.int (cpR x T a (cpA x T V a) m).1), some (.int (nI (cpR x T a (cpA x T V a) m).2)), some (.int (nI a)), some (.int (nI (a + 1 + m))), v5] [] S R I1 J := by
        intro p
        induction p with
        | zero =>
          intro m v5 hm9
          have hm8 : a + 1 + m = V := by omega
          have e : cpA x T V (a + 1) = (cpR x T a (cpA x T V a) m) := by show (cpR x T a (cpA x T V a) (V - 1 - a)) = _; rw [show V - 1 - a = m by omega]
          refine x_iload C0 rfl dX12_couples_24 ?_
          refine x_aload_n C0 rfl dX12_couples_26 ?_
          refine x_callV [] C0 hN rfl (xRf_of hR (by decide) (Nat.zero_le _) (Nat.zero_le _)) mv_X12_watchers wm_X12_282 dX12_couples_27 (isModel.k0 hM) rfl rfl (Nat.le_of_ble_eq_true rfl) (c_X12_watchers hM ?_)
          refine x_topi eV ?_
          refine x_icmp_ge (tgt := 121) C0 (by decide) dX12_couples_30 (fun _ => ?_) (fun hkk => absurd ((by rw [hm8]; exact Int32.le_refl _)) hkk)
          refine x_iinc (v := nI (a + 1)) (L' := [_, _, _, _, _, _]) C0 hN rfl (by decide) (nI_inc a) rfl dX12_couples_121 ?_
          refine x_goto (tgt := 11) C0 (by decide) dX12_couples_124 ?_
          have := ih (a + 1) (some (.int (nI (a + 1 + m)))) v5 (by omega)
          rw [e] at this
          exact this
        | succ p ihp =>
          intro m v5 hm9
          refine x_iload C0 rfl dX12_couples_24 ?_
          refine x_aload_n C0 rfl dX12_couples_26 ?_
          refine x_callV [] C0 hN rfl (xRf_of hR (by decide) (Nat.zero_le _) (Nat.zero_le _)) mv_X12_watchers wm_X12_282 dX12_couples_27 (isModel.k0 hM) rfl rfl (Nat.le_of_ble_eq_true rfl) (c_X12_watchers hM ?_)
          refine x_topi eV ?_
          refine x_icmp_ge (tgt := 121) C0 (by decide) dX12_couples_30 (fun hkk => absurd hkk (nI_ge (by omega) (by omega))) (fun _ => ?_)
          refine x_iload_n C0 rfl dX12_couples_33 ?_
          refine x_iload_n C0 rfl dX12_couples_34 ?_
          refine x_ishr C0 dX12_couples_35 ?_
          refine x_iload_n C0 rfl dX12_couples_36 ?_
          refine x_iload C0 rfl dX12_couples_37 ?_
          refine x_ishr C0 dX12_couples_39 ?_
          refine x_ior C0 dX12_couples_40 ?_
          refine x_iconst (v := 1) C0 rfl dX12_couples_41 ?_
          refine x_iand C0 dX12_couples_42 ?_
          refine x_if_ne (tgt := 79) C0 (by decide) dX12_couples_43 (fun g43 => ?_) (fun g43 => ?_)
          · refine x_iconst (v := nI 0) C0 rfl dX12_couples_79 ?_
            refine x_istore (L' := [_, _, _, _, _, _]) C0 hN (by decide) rfl dX12_couples_80 ?_
            refine x_iload_n C0 rfl dX12_couples_82 ?_
            refine x_iload C0 rfl dX12_couples_83 ?_
            refine x_if_eq (tgt := 99) C0 (by decide) dX12_couples_85 (fun _ => ?_) (fun hkk => absurd (by decide) hkk)
            refine x_iconst (v := 0) C0 rfl dX12_couples_99 ?_
            refine x_ior C0 dX12_couples_100 ?_
            refine x_istore_n (L' := [_, _, _, _, _, _]) C0 hN (by decide) rfl dX12_couples_101 ?_
            refine x_iload_n C0 rfl dX12_couples_102 ?_
            refine x_iload C0 rfl dX12_couples_103 ?_
            refine x_if_eq (tgt := 112) C0 (by decide) dX12_couples_105 (fun _ => ?_) (fun hkk => absurd (by decide) hkk)
            refine x_iconst (v := nI 0) C0 rfl dX12_couples_112 ?_
            refine x_iaddN C0 dX12_couples_113 ?_
            refine x_istore_n (L' := [_, _, _, _, _, _]) C0 hN (by decide) rfl dX12_couples_114 ?_
            refine x_iinc (v := nI (a + 1 + m + 1)) (L' := [_, _, _, _, _, _]) C0 hN rfl (by decide) (nI_inc _) rfl dX12_couples_115 ?_
            refine x_goto (tgt := 24) C0 (by decide) dX12_couples_118 ?_
            have := ihp (m + 1) (some (.int (nI 0))) (by omega)
            rw [cpR_no (fun z => g43 (or_one.mpr z.1))] at this
            rw [Int32.or_zero]
            exact this
          · refine x_aload_n C0 rfl dX12_couples_46 ?_
            refine x_iconst (v := nI 0) C0 rfl dX12_couples_47 ?_
            refine x_iload_n C0 rfl dX12_couples_48 ?_
            refine x_callV [_, _] C0 hN rfl (xRf_of hR (by decide) (Nat.zero_le _) (Nat.zero_le _)) mv_X12_isIn wm_X12_319 dX12_couples_49 (isModel.k0 hM) rfl rfl (Nat.le_of_ble_eq_true rfl) (c_X12_isIn hM hb0 (fun g49 => ?_) (fun g49 => ?_))
            · refine x_if_eq (tgt := 79) C0 (by decide) dX12_couples_52 (fun hkk => absurd hkk (by decide)) (fun _ => ?_)
              refine x_aload_n C0 rfl dX12_couples_55 ?_
              refine x_iconst (v := nI 0) C0 rfl dX12_couples_56 ?_
              refine x_iload C0 rfl dX12_couples_57 ?_
              refine x_callV [_, _] C0 hN rfl (xRf_of hR (by decide) (Nat.zero_le _) (Nat.zero_le _)) mv_X12_isIn wm_X12_319 dX12_couples_59 (isModel.k0 hM) rfl rfl (Nat.le_of_ble_eq_true rfl) (c_X12_isIn hM hb0 (fun g59 => ?_) (fun g59 => ?_))
              · refine x_if_eq (tgt := 79) C0 (by decide) dX12_couples_62 (fun hkk => absurd hkk (by decide)) (fun _ => ?_)
                refine x_aload_n C0 rfl dX12_couples_65 ?_
                refine x_iload_n C0 rfl dX12_couples_66 ?_
                refine x_iload C0 rfl dX12_couples_67 ?_
                refine x_callV [_, _] C0 hN rfl (xRf_of hR (by decide) (Nat.zero_le _) (Nat.zero_le _)) mv_X12_areAlike wm_X12_387 dX12_couples_69 (isModel.k0 hM) rfl rfl (Nat.le_of_ble_eq_true rfl) (c_X12_areAlike hM C (by omega) (by omega) (fun g69 => ?_) (fun g69 => ?_))
                · refine x_if_eq (tgt := 79) C0 (by decide) dX12_couples_72 (fun hkk => absurd hkk (by decide)) (fun _ => ?_)
                  refine x_iconst (v := nI 1) C0 rfl dX12_couples_75 ?_
                  refine x_goto (tgt := 80) C0 (by decide) dX12_couples_76 ?_
                  refine x_istore (L' := [_, _, _, _, _, _]) C0 hN (by decide) rfl dX12_couples_80 ?_
                  refine x_iload_n C0 rfl dX12_couples_82 ?_
                  refine x_iload C0 rfl dX12_couples_83 ?_
                  refine x_if_eq (tgt := 99) C0 (by decide) dX12_couples_85 (fun hkk => absurd hkk (by decide)) (fun _ => ?_)
                  refine x_iconst (v := 1) C0 rfl dX12_couples_88 ?_
                  refine x_iload_n C0 rfl dX12_couples_89 ?_
                  refine x_ishl C0 dX12_couples_90 ?_
                  refine x_iconst (v := nI 1) C0 rfl dX12_couples_91 ?_
                  refine x_iload C0 rfl dX12_couples_92 ?_
                  refine x_ishl C0 dX12_couples_94 ?_
                  refine x_ior C0 dX12_couples_95 ?_
                  refine x_goto (tgt := 100) C0 (by decide) dX12_couples_96 ?_
                  refine x_ior C0 dX12_couples_100 ?_
                  refine x_istore_n (L' := [_, _, _, _, _, _]) C0 hN (by decide) rfl dX12_couples_101 ?_
                  refine x_iload_n C0 rfl dX12_couples_102 ?_
                  refine x_iload C0 rfl dX12_couples_103 ?_
                  refine x_if_eq (tgt := 112) C0 (by decide) dX12_couples_105 (fun hkk => absurd hkk (by decide)) (fun _ => ?_)
                  refine x_iconst (v := nI 1) C0 rfl dX12_couples_108 ?_
                  refine x_goto (tgt := 113) C0 (by decide) dX12_couples_109 ?_
                  refine x_iaddN C0 dX12_couples_113 ?_
                  refine x_istore_n (L' := [_, _, _, _, _, _]) C0 hN (by decide) rfl dX12_couples_114 ?_
                  refine x_iinc (v := nI (a + 1 + m + 1)) (L' := [_, _, _, _, _, _]) C0 hN rfl (by decide) (nI_inc _) rfl dX12_couples_115 ?_
                  refine x_goto (tgt := 24) C0 (by decide) dX12_couples_118 ?_
                  have := ihp (m + 1) (some (.int (nI 1))) (by omega)
                  rw [cpR_yes ⟨or_one.mp g43, by rw [← mH 2 (by decide)]; exact g49, by rw [← mH 2 (by decide)]; exact g59, g69⟩] at this
                  exact this
                · refine x_if_eq (tgt := 79) C0 (by decide) dX12_couples_72 (fun _ => ?_) (fun hkk => absurd (by decide) hkk)
                  refine x_iconst (v := nI 0) C0 rfl dX12_couples_79 ?_
                  refine x_istore (L' := [_, _, _, _, _, _]) C0 hN (by decide) rfl dX12_couples_80 ?_
                  refine x_iload_n C0 rfl dX12_couples_82 ?_
                  refine x_iload C0 rfl dX12_couples_83 ?_
                  refine x_if_eq (tgt := 99) C0 (by decide) dX12_couples_85 (fun _ => ?_) (fun hkk => absurd (by decide) hkk)
                  refine x_iconst (v := 0) C0 rfl dX12_couples_99 ?_
                  refine x_ior C0 dX12_couples_100 ?_
                  refine x_istore_n (L' := [_, _, _, _, _, _]) C0 hN (by decide) rfl dX12_couples_101 ?_
                  refine x_iload_n C0 rfl dX12_couples_102 ?_
                  refine x_iload C0 rfl dX12_couples_103 ?_
                  refine x_if_eq (tgt := 112) C0 (by decide) dX12_couples_105 (fun _ => ?_) (fun hkk => absurd (by decide) hkk)
                  refine x_iconst (v := nI 0) C0 rfl dX12_couples_112 ?_
                  refine x_iaddN C0 dX12_couples_113 ?_
                  refine x_istore_n (L' := [_, _, _, _, _, _]) C0 hN (by decide) rfl dX12_couples_114 ?_
                  refine x_iinc (v := nI (a + 1 + m + 1)) (L' := [_, _, _, _, _, _]) C0 hN rfl (by decide) (nI_inc _) rfl dX12_couples_115 ?_
                  refine x_goto (tgt := 24) C0 (by decide) dX12_couples_118 ?_
                  have := ihp (m + 1) (some (.int (nI 0))) (by omega)
                  rw [cpR_no (fun z => g69 z.2.2.2)] at this
                  rw [Int32.or_zero]
                  exact this
              · refine x_if_eq (tgt := 79) C0 (by decide) dX12_couples_62 (fun _ => ?_) (fun hkk => absurd (by decide) hkk)
                refine x_iconst (v := nI 0) C0 rfl dX12_couples_79 ?_
                refine x_istore (L' := [_, _, _, _, _, _]) C0 hN (by decide) rfl dX12_couples_80 ?_
                refine x_iload_n C0 rfl dX12_couples_82 ?_
                refine x_iload C0 rfl dX12_couples_83 ?_
                refine x_if_eq (tgt := 99) C0 (by decide) dX12_couples_85 (fun _ => ?_) (fun hkk => absurd (by decide) hkk)
                refine x_iconst (v := 0) C0 rfl dX12_couples_99 ?_
                refine x_ior C0 dX12_couples_100 ?_
                refine x_istore_n (L' := [_, _, _, _, _, _]) C0 hN (by decide) rfl dX12_couples_101 ?_
                refine x_iload_n C0 rfl dX12_couples_102 ?_
                refine x_iload C0 rfl dX12_couples_103 ?_
                refine x_if_eq (tgt := 112) C0 (by decide) dX12_couples_105 (fun _ => ?_) (fun hkk => absurd (by decide) hkk)
                refine x_iconst (v := nI 0) C0 rfl dX12_couples_112 ?_
                refine x_iaddN C0 dX12_couples_113 ?_
                refine x_istore_n (L' := [_, _, _, _, _, _]) C0 hN (by decide) rfl dX12_couples_114 ?_
                refine x_iinc (v := nI (a + 1 + m + 1)) (L' := [_, _, _, _, _, _]) C0 hN rfl (by decide) (nI_inc _) rfl dX12_couples_115 ?_
                refine x_goto (tgt := 24) C0 (by decide) dX12_couples_118 ?_
                have := ihp (m + 1) (some (.int (nI 0))) (by omega)
                rw [cpR_no (fun z => g59 (by rw [mH 2 (by decide)]; exact z.2.2.1))] at this
                rw [Int32.or_zero]
                exact this
            · refine x_if_eq (tgt := 79) C0 (by decide) dX12_couples_52 (fun _ => ?_) (fun hkk => absurd (by decide) hkk)
              refine x_iconst (v := nI 0) C0 rfl dX12_couples_79 ?_
              refine x_istore (L' := [_, _, _, _, _, _]) C0 hN (by decide) rfl dX12_couples_80 ?_
              refine x_iload_n C0 rfl dX12_couples_82 ?_
              refine x_iload C0 rfl dX12_couples_83 ?_
              refine x_if_eq (tgt := 99) C0 (by decide) dX12_couples_85 (fun _ => ?_) (fun hkk => absurd (by decide) hkk)
              refine x_iconst (v := 0) C0 rfl dX12_couples_99 ?_
              refine x_ior C0 dX12_couples_100 ?_
              refine x_istore_n (L' := [_, _, _, _, _, _]) C0 hN (by decide) rfl dX12_couples_101 ?_
              refine x_iload_n C0 rfl dX12_couples_102 ?_
              refine x_iload C0 rfl dX12_couples_103 ?_
              refine x_if_eq (tgt := 112) C0 (by decide) dX12_couples_105 (fun _ => ?_) (fun hkk => absurd (by decide) hkk)
              refine x_iconst (v := nI 0) C0 rfl dX12_couples_112 ?_
              refine x_iaddN C0 dX12_couples_113 ?_
              refine x_istore_n (L' := [_, _, _, _, _, _]) C0 hN (by decide) rfl dX12_couples_114 ?_
              refine x_iinc (v := nI (a + 1 + m + 1)) (L' := [_, _, _, _, _, _]) C0 hN rfl (by decide) (nI_inc _) rfl dX12_couples_115 ?_
              refine x_goto (tgt := 24) C0 (by decide) dX12_couples_118 ?_
              have := ihp (m + 1) (some (.int (nI 0))) (by omega)
              rw [cpR_no (fun z => g49 (by rw [mH 2 (by decide)]; exact z.2.1))] at this
              rw [Int32.or_zero]
              exact this
      refine x_iload_n C0 rfl dX12_couples_11 ?_
      refine x_aload_n C0 rfl dX12_couples_12 ?_
      refine x_callV [] C0 hN rfl (xRf_of hR (by decide) (Nat.zero_le _) (Nat.zero_le _)) mv_X12_watchers wm_X12_282 dX12_couples_13 (isModel.k0 hM) rfl rfl (Nat.le_of_ble_eq_true rfl) (c_X12_watchers hM ?_)
      refine x_topi eV ?_
      refine x_icmp_ge (tgt := 127) C0 (by decide) dX12_couples_16 (fun hkk => absurd hkk (nI_ge (by omega) (by omega))) (fun _ => ?_)
      refine x_iload_n C0 rfl dX12_couples_19 ?_
      refine x_iconst (v := nI 1) C0 rfl dX12_couples_20 ?_
      refine x_iaddN C0 dX12_couples_21 ?_
      refine x_istore (L' := [_, _, _, _, _, _]) C0 hN (by decide) rfl dX12_couples_22 ?_
      exact hin n 0 v5 (by omega)
  refine x_iconst (v := nI 0) C0 rfl dX12_couples_5 ?_
  refine x_istore_n (L' := [_, _, _, _, _, _]) C0 hN (by decide) rfl dX12_couples_6 ?_
  refine x_iconst (v := nI 0) C0 rfl dX12_couples_7 ?_
  refine x_istore_n (L' := [_, _, _, _, _, _]) C0 hN (by decide) rfl dX12_couples_8 ?_
  refine x_iconst (v := nI 0) C0 rfl dX12_couples_9 ?_
  refine x_istore_n (L' := [_, _, _, _, _, _]) C0 hN (by decide) rfl dX12_couples_10 ?_
  exact hout V 0 none none (by omega)
