/-! A FILM'S ROW; doubts laid out; the class -/
def fRow (F : pF) (lo : Bool) : xRow := fun i => if i = 0 then nI F.1.1 else if i = 1 then nI F.1.2.1 else if i = 2 then nI F.1.2.2.1 else if i = 3 then nI F.1.2.2.2 else if i = 4 then (if lo then 0 else -1)
  else if i < 37 then (if (i - 5) / 4 < F.1.2.1 then (if (i - 5) % 4 = 0 then nI (F.2.2.2.1 ((i - 5) / 4)).1 else if (i - 5) % 4 = 1 then nI (F.2.2.2.1 ((i - 5) / 4)).2.1 else if (i - 5) % 4 = 2 then nI (F.2.2.2.1 ((i - 5) / 4)).2.2.1 else nI (F.2.2.2.1 ((i - 5) / 4)).2.2.2) else 0)
  else (if (i - 37) / 3 < F.1.2.2.1 then (if (i - 37) % 3 = 0 then nI (F.2.2.2.2 ((i - 37) / 3)).1 else if (i - 37) % 3 = 1 then nI (F.2.2.2.2 ((i - 37) / 3)).2.1 else nI (F.2.2.2.2 ((i - 37) / 3)).2.2) else 0)
theorem fRow_sc {F : pF} {lo : Bool} {k : Nat} (hk : k < F.1.2.1) (h8 : k < 8) : fRow F lo (5 + 4 * k) = nI (F.2.2.2.1 k).1 ∧ fRow F lo (6 + 4 * k) = nI (F.2.2.2.1 k).2.1 ∧ fRow F lo (7 + 4 * k) = nI (F.2.2.2.1 k).2.2.1 ∧ fRow F lo (8 + 4 * k) = nI (F.2.2.2.1 k).2.2.2 := by
  have d0 : (5 + 4 * k - 5) / 4 = k ∧ (5 + 4 * k - 5) % 4 = 0 := by omega
  have d1 : (6 + 4 * k - 5) / 4 = k ∧ (6 + 4 * k - 5) % 4 = 1 := by omega
  have d2 : (7 + 4 * k - 5) / 4 = k ∧ (7 + 4 * k - 5) % 4 = 2 := by omega
  have d3 : (8 + 4 * k - 5) / 4 = k ∧ (8 + 4 * k - 5) % 4 = 3 := by omega
  unfold fRow
  refine ⟨?_, ?_, ?_, ?_⟩
  · rw [if_neg (by omega), if_neg (by omega), if_neg (by omega), if_neg (by omega), if_neg (by omega), if_pos (by omega), d0.1, d0.2, if_pos hk, if_pos rfl]
  · rw [if_neg (by omega), if_neg (by omega), if_neg (by omega), if_neg (by omega), if_neg (by omega), if_pos (by omega), d1.1, d1.2, if_pos hk, if_neg (by decide), if_pos rfl]
  · rw [if_neg (by omega), if_neg (by omega), if_neg (by omega), if_neg (by omega), if_neg (by omega), if_pos (by omega), d2.1, d2.2, if_pos hk, if_neg (by decide), if_neg (by decide), if_pos rfl]
  · rw [if_neg (by omega), if_neg (by omega), if_neg (by omega), if_neg (by omega), if_neg (by omega), if_pos (by omega), d3.1, d3.2, if_pos hk, if_neg (by decide), if_neg (by decide), if_neg (by decide)]
theorem fRow_wt {F : pF} {lo : Bool} {w : Nat} (hw : w < F.1.2.2.1) : fRow F lo (37 + 3 * w) = nI (F.2.2.2.2 w).1 ∧ fRow F lo (38 + 3 * w) = nI (F.2.2.2.2 w).2.1 ∧ fRow F lo (39 + 3 * w) = nI (F.2.2.2.2 w).2.2 := by
  have d0 : (37 + 3 * w - 37) / 3 = w ∧ (37 + 3 * w - 37) % 3 = 0 := by omega
  have d1 : (38 + 3 * w - 37) / 3 = w ∧ (38 + 3 * w - 37) % 3 = 1 := by omega
  have d2 : (39 + 3 * w - 37) / 3 = w ∧ (39 + 3 * w - 37) % 3 = 2 := by omega
  unfold fRow
  refine ⟨?_, ?_, ?_⟩
  · rw [if_neg (by omega), if_neg (by omega), if_neg (by omega), if_neg (by omega), if_neg (by omega), if_neg (by omega), d0.1, d0.2, if_pos hw, if_pos rfl]
  · rw [if_neg (by omega), if_neg (by omega), if_neg (by omega), if_neg (by omega), if_neg (by omega), if_neg (by omega), d1.1, d1.2, if_pos hw, if_neg (by decide), if_pos rfl]
  · rw [if_neg (by omega), if_neg (by omega), if_neg (by omega), if_neg (by omega), if_neg (by omega), if_neg (by omega), d2.1, d2.2, if_pos hw, if_neg (by decide), if_neg (by decide)]
theorem fRow_WFl {F : pF} {lo : Bool} (h : FOk F) : WFl (fRow F lo) F.1.1 F.1.2.1 F.1.2.2.1 := by
  obtain ⟨a1, a2, a3, a4, a5, a6, a7, a8⟩ := h
  refine ⟨rfl, a1, rfl, a2, rfl, a3, ⟨F.1.2.2.2, a4, rfl⟩, fun k hk => ?_, fun k hk => ?_, fun w hw => ?_⟩
  · obtain ⟨b1, b2, b3, b4⟩ := a7 k hk
    obtain ⟨e1, e2, e3, e4⟩ := fRow_sc (lo := lo) hk (by omega)
    exact ⟨_, _, b1, b2, e1, e2⟩
  · obtain ⟨b1, b2, b3, b4⟩ := a7 k hk
    obtain ⟨e1, e2, e3, e4⟩ := fRow_sc (lo := lo) hk (by omega)
    exact ⟨_, _, b3, b4, e3, e4⟩
  · obtain ⟨b1, b2, b3⟩ := a8 w hw
    obtain ⟨e1, e2, e3⟩ := fRow_wt (lo := lo) hw
    exact ⟨_, _, _, b1, b2, b3, e1, e2, e3⟩
theorem fRow_RFilm {I : xTI} {J : xTJ} {g : Nat} {F : pF} {lo : Bool} {dq : xDq} (ok : FOk F) (C : CFm I J g F) (e3 : I g 3 = nI F.1.2.2.2) (hd : ∀ w k f, w < F.1.2.2.1 → k < F.1.2.1 → f < 4 → I (g + 8) ((w * 8 + k) * 4 + f) = dq w k (f / 2) (f % 2)) : RFilm I g (fRow F lo) dq F.1.2.1 F.1.2.2.1 := by
  obtain ⟨c0, c1, c2, c3, c4, c5, c6⟩ := C
  refine ⟨c0, c1, c2, e3, fun k hk => ?_, fun k hk => ?_, fun w hw => ?_, fun w k c o hw hk hc ho => ?_⟩
  · obtain ⟨e1, e2, -, -⟩ := fRow_sc (lo := lo) hk (by have := ok.2.1; omega)
    rw [(c5 k hk).1, e1, e2, two_nI]
  · obtain ⟨-, -, e1, e2⟩ := fRow_sc (lo := lo) hk (by have := ok.2.1; omega)
    rw [(c5 k hk).2, e1, e2, two_nI]
  · obtain ⟨e1, e2, e4⟩ := fRow_wt (lo := lo) hw
    obtain ⟨b1, b2, b3⟩ := c6 w hw
    exact ⟨by rw [b1, e1], by rw [b2, e2], by rw [b3, e4]⟩
  · have := hd w k (2 * c + o) hw hk (by omega)
    rw [show (2 * c + o) / 2 = c by omega, show (2 * c + o) % 2 = o by omega, ← Nat.add_assoc] at this
    exact this
theorem i_clamp (m : Int32) : (if 0 < (if m < 9 then m else 9) then (if m < 9 then m else 9) else 0) = lClamp m := by
  have e0 : (0 : Int32).toInt = 0 := rfl
  have e9 : (9 : Int32).toInt = 9 := rfl
  unfold lClamp
  by_cases a : m < 9
  · have n9 : ¬ 9 < m := fun z => by rw [Int32.lt_iff_toInt_lt] at a z; omega
    simp only [if_pos a, if_neg n9]
    by_cases b : m < 0
    · have c : ¬ 0 < m := fun z => by rw [Int32.lt_iff_toInt_lt] at b z; omega
      rw [if_pos b, if_neg c]
    · rw [if_neg b]
      by_cases c : 0 < m
      · rw [if_pos c]
      · rw [if_neg c]
        apply Int32.toInt_inj.mp
        rw [Int32.lt_iff_toInt_lt] at b c
        omega
  · have n0 : ¬ m < 0 := fun z => by rw [Int32.lt_iff_toInt_lt] at a z; omega
    simp only [if_neg a, if_neg n0]
    rw [if_pos (show (0 : Int32) < 9 by decide)]
    by_cases c : 9 < m
    · rw [if_pos c]
    · rw [if_neg c]
      apply Int32.toInt_inj.mp
      rw [Int32.lt_iff_toInt_lt] at a c
      omega
theorem c_X2_plainDoubt {S : xTS} {R : xTR} {I : xTI} {J : xTJ} {post : xPost} {g : Nat} (hF : isFilm S R g) {F : pF} (ok : FOk F) (C : CFm I J g F) {w c o : Nat} (hw : w < F.1.2.2.1) (hp : post (some (.int (if nI (F.2.2.2.2 w).1 = 2 then 2 * nI c + nI o else nI o))) S R I J) : xSpec 2 yX2_plainDoubt cX2_plainDoubt 4 (some .int) 0 0 [.ref g, .int (nI w), .int (nI c), .int (nI o)] S R I J post := by
  refine xSpec_of mt_X2_plainDoubt (Nat.le_of_ble_eq_true rfl) (fun G C0 hN hR E hI hZ => ?_)
  change XX G 0 0 0 [some (.ref g), some (.int (nI w)), some (.int (nI c)), some (.int (nI o))] [] S R I J
  obtain ⟨z0, z1, z2, z3, z4, z5, z6, z7, z8, y4, y5, y6, y7, y8, y9, y10, y11⟩ := id hF
  obtain ⟨c0, c1, c2, c3, c4, c5, c6⟩ := id C
  obtain ⟨k6, k8, k6v, k8s, kn, kw, kq, kr⟩ := id ok
  refine x_aload_n C0 rfl dX2_plainDoubt_0 ?_
  refine x_getR C0 wf_X2_29 (by assumption) rfl rfl (by assumption) dX2_plainDoubt_1 ?_
  refine x_iload_n C0 rfl dX2_plainDoubt_4 ?_
  refine x_callS [_, _] C0 (xRf_of hR (by decide) (Nat.zero_le _) (Nat.zero_le _)) ms_X8_get wm_X2_60 dX2_plainDoubt_5 rfl rfl (Nat.le_of_ble_eq_true rfl) (c_X8_get z5 (by omega) (by decide) ?_)
  refine x_topi (c6 w hw).1 ?_
  refine x_iconst (v := 2) C0 rfl dX2_plainDoubt_8 ?_
  refine x_icmp_ne (tgt := 20) C0 (by decide) dX2_plainDoubt_9 (fun g9 => ?_) (fun g9 => ?_)
  · refine x_iload_n C0 rfl dX2_plainDoubt_20 ?_
    refine x_iret C0 E (by decide) (by decide) dX2_plainDoubt_21 ?_
    rw [if_neg g9] at hp
    exact hp
  · refine x_iconst (v := 2) C0 rfl dX2_plainDoubt_12 ?_
    refine x_iload_n C0 rfl dX2_plainDoubt_13 ?_
    refine x_imul C0 dX2_plainDoubt_14 ?_
    refine x_iload_n C0 rfl dX2_plainDoubt_15 ?_
    refine x_iadd C0 dX2_plainDoubt_16 ?_
    refine x_goto (tgt := 21) C0 (by decide) dX2_plainDoubt_17 ?_
    refine x_iret C0 E (by decide) (by decide) dX2_plainDoubt_21 ?_
    rw [if_pos g9] at hp
    exact hp
theorem c_setDoubtsN {S : xTS} {R : xTR} {I : xTI} {J : xTJ} {post : xPost} (hS : fixd S R) {g : Nat} (hg : 7 ≤ g) (hF : isFilm S R g) {F : pF} (ok : FOk F) (C : CFm I J g F) (hp : ∀ I', (∀ a, a ≠ g + 8 → a ≠ 6 → I' a = I a) → (∀ w k f, w < F.1.2.2.1 → k < F.1.2.1 → f < 4 → I' (g + 8) ((w * 8 + k) * 4 + f) = sDq (fRow F false) none w k (f / 2) (f % 2)) → post none S R I' J) : xSpec 3 yX2_setDoubts cX2_setDoubts 7 none 0 0 [.ref g, .null] S R I J post := by
  refine xSpec_of mt_X2_setDoubts (Nat.le_of_ble_eq_true rfl) (fun G C0 hN hR E hI hZ => ?_)
  change XX G 0 0 0 [some (.ref g), some (.null), none, none, none, none, none] [] S R I J
  obtain ⟨z0, z1, z2, z3, z4, z5, z6, z7, z8, y4, y5, y6, y7, y8, y9, y10, y11⟩ := id hF
  obtain ⟨c0, c1, c2, c3, c4, c5, c6⟩ := id C
  obtain ⟨k6, k8, k6v, k8s, kn, kw, kq, kr⟩ := id ok
  have s4 := hS.sLaw
  have h2 : ∀ q w I1 v3 v4 v5 v6, w + q = F.1.2.2.1 → (∀ a, a ≠ g + 8 → a ≠ 6 → I1 a = I a) → (∀ w1 k1 f1, w1 < F.1.2.2.1 → k1 < F.1.2.1 → f1 < 4 → (w1 < w ∨ (w1 = w ∧ (k1 < 0 ∨ (k1 = 0 ∧ f1 < 0)))) → I1 (g + 8) ((w1 * 8 + k1) * 4 + f1) = sDq (fRow F false) none w1 k1 (f1 / 2) (f1 % 2)) → XX G 0 0 2 [some (.ref g), some (.null), some (.int (nI w)), v3, v4, v5, v6] [] S R I1 J := by
    intro q
    induction q with
    | zero =>
      intro w I1 v3 v4 v5 v6 hw s1 d1
      have hw8 : w = F.1.2.2.1 := by omega
      have e2 : I1 g 2 = nI F.1.2.2.1 := by rw [s1 g (by omega) (by omega)]; exact c2
      refine x_iload_n C0 rfl dX2_setDoubts_2 ?_
      refine x_aload_n C0 rfl dX2_setDoubts_3 ?_
      refine x_getI C0 wf_X2_47 (by assumption) rfl dX2_setDoubts_4 ?_
      refine x_topi e2 ?_
      refine x_icmp_ge (tgt := 125) C0 (by decide) dX2_setDoubts_7 (fun _ => ?_) (fun hkk => absurd ((by rw [hw8]; exact Int32.le_refl _)) hkk)
      refine x_vret C0 E (by decide) (by decide) dX2_setDoubts_125 ?_
      exact hp I1 s1 (fun w k f h1 h2 h3 => d1 w k f h1 h2 h3 (Or.inl (by omega)))
    | succ q ihw =>
      intro w I1 v3 v4 v5 v6 hw s1 d1
      have e2 : I1 g 2 = nI F.1.2.2.1 := by rw [s1 g (by omega) (by omega)]; exact c2
      have h12 : ∀ q k I1 v4 v5 v6, k + q = F.1.2.1 → (∀ a, a ≠ g + 8 → a ≠ 6 → I1 a = I a) → (∀ w1 k1 f1, w1 < F.1.2.2.1 → k1 < F.1.2.1 → f1 < 4 → (w1 < w ∨ (w1 = w ∧ (k1 < k ∨ (k1 = k ∧ f1 < 0)))) → I1 (g + 8) ((w1 * 8 + k1) * 4 + f1) = sDq (fRow F false) none w1 k1 (f1 / 2) (f1 % 2)) → XX G 0 0 12 [some (.ref g), some (.null), some (.int (nI w)), some (.int (nI k)), v4, v5, v6] [] S R I1 J := by
        intro q
        induction q with
        | zero =>
          intro k I1 v4 v5 v6 hk s1 d1
          have hk8 : k = F.1.2.1 := by omega
          have e1 : I1 g 1 = nI F.1.2.1 := by rw [s1 g (by omega) (by omega)]; exact c1
          refine x_iload_n C0 rfl dX2_setDoubts_12 ?_
          refine x_aload_n C0 rfl dX2_setDoubts_13 ?_
          refine x_getI C0 wf_X2_44 (by assumption) rfl dX2_setDoubts_14 ?_
          refine x_topi e1 ?_
          refine x_icmp_ge (tgt := 119) C0 (by decide) dX2_setDoubts_17 (fun _ => ?_) (fun hkk => absurd ((by rw [hk8]; exact Int32.le_refl _)) hkk)
          refine x_iinc (v := nI (w + 1)) (L' := [_, _, _, _, _, _, _]) C0 hN rfl (by decide) (nI_inc w) rfl dX2_setDoubts_119 ?_
          refine x_goto (tgt := 2) C0 (by decide) dX2_setDoubts_122 ?_
          exact ihw (w + 1) I1 _ _ _ _ (by omega) s1 (fun w1 k1 f1 h1 h2 h3 h4 => d1 w1 k1 f1 h1 h2 h3 (by omega))
        | succ q ihk =>
          intro k I1 v4 v5 v6 hk s1 d1
          have e1 : I1 g 1 = nI F.1.2.1 := by rw [s1 g (by omega) (by omega)]; exact c1
          have h23 : ∀ q f I1 v5 v6, f + q = 4 → (∀ a, a ≠ g + 8 → a ≠ 6 → I1 a = I a) → (∀ w1 k1 f1, w1 < F.1.2.2.1 → k1 < F.1.2.1 → f1 < 4 → (w1 < w ∨ (w1 = w ∧ (k1 < k ∨ (k1 = k ∧ f1 < f)))) → I1 (g + 8) ((w1 * 8 + k1) * 4 + f1) = sDq (fRow F false) none w1 k1 (f1 / 2) (f1 % 2)) → XX G 0 0 23 [some (.ref g), some (.null), some (.int (nI w)), some (.int (nI k)), some (.int (nI f)), v5, v6] [] S R I1 J := by
            intro q
            induction q with
            | zero =>
              intro f I1 v5 v6 hf s1 d1
              have hf8 : f = 4 := by omega
              subst hf8
              refine x_iload C0 rfl dX2_setDoubts_23 ?_
              refine x_iconst (v := nI 4) C0 rfl dX2_setDoubts_25 ?_
              refine x_icmp_ge (tgt := 113) C0 (by decide) dX2_setDoubts_26 (fun _ => ?_) (fun hkk => absurd ((Int32.le_refl _)) hkk)
              refine x_iinc (v := nI (k + 1)) (L' := [_, _, _, _, _, _, _]) C0 hN rfl (by decide) (nI_inc k) rfl dX2_setDoubts_113 ?_
              refine x_goto (tgt := 12) C0 (by decide) dX2_setDoubts_116 ?_
              exact ihk (k + 1) I1 _ _ _ (by omega) s1 (fun w1 k1 f1 h1 h2 h3 h4 => d1 w1 k1 f1 h1 h2 h3 (by omega))
            | succ q ihf =>
              intro f I1 v5 v6 hf s1 d1
              obtain ⟨-, -, r1, r2⟩ := r_half f (by omega)
              obtain ⟨p1, p2, p3⟩ := c6 w (by omega)
              obtain ⟨q1, q2, q3⟩ := fRow_wt (F := F) (lo := false) (w := w) (by omega)
              have C1 : CFm I1 J g F := C.congr (by rw [s1 g (by omega) (by omega)]) (by rw [s1 g (by omega) (by omega)]) (by rw [s1 g (by omega) (by omega)]) (fun j h1 h2 => s1 _ (by omega) (by omega)) rfl rfl
              have p2' : I1 (g + 6) w = nI (F.2.2.2.2 w).2.1 := by rw [s1 _ (by omega) (by omega)]; exact p2
              have hkey : (w * 8 + k) * 4 + 2 * (f / 2) + f % 2 = (w * 8 + k) * 4 + f := by omega
              have hup : ∀ I2 v, (∀ a, a ≠ 6 → I2 a = I1 a) → v = sDq (fRow F false) none w k (f / 2) (f % 2) → ∀ v5 v6, XX G 0 0 23 [some (.ref g), some (.null), some (.int (nI w)), some (.int (nI k)), some (.int (nI (f + 1))), v5, v6] [] S R (u2 I2 (g + 8) ((w * 8 + k) * 4 + 2 * (f / 2) + f % 2) v) J := by
                intro I2 v s2 ev v5 v6
                refine ihf (f + 1) _ _ _ (by omega) (fun a h1 h2 => by rw [u2_row _ _ _ h1, s2 a h2]; exact s1 a h1 h2) (fun w1 k1 f1 h1 h2 h3 h4 => ?_)
                rw [hkey]
                by_cases e : w1 = w ∧ k1 = k ∧ f1 = f
                · obtain ⟨rfl, rfl, rfl⟩ := e
                  rw [u2_same]
                  exact ev
                · rw [u2_off _ _ (by omega), s2 _ (by omega)]
                  exact d1 w1 k1 f1 h1 h2 h3 (by omega)
              refine x_iload C0 rfl dX2_setDoubts_23 ?_
              refine x_iconst (v := nI 4) C0 rfl dX2_setDoubts_25 ?_
              refine x_icmp_ge (tgt := 113) C0 (by decide) dX2_setDoubts_26 (fun hkk => absurd hkk ((nI_ge (by omega) (by omega)))) (fun _ => ?_)
              refine x_aload_nN C0 rfl dX2_setDoubts_29 ?_
              refine x_ifnonnullN C0 dX2_setDoubts_30 ?_
              refine x_aload_n C0 rfl dX2_setDoubts_33 ?_
              refine x_iload_n C0 rfl dX2_setDoubts_34 ?_
              refine x_iload C0 rfl dX2_setDoubts_35 ?_
              refine x_iconst (v := 1) C0 rfl dX2_setDoubts_37 ?_
              refine x_ishr C0 dX2_setDoubts_38 ?_
              refine x_topi r1 ?_
              refine x_iload C0 rfl dX2_setDoubts_39 ?_
              refine x_iconst (v := 1) C0 rfl dX2_setDoubts_41 ?_
              refine x_iand C0 dX2_setDoubts_42 ?_
              refine x_topi r2 ?_
              refine x_callV [_, _, _] C0 hN rfl (xRf_of hR (by decide) (Nat.zero_le _) (Nat.zero_le _)) mv_X2_plainDoubt wm_X2_56 dX2_setDoubts_43 (by assumption) rfl rfl (Nat.le_of_ble_eq_true rfl) (c_X2_plainDoubt hF ok C1 (by omega) ?_)
              refine x_goto (tgt := 70) C0 (by decide) dX2_setDoubts_46 ?_
              refine x_istore (L' := [_, _, _, _, _, _, _]) C0 hN (by decide) rfl dX2_setDoubts_70 ?_
              refine x_iload_n C0 rfl dX2_setDoubts_72 ?_
              refine x_iload_n C0 rfl dX2_setDoubts_73 ?_
              refine x_iload C0 rfl dX2_setDoubts_74 ?_
              refine x_iconst (v := 1) C0 rfl dX2_setDoubts_76 ?_
              refine x_ishr C0 dX2_setDoubts_77 ?_
              refine x_topi r1 ?_
              refine x_iload C0 rfl dX2_setDoubts_78 ?_
              refine x_iconst (v := 1) C0 rfl dX2_setDoubts_80 ?_
              refine x_iand C0 dX2_setDoubts_81 ?_
              refine x_topi r2 ?_
              refine x_callS [_, _, _, _] C0 (xRf_of hR (by decide) (Nat.zero_le _) (Nat.zero_le _)) ms_X2_doubtAt wm_X2_70 dX2_setDoubts_82 rfl rfl (Nat.le_of_ble_eq_true rfl) (c_X2_doubtAt  ?_)
              refine x_istore (L' := [_, _, _, _, _, _, _]) C0 hN (by decide) rfl dX2_setDoubts_85 ?_
              refine x_aload_n C0 rfl dX2_setDoubts_87 ?_
              refine x_getR C0 wf_X2_38 (by assumption) rfl rfl (by assumption) dX2_setDoubts_88 ?_
              refine x_iload C0 rfl dX2_setDoubts_91 ?_
              refine x_iconst (v := 0) C0 rfl dX2_setDoubts_93 ?_
              refine x_bipush (v := 9) C0 rfl dX2_setDoubts_94 ?_
              refine x_iload C0 rfl dX2_setDoubts_96 ?_
              refine x_mmin C0 (xRf_of hR (by decide) (Nat.zero_le _) (Nat.zero_le _)) wk_X2_73 (Nat.le_of_ble_eq_true rfl) rfl dX2_setDoubts_98 ?_
              refine x_mmax C0 (xRf_of hR (by decide) (Nat.zero_le _) (Nat.zero_le _)) wk_X2_79 (Nat.le_of_ble_eq_true rfl) rfl dX2_setDoubts_101 ?_
              refine x_topi (i_clamp _) ?_
              refine x_callS [_, _, _] C0 (xRf_of hR (by decide) (Nat.zero_le _) (Nat.zero_le _)) ms_X8_set wm_X2_50 dX2_setDoubts_104 rfl rfl (Nat.le_of_ble_eq_true rfl) (c_X8_set z8 (by omega) (by decide) ?_)
              refine x_iinc (v := nI (f + 1)) (L' := [_, _, _, _, _, _, _]) C0 hN rfl (by decide) (nI_inc f) rfl dX2_setDoubts_107 ?_
              refine x_goto (tgt := 23) C0 (by decide) dX2_setDoubts_110 ?_
              refine hup I1 _ (fun _ _ => rfl) ?_ _ _
              show _ = lClamp (if fRow F false (37 + 3 * w) = 2 then _ else _)
              rw [q1]
          refine x_iload_n C0 rfl dX2_setDoubts_12 ?_
          refine x_aload_n C0 rfl dX2_setDoubts_13 ?_
          refine x_getI C0 wf_X2_44 (by assumption) rfl dX2_setDoubts_14 ?_
          refine x_topi e1 ?_
          refine x_icmp_ge (tgt := 119) C0 (by decide) dX2_setDoubts_17 (fun hkk => absurd hkk ((nI_ge (by omega) (by omega)))) (fun _ => ?_)
          refine x_iconst (v := nI 0) C0 rfl dX2_setDoubts_20 ?_
          refine x_istore (L' := [_, _, _, _, _, _, _]) C0 hN (by decide) rfl dX2_setDoubts_21 ?_
          exact h23 4 0 I1 _ _ (by decide) s1 d1
      refine x_iload_n C0 rfl dX2_setDoubts_2 ?_
      refine x_aload_n C0 rfl dX2_setDoubts_3 ?_
      refine x_getI C0 wf_X2_47 (by assumption) rfl dX2_setDoubts_4 ?_
      refine x_topi e2 ?_
      refine x_icmp_ge (tgt := 125) C0 (by decide) dX2_setDoubts_7 (fun hkk => absurd hkk ((nI_ge (by omega) (by omega)))) (fun _ => ?_)
      refine x_iconst (v := nI 0) C0 rfl dX2_setDoubts_10 ?_
      refine x_istore_n (L' := [_, _, _, _, _, _, _]) C0 hN (by decide) rfl dX2_setDoubts_11 ?_
      exact h12 F.1.2.1 0 I1 _ _ _ (by omega) s1 d1
  refine x_iconst (v := nI 0) C0 rfl dX2_setDoubts_0 ?_
  refine x_istore_n (L' := [_, _, _, _, _, _, _]) C0 hN (by decide) rfl dX2_setDoubts_1 ?_
  exact h2 F.1.2.2.1 0 I _ _ _ _ (by omega) (fun _ _ _ => rfl) (fun w1 k1 f1 h1 h2 h3 h4 => absurd h4 (by omega))
theorem c_setDoubtsS {S : xTS} {R : xTR} {I : xTI} {J : xTJ} {post : xPost} (hS : fixd S R) {g : Nat} (hg : 7 ≤ g) (hF : isFilm S R g) {F : pF} (ok : FOk F) (C : CFm I J g F) {cl : List (Nat × Nat)} (hl : CLw I cl) (h1000 : cl.length ≤ 1000) (sf : lSafe 24 cl 0) (hp : ∀ I', (∀ a, a ≠ g + 8 → a ≠ 6 → I' a = I a) → (∀ w k f, w < F.1.2.2.1 → k < F.1.2.1 → f < 4 → I' (g + 8) ((w * 8 + k) * 4 + f) = sDq (fRow F true) (some cl) w k (f / 2) (f % 2)) → post none S R I' J) : xSpec 3 yX2_setDoubts cX2_setDoubts 7 none 0 0 [.ref g, .ref 4] S R I J post := by
  refine xSpec_of mt_X2_setDoubts (Nat.le_of_ble_eq_true rfl) (fun G C0 hN hR E hI hZ => ?_)
  change XX G 0 0 0 [some (.ref g), some (.ref 4), none, none, none, none, none] [] S R I J
  obtain ⟨z0, z1, z2, z3, z4, z5, z6, z7, z8, y4, y5, y6, y7, y8, y9, y10, y11⟩ := id hF
  obtain ⟨c0, c1, c2, c3, c4, c5, c6⟩ := id C
  obtain ⟨k6, k8, k6v, k8s, kn, kw, kq, kr⟩ := id ok
  have s4 := hS.sLaw
  have h2 : ∀ q w I1 v3 v4 v5 v6, w + q = F.1.2.2.1 → (∀ a, a ≠ g + 8 → a ≠ 6 → I1 a = I a) → (∀ w1 k1 f1, w1 < F.1.2.2.1 → k1 < F.1.2.1 → f1 < 4 → (w1 < w ∨ (w1 = w ∧ (k1 < 0 ∨ (k1 = 0 ∧ f1 < 0)))) → I1 (g + 8) ((w1 * 8 + k1) * 4 + f1) = sDq (fRow F true) (some cl) w1 k1 (f1 / 2) (f1 % 2)) → XX G 0 0 2 [some (.ref g), some (.ref 4), some (.int (nI w)), v3, v4, v5, v6] [] S R I1 J := by
    intro q
    induction q with
    | zero =>
      intro w I1 v3 v4 v5 v6 hw s1 d1
      have hw8 : w = F.1.2.2.1 := by omega
      have e2 : I1 g 2 = nI F.1.2.2.1 := by rw [s1 g (by omega) (by omega)]; exact c2
      refine x_iload_n C0 rfl dX2_setDoubts_2 ?_
      refine x_aload_n C0 rfl dX2_setDoubts_3 ?_
      refine x_getI C0 wf_X2_47 (by assumption) rfl dX2_setDoubts_4 ?_
      refine x_topi e2 ?_
      refine x_icmp_ge (tgt := 125) C0 (by decide) dX2_setDoubts_7 (fun _ => ?_) (fun hkk => absurd ((by rw [hw8]; exact Int32.le_refl _)) hkk)
      refine x_vret C0 E (by decide) (by decide) dX2_setDoubts_125 ?_
      exact hp I1 s1 (fun w k f h1 h2 h3 => d1 w k f h1 h2 h3 (Or.inl (by omega)))
    | succ q ihw =>
      intro w I1 v3 v4 v5 v6 hw s1 d1
      have e2 : I1 g 2 = nI F.1.2.2.1 := by rw [s1 g (by omega) (by omega)]; exact c2
      have h12 : ∀ q k I1 v4 v5 v6, k + q = F.1.2.1 → (∀ a, a ≠ g + 8 → a ≠ 6 → I1 a = I a) → (∀ w1 k1 f1, w1 < F.1.2.2.1 → k1 < F.1.2.1 → f1 < 4 → (w1 < w ∨ (w1 = w ∧ (k1 < k ∨ (k1 = k ∧ f1 < 0)))) → I1 (g + 8) ((w1 * 8 + k1) * 4 + f1) = sDq (fRow F true) (some cl) w1 k1 (f1 / 2) (f1 % 2)) → XX G 0 0 12 [some (.ref g), some (.ref 4), some (.int (nI w)), some (.int (nI k)), v4, v5, v6] [] S R I1 J := by
        intro q
        induction q with
        | zero =>
          intro k I1 v4 v5 v6 hk s1 d1
          have hk8 : k = F.1.2.1 := by omega
          have e1 : I1 g 1 = nI F.1.2.1 := by rw [s1 g (by omega) (by omega)]; exact c1
          refine x_iload_n C0 rfl dX2_setDoubts_12 ?_
          refine x_aload_n C0 rfl dX2_setDoubts_13 ?_
          refine x_getI C0 wf_X2_44 (by assumption) rfl dX2_setDoubts_14 ?_
          refine x_topi e1 ?_
          refine x_icmp_ge (tgt := 119) C0 (by decide) dX2_setDoubts_17 (fun _ => ?_) (fun hkk => absurd ((by rw [hk8]; exact Int32.le_refl _)) hkk)
          refine x_iinc (v := nI (w + 1)) (L' := [_, _, _, _, _, _, _]) C0 hN rfl (by decide) (nI_inc w) rfl dX2_setDoubts_119 ?_
          refine x_goto (tgt := 2) C0 (by decide) dX2_setDoubts_122 ?_
          exact ihw (w + 1) I1 _ _ _ _ (by omega) s1 (fun w1 k1 f1 h1 h2 h3 h4 => d1 w1 k1 f1 h1 h2 h3 (by omega))
        | succ q ihk =>
          intro k I1 v4 v5 v6 hk s1 d1
          have e1 : I1 g 1 = nI F.1.2.1 := by rw [s1 g (by omega) (by omega)]; exact c1
          have h23 : ∀ q f I1 v5 v6, f + q = 4 → (∀ a, a ≠ g + 8 → a ≠ 6 → I1 a = I a) → (∀ w1 k1 f1, w1 < F.1.2.2.1 → k1 < F.1.2.1 → f1 < 4 → (w1 < w ∨ (w1 = w ∧ (k1 < k ∨ (k1 = k ∧ f1 < f)))) → I1 (g + 8) ((w1 * 8 + k1) * 4 + f1) = sDq (fRow F true) (some cl) w1 k1 (f1 / 2) (f1 % 2)) → XX G 0 0 23 [some (.ref g), some (.ref 4), some (.int (nI w)), some (.int (nI k)), some (.int (nI f)), v5, v6] [] S R I1 J := by
            intro q
            induction q with
            | zero =>
              intro f I1 v5 v6 hf s1 d1
              have hf8 : f = 4 := by omega
              subst hf8
              refine x_iload C0 rfl dX2_setDoubts_23 ?_
              refine x_iconst (v := nI 4) C0 rfl dX2_setDoubts_25 ?_
              refine x_icmp_ge (tgt := 113) C0 (by decide) dX2_setDoubts_26 (fun _ => ?_) (fun hkk => absurd ((Int32.le_refl _)) hkk)
              refine x_iinc (v := nI (k + 1)) (L' := [_, _, _, _, _, _, _]) C0 hN rfl (by decide) (nI_inc k) rfl dX2_setDoubts_113 ?_
              refine x_goto (tgt := 12) C0 (by decide) dX2_setDoubts_116 ?_
              exact ihk (k + 1) I1 _ _ _ (by omega) s1 (fun w1 k1 f1 h1 h2 h3 h4 => d1 w1 k1 f1 h1 h2 h3 (by omega))
            | succ q ihf =>
              intro f I1 v5 v6 hf s1 d1
              obtain ⟨-, -, r1, r2⟩ := r_half f (by omega)
              obtain ⟨p1, p2, p3⟩ := c6 w (by omega)
              obtain ⟨q1, q2, q3⟩ := fRow_wt (F := F) (lo := true) (w := w) (by omega)
              have C1 : CFm I1 J g F := C.congr (by rw [s1 g (by omega) (by omega)]) (by rw [s1 g (by omega) (by omega)]) (by rw [s1 g (by omega) (by omega)]) (fun j h1 h2 => s1 _ (by omega) (by omega)) rfl rfl
              have p2' : I1 (g + 6) w = nI (F.2.2.2.2 w).2.1 := by rw [s1 _ (by omega) (by omega)]; exact p2
              have hkey : (w * 8 + k) * 4 + 2 * (f / 2) + f % 2 = (w * 8 + k) * 4 + f := by omega
              have hup : ∀ I2 v, (∀ a, a ≠ 6 → I2 a = I1 a) → v = sDq (fRow F true) (some cl) w k (f / 2) (f % 2) → ∀ v5 v6, XX G 0 0 23 [some (.ref g), some (.ref 4), some (.int (nI w)), some (.int (nI k)), some (.int (nI (f + 1))), v5, v6] [] S R (u2 I2 (g + 8) ((w * 8 + k) * 4 + 2 * (f / 2) + f % 2) v) J := by
                intro I2 v s2 ev v5 v6
                refine ihf (f + 1) _ _ _ (by omega) (fun a h1 h2 => by rw [u2_row _ _ _ h1, s2 a h2]; exact s1 a h1 h2) (fun w1 k1 f1 h1 h2 h3 h4 => ?_)
                rw [hkey]
                by_cases e : w1 = w ∧ k1 = k ∧ f1 = f
                · obtain ⟨rfl, rfl, rfl⟩ := e
                  rw [u2_same]
                  exact ev
                · rw [u2_off _ _ (by omega), s2 _ (by omega)]
                  exact d1 w1 k1 f1 h1 h2 h3 (by omega)
              refine x_iload C0 rfl dX2_setDoubts_23 ?_
              refine x_iconst (v := nI 4) C0 rfl dX2_setDoubts_25 ?_
              refine x_icmp_ge (tgt := 113) C0 (by decide) dX2_setDoubts_26 (fun hkk => absurd hkk ((nI_ge (by omega) (by omega)))) (fun _ => ?_)
              refine x_aload_n C0 rfl dX2_setDoubts_29 ?_
              refine x_ifnonnull (tgt := 49) C0 (by decide) dX2_setDoubts_30 ?_
              refine x_aload_n C0 rfl dX2_setDoubts_49 ?_
              refine x_iload C0 rfl dX2_setDoubts_50 ?_
              refine x_iconst (v := 1) C0 rfl dX2_setDoubts_52 ?_
              refine x_ishr C0 dX2_setDoubts_53 ?_
              refine x_topi r1 ?_
              refine x_aload_n C0 rfl dX2_setDoubts_54 ?_
              refine x_getR C0 wf_X2_32 (by assumption) rfl rfl (by assumption) dX2_setDoubts_55 ?_
              refine x_iload_n C0 rfl dX2_setDoubts_58 ?_
              refine x_callS [_, _] C0 (xRf_of hR (by decide) (Nat.zero_le _) (Nat.zero_le _)) ms_X8_get wm_X2_60 dX2_setDoubts_59 rfl rfl (Nat.le_of_ble_eq_true rfl) (c_X8_get z6 (by omega) (by decide) ?_)
              refine x_topi p2' ?_
              refine x_iload C0 rfl dX2_setDoubts_62 ?_
              refine x_iconst (v := 1) C0 rfl dX2_setDoubts_64 ?_
              refine x_iand C0 dX2_setDoubts_65 ?_
              refine x_topi r2 ?_
              refine x_iload_n C0 rfl dX2_setDoubts_66 ?_
              refine x_callV [_, _, _, _] C0 hN rfl (xRf_of hR (by decide) (Nat.zero_le _) (Nat.zero_le _)) mv_X4_value wm_X2_64 dX2_setDoubts_67 (by assumption) rfl rfl (Nat.le_of_ble_eq_true rfl) (c_X4_value hS (cl := cl) (by unfold CLw; rw [s1 4 (by omega) (by decide), s1 5 (by omega) (by decide)]; exact hl) h1000 sf (fun I2 s2 => ?_))
              refine x_istore (L' := [_, _, _, _, _, _, _]) C0 hN (by decide) rfl dX2_setDoubts_70 ?_
              refine x_iload_n C0 rfl dX2_setDoubts_72 ?_
              refine x_iload_n C0 rfl dX2_setDoubts_73 ?_
              refine x_iload C0 rfl dX2_setDoubts_74 ?_
              refine x_iconst (v := 1) C0 rfl dX2_setDoubts_76 ?_
              refine x_ishr C0 dX2_setDoubts_77 ?_
              refine x_topi r1 ?_
              refine x_iload C0 rfl dX2_setDoubts_78 ?_
              refine x_iconst (v := 1) C0 rfl dX2_setDoubts_80 ?_
              refine x_iand C0 dX2_setDoubts_81 ?_
              refine x_topi r2 ?_
              refine x_callS [_, _, _, _] C0 (xRf_of hR (by decide) (Nat.zero_le _) (Nat.zero_le _)) ms_X2_doubtAt wm_X2_70 dX2_setDoubts_82 rfl rfl (Nat.le_of_ble_eq_true rfl) (c_X2_doubtAt  ?_)
              refine x_istore (L' := [_, _, _, _, _, _, _]) C0 hN (by decide) rfl dX2_setDoubts_85 ?_
              refine x_aload_n C0 rfl dX2_setDoubts_87 ?_
              refine x_getR C0 wf_X2_38 (by assumption) rfl rfl (by assumption) dX2_setDoubts_88 ?_
              refine x_iload C0 rfl dX2_setDoubts_91 ?_
              refine x_iconst (v := 0) C0 rfl dX2_setDoubts_93 ?_
              refine x_bipush (v := 9) C0 rfl dX2_setDoubts_94 ?_
              refine x_iload C0 rfl dX2_setDoubts_96 ?_
              refine x_mmin C0 (xRf_of hR (by decide) (Nat.zero_le _) (Nat.zero_le _)) wk_X2_73 (Nat.le_of_ble_eq_true rfl) rfl dX2_setDoubts_98 ?_
              refine x_mmax C0 (xRf_of hR (by decide) (Nat.zero_le _) (Nat.zero_le _)) wk_X2_79 (Nat.le_of_ble_eq_true rfl) rfl dX2_setDoubts_101 ?_
              refine x_topi (i_clamp _) ?_
              refine x_callS [_, _, _] C0 (xRf_of hR (by decide) (Nat.zero_le _) (Nat.zero_le _)) ms_X8_set wm_X2_50 dX2_setDoubts_104 rfl rfl (Nat.le_of_ble_eq_true rfl) (c_X8_set z8 (by omega) (by decide) ?_)
              refine x_iinc (v := nI (f + 1)) (L' := [_, _, _, _, _, _, _]) C0 hN rfl (by decide) (nI_inc f) rfl dX2_setDoubts_107 ?_
              refine x_goto (tgt := 23) C0 (by decide) dX2_setDoubts_110 ?_
              refine hup I2 _ s2 ?_ _ _
              show _ = lClamp (lVal (lFacts (fRow F true) w k (f / 2) (f % 2)) cl)
              unfold lFacts
              rw [q2]
          refine x_iload_n C0 rfl dX2_setDoubts_12 ?_
          refine x_aload_n C0 rfl dX2_setDoubts_13 ?_
          refine x_getI C0 wf_X2_44 (by assumption) rfl dX2_setDoubts_14 ?_
          refine x_topi e1 ?_
          refine x_icmp_ge (tgt := 119) C0 (by decide) dX2_setDoubts_17 (fun hkk => absurd hkk ((nI_ge (by omega) (by omega)))) (fun _ => ?_)
          refine x_iconst (v := nI 0) C0 rfl dX2_setDoubts_20 ?_
          refine x_istore (L' := [_, _, _, _, _, _, _]) C0 hN (by decide) rfl dX2_setDoubts_21 ?_
          exact h23 4 0 I1 _ _ (by decide) s1 d1
      refine x_iload_n C0 rfl dX2_setDoubts_2 ?_
      refine x_aload_n C0 rfl dX2_setDoubts_3 ?_
      refine x_getI C0 wf_X2_47 (by assumption) rfl dX2_setDoubts_4 ?_
      refine x_topi e2 ?_
      refine x_icmp_ge (tgt := 125) C0 (by decide) dX2_setDoubts_7 (fun hkk => absurd hkk ((nI_ge (by omega) (by omega)))) (fun _ => ?_)
      refine x_iconst (v := nI 0) C0 rfl dX2_setDoubts_10 ?_
      refine x_istore_n (L' := [_, _, _, _, _, _, _]) C0 hN (by decide) rfl dX2_setDoubts_11 ?_
      exact h12 F.1.2.1 0 I1 _ _ _ (by omega) s1 d1
  refine x_iconst (v := nI 0) C0 rfl dX2_setDoubts_0 ?_
  refine x_istore_n (L' := [_, _, _, _, _, _, _]) C0 hN (by decide) rfl dX2_setDoubts_1 ?_
  exact h2 F.1.2.2.1 0 I _ _ _ _ (by omega) (fun _ _ _ => rfl) (fun w1 k1 f1 h1 h2 h3 h4 => absurd h4 (by omega))
