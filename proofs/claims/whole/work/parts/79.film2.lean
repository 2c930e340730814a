/-! A FILM BEGINS; film; the class -/
def Begun (I I' : xTI) (g e : Nat) : Prop := (∀ a, a ≠ 33 → a ≠ 34 → a ≠ 35 → a ≠ 36 → a ≠ e → a ≠ 41 → a ≠ 108 → (∀ m, m < 4 → a ≠ 111 + 6 * m) → I' a = I a) ∧ (∀ i, i < 4 → I' (33 + i) = uopen I g 33 (33 + i)) ∧ (I' e 0 = 0 ∧ ∀ k, k ≠ 0 → I' e k = I e k) ∧ (I' 41 2 = 0 ∧ ∀ k, k ≠ 2 → I' 41 k = I 41 k) ∧ (∀ i, i < 36 → I' 108 i = 0) ∧ (∀ m, m < 4 → I' (111 + 6 * m) 0 = 0)
theorem rtab_02 : ∀ q ∈ RTAB, q.1 ≠ 0 ∨ (q.2.1 < 2 ∨ 5 < q.2.1) := by decide +kernel
theorem fixd.at0 {S : xTS} {R R' : xTR} (h : fixd S R) (e : ∀ a k, a ≠ 0 ∨ (k < 2 ∨ 5 < k) → R' a k = R a k) : fixd S R' := ⟨h.1, fun q hq => (e _ _ (rtab_02 q hq)).trans (h.2 q hq)⟩
theorem c_X11_begin {S : xTS} {R : xTR} {I : xTI} {J : xTJ} {post : xPost} (hS : fixd S R) {g : Nat} (hg : g ∈ [7, 16]) (hf : R 0 2 = some g) {e : Nat} (he : R 0 4 = some e) (e25 : e = 25 ∨ e = 29) (hp : ∀ I', Begun I I' g e → post none S R I' J) : xSpec 4 yX11_begin cX11_begin 2 none 0 0 [.ref 0] S R I J post := by
  refine xSpec_of mt_X11_begin (Nat.le_of_ble_eq_true rfl) (fun G C0 hN hR E hI hZ => ?_)
  change XX G 0 0 0 [some (.ref 0), none] [] S R I J
  have hF := hS.film hg
  have hH := hS.hall (q := 33) (by decide)
  have hfh : ∀ i j, i < 9 → j < 4 → g + i ≠ 33 + j := fun i j hi hj => hf_apart 33 (by decide) g hg i hi j hj
  have zf := hF.1
  have ze := (fixd.eve hS e25).1
  have zp := (fixd.x41 hS).1
  have zt := fixd.s108 hS
  have zm := fixd.sMarks hS
  have hloop : ∀ q k I1, k + q = 4 → (∀ a, (∀ m, m < 4 → a ≠ 111 + 6 * m) → I1 a = ufill (u2 (u2 (uopen I g 33) e 0 (nI 0)) 41 2 (nI 0)) 108 36 (nI 0) a) → (∀ m, m < k → I1 (111 + 6 * m) 0 = 0) → XX G 0 0 37 [some (.ref 0), some (.int (nI k))] [] S R I1 J := by
    intro q
    induction q with
    | zero =>
      intro k I1 hk s1 d1
      have hk8 : k = 4 := by omega
      subst hk8
      refine x_iload_n C0 rfl dX11_begin_37 ?_
      refine x_aload_n C0 rfl dX11_begin_38 ?_
      refine x_getR C0 wf_X11_62 (fixd.k0 hS) rfl rfl (fixd.marks hS) dX11_begin_39 ?_
      refine x_alen C0 (by assumption) (by decide) (by decide) rfl dX11_begin_42 ?_
      refine x_icmp_ge (tgt := 71) C0 (by decide) dX11_begin_43 (fun _ => ?_) (fun hkk => absurd ((Int32.le_refl _)) hkk)
      refine x_vret C0 E (by decide) (by decide) dX11_begin_71 ?_
      refine hp I1 ⟨fun a a1 a2 a3 a4 a5 a6 a7 a8 => ?_, fun i hi => ?_, ⟨?_, fun k hk => ?_⟩, ⟨?_, fun k hk => ?_⟩, fun i hi => ?_, d1⟩
      · rw [s1 a a8, ufill_row _ _ _ a7, u2_row _ _ _ a6, u2_row _ _ _ a5, uopen_row _ a1 a2 a3 a4]
      · rw [s1 _ (fun m hm => by omega), ufill_row _ _ _ (by omega), u2_row _ _ _ (by omega), u2_row _ _ _ (by omega)]
      · rw [s1 _ (fun m hm => by omega), ufill_row _ _ _ (by omega), u2_row _ _ _ (by omega), u2_same]; rfl
      · rw [s1 _ (fun m hm => by omega), ufill_row _ _ _ (by omega), u2_row _ _ _ (by omega), u2_off _ _ hk, uopen_row _ (by omega) (by omega) (by omega) (by omega)]
      · rw [s1 _ (fun m hm => by omega), ufill_row _ _ _ (by omega), u2_same]; rfl
      · rw [s1 _ (fun m hm => by omega), ufill_row _ _ _ (by omega), u2_off _ _ hk, u2_row _ _ _ (by omega), uopen_row _ (by omega) (by omega) (by omega) (by omega)]
      · rw [s1 _ (fun m hm => by omega), ufill_in _ _ hi]; rfl
    | succ q ih =>
      intro k I1 hk s1 d1
      have hk4 : k < 4 := by omega
      obtain ⟨m1, m2, -, -, -⟩ := fixd.mark hS (m := k) hk4
      refine x_iload_n C0 rfl dX11_begin_37 ?_
      refine x_aload_n C0 rfl dX11_begin_38 ?_
      refine x_getR C0 wf_X11_62 (fixd.k0 hS) rfl rfl (fixd.marks hS) dX11_begin_39 ?_
      refine x_alen C0 (by assumption) (by decide) (by decide) rfl dX11_begin_42 ?_
      refine x_icmp_ge (tgt := 71) C0 (by decide) dX11_begin_43 (fun hkk => absurd hkk ((nI_ge (by omega) (by omega)))) (fun _ => ?_)
      refine x_aload_n C0 rfl dX11_begin_46 ?_
      refine x_getR C0 wf_X11_62 (fixd.k0 hS) rfl rfl (fixd.marks hS) dX11_begin_47 ?_
      refine x_iload_n C0 rfl dX11_begin_50 ?_
      refine x_aaloadM C0 (by assumption) (vp_in_nI hk4 (by decide)) (show R 107 (nI k).toNatClampNeg = some (111 + 6 * k) by rw [nI_clamp (by omega)]; exact m1) dX11_begin_51 ?_
      refine x_ifnull C0 dX11_begin_52 ?_
      refine x_aload_n C0 rfl dX11_begin_55 ?_
      refine x_getR C0 wf_X11_62 (fixd.k0 hS) rfl rfl (fixd.marks hS) dX11_begin_56 ?_
      refine x_iload_n C0 rfl dX11_begin_59 ?_
      refine x_aaloadM C0 (by assumption) (vp_in_nI hk4 (by decide)) (show R 107 (nI k).toNatClampNeg = some (111 + 6 * k) by rw [nI_clamp (by omega)]; exact m1) dX11_begin_60 ?_
      refine x_iconst (v := nI 0) C0 rfl dX11_begin_61 ?_
      refine x_putZ C0 wf_X11_112 m2 rfl (Or.inl rfl) dX11_begin_62 ?_
      refine x_iinc (v := nI (k + 1)) (L' := [_, _]) C0 hN rfl (by decide) (nI_inc k) rfl dX11_begin_65 ?_
      refine x_goto (tgt := 37) C0 (by decide) dX11_begin_68 ?_
      exact ih (k + 1) _ (by omega) (fun a ha => by rw [u2_row _ _ _ (ha k (by omega))]; exact s1 a ha) (fun m hm => by
        by_cases e9 : m = k
        · rw [e9, u2_same]; rfl
        · rw [u2_row _ _ _ (by omega)]; exact d1 m (by omega))
  refine x_aload_n C0 rfl dX11_begin_0 ?_
  refine x_getR C0 wf_X11_26 (fixd.k0 hS) rfl rfl hf dX11_begin_1 ?_
  refine x_aload_n C0 rfl dX11_begin_4 ?_
  refine x_getR C0 wf_X11_46 (fixd.k0 hS) rfl rfl (fixd.now hS) dX11_begin_5 ?_
  refine x_callV [_] C0 hN rfl (xRf_of hR (by decide) (Nat.zero_le _) (Nat.zero_le _)) mv_X2_open wm_X11_81 dX11_begin_8 (by assumption) rfl rfl (Nat.le_of_ble_eq_true rfl) (c_X2_open hF hH hfh ?_)
  refine x_aload_n C0 rfl dX11_begin_11 ?_
  refine x_getR C0 wf_X11_36 (fixd.k0 hS) rfl rfl he dX11_begin_12 ?_
  refine x_iconst (v := nI 0) C0 rfl dX11_begin_15 ?_
  refine x_putI C0 wf_X11_100 (by assumption) rfl dX11_begin_16 ?_
  refine x_aload_n C0 rfl dX11_begin_19 ?_
  refine x_getR C0 wf_X11_56 (fixd.k0 hS) rfl rfl (fixd.past hS) dX11_begin_20 ?_
  refine x_iconst (v := nI 0) C0 rfl dX11_begin_23 ?_
  refine x_putI C0 wf_X11_103 (by assumption) rfl dX11_begin_24 ?_
  refine x_aload_n C0 rfl dX11_begin_27 ?_
  refine x_getR C0 wf_X11_66 (fixd.k0 hS) rfl rfl (fixd.told hS) dX11_begin_28 ?_
  refine x_iconst (v := nI 0) C0 rfl dX11_begin_31 ?_
  refine x_callS [_, _] C0 (xRf_of hR (by decide) (Nat.zero_le _) (Nat.zero_le _)) ms_J7_fill_53178 wm_X11_106 dX11_begin_32 rfl rfl (Nat.le_of_ble_eq_true rfl) (c_J7_fill_53178 zt (by decide) ?_)
  refine x_iconst (v := nI 0) C0 rfl dX11_begin_35 ?_
  refine x_istore_n (L' := [_, _]) C0 hN (by decide) rfl dX11_begin_36 ?_
  exact hloop 4 0 _ (by decide) (fun _ _ => rfl) (fun m hm => absurd hm (by omega))
theorem c_X11_film {S : xTS} {R : xTR} {I : xTI} {J : xTJ} {post : xPost} (hS : fixd S R) {tp : Nat → Nat} {n : Nat} (T : CTp I tp n) (ro : wOr (R 1 7)) {f g e : Nat} (hfm : f ∈ [7, 16]) (hg : g ∈ [7, 16]) (hfg : f ≠ g) (hf : R 0 2 = some f) (hg3 : R 0 3 = some g) (he : R 0 4 = some e) (e25 : e = 25 ∨ e = 29) {m : pM} (em : fAll (tTok tp n) = m) (h0 : ¬ m.1.2 = 0 → ∀ R' I' J', (∀ a, a ≠ 1 → a ≠ 3 → a ≠ 4 → a ≠ 5 → a ≠ 6 → (a < g ∨ g + 9 ≤ a) → I' a = I a) → I' 1 1 = 0 → (∀ a, a ≠ 1 → a ≠ g + 1 → a ≠ g + 2 → J' a = J a) → (∀ a k, a ≠ 1 ∨ k ≠ 7 → R' a k = R a k) → wOr (R' 1 7) → post (some (.int (nI m.1.2))) S R' I' J') (h1 : m.1.2 = 0 → ∀ R' I' I2 J', (∀ a, a ≠ 1 → a ≠ 3 → a ≠ 4 → a ≠ 5 → a ≠ 6 → (a < g ∨ g + 9 ≤ a) → I2 a = I a) → I2 1 1 = 0 → Begun I2 I' g e → (∀ a, a ≠ 1 → a ≠ g + 1 → a ≠ g + 2 → J' a = J a) → (∀ a k, (a ≠ 1 ∨ k ≠ 7) → (a ≠ 0 ∨ (k ≠ 2 ∧ k ≠ 3)) → R' a k = R a k) → R' 0 2 = some g → R' 0 3 = some f → wOr (R' 1 7) → FOk m.2.1 → CFm I2 J' g m.2.1 → RFilm I2 g (fRow m.2.1 m.2.2.2.isSome) (sDq (fRow m.2.1 m.2.2.2.isSome) m.2.2.2) m.2.1.1.2.1 m.2.1.1.2.2.1 → post (some (.int (nI m.1.2))) S R' I' J') : xSpec 39 yX11_film cX11_film 3 (some .int) 0 0 [.ref 0] S R I J post := by
  refine xSpec_of mt_X11_film (Nat.le_of_ble_eq_true rfl) (fun G C0 hN hR E hI hZ => ?_)
  change XX G 0 0 0 [some (.ref 0), none, none] [] S R I J
  have s1 := hS.sTape
  have s2 := hS.sSigns
  have r0 := hS.rSigns
  obtain ⟨t1, t2, t3⟩ := id T
  have hg7 : 7 ≤ g := by
    rcases List.mem_cons.mp hg with rfl | h
    · decide
    · rcases List.mem_cons.mp h with rfl | h
      · decide
      · cases h
  have hgF := hS.film hg
  have k0 := hS.k0
  have zr := hS.sReader
  refine x_aload_n C0 rfl dX11_film_0 ?_
  refine x_getR C0 wf_X11_19 k0 rfl rfl (fixd.reader hS) dX11_film_1 ?_
  refine x_aload_n C0 rfl dX11_film_4 ?_
  refine x_getR C0 wf_X11_12 k0 rfl rfl (fixd.tape hS) dX11_film_5 ?_
  refine x_aload_n C0 rfl dX11_film_8 ?_
  refine x_getR C0 wf_X11_30 k0 rfl rfl hg3 dX11_film_9 ?_
  refine x_callV [_, _] C0 hN rfl (xRf_of hR (by decide) (Nat.zero_le _) (Nat.zero_le _)) mv_X7_readFilm wm_X11_93 dX11_film_12 zr rfl rfl (Nat.le_of_ble_eq_true rfl) (c_X7_readFilm hS T ro hg7 hgF (fun R1 I1 J1 f1 ro1 lt1 e1 => ?_))
  rw [em] at lt1 e1 ⊢
  have hS1 := hS.frf f1
  have k01 := hS1.k0
  have zt1 := hS1.sTape
  have r01 : ∀ k, R1 0 k = R 0 k := fun k => f1.2.2.2 0 k (Or.inl (by decide))
  refine x_istore_n (L' := [_, _, _]) C0 hN (by decide) rfl dX11_film_15 ?_
  refine x_aload_n C0 rfl dX11_film_16 ?_
  refine x_getR C0 wf_X11_12 k01 rfl rfl (fixd.tape hS1) dX11_film_17 ?_
  refine x_iconst (v := nI 0) C0 rfl dX11_film_20 ?_
  refine x_putI C0 wf_X11_89 (by assumption) rfl dX11_film_21 ?_
  refine x_iload_n C0 rfl dX11_film_24 ?_
  refine x_if_ne (tgt := 50) C0 (by decide) dX11_film_25 (fun g25 => ?_) (fun g25 => ?_)
  · refine x_iload_n C0 rfl dX11_film_50 ?_
    refine x_iret C0 E (by decide) (by decide) dX11_film_51 ?_
    refine h0 (fun z => g25 (by rw [z]; rfl)) R1 _ J1 (fun a a1 a3 a4 a5 a6 h => ?_) (u2_same _ _ _ _) f1.2.2.1 f1.2.2.2 ro1
    rw [u2_row _ _ _ a1]
    exact f1.1 a a1 a3 a4 a5 a6 h
  · refine x_aload_n C0 rfl dX11_film_28 ?_
    refine x_getR C0 wf_X11_26 k01 rfl rfl ((r01 2).trans hf) dX11_film_29 ?_
    refine x_astore_n (L' := [_, _, _]) C0 hN (by decide) rfl dX11_film_32 ?_
    refine x_aload_n C0 rfl dX11_film_33 ?_
    refine x_aload_n C0 rfl dX11_film_34 ?_
    refine x_getR C0 wf_X11_30 k01 rfl rfl ((r01 3).trans hg3) dX11_film_35 ?_
    refine x_putQ (r := some g) C0 wf_X11_26 k01 rfl dX11_film_38 ?_
    refine x_aload_n C0 rfl dX11_film_41 ?_
    refine x_aload_n C0 rfl dX11_film_42 ?_
    refine x_putQ (r := some f) C0 wf_X11_30 k01 rfl dX11_film_43 ?_
    have z0 : m.1.2 = 0 := (nI_eq (b := 0) (Nat.lt_trans lt1 (by decide)) (by decide)).mp g25
    obtain ⟨ok, C1, RF1⟩ := e1 z0
    have hR2 : ∀ a k, a ≠ 0 ∨ (k ≠ 2 ∧ k ≠ 3) → u2 (u2 R1 0 2 (some g)) 0 3 (some f) a k = R1 a k := fun a k h => by
      unfold u2
      rw [if_neg (by omega), if_neg (by omega)]
    have hS3 : fixd S (u2 (u2 R1 0 2 (some g)) 0 3 (some f)) := hS1.at0 (fun a k h => hR2 a k (by omega))
    have e02 : u2 (u2 R1 0 2 (some g)) 0 3 (some f) 0 2 = some g := by rw [u2_off _ _ (by decide), u2_same]
    have e03 : u2 (u2 R1 0 2 (some g)) 0 3 (some f) 0 3 = some f := u2_same _ _ _ _
    have e04 : u2 (u2 R1 0 2 (some g)) 0 3 (some f) 0 4 = some e := by rw [hR2 0 4 (by omega), r01 4]; exact he
    have s1' : ∀ a, a ≠ 1 → u2 I1 1 1 (nI 0) a = I1 a := fun a h => u2_row _ _ _ h
    have ro3 : wOr (u2 (u2 R1 0 2 (some g)) 0 3 (some f) 1 7) := by rw [hR2 1 7 (by omega)]; exact ro1
    have hRR : ∀ a k, (a ≠ 1 ∨ k ≠ 7) → (a ≠ 0 ∨ (k ≠ 2 ∧ k ≠ 3)) → u2 (u2 R1 0 2 (some g)) 0 3 (some f) a k = R a k := fun a k h1 h2 => by rw [hR2 a k h2]; exact f1.2.2.2 a k h1
    generalize u2 (u2 R1 0 2 (some g)) 0 3 (some f) = R3 at hS3 e02 e03 e04 ro3 hRR ⊢
    have k03 := hS3.k0
    refine x_aload_n C0 rfl dX11_film_46 ?_
    refine x_callV [] C0 hN rfl (xRf_of hR (by decide) (Nat.zero_le _) (Nat.zero_le _)) mv_X11_begin wm_X11_97 dX11_film_47 k03 rfl rfl (Nat.le_of_ble_eq_true rfl) (c_X11_begin hS3 hg e02 e04 e25 (fun I4 b4 => ?_))
    refine x_iload_n C0 rfl dX11_film_50 ?_
    refine x_iret C0 E (by decide) (by decide) dX11_film_51 ?_
    refine h1 z0 R3 I4 (u2 I1 1 1 (nI 0)) J1 (fun a a1 a3 a4 a5 a6 h => ?_) (u2_same _ _ _ _) b4 f1.2.2.1 hRR e02 e03 ro3 ok (C1.congr (by rw [s1' g (by omega)]) (by rw [s1' g (by omega)]) (by rw [s1' g (by omega)]) (fun j _ _ => s1' _ (by omega)) rfl rfl) (RF1.congr (fun i hi => s1' _ (by omega)))
    rw [s1' a a1]
    exact f1.1 a a1 a3 a4 a5 a6 h
