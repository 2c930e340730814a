/-! THE START: both are made -/
theorem uo_row {I : xTI} {f a : Nat} (h : a < 33 ∨ 36 < a) : uopen I f 33 a = I a := by
  unfold uopen
  rw [ufill_row _ _ _ (by omega), ufill_row _ _ _ (by omega), ucopy_row _ _ (by omega), u2_row _ _ _ (by omega), u2_row _ _ _ (by omega), u2_row _ _ _ (by omega), u2_row _ _ _ (by omega)]
theorem r0_tab : ∀ q ∈ RTAB, rOf (RLs.take 153) q.1 q.2.1 = some q.2.2 := by decide +kernel
theorem j0_tab : ∀ i, i < 26 → jOf (JLs.take 26) 140 i = Int64.ofNat (cv (wCd i)) := by decide +kernel
theorem w_0 {I : xTI} (a1 : ∀ a, a < 135 → I a = uopen iB 7 33 a) (a2 : ∀ k, k ≠ 25 → I 135 k = 0) (a3 : I 135 25 = nI 0) (mf : MFilm I (fRow F0' false)) (m148 : I 148 0 = nI 0) (mh : MHall I 0 (sStart (fRow F0' false) 0)) (mtd : ∀ i, i < 36 → I 151 (62 + i) = -2) (mm : ∀ m, m < 4 → I 152 m = nI 0) : WI 0 (rOf (RLs.take 153)) I (jOf (JLs.take 26)) := by
  have wl : WFl (fRow F0' false) 0 0 0 := fRow_WFl F0_ok
  have wx : WFx (sStart (fRow F0' false) 0) 0 0 0 := sStart_WFx wl
  have z : ∀ a, a < 135 → (a < 33 ∨ 36 < a) → I a = iB a := fun a h1 h2 => (a1 a h1).trans (uo_row h2)
  have z0 : ∀ a, a < 135 → (a < 33 ∨ 36 < a) → (a < 7 ∨ (7 < a ∧ a < 16) ∨ 16 < a) → ∀ i, I a i = 0 := fun a h1 h2 h3 i => by
    rw [z a h1 h2]
    unfold iB iA
    rw [u2_row _ _ _ (by omega), u2_row _ _ _ (by omega)]
    rfl
  have rf : RFilm iB 7 (fRow F0' false) (sDq (fRow F0' false) none) 0 0 := ⟨by decide +kernel, by decide +kernel, by decide +kernel, by decide +kernel, fun k h => absurd h (Nat.not_lt_zero k), fun k h => absurd h (Nat.not_lt_zero k), fun k h => absurd h (Nat.not_lt_zero k), fun w k c o h => absurd h (Nat.not_lt_zero w)⟩
  have nl : ∀ (i : Nat) {p : Prop}, i < 0 → p := fun i _ h => absurd h (Nat.not_lt_zero i)
  refine ⟨7, 16, 25, 29, fun _ => 0, 0, F0', none, sStart (fRow F0' false) 0, fun _ => fun _ => 0, 0, fun _ => -2, fun _ => false, fun _ => fun _ => 0, fun _ => fun _ => 0, 0, fun _ => (0, 0, 0, 0), ⟨?_, F0_ok, ⟨by decide, wl, ?_, ?_, wx⟩, ?_, ⟨?_, by decide, fun i h => nl i h⟩, ⟨0, by decide, ?_, ?_, by decide, fun j h => nl j h⟩, fun i hi => ?_, fun m hm => ⟨?_, fun h => Bool.noConfusion h⟩, ⟨by decide, ?_, fun i h => nl i h⟩⟩, ⟨⟨wl, mf, (by decide +kernel : fRow F0' false 4 = -1), mh, wx⟩, ⟨a2 2 (by decide), by decide, fun i h => nl i h⟩, j0_tab, ⟨a2 18 (by decide), ⟨by decide, fun _ => 0, fun _ => 0, fun k h => nl k h, fun v _ => rfl⟩, ⟨by decide, by decide, fun v h => rfl⟩⟩, ⟨a3, by decide, fun j h => nl j h⟩, mtd, fun m hm => ⟨by rw [mm m hm]; rfl, fun h => Bool.noConfusion h⟩, m148, fun i h => nl i h⟩, ⟨⟨wx, 0, Nat.le_refl _, rfl⟩, fun j h => nl j h, fun _ _ => Or.inl rfl, fun m _ h => Bool.noConfusion h, Nat.zero_le _⟩⟩
  · exact ⟨⟨by decide, by decide, by decide⟩, Or.inl rfl, Or.inr rfl, by decide, by decide +kernel, by decide +kernel, by decide +kernel, by decide +kernel, Or.inl (by decide +kernel), r0_tab⟩
  · exact rf.congr (fun i hi => z _ (by omega) (by omega))
  · exact (uopen_hall (h := 33) (fun i j _ _ => by omega) wl rf).congr (fun i hi => a1 _ (by omega))
  · refine ⟨?_, ?_, ?_, fun k h => nl k h, fun k h => nl k h, fun k h => nl k h, fun k h => nl k h⟩
    · rw [z 7 (by decide) (by decide)]; decide +kernel
    · rw [z 7 (by decide) (by decide)]; decide +kernel
    · rw [z 7 (by decide) (by decide)]; decide +kernel
  · exact z0 1 (by decide) (by decide) (by decide) 1
  · exact z0 41 (by decide) (by decide) (by decide) 1
  · exact z0 41 (by decide) (by decide) (by decide) 2
  · rw [z0 108 (by decide) (by decide) (by decide) i]
    exact (by decide : (0 : Int32) = -2 + 2)
  · rw [z0 (111 + 6 * m) (by omega) (by omega) (by omega) 0]
    rfl
  · exact z0 25 (by decide) (by decide) (by decide) 0
theorem x_sameI {G : xG} {cells slots pc : Nat} {Lc : List (Option Value)} {st : List Value} {S : xTS} {R : xTR} {I I2 : xTI} {J : xTJ} (h : ∀ a, a < S.length → I2 a = I a) (k : XX G cells slots pc Lc st S R I2 J) : XX G cells slots pc Lc st S R I J := by
  obtain ⟨p, l, e, Rm, s, m, args, below, meth, c, D, cs, ad, b, nL, Q⟩ := G
  intro H locs ls hn hl hP hS
  have e1 : xW ad cs S R I J = xW ad cs S R I2 J := by
    apply List.ext_getElem?
    intro i
    simp only [xW, List.getElem?_mapIdx]
    cases hi : S[i]? with
    | none => rfl
    | some q => rw [h i (List.getElem?_eq_some_iff.mp hi).1]
  exact k H locs ls hn hl (e1 ▸ hP) hS
set_option maxRecDepth 4000 in
theorem law_body {G : xG} {rt : Option FieldType} {L : Nat} {xs : Nat → Int32} (C0 : XC G RL cL_law rt) (hN : xnL G 7) (hX : xScr G L xs) (hT : xFl G) (hz : xSz G 0) (hG : ∀ d c s, d ≤ 39 → c ≤ 601024 → s ≤ 7293034 → xRf G d c s) (hL : L ≤ 3584) (hE : ∀ c s Lc R I J, c ≤ 601024 → s ≤ 7293034 → XX G c s 1486 Lc [.int 1] SALL R I J) :
    XX G 0 0 0 [some (.ref 10300), none, none, none, none, none, none] [] [] (rOf (RLs.take 0)) iZ (jOf (JLs.take 0)) := by
  refine x_new (ci := 9) (k0 := 0) C0 ⟨hz, rfl⟩ (hG _ _ _ (by decide) (by decide) (by decide)) cl_X11 wc_L_8 wi_X11 wz_X11 (by decide +kernel) ft_X11 rfl (fun j => rfl) (fun j => rfl) (fun j => rfl) dL_law_0 ?_
  rw [show ([] : xTS).length = 0 from rfl, show ([] : xTS) ++ [(9, 13)] = SALL.take 1 by decide +kernel]
  refine x_dup C0 rfl dL_law_3 ?_
  refine x_callI (a := 0) (k0 := 0) (mc := 134) (ms := 4365) [] C0 (fun _ => ⟨hz, (show 0 + (0 + 1) = (SALL.take 1).length by decide +kernel)⟩) (hG _ _ _ (by decide) (by decide) (by decide)) mi_X11_init (Or.inl wm_L_15) dL_law_4 rfl rfl (Nat.le_of_ble_eq_true rfl) (k_X11_init ?_)
  refine x_astore_n (L' := [_, _, _, _, _, _, _]) C0 hN (by decide) rfl dL_law_7 ?_
  have hI : ∀ j, 135 ≤ j → ∀ i, uopen iB 7 33 j i = 0 := fun j hj i => by rw [uo_row (by omega)]; exact iB_0 j (by omega) i
  have hB := blank_at (n := 135) (m := 134) (j := 0) (I := uopen iB 7 33) (by decide +kernel) (by decide +kernel) hI
  have l135 : (SALL.take 135).length = 135 := by decide +kernel
  refine x_new (ci := 10) (k0 := 0) C0 ⟨hz, (show 0 + (0 + 1 + 134) = (SALL.take 135).length by decide +kernel)⟩ (hG _ _ _ (by decide) (by decide) (by decide)) cl_X12 wc_L_16 wi_X12 wz_X12 (by decide +kernel) ft_X12 rfl (fun j => by rw [l135]; exact (hB 135 (Nat.le_refl _)).1 j) (fun j => by rw [l135]; exact (hB 135 (Nat.le_refl _)).2.1 j) (fun j => by rw [l135]; exact (hB 135 (Nat.le_refl _)).2.2 j) dL_law_8 ?_
  rw [l135, show SALL.take 135 ++ [(10, 30)] = SALL.take 136 by decide +kernel]
  refine x_dup C0 rfl dL_law_11 ?_
  refine x_callI (a := 135) (k0 := 0) (mc := 19) (ms := 12406) [] C0 (fun _ => ⟨hz, (show 0 + (0 + 1 + 134 + 1) = (SALL.take 136).length by decide +kernel)⟩) (hG _ _ _ (by decide) (by decide) (by decide)) mi_X12_init (Or.inl wm_L_18) dL_law_12 rfl rfl (Nat.le_of_ble_eq_true rfl) (k_X12_init (fun j hj i => hI j (by omega) i) (fun I' b1 b2 b3 b4 b5 b6 b7 b8 => ?_))
  have l155 : (SALL.take 155).length = 155 := by decide +kernel
  refine x_sameI (I2 := fun a => if a < 155 then I' a else fun _ => 0) (fun a ha => if_pos (by rw [l155] at ha; exact ha)) ?_
  have e : ∀ a, a < 155 → (fun a => if a < 155 then I' a else fun _ => 0 : xTI) a = I' a := fun a ha => if_pos ha
  have e155 : ∀ i, (fun a => if a < 155 then I' a else fun _ => 0 : xTI) 155 i = 0 := fun i => rfl
  generalize (fun a => if a < 155 then I' a else fun _ => 0 : xTI) = I2 at e e155 ⊢
  refine x_astore_n (L' := [_, _, _, _, _, _, _]) C0 hN (by decide) rfl dL_law_15 ?_
  refine x_iconst (v := nI 1) C0 rfl dL_law_16 ?_
  refine x_newarray (kd := 12) (ty := .long) (k0 := 0) (N := 1) C0 ⟨hz, (show 0 + (0 + 1 + 134 + 1 + 19) = (SALL.take 155).length by decide +kernel)⟩ (hG _ _ _ (by decide) (by decide) (by decide)) rfl (Or.inr (Or.inl ⟨rfl, rfl⟩)) wa_long (by decide +kernel) (by decide) (by decide) (by decide) (fun j => by rw [l155]; exact e155 j) (fun j => by rw [l155]; exact jOf_0 _ _ 155 (by decide +kernel) (fun _ _ _ => rfl) 155 (Nat.le_refl _) j) dL_law_17 ?_
  rw [l155, show SALL.take 155 ++ [(12, 1)] = SALL by decide +kernel]
  refine x_astore_n (L' := [_, _, _, _, _, _, _]) C0 hN (by decide) rfl dL_law_19 ?_
  refine x_iconst (v := nI (7 * 0)) C0 rfl dL_law_20 ?_
  refine x_istore (L' := [_, _, _, _, _, _, _]) C0 hN (by decide) rfl dL_law_21 ?_
  refine law_loop C0 hN hX hT hG hL hE 513 0 rfl _ _ _ _ _ _ _ (by decide) (by decide) (w_0 (fun a ha => (e a (by omega)).trans (b1 a ha)) (fun k hk => ?_) ?_ (fun i hi => ?_) ?_ (fun i hi => ?_) (fun i hi => ?_) (fun m hm => ?_))
  · rw [e 135 (by decide), b2 k hk]
    exact hI 135 (Nat.le_refl _) k
  · rw [e 135 (by decide)]; exact b3
  · rw [e 141 (by decide)]; exact b4 i hi
  · rw [e 148 (by decide)]; exact b5
  · rw [e 151 (by decide)]; exact b6 i hi
  · rw [e 151 (by decide)]; exact b7 i hi
  · rw [e 152 (by decide)]; exact b8 m hm
