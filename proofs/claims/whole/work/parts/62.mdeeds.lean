/-! THE DEEDS: the reference -/
def MPast (I : xTI) (us : Nat → xRow) (u : Nat) : Prop := I 135 25 = nI u ∧ u ≤ 16 ∧ ∀ j, j < u → MHall I (98 * (5 + (u - 1 - j))) (us j)
/-- what a deed of the reference leaves -/
def MD (I I' : xTI) : Prop := (∀ a, a ≠ 135 → a ≠ 149 → a ≠ 150 → a ≠ 151 → a ≠ 153 → a ≠ 154 → I' a = I a) ∧ (∀ k, k ≠ 0 → k ≠ 25 → I' 135 k = I 135 k) ∧ (∀ j, 62 ≤ j → j < 490 → I' 151 j = I 151 j)
theorem MD.rf {I : xTI} : MD I I := ⟨fun _ _ _ _ _ _ _ => rfl, fun _ _ _ => rfl, fun _ _ _ => rfl⟩
theorem MD.trans {I I1 I2 : xTI} (a : MD I I1) (b : MD I1 I2) : MD I I2 := ⟨fun q h1 h2 h3 h4 h5 h6 => (b.1 q h1 h2 h3 h4 h5 h6).trans (a.1 q h1 h2 h3 h4 h5 h6), fun k h g => (b.2.1 k h g).trans (a.2.1 k h g), fun j h g => (b.2.2 j h g).trans (a.2.2 j h g)⟩
theorem MD.mq {I I' : xTI} (h : MQs I I') : MD I I' := ⟨h.1, fun k h1 _ => h.2.1 k h1, fun j _ h2 => h.2.2 j (by omega)⟩
theorem MD.same {I I' : xTI} (h : MSame I I' 0) : MD I I' := ⟨fun a h1 h2 h3 h4 h5 h6 => h.1 a h2 h3 h4 h5, fun k _ _ => by rw [h.1 135 (by decide) (by decide) (by decide) (by decide)], fun j h1 h2 => h.2 j (Or.inr (by omega))⟩
theorem MD.st {I : xTI} {j : Nat} {v : Int32} (h : j < 62) : MD I (u2 I 151 j v) := MD.same (MSame.st (Nat.zero_le _) (by omega))
theorem MPast.congr {I I' : xTI} {us : Nat → xRow} {u : Nat} (h : MPast I us u) (e1 : I' 135 25 = I 135 25) (e2 : ∀ j, 490 ≤ j → j < 2058 → I' 151 j = I 151 j) : MPast I' us u := by
  obtain ⟨h1, h2, h3⟩ := h
  exact ⟨e1.trans h1, h2, fun j hj i hi => by rw [e2 _ (by omega) (by omega)]; exact h3 j hj i hi⟩
theorem MPast.mq {I I' : xTI} {us : Nat → xRow} {u : Nat} (h : MPast I us u) (q : MQs I I') : MPast I' us u := h.congr (q.2.1 25 (by decide)) (fun j _ h2 => q.2.2 j h2)
theorem MPast.same {I I' : xTI} {us : Nat → xRow} {u : Nat} (h : MPast I us u) (q : MSame I I' 0) : MPast I' us u := h.congr (by rw [q.1 135 (by decide) (by decide) (by decide) (by decide)]) (fun j h1 _ => q.2 j (Or.inr (by omega)))
theorem MPast.st {I : xTI} {us : Nat → xRow} {u j : Nat} {v : Int32} (h : MPast I us u) (hj : j < 62) : MPast (u2 I 151 j v) us u := h.same (MSame.st (Nat.zero_le _) (by omega))
theorem ucp_to {I : xTI} {fr to : Nat} {x : xRow} (h : MHall I fr x) : MHall (ucp I fr to 62) to x := fun i hi => by
  unfold ucp
  rw [if_pos ⟨rfl, by omega, by omega⟩, show fr + (to + i - to) = fr + i by omega]
  exact h i hi
theorem ucp_off {I : xTI} {fr to n j : Nat} (h : j < to ∨ to + n ≤ j) : ucp I fr to n 151 j = I 151 j := by
  unfold ucp
  rw [if_neg (by omega)]
theorem MHall.off {I : xTI} {b fr to : Nat} {x : xRow} (h : MHall I b x) (e : b + 62 ≤ to ∨ to + 62 ≤ b) : MHall (ucp I fr to 62) b x := fun i hi => by
  rw [ucp_off (by omega)]
  exact h i hi
/-- what keeping leaves -/
def MK (I I' : xTI) : Prop := (∀ a, a ≠ 135 → a ≠ 151 → I' a = I a) ∧ (∀ k, k ≠ 25 → I' 135 k = I 135 k) ∧ (∀ j, (j < 490 ∨ 2058 ≤ j) → I' 151 j = I 151 j)
theorem MK.md {I I' : xTI} (h : MK I I') : MD I I' := ⟨fun a h1 _ _ h4 _ _ => h.1 a h1 h4, fun k _ h2 => h.2.1 k h2, fun j _ h2 => h.2.2 j (Or.inl h2)⟩
theorem MK.film {I I' : xTI} {fl : xRow} (h : MK I I') (m : MFilm I fl) : MFilm I' fl := fun i hi => by rw [h.1 141 (by decide) (by decide)]; exact m i hi
theorem MK.law {I I' : xTI} {fl : xRow} {lw : Option (List (Nat × Nat))} (h : MK I I') (hl : MLaw I fl lw) : MLaw I' fl lw := by
  cases lw with
  | none => exact hl
  | some cl =>
    refine ⟨hl.1, ?_⟩
    unfold MCode
    rw [h.1 142 (by decide) (by decide), h.1 143 (by decide) (by decide)]
    exact hl.2
theorem MK.hall {I I' : xTI} {x : xRow} (h : MK I I') (m : MHall I 0 x) : MHall I' 0 x := fun i hi => by rw [h.2.2 _ (by omega)]; exact m i hi
theorem c_X12_keeps {S : xTS} {R : xTR} {I : xTI} {J : xTJ} {post : xPost} (hM : isModel S R) {x : xRow} {us : Nat → xRow} {u : Nat} (P : MPast I us u) (mH : MHall I 0 x) (hp : ∀ I', MK I I' → MPast I' (uPush x us) (uUp u) → post none S R I' J) : xSpec 2 yX12_keeps cX12_keeps 2 none 0 0 [.ref 135] S R I J post := by
  refine xSpec_of mt_X12_keeps (Nat.le_of_ble_eq_true rfl) (fun G C0 hN hR E hI hZ => ?_)
  change XX G 0 0 0 [some (.ref 135), none] [] S R I J
  obtain ⟨e25, hu, hr⟩ := P
  have h53 : ∀ v I1 v1, v < 16 → uUp u = v + 1 → MK I I1 → I1 135 25 = nI v → (∀ j, j < v → MHall I1 (98 * (5 + (v - 1 - j))) (us j)) → XX G 0 0 53 [some (.ref 135), v1] [] S R I1 J := by
    intro v I1 v1 hv eu s1 e1 r1
    have mH1 := s1.hall mH
    refine x_aload_n C0 rfl dX12_keeps_53 ?_
    refine x_iconst (v := nI 0) C0 rfl dX12_keeps_54 ?_
    refine x_bipush (v := nI 98) C0 rfl dX12_keeps_55 ?_
    refine x_iconst (v := nI 5) C0 rfl dX12_keeps_57 ?_
    refine x_aload_n C0 rfl dX12_keeps_58 ?_
    refine x_getI C0 wf_X12_291 (isModel.k0 hM) rfl dX12_keeps_59 ?_
    refine x_topi e1 ?_
    refine x_iadd C0 dX12_keeps_62 ?_
    refine x_topi (nI_add 5 v) ?_
    refine x_imul C0 dX12_keeps_63 ?_
    refine x_topi (nI_mul 98 (5 + v)) ?_
    refine x_bipush (v := nI 62) C0 rfl dX12_keeps_64 ?_
    refine x_callV [_, _, _] C0 hN rfl (xRf_of hR (by decide) (Nat.zero_le _) (Nat.zero_le _)) mv_X12_copies wm_X12_294 dX12_keeps_66 (isModel.k0 hM) rfl rfl (Nat.le_of_ble_eq_true rfl) (c_X12_copies hM (Or.inl (by omega)) (by omega) (by omega) ?_)
    refine x_aload_n C0 rfl dX12_keeps_69 ?_
    refine x_dup C0 rfl dX12_keeps_70 ?_
    refine x_getI C0 wf_X12_291 (isModel.k0 hM) rfl dX12_keeps_71 ?_
    refine x_topi (show ucp I1 0 (98 * (5 + v)) 62 135 25 = nI v by rw [ucp_row _ (by decide)]; exact e1) ?_
    refine x_iconst (v := nI 1) C0 rfl dX12_keeps_74 ?_
    refine x_iadd C0 dX12_keeps_75 ?_
    refine x_topi (nI_add v 1) ?_
    refine x_putI C0 wf_X12_291 (isModel.k0 hM) rfl dX12_keeps_76 ?_
    refine x_vret C0 E (by decide) (by decide) dX12_keeps_79 ?_
    refine hp _ ⟨fun a h1 h2 => ?_, fun k hk => ?_, fun j hj => ?_⟩ ⟨?_, by omega, fun j hj => ?_⟩
    · rw [u2_row _ _ _ h1, ucp_row _ h2]; exact s1.1 a h1 h2
    · rw [u2_off _ _ hk, ucp_row _ (by decide)]; exact s1.2.1 k hk
    · rw [u2_row _ _ _ (by decide), ucp_off (by omega)]; exact s1.2.2 j hj
    · rw [u2_same, eu]
    · unfold uPush
      by_cases hj0 : j = 0
      · rw [if_pos hj0, eu, show v + 1 - 1 - j = v by omega]
        exact (ucp_to mH1).congr (u2_row _ _ _ (by decide))
      · rw [if_neg hj0, eu, show v + 1 - 1 - j = v - 1 - (j - 1) by omega]
        exact ((r1 (j - 1) (by omega)).off (by omega)).congr (u2_row _ _ _ (by decide))
  have h11 : u = 16 → ∀ n k I1, k + n = 16 → 1 ≤ k → MK I I1 → I1 135 25 = nI 16 → (∀ i, i < 16 → MHall I1 (98 * (5 + i)) (if i + 1 < k then us (14 - i) else us (15 - i))) → XX G 0 0 11 [some (.ref 135), some (.int (nI k))] [] S R I1 J := by
    intro hu16 n
    induction n with
    | zero =>
      intro k I1 hk h1 s1 e1 r1
      have hk8 : k = 16 := by omega
      subst hk8
      refine x_iload_n C0 rfl dX12_keeps_11 ?_
      refine x_bipush (v := nI 16) C0 rfl dX12_keeps_12 ?_
      refine x_icmp_ge (tgt := 43) C0 (by decide) dX12_keeps_14 (fun _ => ?_) (fun hkk => absurd ((Int32.le_refl _)) hkk)
      refine x_aload_n C0 rfl dX12_keeps_43 ?_
      refine x_dup C0 rfl dX12_keeps_44 ?_
      refine x_getI C0 wf_X12_291 (isModel.k0 hM) rfl dX12_keeps_45 ?_
      refine x_topi e1 ?_
      refine x_iconst (v := nI 1) C0 rfl dX12_keeps_48 ?_
      refine x_isub C0 dX12_keeps_49 ?_
      refine x_putI C0 wf_X12_291 (isModel.k0 hM) rfl dX12_keeps_50 ?_
      refine h53 15 _ _ (by decide) (by unfold uUp; rw [if_pos hu16]) ⟨fun a h1 h2 => ?_, fun k hk => ?_, fun j hj => ?_⟩ ?_ (fun j hj => ?_)
      · rw [u2_row _ _ _ h1]; exact s1.1 a h1 h2
      · rw [u2_off _ _ hk]; exact s1.2.1 k hk
      · rw [u2_row _ _ _ (by decide)]; exact s1.2.2 j hj
      · rw [u2_same]; decide
      · have := r1 (15 - 1 - j) (by omega)
        rw [if_pos (by omega), show 14 - (15 - 1 - j) = j by omega] at this
        exact this.congr (u2_row _ _ _ (by decide))
    | succ n ih =>
      intro k I1 hk h1 s1 e1 r1
      refine x_iload_n C0 rfl dX12_keeps_11 ?_
      refine x_bipush (v := nI 16) C0 rfl dX12_keeps_12 ?_
      refine x_icmp_ge (tgt := 43) C0 (by decide) dX12_keeps_14 (fun hkk => absurd hkk ((nI_ge (b := 16) (by omega) (by omega)))) (fun _ => ?_)
      refine x_aload_n C0 rfl dX12_keeps_17 ?_
      refine x_bipush (v := nI 98) C0 rfl dX12_keeps_18 ?_
      refine x_iconst (v := nI 5) C0 rfl dX12_keeps_20 ?_
      refine x_iload_n C0 rfl dX12_keeps_21 ?_
      refine x_iaddN C0 dX12_keeps_22 ?_
      refine x_imulN C0 dX12_keeps_23 ?_
      refine x_bipush (v := nI 98) C0 rfl dX12_keeps_24 ?_
      refine x_iconst (v := nI 5) C0 rfl dX12_keeps_26 ?_
      refine x_iload_n C0 rfl dX12_keeps_27 ?_
      refine x_iaddN C0 dX12_keeps_28 ?_
      refine x_iconst (v := nI 1) C0 rfl dX12_keeps_29 ?_
      refine x_isub C0 dX12_keeps_30 ?_
      refine x_topi (nI_subn (by omega)) ?_
      refine x_imul C0 dX12_keeps_31 ?_
      refine x_topi (nI_mul 98 (5 + k - 1)) ?_
      refine x_bipush (v := nI 62) C0 rfl dX12_keeps_32 ?_
      refine x_callV [_, _, _] C0 hN rfl (xRf_of hR (by decide) (Nat.zero_le _) (Nat.zero_le _)) mv_X12_copies wm_X12_294 dX12_keeps_34 (isModel.k0 hM) rfl rfl (Nat.le_of_ble_eq_true rfl) (c_X12_copies hM (Or.inr (by omega)) (by omega) (by omega) ?_)
      refine x_iinc (v := nI (k + 1)) (L' := [_, _]) C0 hN rfl (by decide) (nI_inc k) rfl dX12_keeps_37 ?_
      refine x_goto (tgt := 11) C0 (by decide) dX12_keeps_40 ?_
      refine ih (k + 1) _ (by omega) (by omega) ⟨fun a h1 h2 => ?_, fun k hk => ?_, fun j hj => ?_⟩ ?_ (fun i hi => ?_)
      · rw [ucp_row _ h2]; exact s1.1 a h1 h2
      · rw [ucp_row _ (by decide)]; exact s1.2.1 k hk
      · rw [ucp_off (by omega)]; exact s1.2.2 j hj
      · rw [ucp_row _ (by decide)]; exact e1
      · by_cases hik : i + 1 = k
        · have := ucp_to (to := 98 * (5 + i)) (r1 k (by omega))
          rw [if_neg (by omega), show 15 - k = 14 - i by omega] at this
          rw [if_pos (by omega), show 5 + k - 1 = 5 + i by omega]
          exact this
        · have := (r1 i hi).off (fr := 98 * (5 + k)) (to := 98 * (5 + k - 1)) (by omega)
          by_cases hi2 : i + 1 < k
          · rw [if_pos hi2] at this
            rw [if_pos (by omega)]
            exact this
          · rw [if_neg hi2] at this
            rw [if_neg (by omega)]
            exact this
  refine x_aload_n C0 rfl dX12_keeps_0 ?_
  refine x_getI C0 wf_X12_291 (isModel.k0 hM) rfl dX12_keeps_1 ?_
  refine x_topi e25 ?_
  refine x_bipush (v := nI 16) C0 rfl dX12_keeps_4 ?_
  refine x_icmp_ne (tgt := 53) C0 (by decide) dX12_keeps_6 (fun g6 => ?_) (fun g6 => ?_)
  · have hu2 : u ≠ 16 := fun z => g6 (by rw [z])
    exact h53 u I _ (by omega) (by unfold uUp; rw [if_neg hu2]) ⟨fun _ _ _ => rfl, fun _ _ => rfl, fun _ _ => rfl⟩ e25 hr
  · refine x_iconst (v := nI 1) C0 rfl dX12_keeps_9 ?_
    refine x_istore_n (L' := [_, _]) C0 hN (by decide) rfl dX12_keeps_10 ?_
    have hu2 : u = 16 := (nI_eq (by omega) (by omega)).mp g6
    subst hu2
    exact h11 rfl 15 1 I (by decide) (by decide) ⟨fun _ _ _ => rfl, fun _ _ => rfl, fun _ _ => rfl⟩ e25 (fun i hi => by
      rw [if_neg (by omega)]
      have := hr (15 - i) (by omega)
      rw [show 16 - 1 - (15 - i) = i by omega] at this
      exact this)
def MDp (I : xTI) (us : Nat → xRow) (u : Nat) (x : xRow) (d : xDd) (I' : xTI) : Prop := MD I I' ∧ MHall I' 0 d.2.1 ∧ MPast I' (dU d x us) (dN d u)
theorem c_X12_show {S : xTS} {R : xTR} {I : xTI} {J : xTJ} {post : xPost} {T N V : Nat} {fl x : xRow} {lw : Option (List (Nat × Nat))} (hM : isModel S R) (C : MCore I fl lw T N V x) {us : Nat → xRow} {u : Nat} (P : MPast I us u) (hp : ∀ I', MDp I us u x (dShow fl (sDq fl lw) x N V) I' → post (some (.int (dShow fl (sDq fl lw) x N V).1)) S R I' J) : xSpec 6 yX12_show cX12_show 1 (some .int) 0 0 [.ref 135] S R I J post := by
  refine xSpec_of mt_X12_show (Nat.le_of_ble_eq_true rfl) (fun G C0 hN hR E hI hZ => ?_)
  change XX G 0 0 0 [some (.ref 135)] [] S R I J
  refine x_aload_n C0 rfl dX12_show_0 ?_
  refine x_iconst (v := nI 0) C0 rfl dX12_show_1 ?_
  refine x_putI C0 wf_X12_1 (isModel.k0 hM) rfl dX12_show_2 ?_
  have q1 := MQs.thrown (I := I) (v := nI 0)
  have C := C.mq q1
  generalize u2 I 135 0 (nI 0) = I1 at q1 C ⊢
  obtain ⟨wl, mF, mL, mH, wx⟩ := id C
  have hT6 := wl.2.1
  have hN8 := wl.2.2.2.1
  have hV6 := wl.2.2.2.2.2.1
  have eT : I1 141 0 = nI T := (mF 0 (by decide)).trans wl.1
  have eN : I1 141 1 = nI N := (mF 1 (by decide)).trans wl.2.2.1
  have eV : I1 141 2 = nI V := (mF 2 (by decide)).trans wl.2.2.2.2.1
  have hb0 : 0 ≤ 2192 := by decide
  unfold dShow at hp
  obtain ⟨k, hk, ek⟩ := wx.1
  have P1 := P.mq q1
  refine x_aload_n C0 rfl dX12_show_5 ?_
  refine x_getR C0 wf_X12_119 (isModel.k0 hM) rfl rfl (isModel.r24 hM) dX12_show_6 ?_
  refine x_iconst (v := nI 0) C0 rfl dX12_show_9 ?_
  refine x_ialoadN C0 (isModel.s24 hM) (by omega) (by omega) dX12_show_10 ?_
  refine x_topi ((mH 0 (by decide)).trans ek) ?_
  refine x_aload_n C0 rfl dX12_show_11 ?_
  refine x_callV [] C0 hN rfl (xRf_of hR (by decide) (Nat.zero_le _) (Nat.zero_le _)) mv_X12_scenes wm_X12_285 dX12_show_12 (isModel.k0 hM) rfl rfl (Nat.le_of_ble_eq_true rfl) (c_X12_scenes hM ?_)
  refine x_topi eN ?_
  refine x_icmp_lt (tgt := 20) C0 (by decide) dX12_show_15 (fun g15 => ?_) (fun g15 => ?_)
  · refine x_aload_n C0 rfl dX12_show_20 ?_
    refine x_callV [] C0 hN rfl (xRf_of hR (by decide) (Nat.zero_le _) (Nat.zero_le _)) mv_X12_keeps wm_X12_350 dX12_show_21 (isModel.k0 hM) rfl rfl (Nat.le_of_ble_eq_true rfl) (c_X12_keeps hM P1 mH (fun I2 s2 p2 => ?_))
    have hkN := (nI_lt_iff (by omega) (by omega)).mp g15
    rw [if_neg (fun z => by rw [ek] at z; have := (nI_eq (by omega) (by omega)).mp z; omega), ek, nI_clamp (by omega)] at hp
    refine x_aload_n C0 rfl dX12_show_24 ?_
    refine x_iconst (v := nI 0) C0 rfl dX12_show_25 ?_
    refine x_callV [_] C0 hN rfl (xRf_of hR (by decide) (Nat.zero_le _) (Nat.zero_le _)) mv_X12_shows wm_X12_338 dX12_show_26 (isModel.k0 hM) rfl rfl (Nat.le_of_ble_eq_true rfl) (c_X12_shows hM (by decide) wl wx (s2.film mF) (s2.law mL) (s2.hall mH) hkN ek (fun I3 s3 r3 _ => ?_))
    refine x_iret C0 E (by decide) (by decide) dX12_show_29 ?_
    exact hp I3 ⟨(MD.mq q1).trans (s2.md.trans (MD.same s3)), r3, p2.same s3⟩
  · refine x_iconst (v := -1) C0 rfl dX12_show_18 ?_
    refine x_iret C0 E (by decide) (by decide) dX12_show_19 ?_
    have hkN : k = N := by have h2 : N ≤ k := Nat.le_of_not_lt (fun z => g15 ((nI_lt_iff (by omega) (by omega)).mpr z)); omega
    rw [if_pos (by rw [ek, hkN])] at hp
    exact hp I1 ⟨MD.mq q1, mH, P.mq q1⟩
theorem c_X12_write {S : xTS} {R : xTR} {I : xTI} {J : xTJ} {post : xPost} {T N V : Nat} {fl x : xRow} {lw : Option (List (Nat × Nat))} (hM : isModel S R) (C : MCore I fl lw T N V x) {k t y : Int32} {us : Nat → xRow} {u : Nat} (P : MPast I us u) (hp : ∀ I', MDp I us u x (dWrite x T N k t y) I' → post (some (.int (dWrite x T N k t y).1)) S R I' J) : xSpec 4 yX12_write cX12_write 4 (some .boolean) 0 0 [.ref 135, .int k, .int t, .int y] S R I J post := by
  refine xSpec_of mt_X12_write (Nat.le_of_ble_eq_true rfl) (fun G C0 hN hR E hI hZ => ?_)
  change XX G 0 0 0 [some (.ref 135), some (.int k), some (.int t), some (.int y)] [] S R I J
  refine x_aload_n C0 rfl dX12_write_0 ?_
  refine x_iconst (v := nI 0) C0 rfl dX12_write_1 ?_
  refine x_putI C0 wf_X12_1 (isModel.k0 hM) rfl dX12_write_2 ?_
  have q1 := MQs.thrown (I := I) (v := nI 0)
  have C := C.mq q1
  generalize u2 I 135 0 (nI 0) = I1 at q1 C ⊢
  obtain ⟨wl, mF, mL, mH, wx⟩ := id C
  have hT6 := wl.2.1
  have hN8 := wl.2.2.2.1
  have hV6 := wl.2.2.2.2.2.1
  have eT : I1 141 0 = nI T := (mF 0 (by decide)).trans wl.1
  have eN : I1 141 1 = nI N := (mF 1 (by decide)).trans wl.2.2.1
  have eV : I1 141 2 = nI V := (mF 2 (by decide)).trans wl.2.2.2.2.1
  have hb0 : 0 ≤ 2192 := by decide
  unfold dWrite at hp
  rw [← eT, ← eN] at hp
  have P1 := P.mq q1
  have e0 : I1 151 (0 + 0) = x 0 := mH 0 (by decide)
  refine x_aload_n C0 rfl dX12_write_5 ?_
  refine x_iconst (v := nI 0) C0 rfl dX12_write_6 ?_
  refine x_iload_n C0 rfl dX12_write_7 ?_
  refine x_callV [_, _] C0 hN rfl (xRf_of hR (by decide) (Nat.zero_le _) (Nat.zero_le _)) mv_X12_isToCome wm_X12_353 dX12_write_8 (isModel.k0 hM) rfl rfl (Nat.le_of_ble_eq_true rfl) (c_X12_isToCome hM (by decide) (fun g8 => ?_) (fun g8 => ?_))
  · refine x_if_eq (tgt := 22) C0 (by decide) dX12_write_11 (fun hkk => absurd hkk (by decide)) (fun _ => ?_)
    refine x_aload_n C0 rfl dX12_write_14 ?_
    refine x_iload_n C0 rfl dX12_write_15 ?_
    refine x_callV [_] C0 hN rfl (xRf_of hR (by decide) (Nat.zero_le _) (Nat.zero_le _)) mv_X12_isThing wm_X12_347 dX12_write_16 (isModel.k0 hM) rfl rfl (Nat.le_of_ble_eq_true rfl) (c_X12_isThing hM (fun g16 => ?_) (fun g16 => ?_))
    · refine x_if_ne (tgt := 24) C0 (by decide) dX12_write_19 (fun _ => ?_) (fun hkk => absurd hkk (by decide))
      obtain ⟨k9, hk9, ek⟩ := nI_ofi' eN (by omega) g8.1
      obtain ⟨t9, ht9, et⟩ := nI_ofi' eT (by omega) g16
      rw [if_pos ⟨g16, g8.1, by rw [← e0]; exact g8.2⟩] at hp
      subst ek
      subst et
      rw [nI_clamp (by omega), nI_clamp (by omega)] at hp
      refine x_aload_n C0 rfl dX12_write_24 ?_
      refine x_callV [] C0 hN rfl (xRf_of hR (by decide) (Nat.zero_le _) (Nat.zero_le _)) mv_X12_keeps wm_X12_350 dX12_write_25 (isModel.k0 hM) rfl rfl (Nat.le_of_ble_eq_true rfl) (c_X12_keeps hM P1 mH (fun I2 s2 p2 => ?_))
      refine x_aload_n C0 rfl dX12_write_28 ?_
      refine x_iconst (v := nI 0) C0 rfl dX12_write_29 ?_
      refine x_iload_n C0 rfl dX12_write_30 ?_
      refine x_iload_n C0 rfl dX12_write_31 ?_
      refine x_iload_n C0 rfl dX12_write_32 ?_
      refine x_if_eq (tgt := 40) C0 (by decide) dX12_write_33 (fun g33 => ?_) (fun g33 => ?_)
      · refine x_iconst (v := nI 0) C0 rfl dX12_write_40 ?_
        refine x_callV [_, _, _, _] C0 hN rfl (xRf_of hR (by decide) (Nat.zero_le _) (Nat.zero_le _)) mv_X12_writes wm_X12_356 dX12_write_41 (isModel.k0 hM) rfl rfl (Nat.le_of_ble_eq_true rfl) (c_X12_writes hM (by decide) (by omega) ?_)
        refine x_iconst (v := nI 1) C0 rfl dX12_write_44 ?_
        refine x_zret C0 E (by decide) (by decide) rfl dX12_write_45 ?_
        have eb : bN y = 0 := by unfold bN; rw [if_pos g33]
        rw [eb] at hp
        refine hp _ ⟨(MD.mq q1).trans (s2.md.trans ((MD.st (by omega)).trans (MD.st (by omega)))), ((s2.hall mH).upd (by omega) (by omega)).upd (by omega) (by omega), (p2.st (by omega)).st (by omega)⟩
      · refine x_iconst (v := nI 1) C0 rfl dX12_write_36 ?_
        refine x_goto (tgt := 41) C0 (by decide) dX12_write_37 ?_
        refine x_callV [_, _, _, _] C0 hN rfl (xRf_of hR (by decide) (Nat.zero_le _) (Nat.zero_le _)) mv_X12_writes wm_X12_356 dX12_write_41 (isModel.k0 hM) rfl rfl (Nat.le_of_ble_eq_true rfl) (c_X12_writes hM (by decide) (by omega) ?_)
        refine x_iconst (v := nI 1) C0 rfl dX12_write_44 ?_
        refine x_zret C0 E (by decide) (by decide) rfl dX12_write_45 ?_
        have eb : bN y = 1 := by unfold bN; rw [if_neg g33]
        rw [eb] at hp
        refine hp _ ⟨(MD.mq q1).trans (s2.md.trans ((MD.st (by omega)).trans (MD.st (by omega)))), ((s2.hall mH).upd (by omega) (by omega)).upd (by omega) (by omega), (p2.st (by omega)).st (by omega)⟩
    · refine x_if_ne (tgt := 24) C0 (by decide) dX12_write_19 (fun hkk => absurd (by decide) hkk) (fun _ => ?_)
      refine x_iconst (v := nI 0) C0 rfl dX12_write_22 ?_
      refine x_zret C0 E (by decide) (by decide) rfl dX12_write_23 ?_
      rw [if_neg (fun z => g16 z.1)] at hp
      exact hp I1 ⟨MD.mq q1, mH, P.mq q1⟩
  · refine x_if_eq (tgt := 22) C0 (by decide) dX12_write_11 (fun _ => ?_) (fun hkk => absurd (by decide) hkk)
    refine x_iconst (v := nI 0) C0 rfl dX12_write_22 ?_
    refine x_zret C0 E (by decide) (by decide) rfl dX12_write_23 ?_
    rw [if_neg (fun z => g8 ⟨z.2.1, by rw [e0]; exact z.2.2⟩)] at hp
    exact hp I1 ⟨MD.mq q1, mH, P.mq q1⟩
theorem c_X12_cut {S : xTS} {R : xTR} {I : xTI} {J : xTJ} {post : xPost} {T N V : Nat} {fl x : xRow} {lw : Option (List (Nat × Nat))} (hM : isModel S R) (C : MCore I fl lw T N V x) {k : Int32} {us : Nat → xRow} {u : Nat} (P : MPast I us u) (hp : ∀ I', MDp I us u x (dCut x N k) I' → post (some (.int (dCut x N k).1)) S R I' J) : xSpec 4 yX12_cut cX12_cut 2 (some .boolean) 0 0 [.ref 135, .int k] S R I J post := by
  refine xSpec_of mt_X12_cut (Nat.le_of_ble_eq_true rfl) (fun G C0 hN hR E hI hZ => ?_)
  change XX G 0 0 0 [some (.ref 135), some (.int k)] [] S R I J
  refine x_aload_n C0 rfl dX12_cut_0 ?_
  refine x_iconst (v := nI 0) C0 rfl dX12_cut_1 ?_
  refine x_putI C0 wf_X12_1 (isModel.k0 hM) rfl dX12_cut_2 ?_
  have q1 := MQs.thrown (I := I) (v := nI 0)
  have C := C.mq q1
  generalize u2 I 135 0 (nI 0) = I1 at q1 C ⊢
  obtain ⟨wl, mF, mL, mH, wx⟩ := id C
  have hT6 := wl.2.1
  have hN8 := wl.2.2.2.1
  have hV6 := wl.2.2.2.2.2.1
  have eT : I1 141 0 = nI T := (mF 0 (by decide)).trans wl.1
  have eN : I1 141 1 = nI N := (mF 1 (by decide)).trans wl.2.2.1
  have eV : I1 141 2 = nI V := (mF 2 (by decide)).trans wl.2.2.2.2.1
  have hb0 : 0 ≤ 2192 := by decide
  unfold dCut at hp
  rw [← eN] at hp
  have P1 := P.mq q1
  have e0 : I1 151 (0 + 0) = x 0 := mH 0 (by decide)
  have e3 : I1 151 (0 + 3) = x 3 := mH 3 (by decide)
  refine x_aload_n C0 rfl dX12_cut_5 ?_
  refine x_iconst (v := nI 0) C0 rfl dX12_cut_6 ?_
  refine x_iload_n C0 rfl dX12_cut_7 ?_
  refine x_callV [_, _] C0 hN rfl (xRf_of hR (by decide) (Nat.zero_le _) (Nat.zero_le _)) mv_X12_isToCome wm_X12_353 dX12_cut_8 (isModel.k0 hM) rfl rfl (Nat.le_of_ble_eq_true rfl) (c_X12_isToCome hM (by decide) (fun g8 => ?_) (fun g8 => ?_))
  · refine x_if_eq (tgt := 23) C0 (by decide) dX12_cut_11 (fun hkk => absurd hkk (by decide)) (fun _ => ?_)
    obtain ⟨k9, hk9, ek⟩ := nI_ofi' eN (by omega) g8.1
    subst ek
    rw [nI_clamp (by omega)] at hp
    refine x_aload_n C0 rfl dX12_cut_14 ?_
    refine x_iconst (v := nI 0) C0 rfl dX12_cut_15 ?_
    refine x_iload_n C0 rfl dX12_cut_16 ?_
    refine x_callV [_, _] C0 hN rfl (xRf_of hR (by decide) (Nat.zero_le _) (Nat.zero_le _)) mv_X12_isCut wm_X12_300 dX12_cut_17 (isModel.k0 hM) rfl rfl (Nat.le_of_ble_eq_true rfl) (c_X12_isCut hM (by decide) (fun g17 => ?_) (fun g17 => ?_))
    · refine x_if_eq (tgt := 25) C0 (by decide) dX12_cut_20 (fun hkk => absurd hkk (by decide)) (fun _ => ?_)
      refine x_iconst (v := nI 0) C0 rfl dX12_cut_23 ?_
      refine x_zret C0 E (by decide) (by decide) rfl dX12_cut_24 ?_
      rw [if_neg (fun z => z.2 (by rw [← e3]; exact g17))] at hp
      exact hp I1 ⟨MD.mq q1, mH, P.mq q1⟩
    · refine x_if_eq (tgt := 25) C0 (by decide) dX12_cut_20 (fun _ => ?_) (fun hkk => absurd (by decide) hkk)
      rw [if_pos ⟨⟨g8.1, by rw [← e0]; exact g8.2⟩, by rw [← e3]; exact g17⟩] at hp
      refine x_aload_n C0 rfl dX12_cut_25 ?_
      refine x_callV [] C0 hN rfl (xRf_of hR (by decide) (Nat.zero_le _) (Nat.zero_le _)) mv_X12_keeps wm_X12_350 dX12_cut_26 (isModel.k0 hM) rfl rfl (Nat.le_of_ble_eq_true rfl) (c_X12_keeps hM P1 mH (fun I2 s2 p2 => ?_))
      refine x_aload_n C0 rfl dX12_cut_29 ?_
      refine x_getR C0 wf_X12_119 (isModel.k0 hM) rfl rfl (isModel.r24 hM) dX12_cut_30 ?_
      refine x_iconst (v := nI 3) C0 rfl dX12_cut_33 ?_
      refine x_dup2 C0 rfl rfl dX12_cut_34 ?_
      refine x_ialoadN C0 (isModel.s24 hM) (by omega) (by omega) dX12_cut_35 ?_
      refine x_topi ((s2.hall mH) 3 (by decide)) ?_
      refine x_iconst (v := 1) C0 rfl dX12_cut_36 ?_
      refine x_iload_n C0 rfl dX12_cut_37 ?_
      refine x_ishl C0 dX12_cut_38 ?_
      refine x_ior C0 dX12_cut_39 ?_
      refine x_iastoreN C0 (isModel.s24 hM) (by omega) (by omega) dX12_cut_40 ?_
      refine x_iconst (v := nI 1) C0 rfl dX12_cut_41 ?_
      refine x_zret C0 E (by decide) (by decide) rfl dX12_cut_42 ?_
      refine hp _ ⟨(MD.mq q1).trans (s2.md.trans (MD.st (by omega))), (s2.hall mH).upd (by omega) (by omega), p2.st (by omega)⟩
  · refine x_if_eq (tgt := 23) C0 (by decide) dX12_cut_11 (fun _ => ?_) (fun hkk => absurd (by decide) hkk)
    refine x_iconst (v := nI 0) C0 rfl dX12_cut_23 ?_
    refine x_zret C0 E (by decide) (by decide) rfl dX12_cut_24 ?_
    rw [if_neg (fun z => g8 ⟨z.1.1, by rw [e0]; exact z.1.2⟩)] at hp
    exact hp I1 ⟨MD.mq q1, mH, P.mq q1⟩
theorem c_X12_talk {S : xTS} {R : xTR} {I : xTI} {J : xTJ} {post : xPost} {T N V : Nat} {fl x : xRow} {lw : Option (List (Nat × Nat))} (hM : isModel S R) (C : MCore I fl lw T N V x) {i j : Int32} {us : Nat → xRow} {u : Nat} (P : MPast I us u) (hp : ∀ I', MDp I us u x (dTalk fl x T V i j) I' → post (some (.int (dTalk fl x T V i j).1)) S R I' J) : xSpec 3 yX12_talk cX12_talk 3 (some .int) 0 0 [.ref 135, .int i, .int j] S R I J post := by
  refine xSpec_of mt_X12_talk (Nat.le_of_ble_eq_true rfl) (fun G C0 hN hR E hI hZ => ?_)
  change XX G 0 0 0 [some (.ref 135), some (.int i), some (.int j)] [] S R I J
  refine x_aload_n C0 rfl dX12_talk_0 ?_
  refine x_iconst (v := nI 0) C0 rfl dX12_talk_1 ?_
  refine x_putI C0 wf_X12_1 (isModel.k0 hM) rfl dX12_talk_2 ?_
  have q1 := MQs.thrown (I := I) (v := nI 0)
  have C := C.mq q1
  generalize u2 I 135 0 (nI 0) = I1 at q1 C ⊢
  obtain ⟨wl, mF, mL, mH, wx⟩ := id C
  have hT6 := wl.2.1
  have hN8 := wl.2.2.2.1
  have hV6 := wl.2.2.2.2.2.1
  have eT : I1 141 0 = nI T := (mF 0 (by decide)).trans wl.1
  have eN : I1 141 1 = nI N := (mF 1 (by decide)).trans wl.2.2.1
  have eV : I1 141 2 = nI V := (mF 2 (by decide)).trans wl.2.2.2.2.1
  have hb0 : 0 ≤ 2192 := by decide
  unfold dTalk at hp
  rw [← eV] at hp
  have P1 := P.mq q1
  have e2 : I1 151 (0 + 2) = x 2 := mH 2 (by decide)
  refine x_aload_n C0 rfl dX12_talk_5 ?_
  refine x_iload_n C0 rfl dX12_talk_6 ?_
  refine x_callV [_] C0 hN rfl (xRf_of hR (by decide) (Nat.zero_le _) (Nat.zero_le _)) mv_X12_isWatcher wm_X12_344 dX12_talk_7 (isModel.k0 hM) rfl rfl (Nat.le_of_ble_eq_true rfl) (c_X12_isWatcher hM (fun g7 => ?_) (fun g7 => ?_))
  · refine x_if_eq (tgt := 44) C0 (by decide) dX12_talk_10 (fun hkk => absurd hkk (by decide)) (fun _ => ?_)
    refine x_aload_n C0 rfl dX12_talk_13 ?_
    refine x_iload_n C0 rfl dX12_talk_14 ?_
    refine x_callV [_] C0 hN rfl (xRf_of hR (by decide) (Nat.zero_le _) (Nat.zero_le _)) mv_X12_isWatcher wm_X12_344 dX12_talk_15 (isModel.k0 hM) rfl rfl (Nat.le_of_ble_eq_true rfl) (c_X12_isWatcher hM (fun g15 => ?_) (fun g15 => ?_))
    · refine x_if_eq (tgt := 44) C0 (by decide) dX12_talk_18 (fun hkk => absurd hkk (by decide)) (fun _ => ?_)
      refine x_iload_n C0 rfl dX12_talk_21 ?_
      refine x_iload_n C0 rfl dX12_talk_22 ?_
      refine x_icmp_eq (tgt := 44) C0 (by decide) dX12_talk_23 (fun g23 => ?_) (fun g23 => ?_)
      · refine x_iconst (v := -1) C0 rfl dX12_talk_44 ?_
        refine x_iret C0 E (by decide) (by decide) dX12_talk_45 ?_
        rw [if_neg (fun z => z.2.2.1 g23)] at hp
        exact hp I1 ⟨MD.mq q1, mH, P.mq q1⟩
      · obtain ⟨a, ha, ea⟩ := nI_ofi' eV (by omega) g7
        obtain ⟨b, hb, eb⟩ := nI_ofi' eV (by omega) g15
        subst ea
        subst eb
        rw [nI_clamp (by omega), nI_clamp (by omega)] at hp
        refine x_aload_n C0 rfl dX12_talk_26 ?_
        refine x_iconst (v := nI 0) C0 rfl dX12_talk_27 ?_
        refine x_iload_n C0 rfl dX12_talk_28 ?_
        refine x_callV [_, _] C0 hN rfl (xRf_of hR (by decide) (Nat.zero_le _) (Nat.zero_le _)) mv_X12_isIn wm_X12_319 dX12_talk_29 (isModel.k0 hM) rfl rfl (Nat.le_of_ble_eq_true rfl) (c_X12_isIn hM (by decide) (fun g29 => ?_) (fun g29 => ?_))
        · refine x_if_eq (tgt := 44) C0 (by decide) dX12_talk_32 (fun hkk => absurd hkk (by decide)) (fun _ => ?_)
          refine x_aload_n C0 rfl dX12_talk_35 ?_
          refine x_iconst (v := nI 0) C0 rfl dX12_talk_36 ?_
          refine x_iload_n C0 rfl dX12_talk_37 ?_
          refine x_callV [_, _] C0 hN rfl (xRf_of hR (by decide) (Nat.zero_le _) (Nat.zero_le _)) mv_X12_isIn wm_X12_319 dX12_talk_38 (isModel.k0 hM) rfl rfl (Nat.le_of_ble_eq_true rfl) (c_X12_isIn hM (by decide) (fun g38 => ?_) (fun g38 => ?_))
          · refine x_if_ne (tgt := 46) C0 (by decide) dX12_talk_41 (fun _ => ?_) (fun hkk => absurd hkk (by decide))
            rw [if_pos ⟨g7, g15, g23, by rw [← e2]; exact g29, by rw [← e2]; exact g38⟩] at hp
            refine x_aload_n C0 rfl dX12_talk_46 ?_
            refine x_callV [] C0 hN rfl (xRf_of hR (by decide) (Nat.zero_le _) (Nat.zero_le _)) mv_X12_keeps wm_X12_350 dX12_talk_47 (isModel.k0 hM) rfl rfl (Nat.le_of_ble_eq_true rfl) (c_X12_keeps hM P1 mH (fun I2 s2 p2 => ?_))
            refine x_aload_n C0 rfl dX12_talk_50 ?_
            refine x_iconst (v := nI 0) C0 rfl dX12_talk_51 ?_
            refine x_iload_n C0 rfl dX12_talk_52 ?_
            refine x_iload_n C0 rfl dX12_talk_53 ?_
            refine x_callV [_, _, _] C0 hN rfl (xRf_of hR (by decide) (Nat.zero_le _) (Nat.zero_le _)) mv_X12_talks wm_X12_360 dX12_talk_54 (isModel.k0 hM) rfl rfl (Nat.le_of_ble_eq_true rfl) (c_X12_talks hM (by decide) wl wx (s2.film mF) (s2.hall mH) ha hb (fun I3 _ s3 r3 => ?_))
            refine x_iret C0 E (by decide) (by decide) dX12_talk_57 ?_
            exact hp I3 ⟨(MD.mq q1).trans (s2.md.trans (MD.same s3)), r3, p2.same s3⟩
          · refine x_if_ne (tgt := 46) C0 (by decide) dX12_talk_41 (fun hkk => absurd (by decide) hkk) (fun _ => ?_)
            refine x_iconst (v := -1) C0 rfl dX12_talk_44 ?_
            refine x_iret C0 E (by decide) (by decide) dX12_talk_45 ?_
            rw [if_neg (fun z => g38 (by rw [e2]; exact z.2.2.2.2))] at hp
            exact hp I1 ⟨MD.mq q1, mH, P.mq q1⟩
        · refine x_if_eq (tgt := 44) C0 (by decide) dX12_talk_32 (fun _ => ?_) (fun hkk => absurd (by decide) hkk)
          refine x_iconst (v := -1) C0 rfl dX12_talk_44 ?_
          refine x_iret C0 E (by decide) (by decide) dX12_talk_45 ?_
          rw [if_neg (fun z => g29 (by rw [e2]; exact z.2.2.2.1))] at hp
          exact hp I1 ⟨MD.mq q1, mH, P.mq q1⟩
    · refine x_if_eq (tgt := 44) C0 (by decide) dX12_talk_18 (fun _ => ?_) (fun hkk => absurd (by decide) hkk)
      refine x_iconst (v := -1) C0 rfl dX12_talk_44 ?_
      refine x_iret C0 E (by decide) (by decide) dX12_talk_45 ?_
      rw [if_neg (fun z => g15 z.2.1)] at hp
      exact hp I1 ⟨MD.mq q1, mH, P.mq q1⟩
  · refine x_if_eq (tgt := 44) C0 (by decide) dX12_talk_10 (fun _ => ?_) (fun hkk => absurd (by decide) hkk)
    refine x_iconst (v := -1) C0 rfl dX12_talk_44 ?_
    refine x_iret C0 E (by decide) (by decide) dX12_talk_45 ?_
    rw [if_neg (fun z => g7 z.1)] at hp
    exact hp I1 ⟨MD.mq q1, mH, P.mq q1⟩
theorem c_X12_again {S : xTS} {R : xTR} {I : xTI} {J : xTJ} {post : xPost} {T N V : Nat} {fl x : xRow} {lw : Option (List (Nat × Nat))} (hM : isModel S R) (C : MCore I fl lw T N V x) {us : Nat → xRow} {u : Nat} (P : MPast I us u) (hp : ∀ I', MDp I us u x (dAgain x N) I' → post (some (.int (dAgain x N).1)) S R I' J) : xSpec 3 yX12_again cX12_again 1 (some .int) 0 0 [.ref 135] S R I J post := by
  refine xSpec_of mt_X12_again (Nat.le_of_ble_eq_true rfl) (fun G C0 hN hR E hI hZ => ?_)
  change XX G 0 0 0 [some (.ref 135)] [] S R I J
  refine x_aload_n C0 rfl dX12_again_0 ?_
  refine x_iconst (v := nI 0) C0 rfl dX12_again_1 ?_
  refine x_putI C0 wf_X12_1 (isModel.k0 hM) rfl dX12_again_2 ?_
  have q1 := MQs.thrown (I := I) (v := nI 0)
  have C := C.mq q1
  generalize u2 I 135 0 (nI 0) = I1 at q1 C ⊢
  obtain ⟨wl, mF, mL, mH, wx⟩ := id C
  have hT6 := wl.2.1
  have hN8 := wl.2.2.2.1
  have hV6 := wl.2.2.2.2.2.1
  have eT : I1 141 0 = nI T := (mF 0 (by decide)).trans wl.1
  have eN : I1 141 1 = nI N := (mF 1 (by decide)).trans wl.2.2.1
  have eV : I1 141 2 = nI V := (mF 2 (by decide)).trans wl.2.2.2.2.1
  have hb0 : 0 ≤ 2192 := by decide
  unfold dAgain at hp
  obtain ⟨k, hk, ek⟩ := wx.1
  have P1 := P.mq q1
  refine x_aload_n C0 rfl dX12_again_5 ?_
  refine x_getR C0 wf_X12_119 (isModel.k0 hM) rfl rfl (isModel.r24 hM) dX12_again_6 ?_
  refine x_iconst (v := nI 0) C0 rfl dX12_again_9 ?_
  refine x_ialoadN C0 (isModel.s24 hM) (by omega) (by omega) dX12_again_10 ?_
  refine x_topi ((mH 0 (by decide)).trans ek) ?_
  refine x_aload_n C0 rfl dX12_again_11 ?_
  refine x_callV [] C0 hN rfl (xRf_of hR (by decide) (Nat.zero_le _) (Nat.zero_le _)) mv_X12_scenes wm_X12_285 dX12_again_12 (isModel.k0 hM) rfl rfl (Nat.le_of_ble_eq_true rfl) (c_X12_scenes hM ?_)
  refine x_topi eN ?_
  refine x_icmp_ge (tgt := 20) C0 (by decide) dX12_again_15 (fun g15 => ?_) (fun g15 => ?_)
  · refine x_aload_n C0 rfl dX12_again_20 ?_
    refine x_callV [] C0 hN rfl (xRf_of hR (by decide) (Nat.zero_le _) (Nat.zero_le _)) mv_X12_keeps wm_X12_350 dX12_again_21 (isModel.k0 hM) rfl rfl (Nat.le_of_ble_eq_true rfl) (c_X12_keeps hM P1 mH (fun I2 s2 p2 => ?_))
    have hkN : k = N := by have := (nI_le_iff (by omega) (by omega)).mp g15; omega
    rw [if_pos (by rw [ek, hkN])] at hp
    have e1 : I2 151 (0 + 1) = x 1 := (s2.hall mH) 1 (by decide)
    have r3 : MHall (u2 (u2 I2 151 (0 + 0) 0) 151 (0 + 1) (I2 151 (0 + 1) + 1)) 0 (sAgain x) := by
      rw [e1]
      exact ((s2.hall mH).upd (by decide) (by decide)).upd (by decide) (by decide)
    have r1 : u2 (u2 I2 151 (0 + 0) 0) 151 (0 + 1) (I2 151 (0 + 1) + 1) 151 1 = x 1 + 1 := by rw [u2_same, e1]
    refine x_aload_n C0 rfl dX12_again_24 ?_
    refine x_iconst (v := nI 0) C0 rfl dX12_again_25 ?_
    refine x_callV [_] C0 hN rfl (xRf_of hR (by decide) (Nat.zero_le _) (Nat.zero_le _)) mv_X12_begunAgain wm_X12_363 dX12_again_26 (isModel.k0 hM) rfl rfl (Nat.le_of_ble_eq_true rfl) (c_X12_begunAgain hM (by decide) ?_)
    refine x_aload_n C0 rfl dX12_again_29 ?_
    refine x_getR C0 wf_X12_119 (isModel.k0 hM) rfl rfl (isModel.r24 hM) dX12_again_30 ?_
    refine x_iconst (v := nI 1) C0 rfl dX12_again_33 ?_
    refine x_ialoadN C0 (isModel.s24 hM) (by omega) (by omega) dX12_again_34 ?_
    refine x_topi r1 ?_
    refine x_iret C0 E (by decide) (by decide) dX12_again_35 ?_
    exact hp _ ⟨(MD.mq q1).trans (s2.md.trans ((MD.st (by decide)).trans (MD.st (by decide)))), r3, (p2.st (by decide)).st (by decide)⟩
  · refine x_iconst (v := -1) C0 rfl dX12_again_18 ?_
    refine x_iret C0 E (by decide) (by decide) dX12_again_19 ?_
    rw [if_neg (fun z => g15 (by rw [ek] at z; rw [z]; exact Int32.le_refl _))] at hp
    exact hp I1 ⟨MD.mq q1, mH, P.mq q1⟩
theorem c_X12_undo {S : xTS} {R : xTR} {I : xTI} {J : xTJ} {post : xPost} {T N V : Nat} {fl x : xRow} {lw : Option (List (Nat × Nat))} (hM : isModel S R) (C : MCore I fl lw T N V x) {us : Nat → xRow} {u : Nat} (P : MPast I us u) (h0 : u = 0 → ∀ I', MQs I I' → post (some (.int 0)) S R I' J) (hp : ∀ v, u = v + 1 → ∀ I', MD I I' → MHall I' 0 (us 0) → MPast I' (fun j => us (j + 1)) v → post (some (.int 1)) S R I' J) : xSpec 2 yX12_undo cX12_undo 1 (some .boolean) 0 0 [.ref 135] S R I J post := by
  refine xSpec_of mt_X12_undo (Nat.le_of_ble_eq_true rfl) (fun G C0 hN hR E hI hZ => ?_)
  change XX G 0 0 0 [some (.ref 135)] [] S R I J
  refine x_aload_n C0 rfl dX12_undo_0 ?_
  refine x_iconst (v := nI 0) C0 rfl dX12_undo_1 ?_
  refine x_putI C0 wf_X12_1 (isModel.k0 hM) rfl dX12_undo_2 ?_
  have q1 := MQs.thrown (I := I) (v := nI 0)
  have C := C.mq q1
  generalize u2 I 135 0 (nI 0) = I1 at q1 C ⊢
  obtain ⟨wl, mF, mL, mH, wx⟩ := id C
  have hT6 := wl.2.1
  have hN8 := wl.2.2.2.1
  have hV6 := wl.2.2.2.2.2.1
  have eT : I1 141 0 = nI T := (mF 0 (by decide)).trans wl.1
  have eN : I1 141 1 = nI N := (mF 1 (by decide)).trans wl.2.2.1
  have eV : I1 141 2 = nI V := (mF 2 (by decide)).trans wl.2.2.2.2.1
  have hb0 : 0 ≤ 2192 := by decide
  obtain ⟨e25, hu, hr⟩ := P.mq q1
  refine x_aload_n C0 rfl dX12_undo_5 ?_
  refine x_getI C0 wf_X12_291 (isModel.k0 hM) rfl dX12_undo_6 ?_
  refine x_topi e25 ?_
  refine x_if_ne (tgt := 14) C0 (by decide) dX12_undo_9 (fun g9 => ?_) (fun g9 => ?_)
  · have hu0 : 0 < u := Nat.pos_of_ne_zero (fun z => g9 (by rw [z]; decide))
    refine x_aload_n C0 rfl dX12_undo_14 ?_
    refine x_dup C0 rfl dX12_undo_15 ?_
    refine x_getI C0 wf_X12_291 (isModel.k0 hM) rfl dX12_undo_16 ?_
    refine x_topi e25 ?_
    refine x_iconst (v := nI 1) C0 rfl dX12_undo_19 ?_
    refine x_isub C0 dX12_undo_20 ?_
    refine x_topi (nI_subn hu0) ?_
    refine x_putI C0 wf_X12_291 (isModel.k0 hM) rfl dX12_undo_21 ?_
    refine x_aload_n C0 rfl dX12_undo_24 ?_
    refine x_bipush (v := nI 98) C0 rfl dX12_undo_25 ?_
    refine x_iconst (v := nI 5) C0 rfl dX12_undo_27 ?_
    refine x_aload_n C0 rfl dX12_undo_28 ?_
    refine x_getI C0 wf_X12_291 (isModel.k0 hM) rfl dX12_undo_29 ?_
    refine x_topi (u2_same _ _ _ _) ?_
    refine x_iadd C0 dX12_undo_32 ?_
    refine x_topi (nI_add 5 (u - 1)) ?_
    refine x_imul C0 dX12_undo_33 ?_
    refine x_topi (nI_mul 98 (5 + (u - 1))) ?_
    refine x_iconst (v := nI 0) C0 rfl dX12_undo_34 ?_
    refine x_bipush (v := nI 62) C0 rfl dX12_undo_35 ?_
    refine x_callV [_, _, _] C0 hN rfl (xRf_of hR (by decide) (Nat.zero_le _) (Nat.zero_le _)) mv_X12_copies wm_X12_294 dX12_undo_37 (isModel.k0 hM) rfl rfl (Nat.le_of_ble_eq_true rfl) (c_X12_copies hM (Or.inr (by omega)) (by omega) (by omega) ?_)
    refine x_iconst (v := nI 1) C0 rfl dX12_undo_40 ?_
    refine x_zret C0 E (by decide) (by decide) rfl dX12_undo_41 ?_
    refine hp (u - 1) (by omega) _ ((MD.mq q1).trans ⟨fun a h1 _ _ h4 _ _ => ?_, fun k h1 h2 => ?_, fun j h1 h2 => ?_⟩) ?_ ⟨?_, by omega, fun j hj => ?_⟩
    · rw [ucp_row _ h4, u2_row _ _ _ h1]
    · rw [ucp_row _ (by decide), u2_off _ _ h2]
    · rw [ucp_off (by omega), u2_row _ _ _ (by decide)]
    · have := hr 0 hu0
      rw [show u - 1 - 0 = u - 1 by omega] at this
      exact ucp_to (this.congr (u2_row _ _ _ (by decide)))
    · rw [ucp_row _ (by decide), u2_same]
    · have := hr (j + 1) (by omega)
      rw [show u - 1 - (j + 1) = u - 1 - 1 - j by omega] at this
      exact (this.congr (u2_row _ _ _ (by decide))).off (by omega)
  · refine x_iconst (v := nI 0) C0 rfl dX12_undo_12 ?_
    refine x_zret C0 E (by decide) (by decide) rfl dX12_undo_13 ?_
    exact h0 ((nI_eq (b := 0) (by omega) (by decide)).mp g9) _ q1
