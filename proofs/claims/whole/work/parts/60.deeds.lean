/-! THE DEEDS: what is kept to be undone, marks; the class -/
theorem fixd.x41 {S : xTS} {R : xTR} (h : fixd S R) : S[41]? = some (6, 3) ∧ S[42]? = some (15, 16) ∧ R 41 0 = some 42 := ⟨fixd.sPast h, fixd.sHalls h, fixd.rHalls h⟩
def uPush (x : xRow) (us : Nat → xRow) : Nat → xRow := fun j => if j = 0 then x else us (j - 1)
def uUp (u : Nat) : Nat := if u = 16 then 16 else u + 1
def CPast (I : xTI) (N : Nat) (us : Nat → xRow) (u : Nat) : Prop := ∃ nx, nx < 16 ∧ I 41 1 = nI nx ∧ I 41 2 = nI u ∧ u ≤ 16 ∧ ∀ j, j < u → RHall I (43 + 4 * ((nx + 15 - j) % 16)) (us j) N
/-- what a deed of the class leaves -/
def FD (I I' : xTI) : Prop := ∀ a, (a < 33 ∨ 107 ≤ a) → a ≠ 109 → I' a = I a
theorem FD.fq {I I' : xTI} (h : FQ I I') : FD I I' := fun a h1 h2 => h a (by omega) (by omega) (by omega) (by omega) h2
theorem FD.trans {I I1 I2 : xTI} (h : FD I I1) (g : FD I1 I2) : FD I I2 := fun a h1 h2 => (g a h1 h2).trans (h a h1 h2)
theorem FD.rf {I : xTI} : FD I I := fun _ _ _ => rfl
theorem CPast.congr {I I' : xTI} {N u : Nat} {us : Nat → xRow} (h : CPast I N us u) (e : ∀ a, 41 ≤ a → a < 107 → I' a = I a) : CPast I' N us u := by
  obtain ⟨nx, h1, h2, h3, h4, h5⟩ := h
  refine ⟨nx, h1, by rw [e 41 (by decide) (by decide)]; exact h2, by rw [e 41 (by decide) (by decide)]; exact h3, h4, fun j hj => (h5 j hj).congr fun i hi => ?_⟩
  have : (nx + 15 - j) % 16 < 16 := Nat.mod_lt _ (by decide)
  exact e _ (by omega) (by omega)
theorem CPast.fq {I I' : xTI} {N u : Nat} {us : Nat → xRow} (h : CPast I N us u) (q : FQ I I') : CPast I' N us u := h.congr (fun a h1 h2 => q a (by omega) (by omega) (by omega) (by omega) (by omega))
/-- the ring of halls, one more laid -/
theorem CPast.push {I I' : xTI} {N u nx nx' : Nat} {us : Nat → xRow} {x : xRow} (hu : u ≤ 16) (hx : nx < 16) (hr : ∀ j, j < u → RHall I (43 + 4 * ((nx + 15 - j) % 16)) (us j) N) (e1 : nx' = if nx + 1 < 16 then nx + 1 else 0) (e2 : I' 41 1 = nI nx') (e3 : I' 41 2 = nI (uUp u)) (r : RHall I' (43 + 4 * nx) x N) (s : ∀ a, 43 ≤ a → a < 107 → (a < 43 + 4 * nx ∨ 47 + 4 * nx ≤ a) → I' a = I a) : CPast I' N (uPush x us) (uUp u) := by
  have hx' : nx' < 16 := by rw [e1]; split <;> omega
  refine ⟨nx', hx', e2, e3, by unfold uUp; split <;> omega, fun j hj => ?_⟩
  unfold uPush
  by_cases hj0 : j = 0
  · rw [if_pos hj0, show (nx' + 15 - j) % 16 = nx by rw [e1]; split <;> omega]
    exact r
  · have hu2 : j - 1 < u := by unfold uUp at hj; split at hj <;> omega
    have hj16 : j < 16 := by unfold uUp at hj; split at hj <;> omega
    rw [if_neg hj0]
    have e4 : (nx' + 15 - j) % 16 = (nx + 15 - (j - 1)) % 16 := by rw [e1]; split <;> omega
    have e5 : (nx + 15 - (j - 1)) % 16 ≠ nx := by omega
    have e6 : (nx + 15 - (j - 1)) % 16 < 16 := Nat.mod_lt _ (by decide)
    rw [e4]
    exact (hr (j - 1) hu2).congr fun i hi => s _ (by omega) (by omega) (by omega)
theorem CPast.pop {I I' : xTI} {N u nx nx' : Nat} {us : Nat → xRow} (hu : u + 1 ≤ 16) (hx : nx < 16) (hr : ∀ j, j < u + 1 → RHall I (43 + 4 * ((nx + 15 - j) % 16)) (us j) N) (e1 : nx' = (nx + 15) % 16) (e2 : I' 41 1 = nI nx') (e3 : I' 41 2 = nI u) (s : ∀ a, 43 ≤ a → a < 107 → I' a = I a) : CPast I' N (fun j => us (j + 1)) u := by
  refine ⟨nx', by omega, e2, e3, by omega, fun j hj => ?_⟩
  have e4 : (nx' + 15 - j) % 16 = (nx + 15 - (j + 1)) % 16 := by omega
  have e6 : (nx + 15 - (j + 1)) % 16 < 16 := Nat.mod_lt _ (by decide)
  show RHall I' (43 + 4 * ((nx' + 15 - j) % 16)) (us (j + 1)) N
  rw [e4]
  exact (hr (j + 1) (by omega)).congr fun i hi => s _ (by omega) (by omega)
theorem c_X6_keep {S : xTS} {R : xTR} {I : xTI} {J : xTJ} {post : xPost} (hS : fixd S R) {N u : Nat} {us : Nat → xRow} {x : xRow} (hN8 : N ≤ 8) (P : CPast I N us u) (rX : RHall I 37 x N) (hp : ∀ I', (∀ a, (a < 41 ∨ 107 ≤ a) → I' a = I a) → CPast I' N (uPush x us) (uUp u) → post none S R I' J) : xSpec 4 yX6_keep cX6_keep 2 none 0 0 [.ref 41, .ref 37] S R I J post := by
  refine xSpec_of mt_X6_keep (Nat.le_of_ble_eq_true rfl) (fun G C0 hN hR E hI hZ => ?_)
  change XX G 0 0 0 [some (.ref 41), some (.ref 37)] [] S R I J
  obtain ⟨z1, z2, z3⟩ := fixd.x41 hS
  obtain ⟨nx, hx, e1, e2, hu, hr⟩ := P
  have hT := hS.hall (q := 37) (by decide)
  have hK := hS.hall (halls_past hx)
  have hap : ∀ i j, i < 4 → j < 4 → (43 + 4 * nx) + i ≠ 37 + j := fun i j hi hj => by omega
  have rK : RHall (uhall I (43 + 4 * nx) 37) (43 + 4 * nx) x N := uhall_hall hap hN8 rX
  have s41 : uhall I (43 + 4 * nx) 37 41 = I 41 := uhall_row I (by omega) (by omega) (by omega) (by omega)
  have f1 : uhall I (43 + 4 * nx) 37 41 1 = nI nx := by rw [s41]; exact e1
  have f2 : ∀ v, u2 (uhall I (43 + 4 * nx) 37) 41 1 v 41 2 = nI u := fun v => by rw [u2_off _ _ (by decide), s41]; exact e2
  have hfin : ∀ nx', nx' = (if nx + 1 < 16 then nx + 1 else 0) → post none S R (u2 (u2 (uhall I (43 + 4 * nx) 37) 41 1 (nI nx')) 41 2 (nI (uUp u))) J := fun nx' en => by
    refine hp _ (fun a ha => ?_) (CPast.push hu hx hr en ?_ (u2_same _ _ _ _) ?_ (fun a h1 h2 h3 => ?_))
    · rw [u2_row _ _ _ (by omega), u2_row _ _ _ (by omega), uhall_row I (by omega) (by omega) (by omega) (by omega)]
    · rw [u2_off _ _ (by decide), u2_same]
    · exact rK.congr fun i hi => by rw [u2_row _ _ _ (by omega), u2_row _ _ _ (by omega)]
    · rw [u2_row _ _ _ (by omega), u2_row _ _ _ (by omega), uhall_row I (by omega) (by omega) (by omega) (by omega)]
  have hmin : (if nI 16 < nI (u + 1) then nI 16 else nI (u + 1)) = nI (uUp u) := by
    unfold uUp
    by_cases h : u = 16
    · subst h; decide
    · rw [if_neg h, if_neg (fun z => by have := (nI_lt_iff (by omega) (by omega)).mp z; omega)]
  refine x_aload_n C0 rfl dX6_keep_0 ?_
  refine x_getI C0 wf_X6_18 (by assumption) rfl dX6_keep_1 ?_
  refine x_topi e1 ?_
  refine x_if_lt (tgt := 31) C0 (by decide) dX6_keep_4 (fun hkk => absurd hkk (nI_pos (by omega))) (fun _ => ?_)
  refine x_aload_n C0 rfl dX6_keep_7 ?_
  refine x_getI C0 wf_X6_18 (by assumption) rfl dX6_keep_8 ?_
  refine x_topi e1 ?_
  refine x_aload_n C0 rfl dX6_keep_11 ?_
  refine x_getR C0 wf_X6_11 (by assumption) rfl rfl (by assumption) dX6_keep_12 ?_
  refine x_alen C0 (by assumption) (by decide) (by decide) rfl dX6_keep_15 ?_
  refine x_icmp_ge (tgt := 31) C0 (by decide) dX6_keep_16 (fun hkk => absurd hkk (nI_ge (by omega) (by omega))) (fun _ => ?_)
  refine x_aload_n C0 rfl dX6_keep_19 ?_
  refine x_getR C0 wf_X6_11 (by assumption) rfl rfl (by assumption) dX6_keep_20 ?_
  refine x_aload_n C0 rfl dX6_keep_23 ?_
  refine x_getI C0 wf_X6_18 (by assumption) rfl dX6_keep_24 ?_
  refine x_topi e1 ?_
  refine x_aaloadH C0 (by assumption) (vp_in_nI hx (by decide)) (show R 42 (nI nx).toNatClampNeg = some (43 + 4 * nx) by rw [nI_clamp (by omega)]; exact fixd.pastH hS hx) dX6_keep_27 ?_
  refine x_ifnonnull (tgt := 32) C0 (by decide) dX6_keep_28 ?_
  refine x_aload_n C0 rfl dX6_keep_32 ?_
  refine x_getR C0 wf_X6_11 (by assumption) rfl rfl (by assumption) dX6_keep_33 ?_
  refine x_aload_n C0 rfl dX6_keep_36 ?_
  refine x_getI C0 wf_X6_18 (by assumption) rfl dX6_keep_37 ?_
  refine x_topi e1 ?_
  refine x_aaloadH C0 (by assumption) (vp_in_nI hx (by decide)) (show R 42 (nI nx).toNatClampNeg = some (43 + 4 * nx) by rw [nI_clamp (by omega)]; exact fixd.pastH hS hx) dX6_keep_40 ?_
  refine x_aload_n C0 rfl dX6_keep_41 ?_
  refine x_callV [_] C0 hN rfl (xRf_of hR (by decide) (Nat.zero_le _) (Nat.zero_le _)) mv_X3_copy wm_X6_22 dX6_keep_42 hK.1 rfl rfl (Nat.le_of_ble_eq_true rfl) (c_X3_copy hK hT hap ?_)
  refine x_aload_n C0 rfl dX6_keep_45 ?_
  refine x_aload_n C0 rfl dX6_keep_46 ?_
  refine x_getI C0 wf_X6_18 (by assumption) rfl dX6_keep_47 ?_
  refine x_topi f1 ?_
  refine x_iconst (v := nI 1) C0 rfl dX6_keep_50 ?_
  refine x_iadd C0 dX6_keep_51 ?_
  refine x_topi (nI_add nx 1) ?_
  refine x_aload_n C0 rfl dX6_keep_52 ?_
  refine x_getR C0 wf_X6_11 (by assumption) rfl rfl (by assumption) dX6_keep_53 ?_
  refine x_alen C0 (by assumption) (by decide) (by decide) rfl dX6_keep_56 ?_
  refine x_icmp_ge (tgt := 69) C0 (by decide) dX6_keep_57 (fun g57 => ?_) (fun g57 => ?_)
  · refine x_iconst (v := nI 0) C0 rfl dX6_keep_69 ?_
    refine x_putI C0 wf_X6_18 (by assumption) rfl dX6_keep_70 ?_
    refine x_aload_n C0 rfl dX6_keep_73 ?_
    refine x_aload_n C0 rfl dX6_keep_74 ?_
    refine x_getI C0 wf_X6_26 (by assumption) rfl dX6_keep_75 ?_
    refine x_topi (f2 _) ?_
    refine x_iconst (v := nI 1) C0 rfl dX6_keep_78 ?_
    refine x_iadd C0 dX6_keep_79 ?_
    refine x_topi (nI_add u 1) ?_
    refine x_aload_n C0 rfl dX6_keep_80 ?_
    refine x_getR C0 wf_X6_11 (by assumption) rfl rfl (by assumption) dX6_keep_81 ?_
    refine x_alen C0 (by assumption) (by decide) (by decide) rfl dX6_keep_84 ?_
    refine x_mmin (v := nI (uUp u)) C0 (xRf_of hR (by decide) (Nat.zero_le _) (Nat.zero_le _)) wk_X6_29 (Nat.le_of_ble_eq_true rfl) hmin dX6_keep_85 ?_
    refine x_putI C0 wf_X6_26 (by assumption) rfl dX6_keep_88 ?_
    refine x_vret C0 E (by decide) (by decide) dX6_keep_91 ?_
    exact hfin 0 (by rw [if_neg (fun z => absurd g57 (by rw [i_nle]; exact (nI_lt_iff (by omega) (by omega)).mpr z))])
  · refine x_aload_n C0 rfl dX6_keep_60 ?_
    refine x_getI C0 wf_X6_18 (by assumption) rfl dX6_keep_61 ?_
    refine x_topi f1 ?_
    refine x_iconst (v := nI 1) C0 rfl dX6_keep_64 ?_
    refine x_iadd C0 dX6_keep_65 ?_
    refine x_topi (nI_add nx 1) ?_
    refine x_goto (tgt := 70) C0 (by decide) dX6_keep_66 ?_
    refine x_putI C0 wf_X6_18 (by assumption) rfl dX6_keep_70 ?_
    refine x_aload_n C0 rfl dX6_keep_73 ?_
    refine x_aload_n C0 rfl dX6_keep_74 ?_
    refine x_getI C0 wf_X6_26 (by assumption) rfl dX6_keep_75 ?_
    refine x_topi (f2 _) ?_
    refine x_iconst (v := nI 1) C0 rfl dX6_keep_78 ?_
    refine x_iadd C0 dX6_keep_79 ?_
    refine x_topi (nI_add u 1) ?_
    refine x_aload_n C0 rfl dX6_keep_80 ?_
    refine x_getR C0 wf_X6_11 (by assumption) rfl rfl (by assumption) dX6_keep_81 ?_
    refine x_alen C0 (by assumption) (by decide) (by decide) rfl dX6_keep_84 ?_
    refine x_mmin (v := nI (uUp u)) C0 (xRf_of hR (by decide) (Nat.zero_le _) (Nat.zero_le _)) wk_X6_29 (Nat.le_of_ble_eq_true rfl) hmin dX6_keep_85 ?_
    refine x_putI C0 wf_X6_26 (by assumption) rfl dX6_keep_88 ?_
    refine x_vret C0 E (by decide) (by decide) dX6_keep_91 ?_
    exact hfin (nx + 1) (by rw [if_pos ((nI_lt_iff (by omega) (by omega)).mp (i_nle.mp g57))])
theorem c_X6_bringBack {S : xTS} {R : xTR} {I : xTI} {J : xTJ} {post : xPost} (hS : fixd S R) {N u : Nat} {us : Nat → xRow} (hN8 : N ≤ 8) (P : CPast I N us u) (h0 : u = 0 → post (some (.int 0)) S R I J) (hp : ∀ v, u = v + 1 → ∀ I', (∀ a, (a < 33 ∨ (36 < a ∧ a < 41) ∨ 107 ≤ a) → I' a = I a) → RHall I' 33 (us 0) N → CPast I' N (fun j => us (j + 1)) v → post (some (.int 1)) S R I' J) : xSpec 4 yX6_bringBack cX6_bringBack 3 (some .boolean) 0 0 [.ref 41, .ref 33] S R I J post := by
  refine xSpec_of mt_X6_bringBack (Nat.le_of_ble_eq_true rfl) (fun G C0 hN hR E hI hZ => ?_)
  change XX G 0 0 0 [some (.ref 41), some (.ref 33), none] [] S R I J
  obtain ⟨z1, z2, z3⟩ := fixd.x41 hS
  obtain ⟨nx, hx, e1, e2, hu, hr⟩ := P
  have hH := hS.hall (q := 33) (by decide)
  have hl : (nx + 15) % 16 < 16 := Nat.mod_lt _ (by decide)
  have hL : ∀ v2, v2 = nI ((nx + 15) % 16) → XX G 0 0 24 [some (.ref 41), some (.ref 33), some (.int v2)] [] S R I J := by
    intro v2 ev
    subst ev
    have hK := hS.hall (halls_past hl)
    have hap : ∀ i j, i < 4 → j < 4 → 33 + i ≠ (43 + 4 * ((nx + 15) % 16)) + j := fun i j hi hj => by omega
    have s41 : uhall I 33 (43 + 4 * ((nx + 15) % 16)) 41 = I 41 := uhall_row I (by omega) (by omega) (by omega) (by omega)
    have f2 : ∀ v, u2 (uhall I 33 (43 + 4 * ((nx + 15) % 16))) 41 1 v 41 2 = nI u := fun v => by rw [u2_off _ _ (by decide), s41]; exact e2
    refine x_aload_n C0 rfl dX6_bringBack_24 ?_
    refine x_getI C0 wf_X6_26 (by assumption) rfl dX6_bringBack_25 ?_
    refine x_topi e2 ?_
    refine x_if_le (tgt := 53) C0 (by decide) dX6_bringBack_28 (fun g28 => ?_) (fun g28 => ?_)
    · refine x_iconst (v := nI 0) C0 rfl dX6_bringBack_53 ?_
      refine x_zret C0 E (by decide) (by decide) rfl dX6_bringBack_54 ?_
      exact h0 (by have := (nI_le_iff (a := u) (b := 0) (by omega) (by omega)).mp g28; omega)
    · refine x_iload_n C0 rfl dX6_bringBack_31 ?_
      refine x_if_lt (tgt := 53) C0 (by decide) dX6_bringBack_32 (fun hkk => absurd hkk (nI_pos (by omega))) (fun _ => ?_)
      refine x_iload_n C0 rfl dX6_bringBack_35 ?_
      refine x_aload_n C0 rfl dX6_bringBack_36 ?_
      refine x_getR C0 wf_X6_11 (by assumption) rfl rfl (by assumption) dX6_bringBack_37 ?_
      refine x_alen C0 (by assumption) (by decide) (by decide) rfl dX6_bringBack_40 ?_
      refine x_icmp_ge (tgt := 53) C0 (by decide) dX6_bringBack_41 (fun hkk => absurd hkk (nI_ge (by omega) (by omega))) (fun _ => ?_)
      refine x_aload_n C0 rfl dX6_bringBack_44 ?_
      refine x_getR C0 wf_X6_11 (by assumption) rfl rfl (by assumption) dX6_bringBack_45 ?_
      refine x_iload_n C0 rfl dX6_bringBack_48 ?_
      refine x_aaloadH C0 (by assumption) (vp_in_nI hl (by decide)) (show R 42 (nI ((nx + 15) % 16)).toNatClampNeg = some (43 + 4 * ((nx + 15) % 16)) by rw [nI_clamp (by omega)]; exact fixd.pastH hS hl) dX6_bringBack_49 ?_
      refine x_ifnonnull (tgt := 55) C0 (by decide) dX6_bringBack_50 ?_
      refine x_aload_n C0 rfl dX6_bringBack_55 ?_
      refine x_aload_n C0 rfl dX6_bringBack_56 ?_
      refine x_getR C0 wf_X6_11 (by assumption) rfl rfl (by assumption) dX6_bringBack_57 ?_
      refine x_iload_n C0 rfl dX6_bringBack_60 ?_
      refine x_aaloadH C0 (by assumption) (vp_in_nI hl (by decide)) (show R 42 (nI ((nx + 15) % 16)).toNatClampNeg = some (43 + 4 * ((nx + 15) % 16)) by rw [nI_clamp (by omega)]; exact fixd.pastH hS hl) dX6_bringBack_61 ?_
      refine x_callV [_] C0 hN rfl (xRf_of hR (by decide) (Nat.zero_le _) (Nat.zero_le _)) mv_X3_copy wm_X6_22 dX6_bringBack_62 hH.1 rfl rfl (Nat.le_of_ble_eq_true rfl) (c_X3_copy hH hK hap ?_)
      refine x_aload_n C0 rfl dX6_bringBack_65 ?_
      refine x_iload_n C0 rfl dX6_bringBack_66 ?_
      refine x_putI C0 wf_X6_18 (by assumption) rfl dX6_bringBack_67 ?_
      refine x_aload_n C0 rfl dX6_bringBack_70 ?_
      refine x_dup C0 rfl dX6_bringBack_71 ?_
      refine x_getI C0 wf_X6_26 (by assumption) rfl dX6_bringBack_72 ?_
      refine x_topi (f2 _) ?_
      refine x_iconst (v := nI 1) C0 rfl dX6_bringBack_75 ?_
      refine x_isub C0 dX6_bringBack_76 ?_
      refine x_topi (nI_subn (Nat.pos_of_ne_zero (fun z => g28 (by rw [z]; decide)))) ?_
      refine x_putI C0 wf_X6_26 (by assumption) rfl dX6_bringBack_77 ?_
      refine x_iconst (v := nI 1) C0 rfl dX6_bringBack_80 ?_
      refine x_zret C0 E (by decide) (by decide) rfl dX6_bringBack_81 ?_
      have hu0 : 0 < u := Nat.pos_of_ne_zero (fun z => g28 (by rw [z]; decide))
      have r0 : RHall (uhall I 33 (43 + 4 * ((nx + 15) % 16))) 33 (us 0) N := uhall_hall hap hN8 (hr 0 hu0)
      refine hp (u - 1) (by omega) _ (fun a ha => ?_) (r0.congr fun i hi => ?_) (CPast.pop (u := u - 1) (nx := nx) (by omega) hx (fun j hj => hr j (by omega)) rfl ?_ (u2_same _ _ _ _) (fun a h1 h2 => ?_))
      · rw [u2_row _ _ _ (by omega), u2_row _ _ _ (by omega), uhall_row I (by omega) (by omega) (by omega) (by omega)]
      · rw [u2_row _ _ _ (by omega), u2_row _ _ _ (by omega)]
      · rw [u2_off _ _ (by decide), u2_same]
      · rw [u2_row _ _ _ (by omega), u2_row _ _ _ (by omega), uhall_row I (by omega) (by omega) (by omega) (by omega)]
  refine x_aload_n C0 rfl dX6_bringBack_0 ?_
  refine x_getI C0 wf_X6_18 (by assumption) rfl dX6_bringBack_1 ?_
  refine x_topi e1 ?_
  refine x_if_le (tgt := 16) C0 (by decide) dX6_bringBack_4 (fun g4 => ?_) (fun g4 => ?_)
  · refine x_aload_n C0 rfl dX6_bringBack_16 ?_
    refine x_getR C0 wf_X6_11 (by assumption) rfl rfl (by assumption) dX6_bringBack_17 ?_
    refine x_alen C0 (by assumption) (by decide) (by decide) rfl dX6_bringBack_20 ?_
    refine x_iconst (v := nI 1) C0 rfl dX6_bringBack_21 ?_
    refine x_isub C0 dX6_bringBack_22 ?_
    refine x_istore_n (L' := [_, _, _]) C0 hN (by decide) rfl dX6_bringBack_23 ?_
    have : nx = 0 := by have := (nI_le_iff (a := nx) (b := 0) (by omega) (by omega)).mp g4; omega
    exact hL _ (by subst this; decide)
  · refine x_aload_n C0 rfl dX6_bringBack_7 ?_
    refine x_getI C0 wf_X6_18 (by assumption) rfl dX6_bringBack_8 ?_
    refine x_topi e1 ?_
    refine x_iconst (v := nI 1) C0 rfl dX6_bringBack_11 ?_
    refine x_isub C0 dX6_bringBack_12 ?_
    refine x_goto (tgt := 23) C0 (by decide) dX6_bringBack_13 ?_
    refine x_istore_n (L' := [_, _, _]) C0 hN (by decide) rfl dX6_bringBack_23 ?_
    have hx0 : 0 < nx := Nat.pos_of_ne_zero (fun z => g4 (by rw [z]; decide))
    exact hL _ (by rw [nI_subn (by omega)]; congr 1; omega)
theorem c_X11_keepPast {S : xTS} {R : xTR} {I : xTI} {J : xTJ} {post : xPost} {f T N V : Nat} {fl x : xRow} {lw : Option (List (Nat × Nat))} (hS : fixd S R) (hf : R 0 2 = some f) (C : FCore I f fl lw T N V x) {u : Nat} {us : Nat → xRow} {y : xRow} (P : CPast I N us u) (rY : RHall I 37 y N) (hp : ∀ I', (∀ a, (a < 41 ∨ 107 ≤ a) → I' a = I a) → CPast I' N (uPush y us) (uUp u) → post none S R I' J) : xSpec 5 yX11_keepPast cX11_keepPast 2 none 0 0 [.ref 0, .int 1] S R I J post := by
  refine xSpec_of mt_X11_keepPast (Nat.le_of_ble_eq_true rfl) (fun G C0 hN hR E hI hZ => ?_)
  change XX G 0 0 0 [some (.ref 0), some (.int 1)] [] S R I J
  obtain ⟨hfm, wl, rF, rH, wx⟩ := id C
  have hF := hS.film hfm
  have hH := hS.hall (q := 33) (by decide)
  have hT6 := wl.2.1
  have hN8 := wl.2.2.2.1
  have hV6 := wl.2.2.2.2.2.1
  have eT : I f 0 = nI T := rF.1.trans wl.1
  have eN : I f 1 = nI N := rF.2.1.trans wl.2.2.1
  have eV : I f 2 = nI V := rF.2.2.1.trans wl.2.2.2.2.1
  have hfh : ∀ i j, i < 9 → j < 4 → f + i ≠ 33 + j := fun i j hi hj => hf_apart 33 (by decide) f hfm i hi j hj
  have z1 := (fixd.x41 hS).1
  refine x_iload_n C0 rfl dX11_keepPast_0 ?_
  refine x_if_eq (tgt := 15) C0 (by decide) dX11_keepPast_1 (fun hkk => absurd hkk (by decide)) (fun _ => ?_)
  refine x_aload_n C0 rfl dX11_keepPast_4 ?_
  refine x_getR C0 wf_X11_56 (fixd.k0 hS) rfl rfl (fixd.past hS) dX11_keepPast_5 ?_
  refine x_aload_n C0 rfl dX11_keepPast_8 ?_
  refine x_getR C0 wf_X11_50 (fixd.k0 hS) rfl rfl (fixd.trial hS) dX11_keepPast_9 ?_
  refine x_callV [_] C0 hN rfl (xRf_of hR (by decide) (Nat.zero_le _) (Nat.zero_le _)) mv_X6_keep wm_X11_209 dX11_keepPast_12 z1 rfl rfl (Nat.le_of_ble_eq_true rfl) (c_X6_keep hS hN8 P rY (fun I2 s2 p2 => ?_))
  refine x_vret C0 E (by decide) (by decide) dX11_keepPast_15 ?_
  exact hp I2 s2 p2
theorem c_X11_keepPast0 {S : xTS} {R : xTR} {I : xTI} {J : xTJ} {post : xPost} {f T N V : Nat} {fl x : xRow} {lw : Option (List (Nat × Nat))} (hS : fixd S R) (hf : R 0 2 = some f) (C : FCore I f fl lw T N V x) (hp : post none S R I J) : xSpec 5 yX11_keepPast cX11_keepPast 2 none 0 0 [.ref 0, .int 0] S R I J post := by
  refine xSpec_of mt_X11_keepPast (Nat.le_of_ble_eq_true rfl) (fun G C0 hN hR E hI hZ => ?_)
  change XX G 0 0 0 [some (.ref 0), some (.int 0)] [] S R I J
  obtain ⟨hfm, wl, rF, rH, wx⟩ := id C
  have hF := hS.film hfm
  have hH := hS.hall (q := 33) (by decide)
  have hT6 := wl.2.1
  have hN8 := wl.2.2.2.1
  have hV6 := wl.2.2.2.2.2.1
  have eT : I f 0 = nI T := rF.1.trans wl.1
  have eN : I f 1 = nI N := rF.2.1.trans wl.2.2.1
  have eV : I f 2 = nI V := rF.2.2.1.trans wl.2.2.2.2.1
  have hfh : ∀ i j, i < 9 → j < 4 → f + i ≠ 33 + j := fun i j hi hj => hf_apart 33 (by decide) f hfm i hi j hj
  refine x_iload_n C0 rfl dX11_keepPast_0 ?_
  refine x_if_eq (tgt := 15) C0 (by decide) dX11_keepPast_1 (fun _ => ?_) (fun hkk => absurd (by decide) hkk)
  refine x_vret C0 E (by decide) (by decide) dX11_keepPast_15 ?_
  exact hp
/-- what a deed answers, the hall behind it, whether it could be -/
abbrev xDd : Type := Int32 × xRow × Bool
def dShow (fl : xRow) (dq : xDq) (x : xRow) (N V : Nat) : xDd := if x 0 = nI N then (-1, x, false) else ((sShowK fl dq (x 0).toNatClampNeg V x).2, (sShowK fl dq (x 0).toNatClampNeg V x).1, true)
def bN (y : Int32) : Nat := if y = 0 then 0 else 1
def dWrite (x : xRow) (T N : Nat) (k t y : Int32) : xDd := if (0 ≤ t ∧ t < nI T) ∧ (0 ≤ k ∧ k < nI N) ∧ x 0 ≤ k then (1, sWr x k.toNatClampNeg t.toNatClampNeg (bN y), true) else (0, x, false)
def dCut (x : xRow) (N : Nat) (k : Int32) : xDd := if ((0 ≤ k ∧ k < nI N) ∧ x 0 ≤ k) ∧ ¬ xbit (x 3) k.toNatClampNeg then (1, upd x 3 (x 3 ||| (1 : Int32) <<< (k &&& 31)), true) else (0, x, false)
def dTalk (fl x : xRow) (T V : Nat) (i j : Int32) : xDd := if (0 ≤ i ∧ i < nI V) ∧ (0 ≤ j ∧ j < nI V) ∧ i ≠ j ∧ xbit (x 2) i.toNatClampNeg ∧ xbit (x 2) j.toNatClampNeg then (nI (sCnt fl x i.toNatClampNeg j.toNatClampNeg T), sTalk fl x i.toNatClampNeg j.toNatClampNeg T, true) else (-1, x, false)
def dAgain (x : xRow) (N : Nat) : xDd := if x 0 = nI N then (x 1 + 1, sAgain x, true) else (-1, x, false)
def dU (d : xDd) (x : xRow) (us : Nat → xRow) : Nat → xRow := if d.2.2 then uPush x us else us
def dN (d : xDd) (u : Nat) : Nat := if d.2.2 then uUp u else u
/-- how the class ends a deed -/
def FDp (I : xTI) (N : Nat) (us : Nat → xRow) (u : Nat) (x : xRow) (d : xDd) (I' : xTI) : Prop := FD I I' ∧ RHall I' 33 d.2.1 N ∧ CPast I' N (dU d x us) (dN d u)
theorem FDp.no {I I' : xTI} {N u : Nat} {us : Nat → xRow} {x : xRow} {v : Int32} (q : FQ I I') (r : RHall I 33 x N) (p : CPast I N us u) : FDp I N us u x (v, x, false) I' := ⟨FD.fq q, r.congr fun i hi => q _ (by omega) (by omega) (by omega) (by omega) (by omega), p.fq q⟩
theorem FDp.yes {I I1 I2 I3 : xTI} {N u : Nat} {us : Nat → xRow} {x y : xRow} {v : Int32} (q : FQ I I1) (s : ∀ a, (a < 33 ∨ 36 < a) → I2 a = I1 a) (r : RHall I2 33 y N) (s3 : ∀ a, (a < 41 ∨ 107 ≤ a) → I3 a = I2 a) (p : CPast I3 N (uPush x us) (uUp u)) : FDp I N us u x (v, y, true) I3 :=
  ⟨fun a h1 h2 => by rw [s3 a (by omega), s a (by omega), q a (by omega) (by omega) (by omega) (by omega) h2], r.congr fun i hi => s3 _ (by omega), p⟩
theorem c_X11_show {S : xTS} {R : xTR} {I : xTI} {J : xTJ} {post : xPost} {f T N V : Nat} {fl x : xRow} {lw : Option (List (Nat × Nat))} (hS : fixd S R) (hf : R 0 2 = some f) (C : FCore I f fl lw T N V x) {u : Nat} {us : Nat → xRow} (P : CPast I N us u) (hp : ∀ I', FDp I N us u x (dShow fl (sDq fl lw) x N V) I' → post (some (.int (dShow fl (sDq fl lw) x N V).1)) S R I' J) : xSpec 6 yX11_show cX11_show 2 (some .int) 0 0 [.ref 0] S R I J post := by
  refine xSpec_of mt_X11_show (Nat.le_of_ble_eq_true rfl) (fun G C0 hN hR E hI hZ => ?_)
  change XX G 0 0 0 [some (.ref 0), none] [] S R I J
  obtain ⟨hfm, wl, rF, rH, wx⟩ := id C
  have hF := hS.film hfm
  have hH := hS.hall (q := 33) (by decide)
  have hT6 := wl.2.1
  have hN8 := wl.2.2.2.1
  have hV6 := wl.2.2.2.2.2.1
  have eT : I f 0 = nI T := rF.1.trans wl.1
  have eN : I f 1 = nI N := rF.2.1.trans wl.2.2.1
  have eV : I f 2 = nI V := rF.2.2.1.trans wl.2.2.2.2.1
  have hfh : ∀ i j, i < 9 → j < 4 → f + i ≠ 33 + j := fun i j hi hj => hf_apart 33 (by decide) f hfm i hi j hj
  obtain ⟨fs0, fs1, fs2, fs3, fs4, fs5, fs6, fs7, fs8, fr4, fr5, fr6, fr7, fr8, fr9, fr10, fr11⟩ := id hF
  obtain ⟨hs0, hs1, hs2, hs3, hr4, hr5, hr6⟩ := id hH
  obtain ⟨hq0, hq1, hq2, hq3, -⟩ := id (hS.hall (q := 37) (by decide))
  have h3337 : ∀ i j, i < 4 → j < 4 → 37 + i ≠ 33 + j := fun i j hi hj => hh_apart 37 (by decide) 33 (by decide) (by decide) i hi j hj
  have hT := hS.hall (q := 37) (by decide)
  have rT : RHall (uhall I 37 33) 37 x N := uhall_hall h3337 hN8 rH
  have C1 := C.fq (FQ.copy (I := I))
  have P1 := P.fq (FQ.copy (I := I))
  obtain ⟨-, -, rF1, rH1, -⟩ := id C1
  have C9 : ∀ I2 y, (∀ a, (a < 33 ∨ 36 < a) → I2 a = uhall I 37 33 a) → RHall I2 33 y N → WFx y T N V → FCore I2 f fl lw T N V y := fun I2 y s r w => ⟨hfm, wl, rF1.congr (fun i hi => s _ (by rcases List.mem_cons.mp hfm with rfl | h; omega; rcases List.mem_cons.mp h with rfl | h; omega; cases h)), r, w⟩
  unfold dShow at hp
  refine x_aload_n C0 rfl dX11_show_0 ?_
  refine x_getR C0 wf_X11_50 (fixd.k0 hS) rfl rfl (fixd.trial hS) dX11_show_1 ?_
  refine x_aload_n C0 rfl dX11_show_4 ?_
  refine x_getR C0 wf_X11_46 (fixd.k0 hS) rfl rfl (fixd.now hS) dX11_show_5 ?_
  refine x_callV [_] C0 hN rfl (xRf_of hR (by decide) (Nat.zero_le _) (Nat.zero_le _)) mv_X3_copy wm_X11_176 dX11_show_8 (by assumption) rfl rfl (Nat.le_of_ble_eq_true rfl) (c_X3_copy hT hH h3337 ?_)
  refine x_aload_n C0 rfl dX11_show_11 ?_
  refine x_getR C0 wf_X11_26 (fixd.k0 hS) rfl rfl hf dX11_show_12 ?_
  refine x_aload_n C0 rfl dX11_show_15 ?_
  refine x_getR C0 wf_X11_46 (fixd.k0 hS) rfl rfl (fixd.now hS) dX11_show_16 ?_
  refine x_callV [_] C0 hN rfl (xRf_of hR (by decide) (Nat.zero_le _) (Nat.zero_le _)) mv_X2_screen wm_X11_179 dX11_show_19 (by assumption) rfl rfl (Nat.le_of_ble_eq_true rfl) (c_X2_screen hF hH hfh wl wx rF1 rH1 (fun q0 => ?_) (fun k I2 hk q0 s2 r2 => ?_))
  · refine x_istore_n (L' := [_, _]) C0 hN (by decide) rfl dX11_show_22 ?_
    refine x_aload_n C0 rfl dX11_show_23 ?_
    refine x_iload_n C0 rfl dX11_show_24 ?_
    refine x_iconst (v := -1) C0 rfl dX11_show_25 ?_
    refine x_icmp_eq (tgt := 33) C0 (by decide) dX11_show_26 (fun _ => ?_) (fun hkk => absurd (rfl) hkk)
    refine x_iconst (v := 0) C0 rfl dX11_show_33 ?_
    refine x_callV [_] C0 hN rfl (xRf_of hR (by decide) (Nat.zero_le _) (Nat.zero_le _)) mv_X11_keepPast wm_X11_183 dX11_show_34 (fixd.k0 hS) rfl rfl (Nat.le_of_ble_eq_true rfl) (c_X11_keepPast0 hS hf C1 ?_)
    refine x_iload_n C0 rfl dX11_show_37 ?_
    refine x_iret C0 E (by decide) (by decide) dX11_show_38 ?_
    rw [if_pos q0] at hp
    exact hp _ (FDp.no FQ.copy rH P)
  · rw [if_neg (fun z => by rw [q0] at z; have := (nI_eq (by omega) (by omega)).mp z; omega), q0, nI_clamp (by omega)] at hp
    have s9 : ∀ a, (a < 33 ∨ 36 < a) → I2 a = uhall I 37 33 a := fun a h => s2 a (by omega) (by omega) (by omega)
    obtain ⟨m, hm, em⟩ := sAll_mask (fl := fl) (x := x) (dq := sDq fl lw) (k := k) (cl := sClN fl x k) V hV6
    have hm64 : m < 64 := by have := Nat.pow_le_pow_right (n := 2) (by decide) hV6; omega
    have em2 : (sShowK fl (sDq fl lw) k V x).2 = nI m := em
    rw [em2] at hp ⊢
    refine x_istore_n (L' := [_, _]) C0 hN (by decide) rfl dX11_show_22 ?_
    refine x_aload_n C0 rfl dX11_show_23 ?_
    refine x_iload_n C0 rfl dX11_show_24 ?_
    refine x_iconst (v := -1) C0 rfl dX11_show_25 ?_
    refine x_icmp_eq (tgt := 33) C0 (by decide) dX11_show_26 (fun hkk => absurd hkk ((nI_not1 m hm64))) (fun _ => ?_)
    refine x_iconst (v := 1) C0 rfl dX11_show_29 ?_
    refine x_goto (tgt := 34) C0 (by decide) dX11_show_30 ?_
    refine x_callV [_] C0 hN rfl (xRf_of hR (by decide) (Nat.zero_le _) (Nat.zero_le _)) mv_X11_keepPast wm_X11_183 dX11_show_34 (fixd.k0 hS) rfl rfl (Nat.le_of_ble_eq_true rfl) (c_X11_keepPast hS hf (C9 I2 _ s9 r2 (sShowK_WFx wl wx hk)) (P1.congr (fun a h1 h2 => s9 a (by omega))) (rT.congr (fun i hi => s9 _ (by omega))) (fun I3 s3 p3 => ?_))
    refine x_iload_n C0 rfl dX11_show_37 ?_
    refine x_iret C0 E (by decide) (by decide) dX11_show_38 ?_
    exact hp I3 (FDp.yes FQ.copy s9 r2 s3 p3)
theorem c_X11_write {S : xTS} {R : xTR} {I : xTI} {J : xTJ} {post : xPost} {f T N V : Nat} {fl x : xRow} {lw : Option (List (Nat × Nat))} (hS : fixd S R) (hf : R 0 2 = some f) (C : FCore I f fl lw T N V x) {k t y : Int32} {u : Nat} {us : Nat → xRow} (P : CPast I N us u) (hp : ∀ I', FDp I N us u x (dWrite x T N k t y) I' → post (some (.int (dWrite x T N k t y).1)) S R I' J) : xSpec 6 yX11_write cX11_write 5 (some .boolean) 0 0 [.ref 0, .int k, .int t, .int y] S R I J post := by
  refine xSpec_of mt_X11_write (Nat.le_of_ble_eq_true rfl) (fun G C0 hN hR E hI hZ => ?_)
  change XX G 0 0 0 [some (.ref 0), some (.int k), some (.int t), some (.int y), none] [] S R I J
  obtain ⟨hfm, wl, rF, rH, wx⟩ := id C
  have hF := hS.film hfm
  have hH := hS.hall (q := 33) (by decide)
  have hT6 := wl.2.1
  have hN8 := wl.2.2.2.1
  have hV6 := wl.2.2.2.2.2.1
  have eT : I f 0 = nI T := rF.1.trans wl.1
  have eN : I f 1 = nI N := rF.2.1.trans wl.2.2.1
  have eV : I f 2 = nI V := rF.2.2.1.trans wl.2.2.2.2.1
  have hfh : ∀ i j, i < 9 → j < 4 → f + i ≠ 33 + j := fun i j hi hj => hf_apart 33 (by decide) f hfm i hi j hj
  obtain ⟨fs0, fs1, fs2, fs3, fs4, fs5, fs6, fs7, fs8, fr4, fr5, fr6, fr7, fr8, fr9, fr10, fr11⟩ := id hF
  obtain ⟨hs0, hs1, hs2, hs3, hr4, hr5, hr6⟩ := id hH
  obtain ⟨hq0, hq1, hq2, hq3, -⟩ := id (hS.hall (q := 37) (by decide))
  have h3337 : ∀ i j, i < 4 → j < 4 → 37 + i ≠ 33 + j := fun i j hi hj => hh_apart 37 (by decide) 33 (by decide) (by decide) i hi j hj
  have hT := hS.hall (q := 37) (by decide)
  have rT : RHall (uhall I 37 33) 37 x N := uhall_hall h3337 hN8 rH
  have C1 := C.fq (FQ.copy (I := I))
  have P1 := P.fq (FQ.copy (I := I))
  obtain ⟨-, -, rF1, rH1, -⟩ := id C1
  have C9 : ∀ I2 y, (∀ a, (a < 33 ∨ 36 < a) → I2 a = uhall I 37 33 a) → RHall I2 33 y N → WFx y T N V → FCore I2 f fl lw T N V y := fun I2 y s r w => ⟨hfm, wl, rF1.congr (fun i hi => s _ (by rcases List.mem_cons.mp hfm with rfl | h; omega; rcases List.mem_cons.mp h with rfl | h; omega; cases h)), r, w⟩
  unfold dWrite at hp
  rw [← eT, ← eN] at hp
  have eT1 : uhall I 37 33 f 0 = I f 0 := by rw [rF1.1, rF.1]
  have eN1 : uhall I 37 33 f 1 = I f 1 := by rw [rF1.2.1, rF.2.1]
  have e33 : uhall I 37 33 33 0 = x 0 := rH1.1
  refine x_aload_n C0 rfl dX11_write_0 ?_
  refine x_getR C0 wf_X11_50 (fixd.k0 hS) rfl rfl (fixd.trial hS) dX11_write_1 ?_
  refine x_aload_n C0 rfl dX11_write_4 ?_
  refine x_getR C0 wf_X11_46 (fixd.k0 hS) rfl rfl (fixd.now hS) dX11_write_5 ?_
  refine x_callV [_] C0 hN rfl (xRf_of hR (by decide) (Nat.zero_le _) (Nat.zero_le _)) mv_X3_copy wm_X11_176 dX11_write_8 (by assumption) rfl rfl (Nat.le_of_ble_eq_true rfl) (c_X3_copy hT hH h3337 ?_)
  refine x_aload_n C0 rfl dX11_write_11 ?_
  refine x_getR C0 wf_X11_26 (fixd.k0 hS) rfl rfl hf dX11_write_12 ?_
  refine x_iload_n C0 rfl dX11_write_15 ?_
  refine x_callV [_] C0 hN rfl (xRf_of hR (by decide) (Nat.zero_le _) (Nat.zero_le _)) mv_X2_hasThing wm_X11_187 dX11_write_16 (by assumption) rfl rfl (Nat.le_of_ble_eq_true rfl) (c_X2_hasThing (by assumption) (fun g16 => ?_) (fun g16 => ?_))
  · refine x_if_eq (tgt := 46) C0 (by decide) dX11_write_19 (fun hkk => absurd hkk (by decide)) (fun _ => ?_)
    refine x_aload_n C0 rfl dX11_write_22 ?_
    refine x_getR C0 wf_X11_26 (fixd.k0 hS) rfl rfl hf dX11_write_23 ?_
    refine x_aload_n C0 rfl dX11_write_26 ?_
    refine x_getR C0 wf_X11_46 (fixd.k0 hS) rfl rfl (fixd.now hS) dX11_write_27 ?_
    refine x_iload_n C0 rfl dX11_write_30 ?_
    refine x_iload_n C0 rfl dX11_write_31 ?_
    refine x_iload_n C0 rfl dX11_write_32 ?_
    refine x_callS [_, _] C0 (xRf_of hR (by decide) (Nat.zero_le _) (Nat.zero_le _)) ms_X11_claim wm_X11_190 dX11_write_33 rfl rfl (Nat.le_of_ble_eq_true rfl) (c_X11_claim  ?_)
    refine x_callV [_, _, _] C0 hN rfl (xRf_of hR (by decide) (Nat.zero_le _) (Nat.zero_le _)) mv_X2_rewrite wm_X11_194 dX11_write_36 (by assumption) rfl rfl (Nat.le_of_ble_eq_true rfl) (c_X2_rewrite hF hH (fun q => ?_) (fun k9 ek hk9 q => ?_) ⟨N, hN8, eN1.trans eN⟩)
    · refine x_if_eq (tgt := 46) C0 (by decide) dX11_write_39 (fun _ => ?_) (fun hkk => absurd (by decide) hkk)
      refine x_iconst (v := 0) C0 rfl dX11_write_46 ?_
      refine x_istore (L' := [_, _, _, _, _]) C0 hN (by decide) rfl dX11_write_47 ?_
      refine x_aload_n C0 rfl dX11_write_49 ?_
      refine x_iload C0 rfl dX11_write_50 ?_
      refine x_callV [_] C0 hN rfl (xRf_of hR (by decide) (Nat.zero_le _) (Nat.zero_le _)) mv_X11_keepPast wm_X11_183 dX11_write_52 (fixd.k0 hS) rfl rfl (Nat.le_of_ble_eq_true rfl) (c_X11_keepPast0 hS hf C1 ?_)
      refine x_iload C0 rfl dX11_write_55 ?_
      refine x_zret C0 E (by decide) (by decide) rfl dX11_write_57 ?_
      rw [if_neg (fun z => q ⟨by rw [eN1]; exact z.2.1, by rw [e33]; exact z.2.2⟩)] at hp
      exact hp _ (FDp.no FQ.copy rH P)
    · have g16' : 0 ≤ t ∧ t < I f 0 := by rw [← eT1]; exact g16
      obtain ⟨t9, ht9, et⟩ := nI_ofi' eT (by omega) g16'
      have q' : (0 ≤ k ∧ k < I f 1) ∧ x 0 ≤ k := ⟨by rw [← eN1]; exact q.1, by rw [← e33]; exact q.2⟩
      have hkN : k9 < N := by have := q'.1.2; rw [ek, eN] at this; exact (nI_lt_iff (by omega) (by omega)).mp this
      rw [if_pos ⟨g16', q'.1, q'.2⟩, ek, et, nI_clamp (by omega), nI_clamp (by omega)] at hp
      have ec : 2 * t + (if y = 0 then 0 else 1) = nI (2 * t9 + bN y) := by
        rw [et]
        unfold bN
        split
        · exact two_nI t9 0
        · exact two_nI t9 1
      rw [ec]
      have s9 : ∀ a, (a < 33 ∨ 36 < a) → u2 (uhall I 37 33) (33 + 1) k9 (nI (2 * t9 + bN y)) a = uhall I 37 33 a := fun a h => u2_row _ _ _ (by omega)
      have r2 : RHall (u2 (uhall I 37 33) (33 + 1) k9 (nI (2 * t9 + bN y))) 33 (sWr x k9 t9 (bN y)) N := RHall_wr rH1 (by omega) hN8
      have w2 : WFx (sWr x k9 t9 (bN y)) T N V := WFx_wr wx (by omega) hN8 ht9 (by unfold bN; split <;> omega)
      refine x_if_eq (tgt := 46) C0 (by decide) dX11_write_39 (fun hkk => absurd hkk (by decide)) (fun _ => ?_)
      refine x_iconst (v := 1) C0 rfl dX11_write_42 ?_
      refine x_goto (tgt := 47) C0 (by decide) dX11_write_43 ?_
      refine x_istore (L' := [_, _, _, _, _]) C0 hN (by decide) rfl dX11_write_47 ?_
      refine x_aload_n C0 rfl dX11_write_49 ?_
      refine x_iload C0 rfl dX11_write_50 ?_
      refine x_callV [_] C0 hN rfl (xRf_of hR (by decide) (Nat.zero_le _) (Nat.zero_le _)) mv_X11_keepPast wm_X11_183 dX11_write_52 (fixd.k0 hS) rfl rfl (Nat.le_of_ble_eq_true rfl) (c_X11_keepPast hS hf (C9 _ _ s9 r2 w2) (P1.congr (fun a h1 h2 => s9 a (by omega))) (rT.congr (fun i hi => s9 _ (by omega))) (fun I3 s3 p3 => ?_))
      refine x_iload C0 rfl dX11_write_55 ?_
      refine x_zret C0 E (by decide) (by decide) rfl dX11_write_57 ?_
      exact hp I3 (FDp.yes FQ.copy s9 r2 s3 p3)
  · refine x_if_eq (tgt := 46) C0 (by decide) dX11_write_19 (fun _ => ?_) (fun hkk => absurd (by decide) hkk)
    refine x_iconst (v := 0) C0 rfl dX11_write_46 ?_
    refine x_istore (L' := [_, _, _, _, _]) C0 hN (by decide) rfl dX11_write_47 ?_
    refine x_aload_n C0 rfl dX11_write_49 ?_
    refine x_iload C0 rfl dX11_write_50 ?_
    refine x_callV [_] C0 hN rfl (xRf_of hR (by decide) (Nat.zero_le _) (Nat.zero_le _)) mv_X11_keepPast wm_X11_183 dX11_write_52 (fixd.k0 hS) rfl rfl (Nat.le_of_ble_eq_true rfl) (c_X11_keepPast0 hS hf C1 ?_)
    refine x_iload C0 rfl dX11_write_55 ?_
    refine x_zret C0 E (by decide) (by decide) rfl dX11_write_57 ?_
    rw [if_neg (fun z => g16 (by rw [eT1]; exact z.1))] at hp
    exact hp _ (FDp.no FQ.copy rH P)
theorem WFx_bit {x : xRow} {T N V k : Nat} (h : WFx x T N V) (hN : N ≤ 8) (hk : k < N) : WFx (upd x 3 (x 3 ||| (1 : Int32) <<< (nI k &&& 31))) T N V := by
  have h8 : ∀ k, k < 8 → (1 : Int32) <<< (nI k &&& 31) = nI (2 ^ k) := by decide +kernel
  rw [h8 k (by omega)]
  exact WFx_cut h hN (Nat.pow_lt_pow_right (by decide) hk)
theorem c_X11_cut {S : xTS} {R : xTR} {I : xTI} {J : xTJ} {post : xPost} {f T N V : Nat} {fl x : xRow} {lw : Option (List (Nat × Nat))} (hS : fixd S R) (hf : R 0 2 = some f) (C : FCore I f fl lw T N V x) {k : Int32} {u : Nat} {us : Nat → xRow} (P : CPast I N us u) (hp : ∀ I', FDp I N us u x (dCut x N k) I' → post (some (.int (dCut x N k).1)) S R I' J) : xSpec 6 yX11_cut cX11_cut 3 (some .boolean) 0 0 [.ref 0, .int k] S R I J post := by
  refine xSpec_of mt_X11_cut (Nat.le_of_ble_eq_true rfl) (fun G C0 hN hR E hI hZ => ?_)
  change XX G 0 0 0 [some (.ref 0), some (.int k), none] [] S R I J
  obtain ⟨hfm, wl, rF, rH, wx⟩ := id C
  have hF := hS.film hfm
  have hH := hS.hall (q := 33) (by decide)
  have hT6 := wl.2.1
  have hN8 := wl.2.2.2.1
  have hV6 := wl.2.2.2.2.2.1
  have eT : I f 0 = nI T := rF.1.trans wl.1
  have eN : I f 1 = nI N := rF.2.1.trans wl.2.2.1
  have eV : I f 2 = nI V := rF.2.2.1.trans wl.2.2.2.2.1
  have hfh : ∀ i j, i < 9 → j < 4 → f + i ≠ 33 + j := fun i j hi hj => hf_apart 33 (by decide) f hfm i hi j hj
  obtain ⟨fs0, fs1, fs2, fs3, fs4, fs5, fs6, fs7, fs8, fr4, fr5, fr6, fr7, fr8, fr9, fr10, fr11⟩ := id hF
  obtain ⟨hs0, hs1, hs2, hs3, hr4, hr5, hr6⟩ := id hH
  obtain ⟨hq0, hq1, hq2, hq3, -⟩ := id (hS.hall (q := 37) (by decide))
  have h3337 : ∀ i j, i < 4 → j < 4 → 37 + i ≠ 33 + j := fun i j hi hj => hh_apart 37 (by decide) 33 (by decide) (by decide) i hi j hj
  have hT := hS.hall (q := 37) (by decide)
  have rT : RHall (uhall I 37 33) 37 x N := uhall_hall h3337 hN8 rH
  have C1 := C.fq (FQ.copy (I := I))
  have P1 := P.fq (FQ.copy (I := I))
  obtain ⟨-, -, rF1, rH1, -⟩ := id C1
  have C9 : ∀ I2 y, (∀ a, (a < 33 ∨ 36 < a) → I2 a = uhall I 37 33 a) → RHall I2 33 y N → WFx y T N V → FCore I2 f fl lw T N V y := fun I2 y s r w => ⟨hfm, wl, rF1.congr (fun i hi => s _ (by rcases List.mem_cons.mp hfm with rfl | h; omega; rcases List.mem_cons.mp h with rfl | h; omega; cases h)), r, w⟩
  unfold dCut at hp
  rw [← eN] at hp
  have eN1 : uhall I 37 33 f 1 = I f 1 := by rw [rF1.2.1, rF.2.1]
  have e33 : uhall I 37 33 33 0 = x 0 := rH1.1
  have e333 : uhall I 37 33 33 3 = x 3 := rH1.2.2.2.1
  refine x_aload_n C0 rfl dX11_cut_0 ?_
  refine x_getR C0 wf_X11_50 (fixd.k0 hS) rfl rfl (fixd.trial hS) dX11_cut_1 ?_
  refine x_aload_n C0 rfl dX11_cut_4 ?_
  refine x_getR C0 wf_X11_46 (fixd.k0 hS) rfl rfl (fixd.now hS) dX11_cut_5 ?_
  refine x_callV [_] C0 hN rfl (xRf_of hR (by decide) (Nat.zero_le _) (Nat.zero_le _)) mv_X3_copy wm_X11_176 dX11_cut_8 (by assumption) rfl rfl (Nat.le_of_ble_eq_true rfl) (c_X3_copy hT hH h3337 ?_)
  refine x_aload_n C0 rfl dX11_cut_11 ?_
  refine x_getR C0 wf_X11_26 (fixd.k0 hS) rfl rfl hf dX11_cut_12 ?_
  refine x_aload_n C0 rfl dX11_cut_15 ?_
  refine x_getR C0 wf_X11_46 (fixd.k0 hS) rfl rfl (fixd.now hS) dX11_cut_16 ?_
  refine x_iload_n C0 rfl dX11_cut_19 ?_
  refine x_callV [_, _] C0 hN rfl (xRf_of hR (by decide) (Nat.zero_le _) (Nat.zero_le _)) mv_X2_takeAway wm_X11_198 dX11_cut_20 (by assumption) rfl rfl (Nat.le_of_ble_eq_true rfl) (c_X2_takeAway hF hH ⟨N, hN8, eN1.trans eN⟩ (fun k9 ek hk9 q => ?_) (fun q => ?_) (fun k9 ek hk9 q qc => ?_))
  · refine x_istore_n (L' := [_, _, _]) C0 hN (by decide) rfl dX11_cut_23 ?_
    refine x_aload_n C0 rfl dX11_cut_24 ?_
    refine x_iload_n C0 rfl dX11_cut_25 ?_
    refine x_callV [_] C0 hN rfl (xRf_of hR (by decide) (Nat.zero_le _) (Nat.zero_le _)) mv_X11_keepPast wm_X11_183 dX11_cut_26 (fixd.k0 hS) rfl rfl (Nat.le_of_ble_eq_true rfl) (c_X11_keepPast0 hS hf C1 ?_)
    refine x_iload_n C0 rfl dX11_cut_29 ?_
    refine x_zret C0 E (by decide) (by decide) rfl dX11_cut_30 ?_
    rw [if_neg (fun z => z.2 (by rw [ek, nI_clamp (by omega), ← e333]; exact q))] at hp
    exact hp _ (FDp.no FQ.copy rH P)
  · refine x_istore_n (L' := [_, _, _]) C0 hN (by decide) rfl dX11_cut_23 ?_
    refine x_aload_n C0 rfl dX11_cut_24 ?_
    refine x_iload_n C0 rfl dX11_cut_25 ?_
    refine x_callV [_] C0 hN rfl (xRf_of hR (by decide) (Nat.zero_le _) (Nat.zero_le _)) mv_X11_keepPast wm_X11_183 dX11_cut_26 (fixd.k0 hS) rfl rfl (Nat.le_of_ble_eq_true rfl) (c_X11_keepPast0 hS hf C1 ?_)
    refine x_iload_n C0 rfl dX11_cut_29 ?_
    refine x_zret C0 E (by decide) (by decide) rfl dX11_cut_30 ?_
    rw [if_neg (fun z => q ⟨by rw [eN1]; exact z.1.1, by rw [e33]; exact z.1.2⟩)] at hp
    exact hp _ (FDp.no FQ.copy rH P)
  · have q' : (0 ≤ k ∧ k < I f 1) ∧ x 0 ≤ k := ⟨by rw [← eN1]; exact q.1, by rw [← e33]; exact q.2⟩
    have hkN : k9 < N := by have := q'.1.2; rw [ek, eN] at this; exact (nI_lt_iff (by omega) (by omega)).mp this
    rw [if_pos ⟨q', by rw [ek, nI_clamp (by omega), ← e333]; exact qc⟩, ek] at hp
    rw [e333]
    have s9 : ∀ a, (a < 33 ∨ 36 < a) → u2 (uhall I 37 33) 33 3 (x 3 ||| (1 : Int32) <<< (nI k9 &&& 31)) a = uhall I 37 33 a := fun a h => u2_row _ _ _ (by omega)
    have r2 : RHall (u2 (uhall I 37 33) 33 3 (x 3 ||| (1 : Int32) <<< (nI k9 &&& 31))) 33 (upd x 3 (x 3 ||| (1 : Int32) <<< (nI k9 &&& 31))) N := RHall_fld rH1 (by decide) hN8
    have w2 : WFx (upd x 3 (x 3 ||| (1 : Int32) <<< (nI k9 &&& 31))) T N V := WFx_bit wx hN8 hkN
    refine x_istore_n (L' := [_, _, _]) C0 hN (by decide) rfl dX11_cut_23 ?_
    refine x_aload_n C0 rfl dX11_cut_24 ?_
    refine x_iload_n C0 rfl dX11_cut_25 ?_
    refine x_callV [_] C0 hN rfl (xRf_of hR (by decide) (Nat.zero_le _) (Nat.zero_le _)) mv_X11_keepPast wm_X11_183 dX11_cut_26 (fixd.k0 hS) rfl rfl (Nat.le_of_ble_eq_true rfl) (c_X11_keepPast hS hf (C9 _ _ s9 r2 w2) (P1.congr (fun a h1 h2 => s9 a (by omega))) (rT.congr (fun i hi => s9 _ (by omega))) (fun I3 s3 p3 => ?_))
    refine x_iload_n C0 rfl dX11_cut_29 ?_
    refine x_zret C0 E (by decide) (by decide) rfl dX11_cut_30 ?_
    exact hp I3 (FDp.yes FQ.copy s9 r2 s3 p3)
theorem c_X11_talk {S : xTS} {R : xTR} {I : xTI} {J : xTJ} {post : xPost} {f T N V : Nat} {fl x : xRow} {lw : Option (List (Nat × Nat))} (hS : fixd S R) (hf : R 0 2 = some f) (C : FCore I f fl lw T N V x) {i j : Int32} {u : Nat} {us : Nat → xRow} (P : CPast I N us u) (hp : ∀ I', FDp I N us u x (dTalk fl x T V i j) I' → post (some (.int (dTalk fl x T V i j).1)) S R I' J) : xSpec 6 yX11_talk cX11_talk 4 (some .int) 0 0 [.ref 0, .int i, .int j] S R I J post := by
  refine xSpec_of mt_X11_talk (Nat.le_of_ble_eq_true rfl) (fun G C0 hN hR E hI hZ => ?_)
  change XX G 0 0 0 [some (.ref 0), some (.int i), some (.int j), none] [] S R I J
  obtain ⟨hfm, wl, rF, rH, wx⟩ := id C
  have hF := hS.film hfm
  have hH := hS.hall (q := 33) (by decide)
  have hT6 := wl.2.1
  have hN8 := wl.2.2.2.1
  have hV6 := wl.2.2.2.2.2.1
  have eT : I f 0 = nI T := rF.1.trans wl.1
  have eN : I f 1 = nI N := rF.2.1.trans wl.2.2.1
  have eV : I f 2 = nI V := rF.2.2.1.trans wl.2.2.2.2.1
  have hfh : ∀ i j, i < 9 → j < 4 → f + i ≠ 33 + j := fun i j hi hj => hf_apart 33 (by decide) f hfm i hi j hj
  obtain ⟨fs0, fs1, fs2, fs3, fs4, fs5, fs6, fs7, fs8, fr4, fr5, fr6, fr7, fr8, fr9, fr10, fr11⟩ := id hF
  obtain ⟨hs0, hs1, hs2, hs3, hr4, hr5, hr6⟩ := id hH
  obtain ⟨hq0, hq1, hq2, hq3, -⟩ := id (hS.hall (q := 37) (by decide))
  have h3337 : ∀ i j, i < 4 → j < 4 → 37 + i ≠ 33 + j := fun i j hi hj => hh_apart 37 (by decide) 33 (by decide) (by decide) i hi j hj
  have hT := hS.hall (q := 37) (by decide)
  have rT : RHall (uhall I 37 33) 37 x N := uhall_hall h3337 hN8 rH
  have C1 := C.fq (FQ.copy (I := I))
  have P1 := P.fq (FQ.copy (I := I))
  obtain ⟨-, -, rF1, rH1, -⟩ := id C1
  have C9 : ∀ I2 y, (∀ a, (a < 33 ∨ 36 < a) → I2 a = uhall I 37 33 a) → RHall I2 33 y N → WFx y T N V → FCore I2 f fl lw T N V y := fun I2 y s r w => ⟨hfm, wl, rF1.congr (fun i hi => s _ (by rcases List.mem_cons.mp hfm with rfl | h; omega; rcases List.mem_cons.mp h with rfl | h; omega; cases h)), r, w⟩
  unfold dTalk at hp
  refine x_aload_n C0 rfl dX11_talk_0 ?_
  refine x_getR C0 wf_X11_50 (fixd.k0 hS) rfl rfl (fixd.trial hS) dX11_talk_1 ?_
  refine x_aload_n C0 rfl dX11_talk_4 ?_
  refine x_getR C0 wf_X11_46 (fixd.k0 hS) rfl rfl (fixd.now hS) dX11_talk_5 ?_
  refine x_callV [_] C0 hN rfl (xRf_of hR (by decide) (Nat.zero_le _) (Nat.zero_le _)) mv_X3_copy wm_X11_176 dX11_talk_8 (by assumption) rfl rfl (Nat.le_of_ble_eq_true rfl) (c_X3_copy hT hH h3337 ?_)
  refine x_aload_n C0 rfl dX11_talk_11 ?_
  refine x_getR C0 wf_X11_26 (fixd.k0 hS) rfl rfl hf dX11_talk_12 ?_
  refine x_aload_n C0 rfl dX11_talk_15 ?_
  refine x_getR C0 wf_X11_46 (fixd.k0 hS) rfl rfl (fixd.now hS) dX11_talk_16 ?_
  refine x_iload_n C0 rfl dX11_talk_19 ?_
  refine x_iload_n C0 rfl dX11_talk_20 ?_
  refine x_callV [_, _, _] C0 hN rfl (xRf_of hR (by decide) (Nat.zero_le _) (Nat.zero_le _)) mv_X2_persuade wm_X11_202 dX11_talk_21 (by assumption) rfl rfl (Nat.le_of_ble_eq_true rfl) (c_X2_persuade hF hH hfh wl wx rF1 rH1 (fun q => ?_) (fun a b I2 ha hb hab ea eb xa xb s2 r2 => ?_))
  · refine x_istore_n (L' := [_, _, _, _]) C0 hN (by decide) rfl dX11_talk_24 ?_
    refine x_aload_n C0 rfl dX11_talk_25 ?_
    refine x_iload_n C0 rfl dX11_talk_26 ?_
    refine x_iconst (v := -1) C0 rfl dX11_talk_27 ?_
    refine x_icmp_eq (tgt := 35) C0 (by decide) dX11_talk_28 (fun _ => ?_) (fun hkk => absurd (rfl) hkk)
    refine x_iconst (v := 0) C0 rfl dX11_talk_35 ?_
    refine x_callV [_] C0 hN rfl (xRf_of hR (by decide) (Nat.zero_le _) (Nat.zero_le _)) mv_X11_keepPast wm_X11_183 dX11_talk_36 (fixd.k0 hS) rfl rfl (Nat.le_of_ble_eq_true rfl) (c_X11_keepPast0 hS hf C1 ?_)
    refine x_iload_n C0 rfl dX11_talk_39 ?_
    refine x_iret C0 E (by decide) (by decide) dX11_talk_40 ?_
    rw [if_neg (fun z => by
      obtain ⟨a, ha, ea⟩ := nI_ofi (by omega) z.1.1 z.1.2
      obtain ⟨b, hb, eb⟩ := nI_ofi (by omega) z.2.1.1 z.2.1.2
      have z3 := z.2.2
      rw [ea, eb, nI_clamp (by omega), nI_clamp (by omega)] at z3
      exact q a b ha hb (fun e => z3.1 (by rw [e])) ea eb z3.2.1 z3.2.2)] at hp
    exact hp _ (FDp.no FQ.copy rH P)
  · subst ea
    subst eb
    rw [nI_clamp (by omega), nI_clamp (by omega), if_pos ⟨⟨nI_pos' (by omega), nI_lt ha (by omega)⟩, ⟨nI_pos' (by omega), nI_lt hb (by omega)⟩, fun e => hab ((nI_eq (by omega) (by omega)).mp e), xa, xb⟩] at hp
    have s9 : ∀ a, (a < 33 ∨ 36 < a) → I2 a = uhall I 37 33 a := fun a h => s2 a (by omega) (by omega) (by omega)
    have w2 := sTalk_WFx wl wx ha hb T (Nat.le_refl T)
    refine x_istore_n (L' := [_, _, _, _]) C0 hN (by decide) rfl dX11_talk_24 ?_
    refine x_aload_n C0 rfl dX11_talk_25 ?_
    refine x_iload_n C0 rfl dX11_talk_26 ?_
    refine x_iconst (v := -1) C0 rfl dX11_talk_27 ?_
    refine x_icmp_eq (tgt := 35) C0 (by decide) dX11_talk_28 (fun hkk => absurd hkk ((nI_ne_m1 (Nat.lt_of_le_of_lt (sCnt_le fl x a b T) (by omega))))) (fun _ => ?_)
    refine x_iconst (v := 1) C0 rfl dX11_talk_31 ?_
    refine x_goto (tgt := 36) C0 (by decide) dX11_talk_32 ?_
    refine x_callV [_] C0 hN rfl (xRf_of hR (by decide) (Nat.zero_le _) (Nat.zero_le _)) mv_X11_keepPast wm_X11_183 dX11_talk_36 (fixd.k0 hS) rfl rfl (Nat.le_of_ble_eq_true rfl) (c_X11_keepPast hS hf (C9 _ _ s9 r2 w2) (P1.congr (fun a h1 h2 => s9 a (by omega))) (rT.congr (fun i hi => s9 _ (by omega))) (fun I3 s3 p3 => ?_))
    refine x_iload_n C0 rfl dX11_talk_39 ?_
    refine x_iret C0 E (by decide) (by decide) dX11_talk_40 ?_
    exact hp I3 (FDp.yes FQ.copy s9 r2 s3 p3)
theorem c_X11_again {S : xTS} {R : xTR} {I : xTI} {J : xTJ} {post : xPost} {f T N V : Nat} {fl x : xRow} {lw : Option (List (Nat × Nat))} (hS : fixd S R) (hf : R 0 2 = some f) (C : FCore I f fl lw T N V x) (hr : ∀ v, x 1 + 1 = v → ¬ v = -1) {u : Nat} {us : Nat → xRow} (P : CPast I N us u) (hp : ∀ I', FDp I N us u x (dAgain x N) I' → post (some (.int (dAgain x N).1)) S R I' J) : xSpec 6 yX11_again cX11_again 2 (some .int) 0 0 [.ref 0] S R I J post := by
  refine xSpec_of mt_X11_again (Nat.le_of_ble_eq_true rfl) (fun G C0 hN hR E hI hZ => ?_)
  change XX G 0 0 0 [some (.ref 0), none] [] S R I J
  obtain ⟨hfm, wl, rF, rH, wx⟩ := id C
  have hF := hS.film hfm
  have hH := hS.hall (q := 33) (by decide)
  have hT6 := wl.2.1
  have hN8 := wl.2.2.2.1
  have hV6 := wl.2.2.2.2.2.1
  have eT : I f 0 = nI T := rF.1.trans wl.1
  have eN : I f 1 = nI N := rF.2.1.trans wl.2.2.1
  have eV : I f 2 = nI V := rF.2.2.1.trans wl.2.2.2.2.1
  have hfh : ∀ i j, i < 9 → j < 4 → f + i ≠ 33 + j := fun i j hi hj => hf_apart 33 (by decide) f hfm i hi j hj
  obtain ⟨fs0, fs1, fs2, fs3, fs4, fs5, fs6, fs7, fs8, fr4, fr5, fr6, fr7, fr8, fr9, fr10, fr11⟩ := id hF
  obtain ⟨hs0, hs1, hs2, hs3, hr4, hr5, hr6⟩ := id hH
  obtain ⟨hq0, hq1, hq2, hq3, -⟩ := id (hS.hall (q := 37) (by decide))
  have h3337 : ∀ i j, i < 4 → j < 4 → 37 + i ≠ 33 + j := fun i j hi hj => hh_apart 37 (by decide) 33 (by decide) (by decide) i hi j hj
  have hT := hS.hall (q := 37) (by decide)
  have rT : RHall (uhall I 37 33) 37 x N := uhall_hall h3337 hN8 rH
  have C1 := C.fq (FQ.copy (I := I))
  have P1 := P.fq (FQ.copy (I := I))
  obtain ⟨-, -, rF1, rH1, -⟩ := id C1
  have C9 : ∀ I2 y, (∀ a, (a < 33 ∨ 36 < a) → I2 a = uhall I 37 33 a) → RHall I2 33 y N → WFx y T N V → FCore I2 f fl lw T N V y := fun I2 y s r w => ⟨hfm, wl, rF1.congr (fun i hi => s _ (by rcases List.mem_cons.mp hfm with rfl | h; omega; rcases List.mem_cons.mp h with rfl | h; omega; cases h)), r, w⟩
  unfold dAgain at hp
  have e33 : uhall I 37 33 33 0 = x 0 := rH1.1
  have e1 : uhall I 37 33 33 1 = x 1 := rH1.2.1
  obtain ⟨j0, hj0, ej⟩ := wx.1
  have hEN : x 0 = nI N ↔ j0 = N := by rw [ej]; exact nI_eq (by omega) (by omega)
  have eN1 : uhall I 37 33 f 1 = nI N := by rw [rF1.2.1, ← rF.2.1, eN]
  refine x_aload_n C0 rfl dX11_again_0 ?_
  refine x_getR C0 wf_X11_50 (fixd.k0 hS) rfl rfl (fixd.trial hS) dX11_again_1 ?_
  refine x_aload_n C0 rfl dX11_again_4 ?_
  refine x_getR C0 wf_X11_46 (fixd.k0 hS) rfl rfl (fixd.now hS) dX11_again_5 ?_
  refine x_callV [_] C0 hN rfl (xRf_of hR (by decide) (Nat.zero_le _) (Nat.zero_le _)) mv_X3_copy wm_X11_176 dX11_again_8 (by assumption) rfl rfl (Nat.le_of_ble_eq_true rfl) (c_X3_copy hT hH h3337 ?_)
  refine x_aload_n C0 rfl dX11_again_11 ?_
  refine x_getR C0 wf_X11_26 (fixd.k0 hS) rfl rfl hf dX11_again_12 ?_
  refine x_aload_n C0 rfl dX11_again_15 ?_
  refine x_getR C0 wf_X11_46 (fixd.k0 hS) rfl rfl (fixd.now hS) dX11_again_16 ?_
  refine x_callV [_] C0 hN rfl (xRf_of hR (by decide) (Nat.zero_le _) (Nat.zero_le _)) mv_X2_reissue wm_X11_206 dX11_again_19 (by assumption) rfl rfl (Nat.le_of_ble_eq_true rfl) (c_X2_reissue hF hH (fun q => ?_) (fun q => ?_))
  · refine x_istore_n (L' := [_, _]) C0 hN (by decide) rfl dX11_again_22 ?_
    refine x_aload_n C0 rfl dX11_again_23 ?_
    refine x_iload_n C0 rfl dX11_again_24 ?_
    refine x_iconst (v := -1) C0 rfl dX11_again_25 ?_
    refine x_icmp_eq (tgt := 33) C0 (by decide) dX11_again_26 (fun _ => ?_) (fun hkk => absurd (rfl) hkk)
    refine x_iconst (v := 0) C0 rfl dX11_again_33 ?_
    refine x_callV [_] C0 hN rfl (xRf_of hR (by decide) (Nat.zero_le _) (Nat.zero_le _)) mv_X11_keepPast wm_X11_183 dX11_again_34 (fixd.k0 hS) rfl rfl (Nat.le_of_ble_eq_true rfl) (c_X11_keepPast0 hS hf C1 ?_)
    refine x_iload_n C0 rfl dX11_again_37 ?_
    refine x_iret C0 E (by decide) (by decide) dX11_again_38 ?_
    rw [if_neg (fun z => by rw [e33, ej, eN1] at q; have := (nI_lt_iff (by omega) (by omega)).mp q; have := hEN.mp z; omega)] at hp
    exact hp _ (FDp.no FQ.copy rH P)
  · have hj : x 0 = nI N := hEN.mpr (by rw [e33, ej, eN1] at q; have h2 : N ≤ j0 := Nat.le_of_not_lt (fun z => q ((nI_lt_iff (by omega) (by omega)).mpr z)); omega)
    rw [if_pos hj] at hp
    rw [e1]
    have s9 : ∀ a, (a < 33 ∨ 36 < a) → u2 (u2 (uhall I 37 33) 33 0 0) 33 1 (x 1 + 1) a = uhall I 37 33 a := fun a h => by rw [u2_row _ _ _ (by omega), u2_row _ _ _ (by omega)]
    have r2 : RHall (u2 (u2 (uhall I 37 33) 33 0 0) 33 1 (x 1 + 1)) 33 (sAgain x) N := RHall_fld (RHall_fld rH1 (by decide) hN8) (by decide) hN8
    have w2 := WFx_again wx
    refine x_istore_n (L' := [_, _]) C0 hN (by decide) rfl dX11_again_22 ?_
    refine x_aload_n C0 rfl dX11_again_23 ?_
    refine x_iload_n C0 rfl dX11_again_24 ?_
    refine x_iconst (v := -1) C0 rfl dX11_again_25 ?_
    refine x_icmp_eq (tgt := 33) C0 (by decide) dX11_again_26 (fun hkk => absurd hkk ((hr _ rfl))) (fun _ => ?_)
    refine x_iconst (v := 1) C0 rfl dX11_again_29 ?_
    refine x_goto (tgt := 34) C0 (by decide) dX11_again_30 ?_
    refine x_callV [_] C0 hN rfl (xRf_of hR (by decide) (Nat.zero_le _) (Nat.zero_le _)) mv_X11_keepPast wm_X11_183 dX11_again_34 (fixd.k0 hS) rfl rfl (Nat.le_of_ble_eq_true rfl) (c_X11_keepPast hS hf (C9 _ _ s9 r2 w2) (P1.congr (fun a h1 h2 => s9 a (by omega))) (rT.congr (fun i hi => s9 _ (by omega))) (fun I3 s3 p3 => ?_))
    refine x_iload_n C0 rfl dX11_again_37 ?_
    refine x_iret C0 E (by decide) (by decide) dX11_again_38 ?_
    exact hp I3 (FDp.yes FQ.copy s9 r2 s3 p3)
theorem c_X11_undo {S : xTS} {R : xTR} {I : xTI} {J : xTJ} {post : xPost} {f T N V : Nat} {fl x : xRow} {lw : Option (List (Nat × Nat))} (hS : fixd S R) (hf : R 0 2 = some f) (C : FCore I f fl lw T N V x) {u : Nat} {us : Nat → xRow} (P : CPast I N us u) (h0 : u = 0 → post (some (.int 0)) S R I J) (hp : ∀ v, u = v + 1 → ∀ I', FD I I' → RHall I' 33 (us 0) N → CPast I' N (fun j => us (j + 1)) v → post (some (.int 1)) S R I' J) : xSpec 5 yX11_undo cX11_undo 1 (some .boolean) 0 0 [.ref 0] S R I J post := by
  refine xSpec_of mt_X11_undo (Nat.le_of_ble_eq_true rfl) (fun G C0 hN hR E hI hZ => ?_)
  change XX G 0 0 0 [some (.ref 0)] [] S R I J
  obtain ⟨hfm, wl, rF, rH, wx⟩ := id C
  have hF := hS.film hfm
  have hH := hS.hall (q := 33) (by decide)
  have hT6 := wl.2.1
  have hN8 := wl.2.2.2.1
  have hV6 := wl.2.2.2.2.2.1
  have eT : I f 0 = nI T := rF.1.trans wl.1
  have eN : I f 1 = nI N := rF.2.1.trans wl.2.2.1
  have eV : I f 2 = nI V := rF.2.2.1.trans wl.2.2.2.2.1
  have hfh : ∀ i j, i < 9 → j < 4 → f + i ≠ 33 + j := fun i j hi hj => hf_apart 33 (by decide) f hfm i hi j hj
  obtain ⟨hs0, hs1, hs2, hs3, hr4, hr5, hr6⟩ := id hH
  have z1 := (fixd.x41 hS).1
  refine x_aload_n C0 rfl dX11_undo_0 ?_
  refine x_getR C0 wf_X11_56 (fixd.k0 hS) rfl rfl (fixd.past hS) dX11_undo_1 ?_
  refine x_aload_n C0 rfl dX11_undo_4 ?_
  refine x_getR C0 wf_X11_46 (fixd.k0 hS) rfl rfl (fixd.now hS) dX11_undo_5 ?_
  refine x_callV [_] C0 hN rfl (xRf_of hR (by decide) (Nat.zero_le _) (Nat.zero_le _)) mv_X6_bringBack wm_X11_212 dX11_undo_8 z1 rfl rfl (Nat.le_of_ble_eq_true rfl) (c_X6_bringBack hS hN8 P (fun q => ?_) (fun v ev I2 s2 r2 p2 => ?_))
  · refine x_zret C0 E (by decide) (by decide) rfl dX11_undo_11 ?_
    exact h0 q
  · refine x_zret C0 E (by decide) (by decide) rfl dX11_undo_11 ?_
    exact hp v ev I2 (fun a h1 h2 => s2 a (by omega)) r2 p2
