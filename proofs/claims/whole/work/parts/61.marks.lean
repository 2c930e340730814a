/-! MARKS: the class -/
def mUp {α : Type} (f : Nat → α) (k : Nat) (v : α) : Nat → α := fun j => if j = k then v else f j
def bI (b : Bool) : Int32 := if b then 1 else 0
def CMarks (I : xTI) (N : Nat) (mk : Nat → Bool) (mx mt : Nat → xRow) : Prop := ∀ m, m < 4 → I (111 + 6 * m) 0 = bI (mk m) ∧ (mk m = true → RHall I (112 + 6 * m) (mx m) N ∧ ∀ i, i < 36 → I (116 + 6 * m) i = mt m i + 2)
theorem CMarks.congr {I I' : xTI} {N : Nat} {mk : Nat → Bool} {mx mt : Nat → xRow} (h : CMarks I N mk mx mt) (e : ∀ a, 111 ≤ a → a < 135 → I' a = I a) : CMarks I' N mk mx mt := fun m hm => by
  obtain ⟨h1, h2⟩ := h m hm
  refine ⟨by rw [e _ (by omega) (by omega)]; exact h1, fun g => ⟨(h2 g).1.congr fun i hi => e _ (by omega) (by omega), fun i hi => ?_⟩⟩
  rw [e _ (by omega) (by omega)]
  exact (h2 g).2 i hi
theorem CMarks.fd {I I' : xTI} {N : Nat} {mk : Nat → Bool} {mx mt : Nat → xRow} (h : CMarks I N mk mx mt) (q : FD I I') : CMarks I' N mk mx mt := h.congr (fun a h1 h2 => q a (by omega) (by omega))
theorem CMarks.fq {I I' : xTI} {N : Nat} {mk : Nat → Bool} {mx mt : Nat → xRow} (h : CMarks I N mk mx mt) (q : FQ I I') : CMarks I' N mk mx mt := h.fd (FD.fq q)
theorem tFd.fd {I I' : xTI} {td : xRow} (h : tFd I td) (q : FD I I') : tFd I' td := fun i hi => by rw [q 108 (by decide) (by decide)]; exact h i hi
theorem eFd.congr {I I' : xTI} {e T N V ev : Nat} {ln : Nat → Nat × Nat × Nat × Nat} (h : eFd I e T N V ev ln) (q : ∀ a, 25 ≤ a → a < 33 → I' a = I a) : eFd I' e T N V ev ln := by
  obtain ⟨he, h40, h0, hl⟩ := h
  have r : ∀ j, j < 4 → I' (e + j) = I (e + j) := fun j hj => q _ (by omega) (by omega)
  have r0 := r 0 (by decide)
  rw [Nat.add_zero] at r0
  refine ⟨he, h40, by rw [r0]; exact h0, fun i hi => ?_⟩
  rw [r 1 (by decide), r 2 (by decide), r 3 (by decide)]
  exact hl i hi
theorem eFd.fd {I I' : xTI} {e T N V ev : Nat} {ln : Nat → Nat × Nat × Nat × Nat} (h : eFd I e T N V ev ln) (q : FD I I') : eFd I' e T N V ev ln := h.congr (fun a h1 h2 => q a (by omega) (by omega))
theorem CMarks.lay {I I' : xTI} {N k : Nat} {mk : Nat → Bool} {mx mt : Nat → xRow} {x td : xRow} (h : CMarks I N mk mx mt) (hk : k < 4) (e0 : I' (111 + 6 * k) 0 = 1) (r : RHall I' (112 + 6 * k) x N) (t : ∀ i, i < 36 → I' (116 + 6 * k) i = td i + 2) (s : ∀ a, 111 ≤ a → a < 135 → (a < 111 + 6 * k ∨ 117 + 6 * k ≤ a) → I' a = I a) : CMarks I' N (mUp mk k true) (mUp mx k x) (mUp mt k td) := fun m hm => by
  unfold mUp
  by_cases g : m = k
  · subst g
    rw [if_pos rfl, if_pos rfl, if_pos rfl]
    exact ⟨e0, fun _ => ⟨r, t⟩⟩
  · rw [if_neg g, if_neg g, if_neg g]
    obtain ⟨h1, h2⟩ := h m hm
    refine ⟨by rw [s _ (by omega) (by omega) (by omega)]; exact h1, fun g2 => ⟨(h2 g2).1.congr fun i hi => s _ (by omega) (by omega) (by omega), fun i hi => ?_⟩⟩
    rw [s _ (by omega) (by omega) (by omega)]
    exact (h2 g2).2 i hi
theorem halls_m (m : Nat) (hm : m < 4) : 112 + 6 * m ∈ halls := halls_mark hm
theorem c_X5_lay {S : xTS} {R : xTR} {I : xTI} {J : xTJ} {post : xPost} (hS : fixd S R) {m N : Nat} (hm : m < 4) (hN8 : N ≤ 8) {x td : xRow} (rX : RHall I 33 x N) (tF : tFd I td) (hp : ∀ I', (∀ a, (a < 111 + 6 * m ∨ 117 + 6 * m ≤ a) → I' a = I a) → I' (111 + 6 * m) 0 = 1 → RHall I' (112 + 6 * m) x N → (∀ i, i < 36 → I' (116 + 6 * m) i = td i + 2) → post none S R I' J) : xSpec 4 yX5_lay cX5_lay 3 none 0 0 [.ref (111 + 6 * m), .ref 33, .ref 108] S R I J post := by
  refine xSpec_of mt_X5_lay (Nat.le_of_ble_eq_true rfl) (fun G C0 hN hR E hI hZ => ?_)
  change XX G 0 0 0 [some (.ref (111 + 6 * m)), some (.ref 33), some (.ref 108)] [] S R I J
  obtain ⟨a1, a2, a3, a4, a5⟩ := fixd.mark hS hm
  have hH := hS.hall (q := 33) (by decide)
  have hK := hS.hall (halls_mark hm)
  have k0 := hK.1
  have h0 := hH.1
  have a6 := fixd.s108 hS
  have hap : ∀ i j, i < 4 → j < 4 → (112 + 6 * m) + i ≠ 33 + j := fun i j hi hj => by omega
  have r1 : RHall (u2 I (111 + 6 * m) 0 1) 33 x N := rX.congr fun i hi => u2_row _ _ _ (by omega)
  have r2 : RHall (uhall (u2 I (111 + 6 * m) 0 1) (112 + 6 * m) 33) (112 + 6 * m) x N := uhall_hall hap hN8 r1
  have s2 : ∀ a, (a < 112 + 6 * m ∨ 116 + 6 * m ≤ a) → uhall (u2 I (111 + 6 * m) 0 1) (112 + 6 * m) 33 a = u2 I (111 + 6 * m) 0 1 a := fun a h => uhall_row _ (by omega) (by omega) (by omega) (by omega)
  have s3 : ∀ Z : xTI, ∀ a, a ≠ 116 + 6 * m → ucopy Z 108 (116 + 6 * m) 36 a = Z a := fun Z a h => by funext j; simp [ucopy, h]
  refine x_aload_n C0 rfl dX5_lay_0 ?_
  refine x_iconst (v := 1) C0 rfl dX5_lay_1 ?_
  refine x_putZ C0 wf_X5_22 (by assumption) rfl (by decide) dX5_lay_2 ?_
  refine x_aload_n C0 rfl dX5_lay_5 ?_
  refine x_getR C0 wf_X5_12 (by assumption) rfl rfl (by assumption) dX5_lay_6 ?_
  refine x_aload_n C0 rfl dX5_lay_9 ?_
  refine x_callV [_] C0 hN rfl (xRf_of hR (by decide) (Nat.zero_le _) (Nat.zero_le _)) mv_X3_copy wm_X5_26 dX5_lay_10 k0 rfl rfl (Nat.le_of_ble_eq_true rfl) (c_X3_copy hK hH hap ?_)
  refine x_aload_n C0 rfl dX5_lay_13 ?_
  refine x_aload_n C0 rfl dX5_lay_14 ?_
  refine x_getR C0 wf_X5_18 (by assumption) rfl rfl (by assumption) dX5_lay_15 ?_
  refine x_callS [_, _] C0 (xRf_of hR (by decide) (Nat.zero_le _) (Nat.zero_le _)) ms_X8_copy wm_X5_30 dX5_lay_18 rfl rfl (Nat.le_of_ble_eq_true rfl) (c_X8_copy a6 a5 (by decide) ?_)
  refine x_vret C0 E (by decide) (by decide) dX5_lay_21 ?_
  refine hp _ (fun a ha => ?_) ?_ (r2.congr fun i hi => s3 _ _ (by omega)) (fun i hi => ?_)
  · rw [s3 _ _ (by omega), s2 _ (by omega), u2_row _ _ _ (by omega)]
  · rw [s3 _ _ (by omega), s2 _ (by omega), u2_same]
  · show (if 116 + 6 * m = 116 + 6 * m ∧ i < 36 then _ else _) = _
    rw [if_pos ⟨rfl, hi⟩, s2 _ (by omega), u2_row _ _ _ (by omega)]
    exact tF i hi
theorem c_X5_bringBack {S : xTS} {R : xTR} {I : xTI} {J : xTJ} {post : xPost} (hS : fixd S R) {m N : Nat} (hm : m < 4) (hN8 : N ≤ 8) {x td : xRow} (rX : RHall I (112 + 6 * m) x N) (tF : ∀ i, i < 36 → I (116 + 6 * m) i = td i + 2) (hp : ∀ I', (∀ a, (a < 33 ∨ 36 < a) → a ≠ 108 → I' a = I a) → RHall I' 33 x N → tFd I' td → post none S R I' J) : xSpec 4 yX5_bringBack cX5_bringBack 3 none 0 0 [.ref (111 + 6 * m), .ref 33, .ref 108] S R I J post := by
  refine xSpec_of mt_X5_bringBack (Nat.le_of_ble_eq_true rfl) (fun G C0 hN hR E hI hZ => ?_)
  change XX G 0 0 0 [some (.ref (111 + 6 * m)), some (.ref 33), some (.ref 108)] [] S R I J
  obtain ⟨a1, a2, a3, a4, a5⟩ := fixd.mark hS hm
  have hH := hS.hall (q := 33) (by decide)
  have hK := hS.hall (halls_mark hm)
  have k0 := hK.1
  have h0 := hH.1
  have a6 := fixd.s108 hS
  have hap : ∀ i j, i < 4 → j < 4 → 33 + i ≠ (112 + 6 * m) + j := fun i j hi hj => by omega
  have r2 : RHall (uhall I 33 (112 + 6 * m)) 33 x N := uhall_hall hap hN8 rX
  have s2 : ∀ a, (a < 33 ∨ 36 < a) → uhall I 33 (112 + 6 * m) a = I a := fun a h => uhall_row _ (by omega) (by omega) (by omega) (by omega)
  have s3 : ∀ Z : xTI, ∀ a, a ≠ 108 → ucopy Z (116 + 6 * m) 108 36 a = Z a := fun Z a h => by funext j; simp [ucopy, h]
  refine x_aload_n C0 rfl dX5_bringBack_0 ?_
  refine x_aload_n C0 rfl dX5_bringBack_1 ?_
  refine x_getR C0 wf_X5_12 (by assumption) rfl rfl (by assumption) dX5_bringBack_2 ?_
  refine x_callV [_] C0 hN rfl (xRf_of hR (by decide) (Nat.zero_le _) (Nat.zero_le _)) mv_X3_copy wm_X5_26 dX5_bringBack_5 h0 rfl rfl (Nat.le_of_ble_eq_true rfl) (c_X3_copy hH hK hap ?_)
  refine x_aload_n C0 rfl dX5_bringBack_8 ?_
  refine x_getR C0 wf_X5_18 (by assumption) rfl rfl (by assumption) dX5_bringBack_9 ?_
  refine x_aload_n C0 rfl dX5_bringBack_12 ?_
  refine x_callS [_, _] C0 (xRf_of hR (by decide) (Nat.zero_le _) (Nat.zero_le _)) ms_X8_copy wm_X5_30 dX5_bringBack_13 rfl rfl (Nat.le_of_ble_eq_true rfl) (c_X8_copy a5 a6 (by decide) ?_)
  refine x_vret C0 E (by decide) (by decide) dX5_bringBack_16 ?_
  refine hp _ (fun a ha h8 => ?_) (r2.congr fun i hi => s3 _ _ (by omega)) (fun i hi => ?_)
  · rw [s3 _ _ h8, s2 _ ha]
  · show (if 108 = 108 ∧ i < 36 then _ else _) = _
    rw [if_pos ⟨rfl, hi⟩, s2 _ (by omega)]
    exact tF i hi
theorem c_X11_mark {S : xTS} {R : xTR} {I : xTI} {J : xTJ} {post : xPost} {f T N V : Nat} {fl x : xRow} {lw : Option (List (Nat × Nat))} (hS : fixd S R) (hf : R 0 2 = some f) (C : FCore I f fl lw T N V x) {td : xRow} {mk : Nat → Bool} {mx mt : Nat → xRow} {m y : Int32} (tF : tFd I td) (K : CMarks I N mk mx mt) (h0 : (0 ≤ m ∧ m < 4 → ¬ y = 0 ∧ mk m.toNatClampNeg = false) → post (some (.int 0)) S R I J) (h1 : ∀ k, k < 4 → m = nI k → y = 0 → ∀ I', (∀ a, (a < 111 ∨ 135 ≤ a) → I' a = I a) → CMarks I' N (mUp mk k true) (mUp mx k x) (mUp mt k td) → post (some (.int 1)) S R I' J) (h2 : ∀ k, k < 4 → m = nI k → ¬ y = 0 → mk k = true → ∀ I', (∀ a, (a < 33 ∨ 36 < a) → a ≠ 41 → a ≠ 108 → I' a = I a) → I' 41 1 = I 41 1 → I' 41 2 = 0 → RHall I' 33 (mx k) N → tFd I' (mt k) → post (some (.int 1)) S R I' J) : xSpec 5 yX11_mark cX11_mark 4 (some .boolean) 0 0 [.ref 0, .int m, .int y] S R I J post := by
  refine xSpec_of mt_X11_mark (Nat.le_of_ble_eq_true rfl) (fun G C0 hN hR E hI hZ => ?_)
  change XX G 0 0 0 [some (.ref 0), some (.int m), some (.int y), none] [] S R I J
  obtain ⟨hfm, wl, rF, rH, wx⟩ := id C
  have hF := hS.film hfm
  have hH := hS.hall (q := 33) (by decide)
  have hT6 := wl.2.1
  have hN8 := wl.2.2.2.1
  have hV6 := wl.2.2.2.2.2.1
  have eT : I f 0 = nI T := rF.1.trans wl.1
  have eN : I f 1 = nI N := rF.2.1.trans wl.2.2.1
  have eV : I f 2 = nI V := rF.2.2.1.trans wl.2.2.2.2.1
  have hfh : ∀ i j, i < 9 → j < 4 → f + i ≠ 33 + j := fun i j hi hj => hf_apart 33 (by decide) f hfm i hi j hj
  obtain ⟨hs0, hs1, hs2, hs3, hr4, hr5, hr6⟩ := id hH
  have b1 := fixd.sMarks hS
  have b2 := (fixd.x41 hS).1
  have h13 : ∀ k, k < 4 → m = nI k → XX G 0 0 13 [some (.ref 0), some (.int (nI k)), some (.int y), none] [] S R I J := by
    intro k hk em
    obtain ⟨a1, a2, a3, a4, a5⟩ := fixd.mark hS hk
    obtain ⟨k1, k2⟩ := K k hk
    refine x_aload_n C0 rfl dX11_mark_13 ?_
    refine x_getR C0 wf_X11_62 (fixd.k0 hS) rfl rfl (fixd.marks hS) dX11_mark_14 ?_
    refine x_iload_n C0 rfl dX11_mark_17 ?_
    refine x_aaloadM C0 (by assumption) (vp_in_nI hk (by decide)) (show R 107 (nI k).toNatClampNeg = some (111 + 6 * k) by rw [nI_clamp (by omega)]; exact a1) dX11_mark_18 ?_
    refine x_ifnonnull (tgt := 24) C0 (by decide) dX11_mark_19 ?_
    refine x_aload_n C0 rfl dX11_mark_24 ?_
    refine x_getR C0 wf_X11_62 (fixd.k0 hS) rfl rfl (fixd.marks hS) dX11_mark_25 ?_
    refine x_iload_n C0 rfl dX11_mark_28 ?_
    refine x_aaloadM C0 (by assumption) (vp_in_nI hk (by decide)) (show R 107 (nI k).toNatClampNeg = some (111 + 6 * k) by rw [nI_clamp (by omega)]; exact a1) dX11_mark_29 ?_
    refine x_astore_n (L' := [_, _, _, _]) C0 hN (by decide) rfl dX11_mark_30 ?_
    refine x_iload_n C0 rfl dX11_mark_31 ?_
    refine x_if_ne (tgt := 49) C0 (by decide) dX11_mark_32 (fun g32 => ?_) (fun g32 => ?_)
    · refine x_aload_n C0 rfl dX11_mark_49 ?_
      refine x_getZ C0 wf_X11_112 a2 rfl dX11_mark_50 ?_
      refine x_topi k1 ?_
      refine x_if_ne (tgt := 58) C0 (by decide) dX11_mark_53 (fun g53 => ?_) (fun g53 => ?_)
      · have hmk : mk k = true := by
          cases z : mk k
          · exact absurd (by rw [z]; rfl) g53
          · rfl
        refine x_aload_n C0 rfl dX11_mark_58 ?_
        refine x_aload_n C0 rfl dX11_mark_59 ?_
        refine x_getR C0 wf_X11_46 (fixd.k0 hS) rfl rfl (fixd.now hS) dX11_mark_60 ?_
        refine x_aload_n C0 rfl dX11_mark_63 ?_
        refine x_getR C0 wf_X11_66 (fixd.k0 hS) rfl rfl (fixd.told hS) dX11_mark_64 ?_
        refine x_callV [_, _] C0 hN rfl (xRf_of hR (by decide) (Nat.zero_le _) (Nat.zero_le _)) mv_X5_bringBack wm_X11_376 dX11_mark_67 a2 rfl rfl (Nat.le_of_ble_eq_true rfl) (c_X5_bringBack hS hk hN8 (k2 hmk).1 (k2 hmk).2 (fun I2 s2 r2 t2 => ?_))
        refine x_aload_n C0 rfl dX11_mark_70 ?_
        refine x_getR C0 wf_X11_56 (fixd.k0 hS) rfl rfl (fixd.past hS) dX11_mark_71 ?_
        refine x_iconst (v := 0) C0 rfl dX11_mark_74 ?_
        refine x_putI C0 wf_X11_103 b2 rfl dX11_mark_75 ?_
        refine x_iconst (v := 1) C0 rfl dX11_mark_78 ?_
        refine x_zret C0 E (by decide) (by decide) rfl dX11_mark_79 ?_
        refine h2 k hk em g32 hmk _ (fun a h3 h4 h5 => ?_) ?_ (u2_same _ _ _ _) (r2.congr fun i hi => u2_row _ _ _ (by omega)) (fun i hi => by rw [u2_row _ _ _ (by decide)]; exact t2 i hi)
        · rw [u2_row _ _ _ h4, s2 _ h3 h5]
        · rw [u2_off _ _ (by decide), s2 41 (by decide) (by decide)]
      · refine x_iconst (v := 0) C0 rfl dX11_mark_56 ?_
        refine x_zret C0 E (by decide) (by decide) rfl dX11_mark_57 ?_
        refine h0 (fun _ => ⟨g32, ?_⟩)
        rw [em, nI_clamp (by omega)]
        cases z : mk k
        · rfl
        · rw [z] at g53; exact absurd g53 (by decide)
    · refine x_aload_n C0 rfl dX11_mark_35 ?_
      refine x_aload_n C0 rfl dX11_mark_36 ?_
      refine x_getR C0 wf_X11_46 (fixd.k0 hS) rfl rfl (fixd.now hS) dX11_mark_37 ?_
      refine x_aload_n C0 rfl dX11_mark_40 ?_
      refine x_getR C0 wf_X11_66 (fixd.k0 hS) rfl rfl (fixd.told hS) dX11_mark_41 ?_
      refine x_callV [_, _] C0 hN rfl (xRf_of hR (by decide) (Nat.zero_le _) (Nat.zero_le _)) mv_X5_lay wm_X11_372 dX11_mark_44 a2 rfl rfl (Nat.le_of_ble_eq_true rfl) (c_X5_lay hS hk hN8 rH tF (fun I2 s2 e2 r2 t2 => ?_))
      refine x_iconst (v := 1) C0 rfl dX11_mark_47 ?_
      refine x_zret C0 E (by decide) (by decide) rfl dX11_mark_48 ?_
      exact h1 k hk em g32 I2 (fun a h => s2 a (by omega)) (K.lay hk e2 r2 t2 (fun a h3 h4 h5 => s2 a h5))
  refine x_iload_n C0 rfl dX11_mark_0 ?_
  refine x_if_lt (tgt := 22) C0 (by decide) dX11_mark_1 (fun g1 => ?_) (fun g1 => ?_)
  · refine x_iconst (v := nI 0) C0 rfl dX11_mark_22 ?_
    refine x_zret C0 E (by decide) (by decide) rfl dX11_mark_23 ?_
    exact h0 (fun q => absurd g1 (i_nlt.mpr q.1))
  · refine x_iload_n C0 rfl dX11_mark_4 ?_
    refine x_aload_n C0 rfl dX11_mark_5 ?_
    refine x_getR C0 wf_X11_62 (fixd.k0 hS) rfl rfl (fixd.marks hS) dX11_mark_6 ?_
    refine x_alen C0 (by assumption) (by decide) (by decide) rfl dX11_mark_9 ?_
    refine x_icmp_ge (tgt := 22) C0 (by decide) dX11_mark_10 (fun g10 => ?_) (fun g10 => ?_)
    · refine x_iconst (v := nI 0) C0 rfl dX11_mark_22 ?_
      refine x_zret C0 E (by decide) (by decide) rfl dX11_mark_23 ?_
      exact h0 (fun q => absurd g10 (i_nle.mpr q.2))
    · obtain ⟨k, hk, ek⟩ := nI_ofi (n := 4) (by decide) (i_nlt.mp g1) (i_nle.mp g10)
      subst ek
      exact h13 k hk rfl
