/-! THE TAPE IS FED: class and reference -/
def sh (k : Nat) : Int32 := 56 - Int32.ofNat (8 * k)
def byt (v : Int64) (k : Nat) : Nat := v.toBitVec.toNat >>> (56 - 8 * k) % 256
theorem sh_u : ∀ k, k < 8 → ((sh k).toInt64.toUInt64 &&& Int64.toUInt64 63) = UInt64.ofNat (56 - 8 * k) := by decide
theorem sh_s : ∀ k, k < 8 → ((sh k).toInt64 &&& 63) = Int64.ofNat (56 - 8 * k) := by decide
theorem sh_m : ∀ k, k < 8 → ((BitVec.ofNat 64 (56 - 8 * k)).smod 64#64).toNat = 56 - 8 * k := by decide
theorem sh_b : ∀ i, i < 32 → (255#32).getLsbD i = decide (i < 8) := by decide
theorem byt_c (v : Int64) {k : Nat} (h : k < 8) : (((v.toUInt64 >>> ((sh k).toInt64.toUInt64 &&& Int64.toUInt64 63)).toInt64 &&& 255).toInt32.toUInt32 % 65536).toInt32 = nI (byt v k) := by
  show _ = Int32.ofNat (byt v k)
  rw [sh_u k h]
  apply Int32.toBitVec_inj.mp
  apply BitVec.eq_of_toNat_eq
  simp only [byt]
  simp
  rw [BitVec.signExtend_eq_setWidth_of_le _ (by decide), show (255 : Nat) = 2 ^ 8 - 1 from rfl, Nat.and_two_pow_sub_one_eq_mod, BitVec.toNat_setWidth, BitVec.toNat_ushiftRight, Nat.mod_eq_of_lt (show 56 - 8 * k < 64 by omega)]
  omega
theorem byt_r (v : Int64) {k : Nat} (h : k < 8) : (v >>> ((sh k).toInt64 &&& 63)).toInt32 &&& 255 = nI (byt v k) := by
  show _ = Int32.ofNat (byt v k)
  rw [sh_s k h]
  apply Int32.toBitVec_inj.mp
  apply BitVec.eq_of_getLsbD_eq
  intro i hi
  simp only [byt]
  simp
  rw [BitVec.signExtend_eq_setWidth_of_le _ (by decide), sh_m k h, sh_b i hi, BitVec.getLsbD_setWidth, BitVec.getLsbD_ofNat, show (256 : Nat) = 2 ^ 8 from rfl, Nat.testBit_mod_two_pow, Nat.testBit_shiftRight, BitVec.getLsbD_sshiftRight]
  by_cases h8 : i < 8
  · have e : 56 - 8 * k + i < 64 := by omega
    have e2 : ¬ 64 ≤ i := by omega
    simp [h8, hi, e, e2]
    rfl
  · simp [h8]
theorem byt_lt (v : Int64) (k : Nat) : byt v k < 256 := Nat.mod_lt _ (by decide)
theorem sh_inc : ∀ k, k < 8 → sh k + Int32.ofInt (-8) = sh (k + 1) := by decide
theorem sh_ge : ∀ k, k < 8 → ¬ sh k < 0 := by decide
theorem sh_8 : sh 8 < 0 := by decide
theorem vp_nar_c {c : Nat} (h : c < 65536) : vp_nar .char (nI c) = nI c := by
  unfold vp_nar
  rw [(pk_charN h).1]
abbrev pT : Type := (Nat → Nat) × Nat
abbrev adOk (b n : Nat) : Prop := (b = 10 ∨ (32 ≤ b ∧ b ≤ 126)) ∧ n < 1000
def adSt (b : Nat) (s : pT) : pT := if adOk b s.2 then (mUp s.1 s.2 b, s.2 + 1) else s
def adLp (v : Int64) : Nat → pT → pT
  | 0, s => s
  | j + 1, s => adLp v j (adSt (byt v (7 - j)) s)
def adAll (a b c : Int64) (s : pT) : pT := adLp c 8 (adLp b 8 (adLp a 8 s))
/-- the reference's tape -/
def MTp (I : xTI) (tp : Nat → Nat) (n : Nat) : Prop := I 135 2 = nI n ∧ n ≤ 1000 ∧ ∀ i, i < n → I 136 i = nI (tp i) ∧ tp i < 128
theorem CTp.add {I : xTI} {s : pT} (h : CTp I s.1 s.2) {b : Nat} (hb : b < 128) (hn : s.2 < 1000) : CTp (u2 (u2 I 2 s.2 (nI b)) 1 1 (nI (s.2 + 1))) (mUp s.1 s.2 b) (s.2 + 1) := by
  refine ⟨u2_same _ _ _ _, hn, fun i hi => ?_⟩
  rw [u2_row _ _ _ (by decide)]
  by_cases e : i = s.2
  · rw [e, u2_same, mUp_same]; exact ⟨rfl, hb⟩
  · rw [u2_off _ _ e, mUp_off _ _ e]; exact h.2.2 i (by omega)
theorem MTp.add {I : xTI} {s : pT} (h : MTp I s.1 s.2) {b : Nat} (hb : b < 128) (hn : s.2 < 1000) : MTp (u2 (u2 I 136 s.2 (nI b)) 135 2 (nI (s.2 + 1))) (mUp s.1 s.2 b) (s.2 + 1) := by
  refine ⟨u2_same _ _ _ _, hn, fun i hi => ?_⟩
  rw [u2_row _ _ _ (by decide)]
  by_cases e : i = s.2
  · rw [e, u2_same, mUp_same]; exact ⟨rfl, hb⟩
  · rw [u2_off _ _ e, mUp_off _ _ e]; exact h.2.2 i (by omega)
theorem adOk_x {b n : Nat} (hb : b < 256) (h : ¬ nI b = nI 10) (g : nI b < nI 32 ∨ nI 126 < nI b) : ¬ adOk b n := fun z => by
  rcases z.1 with e | e
  · exact h (by rw [e])
  · rcases g with g | g
    · have := (nI_lt_iff (by omega) (by omega)).mp g; omega
    · have := (nI_lt_iff (by omega) (by omega)).mp g; omega
theorem adOk_b {b : Nat} (hb : b < 256) (h : nI b = nI 10 ∨ (¬ nI b < nI 32 ∧ ¬ nI 126 < nI b)) : b = 10 ∨ (32 ≤ b ∧ b ≤ 126) := by
  rcases h with h | h
  · exact Or.inl ((nI_eq (by omega) (by omega)).mp h)
  · exact Or.inr ⟨Nat.le_of_not_lt (fun z => h.1 ((nI_lt_iff (by omega) (by omega)).mpr z)), Nat.le_of_not_lt (fun z => h.2 ((nI_lt_iff (by omega) (by omega)).mpr z))⟩
theorem c_X9_add {S : xTS} {R : xTR} {I : xTI} {J : xTJ} {post : xPost} (hS : fixd S R) {v : Int64} {s t : pT} (T : CTp I s.1 s.2) (e : adLp v 8 s = t) (hp : ∀ I', (∀ a, a ≠ 1 → a ≠ 2 → I' a = I a) → (∀ k, k ≠ 1 → I' 1 k = I 1 k) → CTp I' t.1 t.2 → post none S R I' J) : xSpec 1 yX9_add cX9_add 5 none 0 0 [.ref 1, .long v] S R I J post := by
  refine xSpec_of mt_X9_add (Nat.le_of_ble_eq_true rfl) (fun G C0 hN hR E hI hZ => ?_)
  change XX G 0 0 0 [some (.ref 1), some (.long v), none, none, none] [] S R I J
  have s1 := hS.sTape
  have s2 := hS.sSigns
  have r0 := hS.rSigns
  have h3 : ∀ j k I1 s1 x4, k + j = 8 → (∀ a, a ≠ 1 → a ≠ 2 → I1 a = I a) → (∀ k, k ≠ 1 → I1 1 k = I 1 k) → CTp I1 s1.1 s1.2 → adLp v j s1 = t → XX G 0 0 3 [some (.ref 1), some (.long v), none, some (.int (sh k)), x4] [] S R I1 J := by
    intro j
    induction j with
    | zero =>
      intro k I1 s1 x4 hk f1 f2 T1 el
      have hk8 : k = 8 := by omega
      subst hk8
      refine x_iload_n C0 rfl dX9_add_3 ?_
      refine x_if_lt (tgt := 85) C0 (by decide) dX9_add_4 (fun _ => ?_) (fun hkk => absurd (sh_8) hkk)
      refine x_vret C0 E (by decide) (by decide) dX9_add_85 ?_
      rw [← el] at hp
      exact hp I1 f1 f2 T1
    | succ j ih =>
      intro k I1 s9 x4 hk f1 f2 T1 el
      have hk8 : k < 8 := by omega
      have e7 : 7 - j = k := by omega
      have elu : adLp v (j + 1) s9 = adLp v j (adSt (byt v (7 - j)) s9) := rfl
      rw [elu, e7] at el
      have hb := byt_lt v k
      have ih := fun I2 s2 x4 => ih (k + 1) I2 s2 x4 (by omega)
      have hn := T1.2.1
      have h79 : ∀ I2 s2, (∀ a, a ≠ 1 → a ≠ 2 → I2 a = I a) → (∀ k, k ≠ 1 → I2 1 k = I 1 k) → CTp I2 s2.1 s2.2 → adSt (byt v k) s9 = s2 → XX G 0 0 79 [some (.ref 1), some (.long v), none, some (.int (sh k)), some (.int (nI (byt v k)))] [] S R I2 J := by
        intro I2 s2 g1 g2 T2 e2
        refine x_iinc (v := sh (k + 1)) (L' := [_, _, _, _, _]) C0 hN rfl (by decide) (sh_inc k hk8) rfl dX9_add_79 ?_
        refine x_goto (tgt := 3) C0 (by decide) dX9_add_82 ?_
        exact ih I2 s2 _ g1 g2 T2 (by rw [← e2]; exact el)
      have h39 : (byt v k = 10 ∨ (32 ≤ byt v k ∧ byt v k ≤ 126)) → XX G 0 0 39 [some (.ref 1), some (.long v), none, some (.int (sh k)), some (.int (nI (byt v k)))] [] S R I1 J := by
        intro hok
        refine x_aload_n C0 rfl dX9_add_39 ?_
        refine x_getI C0 wf_X9_17 (by assumption) rfl dX9_add_40 ?_
        refine x_topi T1.1 ?_
        refine x_if_lt (tgt := 79) C0 (by decide) dX9_add_43 (fun hkk => absurd hkk (nI_pos (by omega))) (fun _ => ?_)
        refine x_aload_n C0 rfl dX9_add_46 ?_
        refine x_getI C0 wf_X9_17 (by assumption) rfl dX9_add_47 ?_
        refine x_topi T1.1 ?_
        refine x_aload_n C0 rfl dX9_add_50 ?_
        refine x_getR C0 wf_X9_9 (by assumption) rfl rfl (by assumption) dX9_add_51 ?_
        refine x_alen C0 (by assumption) (by decide) (by decide) rfl dX9_add_54 ?_
        refine x_icmp_ge (tgt := 79) C0 (by decide) dX9_add_55 (fun g55 => ?_) (fun g55 => ?_)
        · exact h79 I1 s9 f1 f2 T1 (if_neg (fun z => absurd ((nI_le_iff (a := 1000) (by omega) (by omega)).mp g55) (Nat.not_le.mpr z.2)))
        · have hn2 : s9.2 < 1000 := Nat.lt_of_not_le (fun z => g55 ((nI_le_iff (b := s9.2) (a := 1000) (by omega) (by omega)).mpr z))
          refine x_aload_n C0 rfl dX9_add_58 ?_
          refine x_getR C0 wf_X9_9 (by assumption) rfl rfl (by assumption) dX9_add_59 ?_
          refine x_aload_n C0 rfl dX9_add_62 ?_
          refine x_getI C0 wf_X9_17 (by assumption) rfl dX9_add_63 ?_
          refine x_topi T1.1 ?_
          refine x_iload C0 rfl dX9_add_66 ?_
          refine x_castore C0 s2 (vp_in_nI hn2 (by decide)) dX9_add_68 ?_
          rw [nI_clamp (by omega), vp_nar_c (by omega)]
          refine x_aload_n C0 rfl dX9_add_69 ?_
          refine x_dup C0 rfl dX9_add_70 ?_
          refine x_getI C0 wf_X9_17 (by assumption) rfl dX9_add_71 ?_
          refine x_topi (show u2 I1 2 s9.2 (nI (byt v k)) 1 1 = nI s9.2 by rw [u2_row _ _ _ (by decide)]; exact T1.1) ?_
          refine x_iconst (v := nI 1) C0 rfl dX9_add_74 ?_
          refine x_iadd C0 dX9_add_75 ?_
          refine x_topi (nI_add s9.2 1) ?_
          refine x_putI C0 wf_X9_17 (by assumption) rfl dX9_add_76 ?_
          refine h79 _ _ (fun a h1 h2 => ?_) (fun k h => ?_) (T1.add (by omega) hn2) (if_pos ⟨hok, hn2⟩)
          · rw [u2_row _ _ _ h1, u2_row _ _ _ h2]; exact f1 a h1 h2
          · rw [u2_off _ _ h, u2_row _ _ _ (by decide)]; exact f2 k h
      refine x_iload_n C0 rfl dX9_add_3 ?_
      refine x_if_lt (tgt := 85) C0 (by decide) dX9_add_4 (fun hkk => absurd hkk ((sh_ge k hk8))) (fun _ => ?_)
      refine x_lload_n C0 rfl dX9_add_7 ?_
      refine x_iload_n C0 rfl dX9_add_8 ?_
      refine x_lushr C0 dX9_add_9 ?_
      refine x_ldc2 C0 wl_X9_15 dX9_add_10 ?_
      refine x_land C0 dX9_add_13 ?_
      refine x_l2i C0 dX9_add_14 ?_
      refine x_i2c C0 dX9_add_15 ?_
      refine x_topi (byt_c v hk8) ?_
      refine x_istore (L' := [_, _, _, _, _]) C0 hN (by decide) rfl dX9_add_16 ?_
      refine x_iload C0 rfl dX9_add_18 ?_
      refine x_bipush (v := nI 10) C0 rfl dX9_add_20 ?_
      refine x_icmp_eq (tgt := 39) C0 (by decide) dX9_add_22 (fun g22 => ?_) (fun g22 => ?_)
      · exact h39 (adOk_b hb (Or.inl g22))
      · refine x_iload C0 rfl dX9_add_25 ?_
        refine x_bipush (v := nI 32) C0 rfl dX9_add_27 ?_
        refine x_icmp_lt (tgt := 79) C0 (by decide) dX9_add_29 (fun g29 => ?_) (fun g29 => ?_)
        · exact h79 I1 s9 f1 f2 T1 (if_neg (adOk_x hb g22 (Or.inl g29)))
        · refine x_iload C0 rfl dX9_add_32 ?_
          refine x_bipush (v := nI 126) C0 rfl dX9_add_34 ?_
          refine x_icmp_gt (tgt := 79) C0 (by decide) dX9_add_36 (fun g36 => ?_) (fun g36 => ?_)
          · exact h79 I1 s9 f1 f2 T1 (if_neg (adOk_x hb g22 (Or.inr g36)))
          · exact h39 (adOk_b hb (Or.inr ⟨g29, g36⟩))
  refine x_bipush (v := 56) C0 rfl dX9_add_0 ?_
  refine x_topi (show (56 : Int32) = sh 0 from rfl) ?_
  refine x_istore_n (L' := [_, _, _, _, _]) C0 hN (by decide) rfl dX9_add_2 ?_
  exact h3 8 0 I s _ (by decide) (fun _ _ _ => rfl) (fun _ _ => rfl) T e
theorem c_X11_feed {S : xTS} {R : xTR} {I : xTI} {J : xTJ} {post : xPost} (hS : fixd S R) {a b c : Int64} {s t : pT} (T : CTp I s.1 s.2) (e : adAll a b c s = t) (hp : ∀ I', (∀ a, a ≠ 1 → a ≠ 2 → I' a = I a) → (∀ k, k ≠ 1 → I' 1 k = I 1 k) → CTp I' t.1 t.2 → post (some (.int (nI t.2))) S R I' J) : xSpec 2 yX11_feed cX11_feed 7 (some .int) 0 0 [.ref 0, .long a, .long b, .long c] S R I J post := by
  refine xSpec_of mt_X11_feed (Nat.le_of_ble_eq_true rfl) (fun G C0 hN hR E hI hZ => ?_)
  change XX G 0 0 0 [some (.ref 0), some (.long a), none, some (.long b), none, some (.long c), none] [] S R I J
  refine x_aload_n C0 rfl dX11_feed_0 ?_
  have k0 := hS.k0
  have zt := hS.sTape
  unfold adAll at e
  refine x_getR C0 wf_X11_12 k0 rfl rfl (fixd.tape hS) dX11_feed_1 ?_
  refine x_lload_n C0 rfl dX11_feed_4 ?_
  refine x_callV [_] C0 hN rfl (xRf_of hR (by decide) (Nat.zero_le _) (Nat.zero_le _)) mv_X9_add wm_X11_85 dX11_feed_5 zt rfl rfl (Nat.le_of_ble_eq_true rfl) (c_X9_add hS T rfl (fun I1 f1 g1 T1 => ?_))
  refine x_aload_n C0 rfl dX11_feed_8 ?_
  refine x_getR C0 wf_X11_12 k0 rfl rfl (fixd.tape hS) dX11_feed_9 ?_
  refine x_lload_n C0 rfl dX11_feed_12 ?_
  refine x_callV [_] C0 hN rfl (xRf_of hR (by decide) (Nat.zero_le _) (Nat.zero_le _)) mv_X9_add wm_X11_85 dX11_feed_13 zt rfl rfl (Nat.le_of_ble_eq_true rfl) (c_X9_add hS T1 rfl (fun I2 f2 g2 T2 => ?_))
  refine x_aload_n C0 rfl dX11_feed_16 ?_
  refine x_getR C0 wf_X11_12 k0 rfl rfl (fixd.tape hS) dX11_feed_17 ?_
  refine x_lload C0 rfl dX11_feed_20 ?_
  refine x_callV [_] C0 hN rfl (xRf_of hR (by decide) (Nat.zero_le _) (Nat.zero_le _)) mv_X9_add wm_X11_85 dX11_feed_22 zt rfl rfl (Nat.le_of_ble_eq_true rfl) (c_X9_add hS T2 e (fun I3 f3 g3 T3 => ?_))
  refine x_aload_n C0 rfl dX11_feed_25 ?_
  refine x_getR C0 wf_X11_12 k0 rfl rfl (fixd.tape hS) dX11_feed_26 ?_
  refine x_getI C0 wf_X11_89 zt rfl dX11_feed_29 ?_
  refine x_topi T3.1 ?_
  refine x_iret C0 E (by decide) (by decide) dX11_feed_32 ?_
  exact hp I3 (fun a h1 h2 => by rw [f3 a h1 h2, f2 a h1 h2, f1 a h1 h2]) (fun k h => by rw [g3 k h, g2 k h, g1 k h]) T3
theorem c_X12_lay {S : xTS} {R : xTR} {I : xTI} {J : xTJ} {post : xPost} (hM : isModel S R) {v : Int64} {s t : pT} (T : MTp I s.1 s.2) (e : adLp v 8 s = t) (hp : ∀ I', (∀ a, a ≠ 135 → a ≠ 136 → I' a = I a) → (∀ k, k ≠ 2 → I' 135 k = I 135 k) → MTp I' t.1 t.2 → post none S R I' J) : xSpec 1 yX12_lay cX12_lay 5 none 0 0 [.ref 135, .long v] S R I J post := by
  refine xSpec_of mt_X12_lay (Nat.le_of_ble_eq_true rfl) (fun G C0 hN hR E hI hZ => ?_)
  change XX G 0 0 0 [some (.ref 135), some (.long v), none, none, none] [] S R I J
  have h3 : ∀ j k I1 s1 x4, k + j = 8 → (∀ a, a ≠ 135 → a ≠ 136 → I1 a = I a) → (∀ k, k ≠ 2 → I1 135 k = I 135 k) → MTp I1 s1.1 s1.2 → adLp v j s1 = t → XX G 0 0 3 [some (.ref 135), some (.long v), none, some (.int (sh k)), x4] [] S R I1 J := by
    intro j
    induction j with
    | zero =>
      intro k I1 s1 x4 hk f1 f2 T1 el
      have hk8 : k = 8 := by omega
      subst hk8
      refine x_iload_n C0 rfl dX12_lay_3 ?_
      refine x_if_lt (tgt := 75) C0 (by decide) dX12_lay_4 (fun _ => ?_) (fun hkk => absurd (sh_8) hkk)
      refine x_vret C0 E (by decide) (by decide) dX12_lay_75 ?_
      rw [← el] at hp
      exact hp I1 f1 f2 T1
    | succ j ih =>
      intro k I1 s9 x4 hk f1 f2 T1 el
      have hk8 : k < 8 := by omega
      have e7 : 7 - j = k := by omega
      have elu : adLp v (j + 1) s9 = adLp v j (adSt (byt v (7 - j)) s9) := rfl
      rw [elu, e7] at el
      have hb := byt_lt v k
      have ih := fun I2 s2 x4 => ih (k + 1) I2 s2 x4 (by omega)
      have hn := T1.2.1
      have h69 : ∀ I2 s2, (∀ a, a ≠ 135 → a ≠ 136 → I2 a = I a) → (∀ k, k ≠ 2 → I2 135 k = I 135 k) → MTp I2 s2.1 s2.2 → adSt (byt v k) s9 = s2 → XX G 0 0 69 [some (.ref 135), some (.long v), none, some (.int (sh k)), some (.int (nI (byt v k)))] [] S R I2 J := by
        intro I2 s2 g1 g2 T2 e2
        refine x_iinc (v := sh (k + 1)) (L' := [_, _, _, _, _]) C0 hN rfl (by decide) (sh_inc k hk8) rfl dX12_lay_69 ?_
        refine x_goto (tgt := 3) C0 (by decide) dX12_lay_72 ?_
        exact ih I2 s2 _ g1 g2 T2 (by rw [← e2]; exact el)
      have h38 : (byt v k = 10 ∨ (32 ≤ byt v k ∧ byt v k ≤ 126)) → XX G 0 0 38 [some (.ref 135), some (.long v), none, some (.int (sh k)), some (.int (nI (byt v k)))] [] S R I1 J := by
        intro hok
        refine x_aload_n C0 rfl dX12_lay_38 ?_
        refine x_getI C0 wf_X12_11 (isModel.k0 hM) rfl dX12_lay_39 ?_
        refine x_topi T1.1 ?_
        refine x_sipush (v := nI 1000) C0 rfl dX12_lay_42 ?_
        refine x_icmp_ge (tgt := 69) C0 (by decide) dX12_lay_45 (fun g45 => ?_) (fun g45 => ?_)
        · exact h69 I1 s9 f1 f2 T1 (if_neg (fun z => absurd ((nI_le_iff (a := 1000) (by omega) (by omega)).mp g45) (Nat.not_le.mpr z.2)))
        · have hn2 : s9.2 < 1000 := Nat.lt_of_not_le (fun z => g45 ((nI_le_iff (b := s9.2) (a := 1000) (by omega) (by omega)).mpr z))
          refine x_aload_n C0 rfl dX12_lay_48 ?_
          refine x_getR C0 wf_X12_14 (isModel.k0 hM) rfl rfl (isModel.r1 hM) dX12_lay_49 ?_
          refine x_aload_n C0 rfl dX12_lay_52 ?_
          refine x_getI C0 wf_X12_11 (isModel.k0 hM) rfl dX12_lay_53 ?_
          refine x_topi T1.1 ?_
          refine x_iload C0 rfl dX12_lay_56 ?_
          refine x_iastoreN C0 (isModel.s1 hM) (by omega) (by omega) dX12_lay_58 ?_
          refine x_aload_n C0 rfl dX12_lay_59 ?_
          refine x_dup C0 rfl dX12_lay_60 ?_
          refine x_getI C0 wf_X12_11 (isModel.k0 hM) rfl dX12_lay_61 ?_
          refine x_topi (show u2 I1 136 s9.2 (nI (byt v k)) 135 2 = nI s9.2 by rw [u2_row _ _ _ (by decide)]; exact T1.1) ?_
          refine x_iconst (v := nI 1) C0 rfl dX12_lay_64 ?_
          refine x_iadd C0 dX12_lay_65 ?_
          refine x_topi (nI_add s9.2 1) ?_
          refine x_putI C0 wf_X12_11 (isModel.k0 hM) rfl dX12_lay_66 ?_
          refine h69 _ _ (fun a h1 h2 => ?_) (fun k h => ?_) (T1.add (by omega) hn2) (if_pos ⟨hok, hn2⟩)
          · rw [u2_row _ _ _ h1, u2_row _ _ _ h2]; exact f1 a h1 h2
          · rw [u2_off _ _ h, u2_row _ _ _ (by decide)]; exact f2 k h
      refine x_iload_n C0 rfl dX12_lay_3 ?_
      refine x_if_lt (tgt := 75) C0 (by decide) dX12_lay_4 (fun hkk => absurd hkk ((sh_ge k hk8))) (fun _ => ?_)
      refine x_lload_n C0 rfl dX12_lay_7 ?_
      refine x_iload_n C0 rfl dX12_lay_8 ?_
      refine x_lshr C0 dX12_lay_9 ?_
      refine x_l2i C0 dX12_lay_10 ?_
      refine x_sipush (v := 255) C0 rfl dX12_lay_11 ?_
      refine x_iand C0 dX12_lay_14 ?_
      refine x_topi (byt_r v hk8) ?_
      refine x_istore (L' := [_, _, _, _, _]) C0 hN (by decide) rfl dX12_lay_15 ?_
      refine x_iload C0 rfl dX12_lay_17 ?_
      refine x_bipush (v := nI 10) C0 rfl dX12_lay_19 ?_
      refine x_icmp_eq (tgt := 38) C0 (by decide) dX12_lay_21 (fun g21 => ?_) (fun g21 => ?_)
      · exact h38 (adOk_b hb (Or.inl g21))
      · refine x_iload C0 rfl dX12_lay_24 ?_
        refine x_bipush (v := nI 32) C0 rfl dX12_lay_26 ?_
        refine x_icmp_lt (tgt := 69) C0 (by decide) dX12_lay_28 (fun g28 => ?_) (fun g28 => ?_)
        · exact h69 I1 s9 f1 f2 T1 (if_neg (adOk_x hb g21 (Or.inl g28)))
        · refine x_iload C0 rfl dX12_lay_31 ?_
          refine x_bipush (v := nI 126) C0 rfl dX12_lay_33 ?_
          refine x_icmp_gt (tgt := 69) C0 (by decide) dX12_lay_35 (fun g35 => ?_) (fun g35 => ?_)
          · exact h69 I1 s9 f1 f2 T1 (if_neg (adOk_x hb g21 (Or.inr g35)))
          · exact h38 (adOk_b hb (Or.inr ⟨g28, g35⟩))
  refine x_bipush (v := 56) C0 rfl dX12_lay_0 ?_
  refine x_topi (show (56 : Int32) = sh 0 from rfl) ?_
  refine x_istore_n (L' := [_, _, _, _, _]) C0 hN (by decide) rfl dX12_lay_2 ?_
  exact h3 8 0 I s _ (by decide) (fun _ _ _ => rfl) (fun _ _ => rfl) T e
theorem c_X12_feed {S : xTS} {R : xTR} {I : xTI} {J : xTJ} {post : xPost} (hM : isModel S R) {a b c : Int64} {s t : pT} (T : MTp I s.1 s.2) (e : adAll a b c s = t) (hp : ∀ I', (∀ a, a ≠ 135 → a ≠ 136 → I' a = I a) → (∀ k, k ≠ 0 → k ≠ 2 → I' 135 k = I 135 k) → MTp I' t.1 t.2 → post (some (.int (nI t.2))) S R I' J) : xSpec 2 yX12_feed cX12_feed 7 (some .int) 0 0 [.ref 135, .long a, .long b, .long c] S R I J post := by
  refine xSpec_of mt_X12_feed (Nat.le_of_ble_eq_true rfl) (fun G C0 hN hR E hI hZ => ?_)
  change XX G 0 0 0 [some (.ref 135), some (.long a), none, some (.long b), none, some (.long c), none] [] S R I J
  refine x_aload_n C0 rfl dX12_feed_0 ?_
  refine x_iconst (v := nI 0) C0 rfl dX12_feed_1 ?_
  refine x_putI C0 wf_X12_1 (isModel.k0 hM) rfl dX12_feed_2 ?_
  unfold adAll at e
  have T0 : MTp (u2 I 135 0 (nI 0)) s.1 s.2 := ⟨by rw [u2_off _ _ (by decide)]; exact T.1, T.2.1, fun i hi => by rw [u2_row _ _ _ (by decide)]; exact T.2.2 i hi⟩
  have f0 : ∀ a, a ≠ 135 → u2 I 135 0 (nI 0) a = I a := fun a h => u2_row _ _ _ h
  have g0 : ∀ k, k ≠ 0 → u2 I 135 0 (nI 0) 135 k = I 135 k := fun k h => u2_off _ _ h
  generalize u2 I 135 0 (nI 0) = I0 at T0 f0 g0 ⊢
  refine x_aload_n C0 rfl dX12_feed_5 ?_
  refine x_lload_n C0 rfl dX12_feed_6 ?_
  refine x_callV [_] C0 hN rfl (xRf_of hR (by decide) (Nat.zero_le _) (Nat.zero_le _)) mv_X12_lay wm_X12_7 dX12_feed_7 (isModel.k0 hM) rfl rfl (Nat.le_of_ble_eq_true rfl) (c_X12_lay hM T0 rfl (fun I1 f1 g1 T1 => ?_))
  refine x_aload_n C0 rfl dX12_feed_10 ?_
  refine x_lload_n C0 rfl dX12_feed_11 ?_
  refine x_callV [_] C0 hN rfl (xRf_of hR (by decide) (Nat.zero_le _) (Nat.zero_le _)) mv_X12_lay wm_X12_7 dX12_feed_12 (isModel.k0 hM) rfl rfl (Nat.le_of_ble_eq_true rfl) (c_X12_lay hM T1 rfl (fun I2 f2 g2 T2 => ?_))
  refine x_aload_n C0 rfl dX12_feed_15 ?_
  refine x_lload C0 rfl dX12_feed_16 ?_
  refine x_callV [_] C0 hN rfl (xRf_of hR (by decide) (Nat.zero_le _) (Nat.zero_le _)) mv_X12_lay wm_X12_7 dX12_feed_18 (isModel.k0 hM) rfl rfl (Nat.le_of_ble_eq_true rfl) (c_X12_lay hM T2 e (fun I3 f3 g3 T3 => ?_))
  refine x_aload_n C0 rfl dX12_feed_21 ?_
  refine x_getI C0 wf_X12_11 (isModel.k0 hM) rfl dX12_feed_22 ?_
  refine x_topi T3.1 ?_
  refine x_iret C0 E (by decide) (by decide) dX12_feed_25 ?_
  exact hp I3 (fun a h1 h2 => by rw [f3 a h1 h2, f2 a h1 h2, f1 a h1 h2, f0 a h1]) (fun k h h2 => by rw [g3 k h2, g2 k h2, g1 k h2, g0 k h]) T3
