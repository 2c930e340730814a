/-! THE QUESTION chance: the class -/
theorem c_X11_weight {S : xTS} {R : xTR} {I : xTI} {J : xTJ} {post : xPost} {s op o : Nat} (hs : s < 256) (hop : op < 256) (ho : o ≤ 10) (hp : post (some (.long (Int64.ofNat (chW o op s 8)))) S R I J) : xSpec 1 yX11_weight cX11_weight 6 (some .long) 0 0 [.int (nI s), .int (nI op), .int (nI o)] S R I J post := by
  refine xSpec_of mt_X11_weight (Nat.le_of_ble_eq_true rfl) (fun G C0 hN hR E hI hZ => ?_)
  change XX G 0 0 0 [some (.int (nI s)), some (.int (nI op)), some (.int (nI o)), none, none, none] [] S R I J
  have h5 : ∀ n k, k + n = 8 → XX G 0 0 5 [some (.int (nI s)), some (.int (nI op)), some (.int (nI o)), some (.long (Int64.ofNat (chW o op s k))), none, some (.int (nI k))] [] S R I J := by
    intro n
    induction n with
    | zero =>
      intro k hk
      have hk8 : k = 8 := by omega
      subst hk8
      refine x_iload C0 rfl dX11_weight_5 ?_
      refine x_bipush (v := nI 8) C0 rfl dX11_weight_7 ?_
      refine x_icmp_ge (tgt := 51) C0 (by decide) dX11_weight_9 (fun _ => ?_) (fun hkk => absurd ((Int32.le_refl _)) hkk)
      refine x_lload_n C0 rfl dX11_weight_51 ?_
      refine x_lret C0 E (by decide) (by decide) dX11_weight_52 ?_
      exact hp
    | succ n ih =>
      intro k hk
      have ih := ih (k + 1) (by omega)
      refine x_iload C0 rfl dX11_weight_5 ?_
      refine x_bipush (v := nI 8) C0 rfl dX11_weight_7 ?_
      refine x_icmp_ge (tgt := 51) C0 (by decide) dX11_weight_9 (fun hkk => absurd hkk ((nI_ge (b := 8) (by omega) (by omega)))) (fun _ => ?_)
      refine x_iload_n C0 rfl dX11_weight_12 ?_
      refine x_iload C0 rfl dX11_weight_13 ?_
      refine x_ishr C0 dX11_weight_15 ?_
      refine x_iconst (v := 1) C0 rfl dX11_weight_16 ?_
      refine x_iand C0 dX11_weight_17 ?_
      refine x_iconst (v := 1) C0 rfl dX11_weight_18 ?_
      refine x_icmp_ne (tgt := 45) C0 (by decide) dX11_weight_19 (fun g19 => ?_) (fun g19 => ?_)
      · refine x_iinc (v := nI (k + 1)) (L' := [_, _, _, _, _, _]) C0 hN rfl (by decide) (nI_inc k) rfl dX11_weight_45 ?_
        refine x_goto (tgt := 5) C0 (by decide) dX11_weight_48 ?_
        have hb : op.testBit k = false := by
          cases z : op.testBit k
          · rfl
          · exact absurd ((xb_1 op hop k (by omega)).mpr z) g19
        rw [chW_no hb] at ih
        exact ih
      · refine x_lload_n C0 rfl dX11_weight_22 ?_
        refine x_iload_n C0 rfl dX11_weight_23 ?_
        refine x_iload C0 rfl dX11_weight_24 ?_
        refine x_ishr C0 dX11_weight_26 ?_
        refine x_iconst (v := 1) C0 rfl dX11_weight_27 ?_
        refine x_iand C0 dX11_weight_28 ?_
        refine x_iconst (v := 1) C0 rfl dX11_weight_29 ?_
        refine x_icmp_ne (tgt := 38) C0 (by decide) dX11_weight_30 (fun g30 => ?_) (fun g30 => ?_)
        · refine x_bipush (v := nI 10) C0 rfl dX11_weight_38 ?_
          refine x_iload_n C0 rfl dX11_weight_40 ?_
          refine x_isub C0 dX11_weight_41 ?_
          refine x_i2l C0 dX11_weight_42 ?_
          refine x_lmul C0 dX11_weight_43 ?_
          refine x_lstore_n (L' := [_, _, _, _, _, _]) C0 hN (by decide) rfl dX11_weight_44 ?_
          refine x_iinc (v := nI (k + 1)) (L' := [_, _, _, _, _, _]) C0 hN rfl (by decide) (nI_inc k) rfl dX11_weight_45 ?_
          refine x_goto (tgt := 5) C0 (by decide) dX11_weight_48 ?_
          have hb := (xb_1 op hop k (by omega)).mp g19
          have hb2 : s.testBit k = false := by
            cases z : s.testBit k
            · rfl
            · exact absurd ((xb_1 s hs k (by omega)).mpr z) g30
          rw [chW_let hb hb2] at ih
          rw [nI_subn ho, i_long (by omega), l_mul]
          exact ih
        · refine x_iload_n C0 rfl dX11_weight_33 ?_
          refine x_i2l C0 dX11_weight_34 ?_
          refine x_goto (tgt := 43) C0 (by decide) dX11_weight_35 ?_
          refine x_lmul C0 dX11_weight_43 ?_
          refine x_lstore_n (L' := [_, _, _, _, _, _]) C0 hN (by decide) rfl dX11_weight_44 ?_
          refine x_iinc (v := nI (k + 1)) (L' := [_, _, _, _, _, _]) C0 hN rfl (by decide) (nI_inc k) rfl dX11_weight_45 ?_
          refine x_goto (tgt := 5) C0 (by decide) dX11_weight_48 ?_
          have hb := (xb_1 op hop k (by omega)).mp g19
          have hb2 := (xb_1 s hs k (by omega)).mp g30
          rw [chW_set hb hb2] at ih
          rw [i_long (by omega), l_mul]
          exact ih
  refine x_lconst (v := 1) C0 rfl dX11_weight_0 ?_
  refine x_lstore_n (L' := [_, _, _, _, _, _]) C0 hN (by decide) rfl dX11_weight_1 ?_
  refine x_iconst (v := nI 0) C0 rfl dX11_weight_2 ?_
  refine x_istore (L' := [_, _, _, _, _, _]) C0 hN (by decide) rfl dX11_weight_3 ?_
  exact h5 8 0 (by omega)
theorem i_c10 {c : Int32} (h : c ≤ 10) : c < nI 11 := by
  rw [Int32.le_iff_toInt_le, show (10 : Int32).toInt = 10 from rfl] at h
  rw [Int32.lt_iff_toInt_lt, show (nI 11).toInt = 11 from rfl]
  omega
theorem c_X11_chance {S : xTS} {R : xTR} {I : xTI} {J : xTJ} {post : xPost} {f T N V : Nat} {fl x : xRow} {lw : Option (List (Nat × Nat))} (hS : fixd S R) (hf : R 0 2 = some f) (C : FCore I f fl lw T N V x) {i j c : Int32} (hp : ∀ I', FQ I I' → post (some (.int (aChance fl (sDq fl lw) x V N i j c))) S R I' J) : xSpec 7 yX11_chance cX11_chance 12 (some .int) 0 0 [.ref 0, .int i, .int j, .int c] S R I J post := by
  refine xSpec_of mt_X11_chance (Nat.le_of_ble_eq_true rfl) (fun G C0 hN hR E hI hZ => ?_)
  change XX G 0 0 0 [some (.ref 0), some (.int i), some (.int j), some (.int c), none, none, none, none, none, none, none, none] [] S R I J
  obtain ⟨hfm, wl, rF, rH, wx⟩ := id C
  have hF := hS.film hfm
  have hH := hS.hall (q := 33) (by decide)
  have hT6 := wl.2.1
  have hN8 := wl.2.2.2.1
  have hV6 := wl.2.2.2.2.2.1
  have eT : I f 0 = nI T := rF.1.trans wl.1
  have eN : I f 1 = nI N := rF.2.1.trans wl.2.2.1
  have eV : I f 2 = nI V := rF.2.2.1.trans wl.2.2.2.2.1
  have hfh : ∀ i j, i < 9 → j < 4 → f + i ≠ 33 + j := fun i j hi hj => hf_apart 33 (by decide) f hfm i hi j hj
  obtain ⟨fs0, fs1, fs2, fs3, fs4, fs5, fs6, fs7, fs8, fr4, fr5, fr6, fr7, fr8, fr9, fr10, fr11⟩ := id hF
  obtain ⟨hs0, hs1, hs2, hs3, hr4, hr5, hr6⟩ := id hH
  unfold aChance at hp
  rw [← rF.2.2.1, ← rF.1] at hp
  have h256 := shl_le hN8
  have hT := hS.hall (q := 37) (by decide)
  obtain ⟨hq0, hq1, hq2, hq3, -⟩ := id hT
  obtain ⟨op, hop, eo⟩ := come_nI wx hN8
  obtain ⟨ct, hct, ec⟩ := wx.2.2.1
  obtain ⟨may, hmay, em⟩ := cuttable_nI wx hN8
  have hbits := may_bits hN8 hop hct hmay (by rw [← em, ← eo, ← ec]; rfl)
  have h39 : ∀ a t o, a < V → t < T → o ≤ 10 → (∀ I', FQ I I' → post (some (.int (nI (chD o may (chH fl (sDq fl lw) x V N a t) N ct * 1000000 / 10 ^ chC may N)))) S R I' J) → ∀ n s I1 v10, s + n = 256 → FQ I I1 → XX G 0 0 39 [some (.ref 0), some (.int (nI a)), some (.int (nI t)), some (.int (nI o)), some (.int (nI op)), some (.long (Int64.ofNat (tot (chF o op (fun _ => 1) 8) s))), none, some (.long (Int64.ofNat (tot (chF o op (fun z => (chH fl (sDq fl lw) x V N a t) (ct ||| z)) 8) s))), none, some (.int (nI s)), v10, none] [] S R I1 J := by
    intro a t o ha ht ho hp n
    induction n with
    | zero =>
      intro s I1 v10 hn9 s1
      have hn8 : s = 256 := by omega
      subst hn8
      have eA : tot (chF o op (fun _ => 1) 8) 256 = 10 ^ chC op 8 := by rw [show 256 = 2 ^ 8 from rfl, chD_tot o op (fun _ => 1) 8 ct, ch_one ho]
      have eB : tot (chF o op (fun z => (chH fl (sDq fl lw) x V N a t) (ct ||| z)) 8) 256 = chD o op (chH fl (sDq fl lw) x V N a t) 8 ct := by rw [show 256 = 2 ^ 8 from rfl, chD_tot o op (chH fl (sDq fl lw) x V N a t) 8 ct]
      have hle := ch_le (op := op) (h := (chH fl (sDq fl lw) x V N a t)) ho (fun _ => chH_le _) 8 ct
      have hc8 := chC_le op 8
      have hp10 : 10 ^ chC op 8 ≤ 10 ^ 8 := Nat.pow_le_pow_right (by decide) hc8
      have hp0 : 0 < 10 ^ chC op 8 := Nat.pow_pos (by decide)
      have hfin : (Int64.ofNat (tot (chF o op (fun z => (chH fl (sDq fl lw) x V N a t) (ct ||| z)) 8) 256) * 1000000 / Int64.ofNat (tot (chF o op (fun _ => 1) 8) 256)).toInt32 = nI (chD o may (chH fl (sDq fl lw) x V N a t) N ct * 1000000 / 10 ^ chC may N) := by
        rw [eA, eB, show (1000000 : Int64) = Int64.ofNat 1000000 from rfl, l_mul, l_div (by omega) (by omega), l_int, ch_same ho hop hmay hN8 hbits]
      have hne : ¬ Int64.ofNat (tot (chF o op (fun _ => 1) 8) 256) ≤ 0 := by
        rw [eA, Int64.le_iff_toInt_le, l_toInt (by omega)]
        show ¬ ((10 ^ chC op 8 : Nat) : Int) ≤ 0
        omega
      have hn0 : ¬ Int64.ofNat (tot (chF o op (fun _ => 1) 8) 256) = 0 := fun z => hne (by rw [z]; decide)
      refine x_iload C0 rfl dX11_chance_39 ?_
      refine x_sipush (v := nI 256) C0 rfl dX11_chance_41 ?_
      refine x_icmp_ge (tgt := 110) C0 (by decide) dX11_chance_44 (fun _ => ?_) (fun hkk => absurd ((Int32.le_refl _)) hkk)
      refine x_lload C0 rfl dX11_chance_110 ?_
      refine x_lconst (v := 0) C0 rfl dX11_chance_112 ?_
      refine x_lcmp C0 dX11_chance_113 ?_
      refine x_if_le (tgt := 130) C0 (by decide) dX11_chance_114 (fun hkk => absurd hkk ((fun z => hne ((lg_cmp_le _ _).mp z)))) (fun _ => ?_)
      refine x_lload C0 rfl dX11_chance_117 ?_
      refine x_ldc2 C0 wl_X11_341 dX11_chance_119 ?_
      refine x_lmul C0 dX11_chance_122 ?_
      refine x_lload C0 rfl dX11_chance_123 ?_
      refine x_ldiv C0 hn0 dX11_chance_125 ?_
      refine x_l2i C0 dX11_chance_126 ?_
      refine x_topi hfin ?_
      refine x_goto (tgt := 131) C0 (by decide) dX11_chance_127 ?_
      refine x_iret C0 E (by decide) (by decide) dX11_chance_131 ?_
      exact hp I1 s1
    | succ n ih =>
      intro s I1 v10 hn9 s1
      have CC := C.fq s1
      have ih := fun I2 v => ih (s + 1) I2 v (by omega)
      have e1 : tot (chF o op (fun _ => 1) 8) (s + 1) = tot (chF o op (fun _ => 1) 8) s + chF o op (fun _ => 1) 8 s := rfl
      have e2 : tot (chF o op (fun z => (chH fl (sDq fl lw) x V N a t) (ct ||| z)) 8) (s + 1) = tot (chF o op (fun z => (chH fl (sDq fl lw) x V N a t) (ct ||| z)) 8) s + chF o op (fun z => (chH fl (sDq fl lw) x V N a t) (ct ||| z)) 8 s := rfl
      refine x_iload C0 rfl dX11_chance_39 ?_
      refine x_sipush (v := nI 256) C0 rfl dX11_chance_41 ?_
      refine x_icmp_ge (tgt := 110) C0 (by decide) dX11_chance_44 (fun hkk => absurd hkk ((nI_ge (b := 256) (by omega) (by omega)))) (fun _ => ?_)
      refine x_iload C0 rfl dX11_chance_47 ?_
      refine x_iload C0 rfl dX11_chance_49 ?_
      refine x_iconst (v := -1) C0 rfl dX11_chance_51 ?_
      refine x_ixor C0 dX11_chance_52 ?_
      refine x_iand C0 dX11_chance_53 ?_
      refine x_if_ne (tgt := 104) C0 (by decide) dX11_chance_54 (fun g54 => ?_) (fun g54 => ?_)
      · refine x_iinc (v := nI (s + 1)) (L' := [_, _, _, _, _, _, _, _, _, _, _, _]) C0 hN rfl (by decide) (nI_inc s) rfl dX11_chance_104 ?_
        refine x_goto (tgt := 39) C0 (by decide) dX11_chance_107 ?_
        have hsb : ¬ sb s op := fun z => g54 ((sb_code (by omega) (by omega)).mpr z)
        have := ih I1 v10 s1
        rw [e1, e2] at this
        unfold chF at this
        rw [if_neg hsb, if_neg hsb] at this
        exact this
      · have hs2 : s < 2 ^ N := Nat.lt_of_le_of_lt (sub_le (by omega) (by omega) g54) hop
        refine x_iload C0 rfl dX11_chance_57 ?_
        refine x_iload C0 rfl dX11_chance_59 ?_
        refine x_iload_n C0 rfl dX11_chance_61 ?_
        refine x_callS [_, _, _] C0 (xRf_of hR (by decide) (Nat.zero_le _) (Nat.zero_le _)) ms_X11_weight wm_X11_337 dX11_chance_62 rfl rfl (Nat.le_of_ble_eq_true rfl) (c_X11_weight (by omega) (by omega) (by omega) ?_)
        refine x_lstore (L' := [_, _, _, _, _, _, _, _, _, _, _, _]) C0 hN (by decide) rfl dX11_chance_65 ?_
        refine x_aload_n C0 rfl dX11_chance_67 ?_
        refine x_iload C0 rfl dX11_chance_68 ?_
        refine x_callV [_] C0 hN rfl (xRf_of hR (by decide) (Nat.zero_le _) (Nat.zero_le _)) mv_X11_finishCut wm_X11_272 dX11_chance_70 (fixd.k0 hS) rfl rfl (Nat.le_of_ble_eq_true rfl) (c_X11_finishCut hS hf CC hs2 (fun I2 s2 _ r2 => ?_))
        refine x_lload C0 rfl dX11_chance_73 ?_
        refine x_lload C0 rfl dX11_chance_75 ?_
        refine x_ladd C0 dX11_chance_77 ?_
        refine x_lstore (L' := [_, _, _, _, _, _, _, _, _, _, _, _]) C0 hN (by decide) rfl dX11_chance_78 ?_
        refine x_lload C0 rfl dX11_chance_80 ?_
        refine x_aload_n C0 rfl dX11_chance_82 ?_
        refine x_getR C0 wf_X11_50 (fixd.k0 hS) rfl rfl (fixd.trial hS) dX11_chance_83 ?_
        refine x_iload_n C0 rfl dX11_chance_86 ?_
        refine x_iload_n C0 rfl dX11_chance_87 ?_
        refine x_callV [_, _] C0 hN rfl (xRf_of hR (by decide) (Nat.zero_le _) (Nat.zero_le _)) mv_X3_thought wm_X11_172 dX11_chance_88 (by assumption) rfl rfl (Nat.le_of_ble_eq_true rfl) (c_X3_thought hT (by omega) (by omega) ?_)
        refine x_topi (th_at r2 (by omega) (by omega)) ?_
        refine x_iconst (v := 1) C0 rfl dX11_chance_91 ?_
        refine x_icmp_ne (tgt := 100) C0 (by decide) dX11_chance_92 (fun g92 => ?_) (fun g92 => ?_)
        · refine x_lconst (v := 0) C0 rfl dX11_chance_100 ?_
          refine x_ladd C0 dX11_chance_101 ?_
          refine x_lstore (L' := [_, _, _, _, _, _, _, _, _, _, _, _]) C0 hN (by decide) rfl dX11_chance_102 ?_
          refine x_iinc (v := nI (s + 1)) (L' := [_, _, _, _, _, _, _, _, _, _, _, _]) C0 hN rfl (by decide) (nI_inc s) rfl dX11_chance_104 ?_
          refine x_goto (tgt := 39) C0 (by decide) dX11_chance_107 ?_
          have hsb := (sb_code (by omega) (by omega)).mp g54
          have f1 : chF o op (fun _ => 1) 8 s = chW o op s 8 := by unfold chF; rw [if_pos hsb, Nat.mul_one]
          have f2 : chF o op (fun z => (chH fl (sDq fl lw) x V N a t) (ct ||| z)) 8 s = 0 := by unfold chF; rw [if_pos hsb]; dsimp only; rw [chH_cut ec (by omega) (by omega), if_neg g92, Nat.mul_zero]
          have := fun v => ih I2 v (s1.trans s2)
          rw [e1, e2, f1, f2, ← l_add, ← l_add] at this
          exact this _
        · refine x_lload C0 rfl dX11_chance_95 ?_
          refine x_goto (tgt := 101) C0 (by decide) dX11_chance_97 ?_
          refine x_ladd C0 dX11_chance_101 ?_
          refine x_lstore (L' := [_, _, _, _, _, _, _, _, _, _, _, _]) C0 hN (by decide) rfl dX11_chance_102 ?_
          refine x_iinc (v := nI (s + 1)) (L' := [_, _, _, _, _, _, _, _, _, _, _, _]) C0 hN rfl (by decide) (nI_inc s) rfl dX11_chance_104 ?_
          refine x_goto (tgt := 39) C0 (by decide) dX11_chance_107 ?_
          have hsb := (sb_code (by omega) (by omega)).mp g54
          have f1 : chF o op (fun _ => 1) 8 s = chW o op s 8 := by unfold chF; rw [if_pos hsb, Nat.mul_one]
          have f2 : chF o op (fun z => (chH fl (sDq fl lw) x V N a t) (ct ||| z)) 8 s = chW o op s 8 := by unfold chF; rw [if_pos hsb]; dsimp only; rw [chH_cut ec (by omega) (by omega), if_pos g92, Nat.mul_one]
          have := fun v => ih I2 v (s1.trans s2)
          rw [e1, e2, f1, f2, ← l_add, ← l_add] at this
          exact this _
  have h24 : ∀ a t o, a < V → t < T → o ≤ 10 → (∀ I', FQ I I' → post (some (.int (nI (chD o may (chH fl (sDq fl lw) x V N a t) N ct * 1000000 / 10 ^ chC may N)))) S R I' J) → XX G 0 0 24 [some (.ref 0), some (.int (nI a)), some (.int (nI t)), some (.int (nI o)), none, none, none, none, none, none, none, none] [] S R I J := by
    intro a t o ha ht ho hp
    refine x_aload_n C0 rfl dX11_chance_24 ?_
    refine x_callV [] C0 hN rfl (xRf_of hR (by decide) (Nat.zero_le _) (Nat.zero_le _)) mv_X11_notShown wm_X11_245 dX11_chance_25 (fixd.k0 hS) rfl rfl (Nat.le_of_ble_eq_true rfl) (c_X11_notShown hS hf C ?_)
    refine x_topi eo ?_
    refine x_istore (L' := [_, _, _, _, _, _, _, _, _, _, _, _]) C0 hN (by decide) rfl dX11_chance_28 ?_
    refine x_lconst (v := 0) C0 rfl dX11_chance_30 ?_
    refine x_lstore (L' := [_, _, _, _, _, _, _, _, _, _, _, _]) C0 hN (by decide) rfl dX11_chance_31 ?_
    refine x_lconst (v := 0) C0 rfl dX11_chance_33 ?_
    refine x_lstore (L' := [_, _, _, _, _, _, _, _, _, _, _, _]) C0 hN (by decide) rfl dX11_chance_34 ?_
    refine x_iconst (v := nI 0) C0 rfl dX11_chance_36 ?_
    refine x_istore (L' := [_, _, _, _, _, _, _, _, _, _, _, _]) C0 hN (by decide) rfl dX11_chance_37 ?_
    exact h39 a t o ha ht ho hp 256 0 I none (by omega) FQ.rf
  refine x_aload_n C0 rfl dX11_chance_0 ?_
  refine x_getR C0 wf_X11_26 (fixd.k0 hS) rfl rfl hf dX11_chance_1 ?_
  refine x_iload_n C0 rfl dX11_chance_4 ?_
  refine x_iload_n C0 rfl dX11_chance_5 ?_
  refine x_callV [_, _] C0 hN rfl (xRf_of hR (by decide) (Nat.zero_le _) (Nat.zero_le _)) mv_X2_hasView wm_X11_168 dX11_chance_6 (by assumption) rfl rfl (Nat.le_of_ble_eq_true rfl) (c_X2_hasView (by assumption) (fun g6 => ?_) (fun g6 => ?_))
  · refine x_if_eq (tgt := 22) C0 (by decide) dX11_chance_9 (fun hkk => absurd hkk (by decide)) (fun _ => ?_)
    refine x_iload_n C0 rfl dX11_chance_12 ?_
    refine x_if_lt (tgt := 22) C0 (by decide) dX11_chance_13 (fun g13 => ?_) (fun g13 => ?_)
    · refine x_iconst (v := -1) C0 rfl dX11_chance_22 ?_
      refine x_iret C0 E (by decide) (by decide) dX11_chance_23 ?_
      rw [if_neg (fun q => absurd g13 (i_nlt.mpr q.2.2.1))] at hp
      exact hp I FQ.rf
    · refine x_iload_n C0 rfl dX11_chance_16 ?_
      refine x_bipush (v := 10) C0 rfl dX11_chance_17 ?_
      refine x_icmp_le (tgt := 24) C0 (by decide) dX11_chance_19 (fun g19 => ?_) (fun g19 => ?_)
      · obtain ⟨a, ha, ea⟩ := nI_ofi' eV (by omega) g6.1
        obtain ⟨t, ht, et⟩ := nI_ofi' eT (by omega) g6.2
        obtain ⟨o, ho, eoo⟩ := nI_ofi (n := 11) (by decide) (i_nlt.mp g13) (i_c10 g19)
        rw [if_pos ⟨g6.1, g6.2, i_nlt.mp g13, g19⟩] at hp
        subst ea
        subst et
        subst eoo
        rw [nI_clamp (by omega), nI_clamp (by omega), nI_clamp (by omega), em, ec, nI_clamp (by omega), nI_clamp (by omega)] at hp
        exact h24 a t o ha ht (by omega) hp
      · refine x_iconst (v := -1) C0 rfl dX11_chance_22 ?_
        refine x_iret C0 E (by decide) (by decide) dX11_chance_23 ?_
        rw [if_neg (fun q => g19 q.2.2.2)] at hp
        exact hp I FQ.rf
  · refine x_if_eq (tgt := 22) C0 (by decide) dX11_chance_9 (fun _ => ?_) (fun hkk => absurd (by decide) hkk)
    refine x_iconst (v := -1) C0 rfl dX11_chance_22 ?_
    refine x_iret C0 E (by decide) (by decide) dX11_chance_23 ?_
    rw [if_neg (fun q => g6 ⟨q.1, q.2.1⟩)] at hp
    exact hp I FQ.rf
