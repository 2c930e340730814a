/-! THE QUESTION chance: the reference -/
theorem chW_le {o op s : Nat} (ho : o ≤ 10) : ∀ n, chW o op s n ≤ 10 ^ n
  | 0 => Nat.le_refl 1
  | n + 1 => by
    unfold chW
    rw [Nat.pow_succ]
    refine Nat.mul_le_mul (chW_le ho n) ?_
    split
    · split <;> omega
    · omega
theorem c_X12_chance {S : xTS} {R : xTR} {I : xTI} {J : xTJ} {post : xPost} {T N V : Nat} {fl x : xRow} {lw : Option (List (Nat × Nat))} (hM : isModel S R) (C : MCore I fl lw T N V x) {i j c : Int32} (hp : ∀ I', MQs I I' → post (some (.int (aChance fl (sDq fl lw) x V N i j c))) S R I' J) : xSpec 8 yX12_chance cX12_chance 13 (some .int) 0 0 [.ref 135, .int i, .int j, .int c] S R I J post := by
  refine xSpec_of mt_X12_chance (Nat.le_of_ble_eq_true rfl) (fun G C0 hN hR E hI hZ => ?_)
  change XX G 0 0 0 [some (.ref 135), some (.int i), some (.int j), some (.int c), none, none, none, none, none, none, none, none, none] [] S R I J
  refine x_aload_n C0 rfl dX12_chance_0 ?_
  refine x_iconst (v := nI 0) C0 rfl dX12_chance_1 ?_
  refine x_putI C0 wf_X12_1 (isModel.k0 hM) rfl dX12_chance_2 ?_
  have q1 := MQs.thrown (I := I) (v := nI 0)
  have C := C.mq q1
  generalize u2 I 135 0 (nI 0) = I1 at q1 C ⊢
  obtain ⟨wl, mF, mL, mH, wx⟩ := id C
  have hT6 := wl.2.1
  have hN8 := wl.2.2.2.1
  have hV6 := wl.2.2.2.2.2.1
  have eT : I1 141 0 = nI T := (mF 0 (by decide)).trans wl.1
  have eN : I1 141 1 = nI N := (mF 1 (by decide)).trans wl.2.2.1
  have eV : I1 141 2 = nI V := (mF 2 (by decide)).trans wl.2.2.2.2.1
  have hb0 : 0 ≤ 2192 := by decide
  unfold aChance at hp
  rw [← mF 2 (by decide), ← mF 0 (by decide)] at hp
  have h256 := shl_le hN8
  obtain ⟨ct, hct, ec⟩ := wx.2.2.1
  obtain ⟨may, hmay, em⟩ := cuttable_nI wx hN8
  have eC8 : chC may 8 = chC may N := by
    have := chC_ext hmay (8 - N)
    rw [show N + (8 - N) = 8 by omega] at this
    exact this
  have hcN := chC_le may N
  have h83 : ∀ a t o, a < V → t < T → o ≤ 10 → (∀ I', MQs I I' → post (some (.int (nI (chD o may (chH fl (sDq fl lw) x V N a t) N ct * 1000000 / 10 ^ chC may N)))) S R I' J) → ∀ n s I2 v10 v11 v12, s + n = 2 ^ N → MQs I1 I2 → XX G 0 0 83 [some (.ref 135), some (.int (nI a)), some (.int (nI t)), some (.int (nI o)), some (.int (nI may)), some (.long (Int64.ofNat (10 ^ chC may N))), none, some (.long (Int64.ofNat (tot (chF o may (fun z => (chH fl (sDq fl lw) x V N a t) (ct ||| z)) N) s))), none, some (.int (nI s)), v10, v11, v12] [] S R I2 J := by
    intro a t o ha ht ho hp n
    induction n with
    | zero =>
      intro s I2 v10 v11 v12 hn9 s1
      have hn8 : s = 2 ^ N := by omega
      have eN2 : I2 141 1 = nI N := by rw [(C.mq s1).2.1 1 (by decide), wl.2.2.1]
      have eB : tot (chF o may (fun z => (chH fl (sDq fl lw) x V N a t) (ct ||| z)) N) (2 ^ N) = chD o may (chH fl (sDq fl lw) x V N a t) N ct := chD_tot o may (chH fl (sDq fl lw) x V N a t) N ct
      have hle := ch_le (op := may) (h := (chH fl (sDq fl lw) x V N a t)) ho (fun _ => chH_le _) N ct
      have hp10 : 10 ^ chC may N ≤ 10 ^ 8 := Nat.pow_le_pow_right (by decide) (by omega)
      have hp0 : 0 < 10 ^ chC may N := Nat.pow_pos (by decide)
      have hfin : (Int64.ofNat (tot (chF o may (fun z => (chH fl (sDq fl lw) x V N a t) (ct ||| z)) N) (2 ^ N)) * 1000000 / Int64.ofNat (10 ^ chC may N)).toInt32 = nI (chD o may (chH fl (sDq fl lw) x V N a t) N ct * 1000000 / 10 ^ chC may N) := by
        rw [eB, show (1000000 : Int64) = Int64.ofNat 1000000 from rfl, l_mul, l_div (by omega) (by omega), l_int]
      have hn0 : ¬ Int64.ofNat (10 ^ chC may N) = 0 := fun z => by
        have := congrArg Int64.toInt z
        rw [l_toInt (by omega)] at this
        have e : (0 : Int64).toInt = 0 := rfl
        omega
      subst hn8
      refine x_iload C0 rfl dX12_chance_83 ?_
      refine x_iconst (v := 1) C0 rfl dX12_chance_85 ?_
      refine x_aload_n C0 rfl dX12_chance_86 ?_
      refine x_callV [] C0 hN rfl (xRf_of hR (by decide) (Nat.zero_le _) (Nat.zero_le _)) mv_X12_scenes wm_X12_285 dX12_chance_87 (isModel.k0 hM) rfl rfl (Nat.le_of_ble_eq_true rfl) (c_X12_scenes hM ?_)
      refine x_topi eN2 ?_
      refine x_ishl C0 dX12_chance_90 ?_
      refine x_topi (pow_shl N hN8) ?_
      refine x_icmp_ge (tgt := 208) C0 (by decide) dX12_chance_91 (fun _ => ?_) (fun hkk => absurd ((Int32.le_refl _)) hkk)
      refine x_lload C0 rfl dX12_chance_208 ?_
      refine x_ldc2 C0 wl_X12_396 dX12_chance_210 ?_
      refine x_lmul C0 dX12_chance_213 ?_
      refine x_lload C0 rfl dX12_chance_214 ?_
      refine x_ldiv C0 hn0 dX12_chance_216 ?_
      refine x_l2i C0 dX12_chance_217 ?_
      refine x_topi hfin ?_
      refine x_iret C0 E (by decide) (by decide) dX12_chance_218 ?_
      exact hp I2 (q1.trans s1)
    | succ n ih =>
      intro s I2 v10 v11 v12 hn9 s1
      have CC := C.mq s1
      have eN2 : I2 141 1 = nI N := by rw [CC.2.1 1 (by decide), wl.2.2.1]
      have ih := fun I2 v w z => ih (s + 1) I2 v w z (by omega)
      have e2 : tot (chF o may (fun z => (chH fl (sDq fl lw) x V N a t) (ct ||| z)) N) (s + 1) = tot (chF o may (fun z => (chH fl (sDq fl lw) x V N a t) (ct ||| z)) N) s + chF o may (fun z => (chH fl (sDq fl lw) x V N a t) (ct ||| z)) N s := rfl
      have h110 : nI s &&& (nI may ^^^ (-1)) = 0 → ∀ p k, k + p = N → XX G 0 0 110 [some (.ref 135), some (.int (nI a)), some (.int (nI t)), some (.int (nI o)), some (.int (nI may)), some (.long (Int64.ofNat (10 ^ chC may N))), none, some (.long (Int64.ofNat (tot (chF o may (fun z => (chH fl (sDq fl lw) x V N a t) (ct ||| z)) N) s))), none, some (.int (nI s)), some (.long (Int64.ofNat (chW o may s k))), none, some (.int (nI k))] [] S R I2 J := by
        intro g101 p
        have hsb := (sb_code (by omega) (by omega)).mp g101
        induction p with
        | zero =>
          intro k hk9
          have hk8 : k = N := by omega
          have hle : chW o may s N ≤ 10 ^ 8 := Nat.le_trans (chW_le ho N) (Nat.pow_le_pow_right (by decide) hN8)
          subst hk8
          refine x_iload C0 rfl dX12_chance_110 ?_
          refine x_aload_n C0 rfl dX12_chance_112 ?_
          refine x_callV [] C0 hN rfl (xRf_of hR (by decide) (Nat.zero_le _) (Nat.zero_le _)) mv_X12_scenes wm_X12_285 dX12_chance_113 (isModel.k0 hM) rfl rfl (Nat.le_of_ble_eq_true rfl) (c_X12_scenes hM ?_)
          refine x_topi eN2 ?_
          refine x_icmp_ge (tgt := 165) C0 (by decide) dX12_chance_116 (fun _ => ?_) (fun hkk => absurd ((Int32.le_refl _)) hkk)
          refine x_lload C0 rfl dX12_chance_165 ?_
          refine x_lconst (v := 0) C0 rfl dX12_chance_167 ?_
          refine x_lcmp C0 dX12_chance_168 ?_
          refine x_if_le (tgt := 202) C0 (by decide) dX12_chance_169 (fun g169 => ?_) (fun g169 => ?_)
          · refine x_iinc (v := nI (s + 1)) (L' := [_, _, _, _, _, _, _, _, _, _, _, _, _]) C0 hN rfl (by decide) (nI_inc s) rfl dX12_chance_202 ?_
            refine x_goto (tgt := 83) C0 (by decide) dX12_chance_205 ?_
            have hz : chW o may s k = 0 := by
              rw [lg_cmp_le, Int64.le_iff_toInt_le, l_toInt (by omega)] at g169
              have e : (0 : Int64).toInt = 0 := rfl
              omega
            have f2 : chF o may (fun z => (chH fl (sDq fl lw) x V k a t) (ct ||| z)) k s = 0 := by unfold chF; rw [if_pos hsb]; dsimp only; rw [hz, Nat.zero_mul]
            have := fun u v z => ih I2 u v z s1
            rw [e2, f2, Nat.add_zero] at this
            exact this _ _ _
          · refine x_aload_n C0 rfl dX12_chance_172 ?_
            refine x_iload C0 rfl dX12_chance_173 ?_
            refine x_callV [_] C0 hN rfl (xRf_of hR (by decide) (Nat.zero_le _) (Nat.zero_le _)) mv_X12_endsCut wm_X12_378 dX12_chance_175 (isModel.k0 hM) rfl rfl (Nat.le_of_ble_eq_true rfl) (c_X12_endsCut hM CC (by omega) (fun I3 s3 _ r3 => ?_))
            refine x_lload C0 rfl dX12_chance_178 ?_
            refine x_aload_n C0 rfl dX12_chance_180 ?_
            refine x_sipush (v := nI 2058) C0 rfl dX12_chance_181 ?_
            refine x_iload_n C0 rfl dX12_chance_184 ?_
            refine x_iload_n C0 rfl dX12_chance_185 ?_
            refine x_callV [_, _, _] C0 hN rfl (xRf_of hR (by decide) (Nat.zero_le _) (Nat.zero_le _)) mv_X12_thoughtOf wm_X12_325 dX12_chance_186 (isModel.k0 hM) rfl rfl (Nat.le_of_ble_eq_true rfl) (c_X12_thoughtOf hM (by decide) (by omega) (by omega) ?_)
            refine x_topi (mth_at r3 (by omega) (by omega)) ?_
            refine x_iconst (v := 1) C0 rfl dX12_chance_189 ?_
            refine x_icmp_ne (tgt := 198) C0 (by decide) dX12_chance_190 (fun g190 => ?_) (fun g190 => ?_)
            · refine x_lconst (v := 0) C0 rfl dX12_chance_198 ?_
              refine x_ladd C0 dX12_chance_199 ?_
              refine x_lstore (L' := [_, _, _, _, _, _, _, _, _, _, _, _, _]) C0 hN (by decide) rfl dX12_chance_200 ?_
              refine x_iinc (v := nI (s + 1)) (L' := [_, _, _, _, _, _, _, _, _, _, _, _, _]) C0 hN rfl (by decide) (nI_inc s) rfl dX12_chance_202 ?_
              refine x_goto (tgt := 83) C0 (by decide) dX12_chance_205 ?_
              have f2 : chF o may (fun z => (chH fl (sDq fl lw) x V k a t) (ct ||| z)) k s = 0 := by unfold chF; rw [if_pos hsb]; dsimp only; rw [chH_cut ec (by omega) (by omega), if_neg g190, Nat.mul_zero]
              have := fun u v z => ih I3 u v z (s1.trans s3)
              rw [e2, f2, ← l_add] at this
              exact this _ _ _
            · refine x_lload C0 rfl dX12_chance_193 ?_
              refine x_goto (tgt := 199) C0 (by decide) dX12_chance_195 ?_
              refine x_ladd C0 dX12_chance_199 ?_
              refine x_lstore (L' := [_, _, _, _, _, _, _, _, _, _, _, _, _]) C0 hN (by decide) rfl dX12_chance_200 ?_
              refine x_iinc (v := nI (s + 1)) (L' := [_, _, _, _, _, _, _, _, _, _, _, _, _]) C0 hN rfl (by decide) (nI_inc s) rfl dX12_chance_202 ?_
              refine x_goto (tgt := 83) C0 (by decide) dX12_chance_205 ?_
              have f2 : chF o may (fun z => (chH fl (sDq fl lw) x V k a t) (ct ||| z)) k s = chW o may s k := by unfold chF; rw [if_pos hsb]; dsimp only; rw [chH_cut ec (by omega) (by omega), if_pos g190, Nat.mul_one]
              have := fun u v z => ih I3 u v z (s1.trans s3)
              rw [e2, f2, ← l_add] at this
              exact this _ _ _
        | succ p ihp =>
          intro k hk9
          have ihp := ihp (k + 1) (by omega)
          refine x_iload C0 rfl dX12_chance_110 ?_
          refine x_aload_n C0 rfl dX12_chance_112 ?_
          refine x_callV [] C0 hN rfl (xRf_of hR (by decide) (Nat.zero_le _) (Nat.zero_le _)) mv_X12_scenes wm_X12_285 dX12_chance_113 (isModel.k0 hM) rfl rfl (Nat.le_of_ble_eq_true rfl) (c_X12_scenes hM ?_)
          refine x_topi eN2 ?_
          refine x_icmp_ge (tgt := 165) C0 (by decide) dX12_chance_116 (fun hkk => absurd hkk (nI_ge (by omega) (by omega))) (fun _ => ?_)
          refine x_lload C0 rfl dX12_chance_119 ?_
          refine x_iload C0 rfl dX12_chance_121 ?_
          refine x_iload C0 rfl dX12_chance_123 ?_
          refine x_ishr C0 dX12_chance_125 ?_
          refine x_iconst (v := 1) C0 rfl dX12_chance_126 ?_
          refine x_iand C0 dX12_chance_127 ?_
          refine x_if_ne (tgt := 135) C0 (by decide) dX12_chance_128 (fun g128 => ?_) (fun g128 => ?_)
          · refine x_iload C0 rfl dX12_chance_135 ?_
            refine x_iload C0 rfl dX12_chance_137 ?_
            refine x_ishr C0 dX12_chance_139 ?_
            refine x_iconst (v := 1) C0 rfl dX12_chance_140 ?_
            refine x_iand C0 dX12_chance_141 ?_
            refine x_iconst (v := 1) C0 rfl dX12_chance_142 ?_
            refine x_icmp_ne (tgt := 151) C0 (by decide) dX12_chance_143 (fun g143 => ?_) (fun g143 => ?_)
            · refine x_bipush (v := nI 10) C0 rfl dX12_chance_151 ?_
              refine x_iload_n C0 rfl dX12_chance_153 ?_
              refine x_isub C0 dX12_chance_154 ?_
              refine x_i2l C0 dX12_chance_155 ?_
              refine x_lmul C0 dX12_chance_156 ?_
              refine x_lstore (L' := [_, _, _, _, _, _, _, _, _, _, _, _, _]) C0 hN (by decide) rfl dX12_chance_157 ?_
              refine x_iinc (v := nI (k + 1)) (L' := [_, _, _, _, _, _, _, _, _, _, _, _, _]) C0 hN rfl (by decide) (nI_inc k) rfl dX12_chance_159 ?_
              refine x_goto (tgt := 110) C0 (by decide) dX12_chance_162 ?_
              have hb : may.testBit k = true := by
                cases z : may.testBit k
                · exact absurd ((xb_0 may (by omega) k (by omega)).mpr z) g128
                · rfl
              have hb2 : s.testBit k = false := by
                cases z : s.testBit k
                · rfl
                · exact absurd ((xb_1 s (by omega) k (by omega)).mpr z) g143
              rw [chW_let hb hb2] at ihp
              rw [nI_subn ho, i_long (by omega), l_mul]
              exact ihp
            · refine x_iload_n C0 rfl dX12_chance_146 ?_
              refine x_i2l C0 dX12_chance_147 ?_
              refine x_goto (tgt := 156) C0 (by decide) dX12_chance_148 ?_
              refine x_lmul C0 dX12_chance_156 ?_
              refine x_lstore (L' := [_, _, _, _, _, _, _, _, _, _, _, _, _]) C0 hN (by decide) rfl dX12_chance_157 ?_
              refine x_iinc (v := nI (k + 1)) (L' := [_, _, _, _, _, _, _, _, _, _, _, _, _]) C0 hN rfl (by decide) (nI_inc k) rfl dX12_chance_159 ?_
              refine x_goto (tgt := 110) C0 (by decide) dX12_chance_162 ?_
              have hb : may.testBit k = true := by
                cases z : may.testBit k
                · exact absurd ((xb_0 may (by omega) k (by omega)).mpr z) g128
                · rfl
              have hb2 := (xb_1 s (by omega) k (by omega)).mp g143
              rw [chW_set hb hb2] at ihp
              rw [i_long (by omega), l_mul]
              exact ihp
          · refine x_lconst (v := 1) C0 rfl dX12_chance_131 ?_
            refine x_goto (tgt := 156) C0 (by decide) dX12_chance_132 ?_
            refine x_lmul C0 dX12_chance_156 ?_
            refine x_lstore (L' := [_, _, _, _, _, _, _, _, _, _, _, _, _]) C0 hN (by decide) rfl dX12_chance_157 ?_
            refine x_iinc (v := nI (k + 1)) (L' := [_, _, _, _, _, _, _, _, _, _, _, _, _]) C0 hN rfl (by decide) (nI_inc k) rfl dX12_chance_159 ?_
            refine x_goto (tgt := 110) C0 (by decide) dX12_chance_162 ?_
            have hb := (xb_0 may (by omega) k (by omega)).mp g128
            rw [chW_no hb] at ihp
            rw [Int64.mul_one]
            exact ihp
      refine x_iload C0 rfl dX12_chance_83 ?_
      refine x_iconst (v := 1) C0 rfl dX12_chance_85 ?_
      refine x_aload_n C0 rfl dX12_chance_86 ?_
      refine x_callV [] C0 hN rfl (xRf_of hR (by decide) (Nat.zero_le _) (Nat.zero_le _)) mv_X12_scenes wm_X12_285 dX12_chance_87 (isModel.k0 hM) rfl rfl (Nat.le_of_ble_eq_true rfl) (c_X12_scenes hM ?_)
      refine x_topi eN2 ?_
      refine x_ishl C0 dX12_chance_90 ?_
      refine x_topi (pow_shl N hN8) ?_
      refine x_icmp_ge (tgt := 208) C0 (by decide) dX12_chance_91 (fun hkk => absurd hkk (nI_ge (by omega) (by omega))) (fun _ => ?_)
      refine x_iload C0 rfl dX12_chance_94 ?_
      refine x_iload C0 rfl dX12_chance_96 ?_
      refine x_iconst (v := -1) C0 rfl dX12_chance_98 ?_
      refine x_ixor C0 dX12_chance_99 ?_
      refine x_iand C0 dX12_chance_100 ?_
      refine x_if_ne (tgt := 202) C0 (by decide) dX12_chance_101 (fun g101 => ?_) (fun g101 => ?_)
      · refine x_iinc (v := nI (s + 1)) (L' := [_, _, _, _, _, _, _, _, _, _, _, _, _]) C0 hN rfl (by decide) (nI_inc s) rfl dX12_chance_202 ?_
        refine x_goto (tgt := 83) C0 (by decide) dX12_chance_205 ?_
        have hsb : ¬ sb s may := fun z => g101 ((sb_code (by omega) (by omega)).mpr z)
        have := ih I2 v10 v11 v12 s1
        rw [e2] at this
        unfold chF at this
        rw [if_neg hsb] at this
        exact this
      · refine x_lconst (v := 1) C0 rfl dX12_chance_104 ?_
        refine x_lstore (L' := [_, _, _, _, _, _, _, _, _, _, _, _, _]) C0 hN (by decide) rfl dX12_chance_105 ?_
        refine x_iconst (v := nI 0) C0 rfl dX12_chance_107 ?_
        refine x_istore (L' := [_, _, _, _, _, _, _, _, _, _, _, _, _]) C0 hN (by decide) rfl dX12_chance_108 ?_
        exact h110 g101 N 0 (by omega)
  have h61 : ∀ a t o, a < V → t < T → o ≤ 10 → (∀ I', MQs I I' → post (some (.int (nI (chD o may (chH fl (sDq fl lw) x V N a t) N ct * 1000000 / 10 ^ chC may N)))) S R I' J) → ∀ k j, j + k = chC may N → XX G 0 0 61 [some (.ref 135), some (.int (nI a)), some (.int (nI t)), some (.int (nI o)), some (.int (nI may)), some (.long (Int64.ofNat (10 ^ j))), none, some (.long (Int64.ofNat 0)), none, some (.int (nI k)), none, none, none] [] S R I1 J := by
    intro a t o ha ht ho hp k
    induction k with
    | zero =>
      intro j hj
      have hj8 : j = chC may N := by omega
      subst hj8
      refine x_iload C0 rfl dX12_chance_61 ?_
      refine x_if_le (tgt := 80) C0 (by decide) dX12_chance_63 (fun _ => ?_) (fun hkk => absurd ((Int32.le_refl _)) hkk)
      refine x_iconst (v := nI 0) C0 rfl dX12_chance_80 ?_
      refine x_istore (L' := [_, _, _, _, _, _, _, _, _, _, _, _, _]) C0 hN (by decide) rfl dX12_chance_81 ?_
      exact h83 a t o ha ht ho hp (2 ^ N) 0 I1 none none none (by omega) MQs.rf
    | succ k ih =>
      intro j hj
      have ih := ih (j + 1) (by omega)
      refine x_iload C0 rfl dX12_chance_61 ?_
      refine x_if_le (tgt := 80) C0 (by decide) dX12_chance_63 (fun hkk => absurd hkk ((fun z => absurd ((nI_le_iff (b := 0) (by omega) (by omega)).mp z) (by omega)))) (fun _ => ?_)
      refine x_lload C0 rfl dX12_chance_66 ?_
      refine x_ldc2 C0 wl_X12_155 dX12_chance_68 ?_
      refine x_lmul C0 dX12_chance_71 ?_
      refine x_topl (show Int64.ofNat (10 ^ j) * 10 = Int64.ofNat (10 ^ (j + 1)) by rw [show (10 : Int64) = Int64.ofNat 10 from rfl, l_mul, Nat.pow_succ]) ?_
      refine x_lstore (L' := [_, _, _, _, _, _, _, _, _, _, _, _, _]) C0 hN (by decide) rfl dX12_chance_72 ?_
      refine x_iinc (v := nI k) (L' := [_, _, _, _, _, _, _, _, _, _, _, _, _]) C0 hN rfl (by decide) (nI_decr k) rfl dX12_chance_74 ?_
      refine x_goto (tgt := 61) C0 (by decide) dX12_chance_77 ?_
      exact ih
  refine x_aload_n C0 rfl dX12_chance_5 ?_
  refine x_iload_n C0 rfl dX12_chance_6 ?_
  refine x_callV [_] C0 hN rfl (xRf_of hR (by decide) (Nat.zero_le _) (Nat.zero_le _)) mv_X12_isWatcher wm_X12_344 dX12_chance_7 (isModel.k0 hM) rfl rfl (Nat.le_of_ble_eq_true rfl) (c_X12_isWatcher hM (fun g7 => ?_) (fun g7 => ?_))
  · refine x_if_eq (tgt := 31) C0 (by decide) dX12_chance_10 (fun hkk => absurd hkk (by decide)) (fun _ => ?_)
    refine x_aload_n C0 rfl dX12_chance_13 ?_
    refine x_iload_n C0 rfl dX12_chance_14 ?_
    refine x_callV [_] C0 hN rfl (xRf_of hR (by decide) (Nat.zero_le _) (Nat.zero_le _)) mv_X12_isThing wm_X12_347 dX12_chance_15 (isModel.k0 hM) rfl rfl (Nat.le_of_ble_eq_true rfl) (c_X12_isThing hM (fun g15 => ?_) (fun g15 => ?_))
    · refine x_if_eq (tgt := 31) C0 (by decide) dX12_chance_18 (fun hkk => absurd hkk (by decide)) (fun _ => ?_)
      refine x_iload_n C0 rfl dX12_chance_21 ?_
      refine x_iconst (v := nI 0) C0 rfl dX12_chance_22 ?_
      refine x_bipush (v := nI 10) C0 rfl dX12_chance_23 ?_
      refine x_callS [_, _, _] C0 (xRf_of hR (by decide) (Nat.zero_le _) (Nat.zero_le _)) ms_X12_within wm_X12_207 dX12_chance_25 rfl rfl (Nat.le_of_ble_eq_true rfl) (c_X12_within  (fun g25 => ?_) (fun g25 => ?_))
      · refine x_if_ne (tgt := 33) C0 (by decide) dX12_chance_28 (fun _ => ?_) (fun hkk => absurd hkk (by decide))
        obtain ⟨a, ha, ea⟩ := nI_ofi' eV (by omega) g7
        obtain ⟨t, ht, et⟩ := nI_ofi' eT (by omega) g15
        obtain ⟨o, ho, eoo⟩ := nI_ofi (n := 11) (by decide) g25.1 (i_c10 g25.2)
        rw [if_pos ⟨g7, g15, g25⟩] at hp
        subst ea
        subst et
        subst eoo
        rw [nI_clamp (by omega), nI_clamp (by omega), nI_clamp (by omega), em, ec, nI_clamp (by omega), nI_clamp (by omega)] at hp
        refine x_aload_n C0 rfl dX12_chance_33 ?_
        refine x_callV [] C0 hN rfl (xRf_of hR (by decide) (Nat.zero_le _) (Nat.zero_le _)) mv_X12_toCome wm_X12_375 dX12_chance_34 (isModel.k0 hM) rfl rfl (Nat.le_of_ble_eq_true rfl) (c_X12_toCome hM C ?_)
        refine x_aload_n C0 rfl dX12_chance_37 ?_
        refine x_getR C0 wf_X12_119 (isModel.k0 hM) rfl rfl (isModel.r24 hM) dX12_chance_38 ?_
        refine x_iconst (v := nI 3) C0 rfl dX12_chance_41 ?_
        refine x_ialoadN C0 (isModel.s24 hM) (by omega) (by omega) dX12_chance_42 ?_
        refine x_topi (mH 3 (by decide)) ?_
        refine x_iconst (v := -1) C0 rfl dX12_chance_43 ?_
        refine x_ixor C0 dX12_chance_44 ?_
        refine x_iand C0 dX12_chance_45 ?_
        refine x_topi (show sToCome x N &&& (x 3 ^^^ (-1)) = nI may from em) ?_
        refine x_istore (L' := [_, _, _, _, _, _, _, _, _, _, _, _, _]) C0 hN (by decide) rfl dX12_chance_46 ?_
        refine x_lconst (v := 1) C0 rfl dX12_chance_48 ?_
        refine x_lstore (L' := [_, _, _, _, _, _, _, _, _, _, _, _, _]) C0 hN (by decide) rfl dX12_chance_49 ?_
        refine x_lconst (v := 0) C0 rfl dX12_chance_51 ?_
        refine x_lstore (L' := [_, _, _, _, _, _, _, _, _, _, _, _, _]) C0 hN (by decide) rfl dX12_chance_52 ?_
        refine x_iload C0 rfl dX12_chance_54 ?_
        refine x_callS [_] C0 (xRf_of hR (by decide) (Nat.zero_le _) (Nat.zero_le _)) ms_X12_bits wm_X12_369 dX12_chance_56 rfl rfl (Nat.le_of_ble_eq_true rfl) (c_X12_bits  ?_)
        refine x_topi ((bits_C may (by omega)).trans (by rw [eC8])) ?_
        refine x_istore (L' := [_, _, _, _, _, _, _, _, _, _, _, _, _]) C0 hN (by decide) rfl dX12_chance_59 ?_
        exact h61 a t o ha ht (by omega) hp (chC may N) 0 (by omega)
      · refine x_if_ne (tgt := 33) C0 (by decide) dX12_chance_28 (fun hkk => absurd (by decide) hkk) (fun _ => ?_)
        refine x_iconst (v := -1) C0 rfl dX12_chance_31 ?_
        refine x_iret C0 E (by decide) (by decide) dX12_chance_32 ?_
        rw [if_neg (fun q => g25 q.2.2)] at hp
        exact hp I1 q1
    · refine x_if_eq (tgt := 31) C0 (by decide) dX12_chance_18 (fun _ => ?_) (fun hkk => absurd (by decide) hkk)
      refine x_iconst (v := -1) C0 rfl dX12_chance_31 ?_
      refine x_iret C0 E (by decide) (by decide) dX12_chance_32 ?_
      rw [if_neg (fun q => g15 q.2.1)] at hp
      exact hp I1 q1
  · refine x_if_eq (tgt := 31) C0 (by decide) dX12_chance_10 (fun _ => ?_) (fun hkk => absurd (by decide) hkk)
    refine x_iconst (v := -1) C0 rfl dX12_chance_31 ?_
    refine x_iret C0 E (by decide) (by decide) dX12_chance_32 ?_
    rw [if_neg (fun q => g7 q.1)] at hp
    exact hp I1 q1
