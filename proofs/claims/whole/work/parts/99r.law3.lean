/-! THE LAW: rests, the loop -/
theorem lg_same (x : Int64) : lg_cmp x x = 0 := (lg_cmp_eq x x).mpr rfl
theorem law_34 {G : xG} {rt : Option FieldType} {cells slots L i : Nat} {xs : Nat → Int32} {x5_ x6_ : Option Value} {R : xTR} {I : xTI} {J : xTJ} {f g e h : Nat} {tp : Nat → Nat} {n : Nat} {F : pF} {lw : Option (List (Nat × Nat))} {x : xRow} {us : Nat → xRow} {u : Nat} {td : xRow} {mk : Nat → Bool} {mx mt : Nat → xRow} {ev : Nat} {ln : Nat → Nat × Nat × Nat × Nat} {q : Nat} (C0_ : XC G RL cL_law rt) (hN : xnL G 7) (hX : xScr G L xs) (hRm : xRm G cells slots) (hi : i + 7 ≤ L) (hL : L ≤ 3584) (hq : q < 1000) (H : WL R I J f g e h tp n F lw x us u td mk mx mt ev ln q) (k : xNext G cells slots i q) (hT : xFl G) : XX G cells slots 1260 [some (.ref 10300), some (.ref 0), some (.ref 135), some (.ref 155), some (.int (nI i)), x5_, x6_] [] SALL R I J := by
  have hr := H.1.1
  have hS : fixd SALL R := ⟨rfl, hr.2.2.2.2.2.2.2.2.2⟩
  have hM := hS.model
  have hf := hr.2.2.2.2.1
  have k155_ : SALL[155]? = some (12, 1) := by decide +kernel
  by_cases hg : rGood (xs (i + 1)) (xs (i + 2)) (xs (i + 3)) (xs (i + 4))
  ·
    refine x_aload_n C0_ rfl dL_law_1260 ?_
    refine x_aload_n C0_ rfl dL_law_1261 ?_
    refine x_iload C0_ rfl dL_law_1262 ?_
    refine x_iconst (v := nI 1) C0_ rfl dL_law_1264 ?_
    refine x_iaddN C0_ dL_law_1265 ?_
    refine x_scr C0_ hX (by omega) hL dL_law_1266 ?_
    refine x_aload_n C0_ rfl dL_law_1267 ?_
    refine x_iload C0_ rfl dL_law_1268 ?_
    refine x_iconst (v := nI 2) C0_ rfl dL_law_1270 ?_
    refine x_iaddN C0_ dL_law_1271 ?_
    refine x_scr C0_ hX (by omega) hL dL_law_1272 ?_
    refine x_aload_n C0_ rfl dL_law_1273 ?_
    refine x_iload C0_ rfl dL_law_1274 ?_
    refine x_iconst (v := nI 3) C0_ rfl dL_law_1276 ?_
    refine x_iaddN C0_ dL_law_1277 ?_
    refine x_scr C0_ hX (by omega) hL dL_law_1278 ?_
    refine x_aload_n C0_ rfl dL_law_1279 ?_
    refine x_iload C0_ rfl dL_law_1280 ?_
    refine x_iconst (v := nI 4) C0_ rfl dL_law_1282 ?_
    refine x_iaddN C0_ dL_law_1283 ?_
    refine x_scr C0_ hX (by omega) hL dL_law_1284 ?_
    refine x_aload_n C0_ rfl dL_law_1285 ?_
    refine x_callSW [_, _, _, _, _, _] C0_ hT (hRm _ (by decide)) (xT_in (xt5 144 rfl) rfl) (by decide) (xT_in (xt1 0 rfl) rfl) (xT_in (xt5 143 rfl) rfl) (n := 6) (by decide) wm_L_167 dL_law_1286 rfl rfl (Nat.le_of_ble_eq_true rfl) (w_L_rests (fixd.k0 hS) k155_ (fun _ => ?_) (fun z => absurd hg z))
    have H1_ := H.out (J' := u2 J 155 0 (rAns (xs (i + 1)) (xs (i + 2)) (xs (i + 3)) (xs (i + 4))).toInt64) (fun a ha => u2_row _ _ _ ha)
    refine x_istore (L' := [_, _, _, _, _, _, _]) C0_ hN (by decide) rfl dL_law_1289 ?_
    refine x_aload_n C0_ rfl dL_law_1291 ?_
    refine x_aload_n C0_ rfl dL_law_1292 ?_
    refine x_iload C0_ rfl dL_law_1293 ?_
    refine x_iconst (v := nI 1) C0_ rfl dL_law_1295 ?_
    refine x_iaddN C0_ dL_law_1296 ?_
    refine x_scr C0_ hX (by omega) hL dL_law_1297 ?_
    refine x_aload_n C0_ rfl dL_law_1298 ?_
    refine x_iload C0_ rfl dL_law_1299 ?_
    refine x_iconst (v := nI 2) C0_ rfl dL_law_1301 ?_
    refine x_iaddN C0_ dL_law_1302 ?_
    refine x_scr C0_ hX (by omega) hL dL_law_1303 ?_
    refine x_aload_n C0_ rfl dL_law_1304 ?_
    refine x_iload C0_ rfl dL_law_1305 ?_
    refine x_iconst (v := nI 3) C0_ rfl dL_law_1307 ?_
    refine x_iaddN C0_ dL_law_1308 ?_
    refine x_scr C0_ hX (by omega) hL dL_law_1309 ?_
    refine x_aload_n C0_ rfl dL_law_1310 ?_
    refine x_iload C0_ rfl dL_law_1311 ?_
    refine x_iconst (v := nI 4) C0_ rfl dL_law_1313 ?_
    refine x_iaddN C0_ dL_law_1314 ?_
    refine x_scr C0_ hX (by omega) hL dL_law_1315 ?_
    refine x_callV [_, _, _, _] C0_ hN rfl (hRm _ (by decide)) mv_X12_rests wm_L_172 dL_law_1316 (isModel.k0 hM) rfl rfl (Nat.le_of_ble_eq_true rfl) (c_X12_rests hM (fun I2_ q2_ e2_ => ?_))
    rw [if_pos hg] at e2_
    rw [if_pos hg]
    have H2_ := H1_.mq q2_
    refine x_istore (L' := [_, _, _, _, _, _, _]) C0_ hN (by decide) rfl dL_law_1319 ?_
    refine x_aload_n C0_ rfl dL_law_1321 ?_
    refine x_callV [] C0_ hN rfl (hRm _ (by decide)) mv_X12_thrown wm_L_173 dL_law_1322 (isModel.k0 hM) rfl rfl (Nat.le_of_ble_eq_true rfl) (c_X12_thrown hM ?_)
    refine x_topi e2_ ?_
    refine x_iload C0_ rfl dL_law_1325 ?_
    refine x_icmp_eq (tgt := 1332) C0_ (by decide) dL_law_1327 (fun _ => ?_) (fun hkk => absurd (by decide) hkk)
    refine x_iload C0_ rfl dL_law_1332 ?_
    refine x_if_ne (tgt := 1349) C0_ (by decide) dL_law_1334 (fun hkk => absurd (by decide) hkk) (fun _ => ?_)
    refine x_aload_n C0_ rfl dL_law_1337 ?_
    refine x_iconst (v := nI 0) C0_ rfl dL_law_1338 ?_
    refine x_laloadN C0_ k155_ (by decide) (by decide) dL_law_1339 ?_
    refine x_iload C0_ rfl dL_law_1340 ?_
    refine x_i2l C0_ dL_law_1342 ?_
    refine x_lcmp C0_ dL_law_1343 ?_
    refine x_if_eq (tgt := 1349) C0_ (by decide) dL_law_1344 (fun _ => ?_) (fun hkk => absurd ((by rw [u2_same]; exact lg_same _)) hkk)
    refine x_goto (tgt := 1479) C0_ (by decide) dL_law_1349 ?_
    exact k _ _ _ _ _ _ _ (Nat.le_refl _) (Nat.le_refl _) ⟨_, _, _, _, _, _, _, _, _, _, _, _, _, _, _, _, _, H2_.up⟩
  ·
    refine x_aload_n C0_ rfl dL_law_1260 ?_
    refine x_aload_n C0_ rfl dL_law_1261 ?_
    refine x_iload C0_ rfl dL_law_1262 ?_
    refine x_iconst (v := nI 1) C0_ rfl dL_law_1264 ?_
    refine x_iaddN C0_ dL_law_1265 ?_
    refine x_scr C0_ hX (by omega) hL dL_law_1266 ?_
    refine x_aload_n C0_ rfl dL_law_1267 ?_
    refine x_iload C0_ rfl dL_law_1268 ?_
    refine x_iconst (v := nI 2) C0_ rfl dL_law_1270 ?_
    refine x_iaddN C0_ dL_law_1271 ?_
    refine x_scr C0_ hX (by omega) hL dL_law_1272 ?_
    refine x_aload_n C0_ rfl dL_law_1273 ?_
    refine x_iload C0_ rfl dL_law_1274 ?_
    refine x_iconst (v := nI 3) C0_ rfl dL_law_1276 ?_
    refine x_iaddN C0_ dL_law_1277 ?_
    refine x_scr C0_ hX (by omega) hL dL_law_1278 ?_
    refine x_aload_n C0_ rfl dL_law_1279 ?_
    refine x_iload C0_ rfl dL_law_1280 ?_
    refine x_iconst (v := nI 4) C0_ rfl dL_law_1282 ?_
    refine x_iaddN C0_ dL_law_1283 ?_
    refine x_scr C0_ hX (by omega) hL dL_law_1284 ?_
    refine x_aload_n C0_ rfl dL_law_1285 ?_
    refine x_callSW [_, _, _, _, _, _] C0_ hT (hRm _ (by decide)) (xT_in (xt5 144 rfl) rfl) (by decide) (xT_in (xt1 0 rfl) rfl) (xT_in (xt5 143 rfl) rfl) (n := 6) (by decide) wm_L_167 dL_law_1286 rfl rfl (Nat.le_of_ble_eq_true rfl) (w_L_rests (fixd.k0 hS) k155_ (fun z => absurd z hg) (fun _ => ?_))
    have H1_ := H
    refine x_istore (L' := [_, _, _, _, _, _, _]) C0_ hN (by decide) rfl dL_law_1289 ?_
    refine x_aload_n C0_ rfl dL_law_1291 ?_
    refine x_aload_n C0_ rfl dL_law_1292 ?_
    refine x_iload C0_ rfl dL_law_1293 ?_
    refine x_iconst (v := nI 1) C0_ rfl dL_law_1295 ?_
    refine x_iaddN C0_ dL_law_1296 ?_
    refine x_scr C0_ hX (by omega) hL dL_law_1297 ?_
    refine x_aload_n C0_ rfl dL_law_1298 ?_
    refine x_iload C0_ rfl dL_law_1299 ?_
    refine x_iconst (v := nI 2) C0_ rfl dL_law_1301 ?_
    refine x_iaddN C0_ dL_law_1302 ?_
    refine x_scr C0_ hX (by omega) hL dL_law_1303 ?_
    refine x_aload_n C0_ rfl dL_law_1304 ?_
    refine x_iload C0_ rfl dL_law_1305 ?_
    refine x_iconst (v := nI 3) C0_ rfl dL_law_1307 ?_
    refine x_iaddN C0_ dL_law_1308 ?_
    refine x_scr C0_ hX (by omega) hL dL_law_1309 ?_
    refine x_aload_n C0_ rfl dL_law_1310 ?_
    refine x_iload C0_ rfl dL_law_1311 ?_
    refine x_iconst (v := nI 4) C0_ rfl dL_law_1313 ?_
    refine x_iaddN C0_ dL_law_1314 ?_
    refine x_scr C0_ hX (by omega) hL dL_law_1315 ?_
    refine x_callV [_, _, _, _] C0_ hN rfl (hRm _ (by decide)) mv_X12_rests wm_L_172 dL_law_1316 (isModel.k0 hM) rfl rfl (Nat.le_of_ble_eq_true rfl) (c_X12_rests hM (fun I2_ q2_ e2_ => ?_))
    rw [if_neg hg] at e2_
    rw [if_neg hg]
    have H2_ := H1_.mq q2_
    refine x_istore (L' := [_, _, _, _, _, _, _]) C0_ hN (by decide) rfl dL_law_1319 ?_
    refine x_aload_n C0_ rfl dL_law_1321 ?_
    refine x_callV [] C0_ hN rfl (hRm _ (by decide)) mv_X12_thrown wm_L_173 dL_law_1322 (isModel.k0 hM) rfl rfl (Nat.le_of_ble_eq_true rfl) (c_X12_thrown hM ?_)
    refine x_topi e2_ ?_
    refine x_iload C0_ rfl dL_law_1325 ?_
    refine x_icmp_eq (tgt := 1332) C0_ (by decide) dL_law_1327 (fun _ => ?_) (fun hkk => absurd (by decide) hkk)
    refine x_iload C0_ rfl dL_law_1332 ?_
    refine x_if_ne (tgt := 1349) C0_ (by decide) dL_law_1334 (fun _ => ?_) (fun hkk => absurd hkk (by decide))
    refine x_goto (tgt := 1479) C0_ (by decide) dL_law_1349 ?_
    exact k _ _ _ _ _ _ _ (Nat.le_refl _) (Nat.le_refl _) ⟨_, _, _, _, _, _, _, _, _, _, _, _, _, _, _, _, _, H2_.up⟩
theorem lp_gt {a L : Nat} (ha : a < 10000) (hL : L < 10000) : nI L - nI 7 < nI a ↔ L < a + 7 := by
  by_cases h : 7 ≤ L
  · rw [nI_subn h, nI_lt_iff (by omega) (by omega)]
    omega
  · have h0_ : (0 : Int32) ≤ nI a := (nI_le_iff (a := 0) (by decide) (by omega)).mpr (Nat.zero_le _)
    have h1_ : ∀ z, z < 7 → nI z - nI 7 < 0 := by decide +kernel
    exact ⟨fun _ => by omega, fun _ => Int32.lt_of_lt_of_le (h1_ L (by omega)) h0_⟩
theorem lp_63 (x : Int32) : ∃ k, k < 64 ∧ x &&& nI 63 = nI k := by
  refine ⟨(x &&& nI 63).toBitVec.toNat, ?_, ?_⟩
  · have h2_ : (x &&& nI 63).toBitVec = x.toBitVec &&& 63#32 := rfl
    rw [h2_, BitVec.toNat_and]
    exact Nat.lt_of_le_of_lt Nat.and_le_right (by decide)
  · apply Int32.toBitVec.inj
    show _ = BitVec.ofNat 32 _
    rw [BitVec.ofNat_toNat, BitVec.setWidth_eq]
