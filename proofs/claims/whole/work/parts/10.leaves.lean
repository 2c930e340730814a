/-! THE LEAVES: rows of numbers, halls -/
theorem e_view (w t : Nat) : nI w * 6 + nI t = nI (6 * w + t) := by rw [show (6 : Int32) = nI 6 from rfl, nI_mul, nI_add, Nat.mul_comm]
theorem c_X8_get {S : xTS} {R : xTR} {I : xTI} {J : xTJ} {post : xPost} {a n k : Nat} (hs : S[a]? = some (11, n)) (hk : k < n) (hn : n < 2 ^ 31) (hp : post (some (.int (I a k))) S R I J) : xSpec 1 yX8_get cX8_get 2 (some .int) 0 0 [.ref a, .int (nI k)] S R I J post := by
  refine xSpec_of mt_X8_get (Nat.le_of_ble_eq_true rfl) (fun G C0 hN hR E hI hZ => ?_)
  change XX G 0 0 0 [some (.ref a), some (.int (nI k))] [] S R I J
  refine x_iload_n C0 rfl dX8_get_0 ?_
  refine x_if_lt (tgt := 16) C0 (by decide) dX8_get_1 (fun hkk => absurd hkk (nI_pos (by omega))) (fun _ => ?_)
  refine x_iload_n C0 rfl dX8_get_4 ?_
  refine x_aload_n C0 rfl dX8_get_5 ?_
  refine x_alen C0 (by assumption) (by decide) (by decide) rfl dX8_get_6 ?_
  refine x_icmp_ge (tgt := 16) C0 (by decide) dX8_get_7 (fun hkk => absurd hkk (nI_ge hk hn)) (fun _ => ?_)
  refine x_aload_n C0 rfl dX8_get_10 ?_
  refine x_iload_n C0 rfl dX8_get_11 ?_
  refine x_ialoadN C0 (by assumption) (by omega) (by omega) dX8_get_12 ?_
  refine x_goto (tgt := 17) C0 (by decide) dX8_get_13 ?_
  refine x_iret C0 E (by decide) (by decide) dX8_get_17 ?_
  exact hp
theorem c_X8_set {S : xTS} {R : xTR} {I : xTI} {J : xTJ} {post : xPost} {a n k : Nat} {v : Int32} (hs : S[a]? = some (11, n)) (hk : k < n) (hn : n < 2 ^ 31) (hp : post none S R (u2 I a k v) J) : xSpec 1 yX8_set cX8_set 3 none 0 0 [.ref a, .int (nI k), .int v] S R I J post := by
  refine xSpec_of mt_X8_set (Nat.le_of_ble_eq_true rfl) (fun G C0 hN hR E hI hZ => ?_)
  change XX G 0 0 0 [some (.ref a), some (.int (nI k)), some (.int v)] [] S R I J
  refine x_iload_n C0 rfl dX8_set_0 ?_
  refine x_if_lt (tgt := 14) C0 (by decide) dX8_set_1 (fun hkk => absurd hkk (nI_pos (by omega))) (fun _ => ?_)
  refine x_iload_n C0 rfl dX8_set_4 ?_
  refine x_aload_n C0 rfl dX8_set_5 ?_
  refine x_alen C0 (by assumption) (by decide) (by decide) rfl dX8_set_6 ?_
  refine x_icmp_ge (tgt := 14) C0 (by decide) dX8_set_7 (fun hkk => absurd hkk (nI_ge hk hn)) (fun _ => ?_)
  refine x_aload_n C0 rfl dX8_set_10 ?_
  refine x_iload_n C0 rfl dX8_set_11 ?_
  refine x_iload_n C0 rfl dX8_set_12 ?_
  refine x_iastoreN C0 (by assumption) (by omega) (by omega) dX8_set_13 ?_
  refine x_vret C0 E (by decide) (by decide) dX8_set_14 ?_
  exact hp
theorem c_X8_copy {S : xTS} {R : xTR} {I : xTI} {J : xTJ} {post : xPost} {a b n : Nat} (hs : S[a]? = some (11, n)) (ht : S[b]? = some (11, n)) (hn : n < 2 ^ 31) (hp : post none S R (ucopy I a b n) J) : xSpec 2 yX8_copy cX8_copy 2 none 0 0 [.ref a, .ref b] S R I J post := by
  refine xSpec_of mt_X8_copy (Nat.le_of_ble_eq_true rfl) (fun G C0 hN hR E hI hZ => ?_)
  change XX G 0 0 0 [some (.ref a), some (.ref b)] [] S R I J
  refine x_aload_n C0 rfl dX8_copy_0 ?_
  refine x_iconst (v := 0) C0 rfl dX8_copy_1 ?_
  refine x_aload_n C0 rfl dX8_copy_2 ?_
  refine x_iconst (v := 0) C0 rfl dX8_copy_3 ?_
  refine x_aload_n C0 rfl dX8_copy_4 ?_
  refine x_alen C0 (by assumption) (by decide) (by decide) rfl dX8_copy_5 ?_
  refine x_aload_n C0 rfl dX8_copy_6 ?_
  refine x_alen C0 (by assumption) (by decide) (by decide) rfl dX8_copy_7 ?_
  refine x_mmin (v := nI n) C0 (xRf_of hR (by decide) (Nat.zero_le _) (Nat.zero_le _)) wk_X8_9 (Nat.le_of_ble_eq_true rfl) (ite_self _) dX8_copy_8 ?_
  refine x_copy C0 (xRf_of hR (by decide) (Nat.zero_le _) (Nat.zero_le _)) wk_X8_15 (Nat.le_of_ble_eq_true rfl) hs ht hn dX8_copy_11 ?_
  refine x_vret C0 E (by decide) (by decide) dX8_copy_14 ?_
  exact hp
theorem c_X3_isIn {S : xTS} {R : xTR} {I : xTI} {J : xTJ} {post : xPost} {h k : Nat} (hH : isHall S R h) (h1 : xbit (I h 2) k → post (some (.int 1)) S R I J) (h0 : ¬ xbit (I h 2) k → post (some (.int 0)) S R I J) : xSpec 1 yX3_isIn cX3_isIn 2 (some .boolean) 0 0 [.ref h, .int (nI k)] S R I J post := by
  refine xSpec_of mt_X3_isIn (Nat.le_of_ble_eq_true rfl) (fun G C0 hN hR E hI hZ => ?_)
  change XX G 0 0 0 [some (.ref h), some (.int (nI k))] [] S R I J
  obtain ⟨hs0, hs1, hs2, hs3, hr4, hr5, hr6⟩ := id hH
  refine x_aload_n C0 rfl dX3_isIn_0 ?_
  refine x_getI C0 wf_X3_28 (by assumption) rfl dX3_isIn_1 ?_
  refine x_iload_n C0 rfl dX3_isIn_4 ?_
  refine x_ishr C0 dX3_isIn_5 ?_
  refine x_iconst (v := 1) C0 rfl dX3_isIn_6 ?_
  refine x_iand C0 dX3_isIn_7 ?_
  refine x_iconst (v := 1) C0 rfl dX3_isIn_8 ?_
  refine x_icmp_ne (tgt := 16) C0 (by decide) dX3_isIn_9 (fun h9 => ?_) (fun h9 => ?_)
  · refine x_iconst (v := 0) C0 rfl dX3_isIn_16 ?_
    refine x_zret C0 E (by decide) (by decide) rfl dX3_isIn_17 ?_
    exact h0 h9
  · refine x_iconst (v := 1) C0 rfl dX3_isIn_12 ?_
    refine x_goto (tgt := 17) C0 (by decide) dX3_isIn_13 ?_
    refine x_zret C0 E (by decide) (by decide) rfl dX3_isIn_17 ?_
    exact h1 h9
theorem c_X3_isCut {S : xTS} {R : xTR} {I : xTI} {J : xTJ} {post : xPost} {h k : Nat} (hH : isHall S R h) (h1 : xbit (I h 3) k → post (some (.int 1)) S R I J) (h0 : ¬ xbit (I h 3) k → post (some (.int 0)) S R I J) : xSpec 1 yX3_isCut cX3_isCut 2 (some .boolean) 0 0 [.ref h, .int (nI k)] S R I J post := by
  refine xSpec_of mt_X3_isCut (Nat.le_of_ble_eq_true rfl) (fun G C0 hN hR E hI hZ => ?_)
  change XX G 0 0 0 [some (.ref h), some (.int (nI k))] [] S R I J
  obtain ⟨hs0, hs1, hs2, hs3, hr4, hr5, hr6⟩ := id hH
  refine x_aload_n C0 rfl dX3_isCut_0 ?_
  refine x_getI C0 wf_X3_31 (by assumption) rfl dX3_isCut_1 ?_
  refine x_iload_n C0 rfl dX3_isCut_4 ?_
  refine x_ishr C0 dX3_isCut_5 ?_
  refine x_iconst (v := 1) C0 rfl dX3_isCut_6 ?_
  refine x_iand C0 dX3_isCut_7 ?_
  refine x_iconst (v := 1) C0 rfl dX3_isCut_8 ?_
  refine x_icmp_ne (tgt := 16) C0 (by decide) dX3_isCut_9 (fun h9 => ?_) (fun h9 => ?_)
  · refine x_iconst (v := 0) C0 rfl dX3_isCut_16 ?_
    refine x_zret C0 E (by decide) (by decide) rfl dX3_isCut_17 ?_
    exact h0 h9
  · refine x_iconst (v := 1) C0 rfl dX3_isCut_12 ?_
    refine x_goto (tgt := 17) C0 (by decide) dX3_isCut_13 ?_
    refine x_zret C0 E (by decide) (by decide) rfl dX3_isCut_17 ?_
    exact h1 h9
theorem c_X3_writing {S : xTS} {R : xTR} {I : xTI} {J : xTJ} {post : xPost} {h k : Nat} (hH : isHall S R h) (hk : k < 8) (hp : post (some (.int (I (h + 1) k))) S R I J) : xSpec 2 yX3_writing cX3_writing 2 (some .int) 0 0 [.ref h, .int (nI k)] S R I J post := by
  refine xSpec_of mt_X3_writing (Nat.le_of_ble_eq_true rfl) (fun G C0 hN hR E hI hZ => ?_)
  change XX G 0 0 0 [some (.ref h), some (.int (nI k))] [] S R I J
  obtain ⟨hs0, hs1, hs2, hs3, hr4, hr5, hr6⟩ := id hH
  refine x_aload_n C0 rfl dX3_writing_0 ?_
  refine x_getR C0 wf_X3_9 (by assumption) rfl rfl (by assumption) dX3_writing_1 ?_
  refine x_iload_n C0 rfl dX3_writing_4 ?_
  refine x_callS [_, _] C0 (xRf_of hR (by decide) (Nat.zero_le _) (Nat.zero_le _)) ms_X8_get wm_X3_40 dX3_writing_5 rfl rfl (Nat.le_of_ble_eq_true rfl) (c_X8_get (by assumption) (by omega) (by omega) ?_)
  refine x_iret C0 E (by decide) (by decide) dX3_writing_8 ?_
  exact hp
theorem c_X3_thought {S : xTS} {R : xTR} {I : xTI} {J : xTJ} {post : xPost} {h w t : Nat} (hH : isHall S R h) (hw : w < 6) (ht : t < 6) (hp : post (some (.int (I (h + 2) (6 * w + t)))) S R I J) : xSpec 1 yX3_thought cX3_thought 4 (some .int) 0 0 [.ref h, .int (nI w), .int (nI t)] S R I J post := by
  refine xSpec_of mt_X3_thought (Nat.le_of_ble_eq_true rfl) (fun G C0 hN hR E hI hZ => ?_)
  change XX G 0 0 0 [some (.ref h), some (.int (nI w)), some (.int (nI t)), none] [] S R I J
  obtain ⟨hs0, hs1, hs2, hs3, hr4, hr5, hr6⟩ := id hH
  refine x_iload_n C0 rfl dX3_thought_0 ?_
  refine x_bipush (v := 6) C0 rfl dX3_thought_1 ?_
  refine x_imul C0 dX3_thought_3 ?_
  refine x_iload_n C0 rfl dX3_thought_4 ?_
  refine x_iadd C0 dX3_thought_5 ?_
  refine x_topi (e_view w t) ?_
  refine x_istore_n (L' := [_, _, _, _]) C0 hN (by decide) rfl dX3_thought_6 ?_
  refine x_iload_n C0 rfl dX3_thought_7 ?_
  refine x_if_lt (tgt := 29) C0 (by decide) dX3_thought_8 (fun hkk => absurd hkk (nI_pos (by omega))) (fun _ => ?_)
  refine x_iload_n C0 rfl dX3_thought_11 ?_
  refine x_aload_n C0 rfl dX3_thought_12 ?_
  refine x_getR C0 wf_X3_15 (by assumption) rfl rfl (by assumption) dX3_thought_13 ?_
  refine x_alen C0 (by assumption) (by decide) (by decide) rfl dX3_thought_16 ?_
  refine x_icmp_ge (tgt := 29) C0 (by decide) dX3_thought_17 (fun hkk => absurd hkk (nI_ge (b := 36) (by omega) (by omega))) (fun _ => ?_)
  refine x_aload_n C0 rfl dX3_thought_20 ?_
  refine x_getR C0 wf_X3_15 (by assumption) rfl rfl (by assumption) dX3_thought_21 ?_
  refine x_iload_n C0 rfl dX3_thought_24 ?_
  refine x_ialoadN C0 (by assumption) (by omega) (by omega) dX3_thought_25 ?_
  refine x_goto (tgt := 30) C0 (by decide) dX3_thought_26 ?_
  refine x_iret C0 E (by decide) (by decide) dX3_thought_30 ?_
  exact hp
theorem c_X3_think {S : xTS} {R : xTR} {I : xTI} {J : xTJ} {post : xPost} {h w t : Nat} {v : Int32} (hH : isHall S R h) (hw : w < 6) (ht : t < 6) (hp : post none S R (u2 I (h + 2) (6 * w + t) v) J) : xSpec 2 yX3_think cX3_think 4 none 0 0 [.ref h, .int (nI w), .int (nI t), .int v] S R I J post := by
  refine xSpec_of mt_X3_think (Nat.le_of_ble_eq_true rfl) (fun G C0 hN hR E hI hZ => ?_)
  change XX G 0 0 0 [some (.ref h), some (.int (nI w)), some (.int (nI t)), some (.int v)] [] S R I J
  obtain ⟨hs0, hs1, hs2, hs3, hr4, hr5, hr6⟩ := id hH
  refine x_aload_n C0 rfl dX3_think_0 ?_
  refine x_getR C0 wf_X3_15 (by assumption) rfl rfl (by assumption) dX3_think_1 ?_
  refine x_iload_n C0 rfl dX3_think_4 ?_
  refine x_bipush (v := 6) C0 rfl dX3_think_5 ?_
  refine x_imul C0 dX3_think_7 ?_
  refine x_iload_n C0 rfl dX3_think_8 ?_
  refine x_iadd C0 dX3_think_9 ?_
  refine x_topi (e_view w t) ?_
  refine x_iload_n C0 rfl dX3_think_10 ?_
  refine x_callS [_, _, _] C0 (xRf_of hR (by decide) (Nat.zero_le _) (Nat.zero_le _)) ms_X8_set wm_X3_44 dX3_think_11 rfl rfl (Nat.le_of_ble_eq_true rfl) (c_X8_set (by assumption) (by omega) (by omega) ?_)
  refine x_vret C0 E (by decide) (by decide) dX3_think_14 ?_
  exact hp
