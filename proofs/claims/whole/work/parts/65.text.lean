theorem dJ0_indexOf_0f7a4_0 : decode cJ0_indexOf_0f7a4 0 = .ok (.aload_n 0, 1) := by decide +kernel
theorem dJ0_indexOf_0f7a4_1 : decode cJ0_indexOf_0f7a4 1 = .ok (.iload_n 1, 1) := by decide +kernel
theorem dJ0_indexOf_0f7a4_2 : decode cJ0_indexOf_0f7a4 2 = .ok (.iconst 0, 1) := by decide +kernel
theorem dJ0_indexOf_0f7a4_3 : decode cJ0_indexOf_0f7a4 3 = .ok (.invokevirtual 633, 3) := by decide +kernel
theorem dJ0_indexOf_0f7a4_6 : decode cJ0_indexOf_0f7a4 6 = .ok (.ireturn, 1) := by decide +kernel
theorem dJ0_indexOf_7cf53_0 : decode cJ0_indexOf_7cf53 0 = .ok (.aload_n 0, 1) := by decide +kernel
theorem dJ0_indexOf_7cf53_1 : decode cJ0_indexOf_7cf53 1 = .ok (.invokevirtual 492, 3) := by decide +kernel
theorem dJ0_indexOf_7cf53_4 : decode cJ0_indexOf_7cf53 4 = .ok (.ifCond .eq 19, 3) := by decide +kernel
theorem dJ0_indexOf_7cf53_7 : decode cJ0_indexOf_7cf53 7 = .ok (.aload_n 0, 1) := by decide +kernel
theorem dJ0_indexOf_7cf53_8 : decode cJ0_indexOf_7cf53 8 = .ok (.getfield 9, 3) := by decide +kernel
theorem dJ0_indexOf_7cf53_11 : decode cJ0_indexOf_7cf53 11 = .ok (.iload_n 1, 1) := by decide +kernel
theorem dJ0_indexOf_7cf53_12 : decode cJ0_indexOf_7cf53 12 = .ok (.iload_n 2, 1) := by decide +kernel
theorem dJ0_indexOf_7cf53_13 : decode cJ0_indexOf_7cf53 13 = .ok (.aload_n 0, 1) := by decide +kernel
theorem dJ0_indexOf_7cf53_14 : decode cJ0_indexOf_7cf53 14 = .ok (.invokevirtual 505, 3) := by decide +kernel
theorem dJ0_indexOf_7cf53_17 : decode cJ0_indexOf_7cf53 17 = .ok (.invokestatic 637, 3) := by decide +kernel
theorem dJ0_indexOf_7cf53_20 : decode cJ0_indexOf_7cf53 20 = .ok (.goto 16, 3) := by decide +kernel
theorem dJ0_indexOf_7cf53_23 : decode cJ0_indexOf_7cf53 23 = .ok (.aload_n 0, 1) := by decide +kernel
theorem dJ0_indexOf_7cf53_24 : decode cJ0_indexOf_7cf53 24 = .ok (.getfield 9, 3) := by decide +kernel
theorem dJ0_indexOf_7cf53_27 : decode cJ0_indexOf_7cf53 27 = .ok (.iload_n 1, 1) := by decide +kernel
theorem dJ0_indexOf_7cf53_28 : decode cJ0_indexOf_7cf53 28 = .ok (.iload_n 2, 1) := by decide +kernel
theorem dJ0_indexOf_7cf53_29 : decode cJ0_indexOf_7cf53 29 = .ok (.aload_n 0, 1) := by decide +kernel
theorem dJ0_indexOf_7cf53_30 : decode cJ0_indexOf_7cf53 30 = .ok (.invokevirtual 505, 3) := by decide +kernel
theorem dJ0_indexOf_7cf53_33 : decode cJ0_indexOf_7cf53 33 = .ok (.invokestatic 640, 3) := by decide +kernel
theorem dJ0_indexOf_7cf53_36 : decode cJ0_indexOf_7cf53 36 = .ok (.ireturn, 1) := by decide +kernel
theorem dJ0_isLatin1_aae02_0 : decode cJ0_isLatin1_aae02 0 = .ok (.getstatic 38, 3) := by decide +kernel
theorem dJ0_isLatin1_aae02_3 : decode cJ0_isLatin1_aae02 3 = .ok (.ifCond .eq 14, 3) := by decide +kernel
theorem dJ0_isLatin1_aae02_6 : decode cJ0_isLatin1_aae02 6 = .ok (.aload_n 0, 1) := by decide +kernel
theorem dJ0_isLatin1_aae02_7 : decode cJ0_isLatin1_aae02 7 = .ok (.getfield 15, 3) := by decide +kernel
theorem dJ0_isLatin1_aae02_10 : decode cJ0_isLatin1_aae02 10 = .ok (.ifCond .ne 7, 3) := by decide +kernel
theorem dJ0_isLatin1_aae02_13 : decode cJ0_isLatin1_aae02 13 = .ok (.iconst 1, 1) := by decide +kernel
theorem dJ0_isLatin1_aae02_14 : decode cJ0_isLatin1_aae02 14 = .ok (.goto 4, 3) := by decide +kernel
theorem dJ0_isLatin1_aae02_17 : decode cJ0_isLatin1_aae02 17 = .ok (.iconst 0, 1) := by decide +kernel
theorem dJ0_isLatin1_aae02_18 : decode cJ0_isLatin1_aae02 18 = .ok (.ireturn, 1) := by decide +kernel
theorem dJ0_length_8abf5_0 : decode cJ0_length_8abf5 0 = .ok (.aload_n 0, 1) := by decide +kernel
theorem dJ0_length_8abf5_1 : decode cJ0_length_8abf5 1 = .ok (.getfield 9, 3) := by decide +kernel
theorem dJ0_length_8abf5_4 : decode cJ0_length_8abf5 4 = .ok (.arraylength, 1) := by decide +kernel
theorem dJ0_length_8abf5_5 : decode cJ0_length_8abf5 5 = .ok (.aload_n 0, 1) := by decide +kernel
theorem dJ0_length_8abf5_6 : decode cJ0_length_8abf5 6 = .ok (.invokevirtual 335, 3) := by decide +kernel
theorem dJ0_length_8abf5_9 : decode cJ0_length_8abf5 9 = .ok (.ishr, 1) := by decide +kernel
theorem dJ0_length_8abf5_10 : decode cJ0_length_8abf5 10 = .ok (.ireturn, 1) := by decide +kernel
theorem dJ0_coder_7d493_0 : decode cJ0_coder_7d493 0 = .ok (.getstatic 38, 3) := by decide +kernel
theorem dJ0_coder_7d493_3 : decode cJ0_coder_7d493 3 = .ok (.ifCond .eq 10, 3) := by decide +kernel
theorem dJ0_coder_7d493_6 : decode cJ0_coder_7d493 6 = .ok (.aload_n 0, 1) := by decide +kernel
theorem dJ0_coder_7d493_7 : decode cJ0_coder_7d493 7 = .ok (.getfield 15, 3) := by decide +kernel
theorem dJ0_coder_7d493_10 : decode cJ0_coder_7d493 10 = .ok (.goto 4, 3) := by decide +kernel
theorem dJ0_coder_7d493_13 : decode cJ0_coder_7d493 13 = .ok (.iconst 1, 1) := by decide +kernel
theorem dJ0_coder_7d493_14 : decode cJ0_coder_7d493 14 = .ok (.ireturn, 1) := by decide +kernel
theorem dJ1_indexOf_4cfef_0 : decode cJ1_indexOf_4cfef 0 = .ok (.iload_n 1, 1) := by decide +kernel
theorem dJ1_indexOf_4cfef_1 : decode cJ1_indexOf_4cfef 1 = .ok (.invokestatic 88, 3) := by decide +kernel
theorem dJ1_indexOf_4cfef_4 : decode cJ1_indexOf_4cfef 4 = .ok (.ifCond .ne 5, 3) := by decide +kernel
theorem dJ1_indexOf_4cfef_7 : decode cJ1_indexOf_4cfef 7 = .ok (.iconst (-1), 1) := by decide +kernel
theorem dJ1_indexOf_4cfef_8 : decode cJ1_indexOf_4cfef 8 = .ok (.ireturn, 1) := by decide +kernel
theorem dJ1_indexOf_4cfef_9 : decode cJ1_indexOf_4cfef 9 = .ok (.iload_n 2, 1) := by decide +kernel
theorem dJ1_indexOf_4cfef_10 : decode cJ1_indexOf_4cfef 10 = .ok (.iconst 0, 1) := by decide +kernel
theorem dJ1_indexOf_4cfef_11 : decode cJ1_indexOf_4cfef 11 = .ok (.invokestatic 92, 3) := by decide +kernel
theorem dJ1_indexOf_4cfef_14 : decode cJ1_indexOf_4cfef 14 = .ok (.istore_n 2, 1) := by decide +kernel
theorem dJ1_indexOf_4cfef_15 : decode cJ1_indexOf_4cfef 15 = .ok (.iload_n 3, 1) := by decide +kernel
theorem dJ1_indexOf_4cfef_16 : decode cJ1_indexOf_4cfef 16 = .ok (.aload_n 0, 1) := by decide +kernel
theorem dJ1_indexOf_4cfef_17 : decode cJ1_indexOf_4cfef 17 = .ok (.arraylength, 1) := by decide +kernel
theorem dJ1_indexOf_4cfef_18 : decode cJ1_indexOf_4cfef 18 = .ok (.invokestatic 38, 3) := by decide +kernel
theorem dJ1_indexOf_4cfef_21 : decode cJ1_indexOf_4cfef 21 = .ok (.istore_n 3, 1) := by decide +kernel
theorem dJ1_indexOf_4cfef_22 : decode cJ1_indexOf_4cfef 22 = .ok (.iload_n 2, 1) := by decide +kernel
theorem dJ1_indexOf_4cfef_23 : decode cJ1_indexOf_4cfef 23 = .ok (.iload_n 3, 1) := by decide +kernel
theorem dJ1_indexOf_4cfef_24 : decode cJ1_indexOf_4cfef 24 = .ok (.if_icmp .lt 5, 3) := by decide +kernel
theorem dJ1_indexOf_4cfef_27 : decode cJ1_indexOf_4cfef 27 = .ok (.iconst (-1), 1) := by decide +kernel
theorem dJ1_indexOf_4cfef_28 : decode cJ1_indexOf_4cfef 28 = .ok (.ireturn, 1) := by decide +kernel
theorem dJ1_indexOf_4cfef_29 : decode cJ1_indexOf_4cfef 29 = .ok (.aload_n 0, 1) := by decide +kernel
theorem dJ1_indexOf_4cfef_30 : decode cJ1_indexOf_4cfef 30 = .ok (.iload_n 1, 1) := by decide +kernel
theorem dJ1_indexOf_4cfef_31 : decode cJ1_indexOf_4cfef 31 = .ok (.iload_n 2, 1) := by decide +kernel
theorem dJ1_indexOf_4cfef_32 : decode cJ1_indexOf_4cfef 32 = .ok (.iload_n 3, 1) := by decide +kernel
theorem dJ1_indexOf_4cfef_33 : decode cJ1_indexOf_4cfef 33 = .ok (.invokestatic 95, 3) := by decide +kernel
theorem dJ1_indexOf_4cfef_36 : decode cJ1_indexOf_4cfef 36 = .ok (.ireturn, 1) := by decide +kernel
theorem dJ1_canEncode_9a6ad_0 : decode cJ1_canEncode_9a6ad 0 = .ok (.iload_n 0, 1) := by decide +kernel
theorem dJ1_canEncode_9a6ad_1 : decode cJ1_canEncode_9a6ad 1 = .ok (.ifCond .lt 14, 3) := by decide +kernel
theorem dJ1_canEncode_9a6ad_4 : decode cJ1_canEncode_9a6ad 4 = .ok (.iload_n 0, 1) := by decide +kernel
theorem dJ1_canEncode_9a6ad_5 : decode cJ1_canEncode_9a6ad 5 = .ok (.sipush 255, 3) := by decide +kernel
theorem dJ1_canEncode_9a6ad_8 : decode cJ1_canEncode_9a6ad 8 = .ok (.if_icmp .gt 7, 3) := by decide +kernel
theorem dJ1_canEncode_9a6ad_11 : decode cJ1_canEncode_9a6ad 11 = .ok (.iconst 1, 1) := by decide +kernel
theorem dJ1_canEncode_9a6ad_12 : decode cJ1_canEncode_9a6ad 12 = .ok (.goto 4, 3) := by decide +kernel
theorem dJ1_canEncode_9a6ad_15 : decode cJ1_canEncode_9a6ad 15 = .ok (.iconst 0, 1) := by decide +kernel
theorem dJ1_canEncode_9a6ad_16 : decode cJ1_canEncode_9a6ad 16 = .ok (.ireturn, 1) := by decide +kernel
theorem dJ1_indexOfChar_4cfef_0 : decode cJ1_indexOfChar_4cfef 0 = .ok (.iload_n 1, 1) := by decide +kernel
theorem dJ1_indexOfChar_4cfef_1 : decode cJ1_indexOfChar_4cfef 1 = .ok (.i2b, 1) := by decide +kernel
theorem dJ1_indexOfChar_4cfef_2 : decode cJ1_indexOfChar_4cfef 2 = .ok (.istore 4, 2) := by decide +kernel
theorem dJ1_indexOfChar_4cfef_4 : decode cJ1_indexOfChar_4cfef 4 = .ok (.iload_n 2, 1) := by decide +kernel
theorem dJ1_indexOfChar_4cfef_5 : decode cJ1_indexOfChar_4cfef 5 = .ok (.istore 5, 2) := by decide +kernel
theorem dJ1_indexOfChar_4cfef_7 : decode cJ1_indexOfChar_4cfef 7 = .ok (.iload 5, 2) := by decide +kernel
theorem dJ1_indexOfChar_4cfef_9 : decode cJ1_indexOfChar_4cfef 9 = .ok (.iload_n 3, 1) := by decide +kernel
theorem dJ1_indexOfChar_4cfef_10 : decode cJ1_indexOfChar_4cfef 10 = .ok (.if_icmp .ge 21, 3) := by decide +kernel
theorem dJ1_indexOfChar_4cfef_13 : decode cJ1_indexOfChar_4cfef 13 = .ok (.aload_n 0, 1) := by decide +kernel
theorem dJ1_indexOfChar_4cfef_14 : decode cJ1_indexOfChar_4cfef 14 = .ok (.iload 5, 2) := by decide +kernel
theorem dJ1_indexOfChar_4cfef_16 : decode cJ1_indexOfChar_4cfef 16 = .ok (.baload, 1) := by decide +kernel
theorem dJ1_indexOfChar_4cfef_17 : decode cJ1_indexOfChar_4cfef 17 = .ok (.iload 4, 2) := by decide +kernel
theorem dJ1_indexOfChar_4cfef_19 : decode cJ1_indexOfChar_4cfef 19 = .ok (.if_icmp .ne 6, 3) := by decide +kernel
theorem dJ1_indexOfChar_4cfef_22 : decode cJ1_indexOfChar_4cfef 22 = .ok (.iload 5, 2) := by decide +kernel
theorem dJ1_indexOfChar_4cfef_24 : decode cJ1_indexOfChar_4cfef 24 = .ok (.ireturn, 1) := by decide +kernel
theorem dJ1_indexOfChar_4cfef_25 : decode cJ1_indexOfChar_4cfef 25 = .ok (.iinc 5 1, 3) := by decide +kernel
theorem dJ1_indexOfChar_4cfef_28 : decode cJ1_indexOfChar_4cfef 28 = .ok (.goto (-21), 3) := by decide +kernel
theorem dJ1_indexOfChar_4cfef_31 : decode cJ1_indexOfChar_4cfef 31 = .ok (.iconst (-1), 1) := by decide +kernel
theorem dJ1_indexOfChar_4cfef_32 : decode cJ1_indexOfChar_4cfef 32 = .ok (.ireturn, 1) := by decide +kernel
/-! indexOf over the text of the signs; what the tape's signs are -/
def isSg (n : Nat) : Prop := n = 40 ∨ n = 41 ∨ n = 60 ∨ n = 61 ∨ n = 43 ∨ n = 45 ∨ n = 42 ∨ n = 59
def sgB (n : Nat) : Bool := n == 40 || n == 41 || n == 60 || n == 61 || n == 43 || n == 45 || n == 42 || n == 59
theorem sgB_iff (n : Nat) : sgB n = true ↔ isSg n := by simp [sgB, isSg, or_assoc]
theorem sg_all : ∀ n, n < 128 → ((∀ k, k < 8 → ¬ xSb.getD k 0 = nI n) ↔ sgB n = false) := by decide +kernel
theorem sg_byte : ∀ n, n < 128 → (nI n).toInt8.toInt32 = nI n := by decide +kernel
theorem c_J1_canEncode_9a6ad {S : xTS} {R : xTR} {I : xTI} {J : xTJ} {post : xPost} {n : Nat} (hn : n < 128) (hp : post (some (.int 1)) S R I J) : xSpec 1 yJ1_canEncode_9a6ad cJ1_canEncode_9a6ad 1 (some .boolean) 0 0 [.int (nI n)] S R I J post := by
  refine xSpec_of mt_J1_canEncode_9a6ad (Nat.le_of_ble_eq_true rfl) (fun G C0 hN hR E hI hZ => ?_)
  change XX G 0 0 0 [some (.int (nI n))] [] S R I J
  refine x_iload_n C0 rfl dJ1_canEncode_9a6ad_0 ?_
  refine x_if_lt (tgt := 15) C0 (by decide) dJ1_canEncode_9a6ad_1 (fun hkk => absurd hkk (nI_pos (by omega))) (fun _ => ?_)
  refine x_iload_n C0 rfl dJ1_canEncode_9a6ad_4 ?_
  refine x_sipush (v := nI 255) C0 rfl dJ1_canEncode_9a6ad_5 ?_
  refine x_icmp_gt (tgt := 15) C0 (by decide) dJ1_canEncode_9a6ad_8 (fun hkk => absurd hkk ((nI_nlt (by omega) (by omega)))) (fun _ => ?_)
  refine x_iconst (v := 1) C0 rfl dJ1_canEncode_9a6ad_11 ?_
  refine x_goto (tgt := 16) C0 (by decide) dJ1_canEncode_9a6ad_12 ?_
  refine x_zret C0 E (by decide) (by decide) rfl dJ1_canEncode_9a6ad_16 ?_
  exact hp
theorem c_J1_indexOfChar_4cfef {S : xTS} {R : xTR} {I : xTI} {J : xTJ} {post : xPost} {n : Nat} (hn : n < 128) (hp : ∀ v, (v < 0 ↔ sgB n = false) → post (some (.int v)) S R I J) : xSpec 1 yJ1_indexOfChar_4cfef cJ1_indexOfChar_4cfef 6 (some .int) 0 0 [.ref 10201, .int (nI n), .int (nI 0), .int (nI 8)] S R I J post := by
  refine xSpec_of mt_J1_indexOfChar_4cfef (Nat.le_of_ble_eq_true rfl) (fun G C0 hN hR E hI hZ => ?_)
  change XX G 0 0 0 [some (.ref 10201), some (.int (nI n)), some (.int (nI 0)), some (.int (nI 8)), none, none] [] S R I J
  have h7 : ∀ q k, k + q = 8 → (∀ j, j < k → ¬ xSb.getD j 0 = nI n) → XX G 0 0 7 [some (.ref 10201), some (.int (nI n)), some (.int (nI 0)), some (.int (nI 8)), some (.int (nI n)), some (.int (nI k))] [] S R I J := by
    intro q
    induction q with
    | zero =>
      intro k hk hd
      have hk8 : k = 8 := by omega
      subst hk8
      refine x_iload C0 rfl dJ1_indexOfChar_4cfef_7 ?_
      refine x_iload_n C0 rfl dJ1_indexOfChar_4cfef_9 ?_
      refine x_icmp_ge (tgt := 31) C0 (by decide) dJ1_indexOfChar_4cfef_10 (fun _ => ?_) (fun hkk => absurd ((Int32.le_refl _)) hkk)
      refine x_iconst (v := -1) C0 rfl dJ1_indexOfChar_4cfef_31 ?_
      refine x_iret C0 E (by decide) (by decide) dJ1_indexOfChar_4cfef_32 ?_
      exact hp (-1) ⟨fun _ => (sg_all n hn).mp hd, fun _ => by decide⟩
    | succ q ih =>
      intro k hk hd
      refine x_iload C0 rfl dJ1_indexOfChar_4cfef_7 ?_
      refine x_iload_n C0 rfl dJ1_indexOfChar_4cfef_9 ?_
      refine x_icmp_ge (tgt := 31) C0 (by decide) dJ1_indexOfChar_4cfef_10 (fun hkk => absurd hkk ((nI_ge (by omega) (by omega)))) (fun _ => ?_)
      refine x_aload_n C0 rfl dJ1_indexOfChar_4cfef_13 ?_
      refine x_iload C0 rfl dJ1_indexOfChar_4cfef_14 ?_
      refine x_tat C0 (by omega) dJ1_indexOfChar_4cfef_16 ?_
      refine x_iload C0 rfl dJ1_indexOfChar_4cfef_17 ?_
      refine x_icmp_ne (tgt := 25) C0 (by decide) dJ1_indexOfChar_4cfef_19 (fun g19 => ?_) (fun g19 => ?_)
      · refine x_iinc (v := nI (k + 1)) (L' := [_, _, _, _, _, _]) C0 hN rfl (by decide) (nI_inc k) rfl dJ1_indexOfChar_4cfef_25 ?_
        refine x_goto (tgt := 7) C0 (by decide) dJ1_indexOfChar_4cfef_28 ?_
        exact ih (k + 1) (by omega) (fun j hj => by
          by_cases e : j = k
          · rw [e]; exact g19
          · exact hd j (by omega))
      · refine x_iload C0 rfl dJ1_indexOfChar_4cfef_22 ?_
        refine x_iret C0 E (by decide) (by decide) dJ1_indexOfChar_4cfef_24 ?_
        exact hp (nI k) ⟨fun z => absurd z (nI_pos (by omega)), fun z => absurd g19 ((sg_all n hn).mpr z k (by omega))⟩
  refine x_iload_n C0 rfl dJ1_indexOfChar_4cfef_0 ?_
  refine x_i2b C0 dJ1_indexOfChar_4cfef_1 ?_
  refine x_topi (sg_byte n hn) ?_
  refine x_istore (L' := [_, _, _, _, _, _]) C0 hN (by decide) rfl dJ1_indexOfChar_4cfef_2 ?_
  refine x_iload_n C0 rfl dJ1_indexOfChar_4cfef_4 ?_
  refine x_istore (L' := [_, _, _, _, _, _]) C0 hN (by decide) rfl dJ1_indexOfChar_4cfef_5 ?_
  exact h7 8 0 (by decide) (fun j hj => absurd hj (by omega))
theorem c_J1_indexOf_4cfef {S : xTS} {R : xTR} {I : xTI} {J : xTJ} {post : xPost} {n : Nat} (hn : n < 128) (hp : ∀ v, (v < 0 ↔ sgB n = false) → post (some (.int v)) S R I J) : xSpec 2 yJ1_indexOf_4cfef cJ1_indexOf_4cfef 4 (some .int) 0 0 [.ref 10201, .int (nI n), .int (nI 0), .int (nI 8)] S R I J post := by
  refine xSpec_of mt_J1_indexOf_4cfef (Nat.le_of_ble_eq_true rfl) (fun G C0 hN hR E hI hZ => ?_)
  change XX G 0 0 0 [some (.ref 10201), some (.int (nI n)), some (.int (nI 0)), some (.int (nI 8))] [] S R I J
  refine x_iload_n C0 rfl dJ1_indexOf_4cfef_0 ?_
  refine x_callS [_] C0 (xRf_of hR (by decide) (Nat.zero_le _) (Nat.zero_le _)) ms_J1_canEncode_9a6ad wm_J1_88 dJ1_indexOf_4cfef_1 rfl rfl (Nat.le_of_ble_eq_true rfl) (c_J1_canEncode_9a6ad hn ?_)
  refine x_if_ne (tgt := 9) C0 (by decide) dJ1_indexOf_4cfef_4 (fun _ => ?_) (fun hkk => absurd hkk (by decide))
  refine x_iload_n C0 rfl dJ1_indexOf_4cfef_9 ?_
  refine x_iconst (v := nI 0) C0 rfl dJ1_indexOf_4cfef_10 ?_
  refine x_mmax (v := nI 0) C0 (xRf_of hR (by decide) (Nat.zero_le _) (Nat.zero_le _)) wm_J1_92 (Nat.le_of_ble_eq_true rfl) rfl dJ1_indexOf_4cfef_11 ?_
  refine x_istore_n (L' := [_, _, _, _]) C0 hN (by decide) rfl dJ1_indexOf_4cfef_14 ?_
  refine x_iload_n C0 rfl dJ1_indexOf_4cfef_15 ?_
  refine x_aload_n C0 rfl dJ1_indexOf_4cfef_16 ?_
  refine x_tlen C0 dJ1_indexOf_4cfef_17 ?_
  refine x_mmin (v := nI 8) C0 (xRf_of hR (by decide) (Nat.zero_le _) (Nat.zero_le _)) wm_J1_38 (Nat.le_of_ble_eq_true rfl) (by decide) dJ1_indexOf_4cfef_18 ?_
  refine x_istore_n (L' := [_, _, _, _]) C0 hN (by decide) rfl dJ1_indexOf_4cfef_21 ?_
  refine x_iload_n C0 rfl dJ1_indexOf_4cfef_22 ?_
  refine x_iload_n C0 rfl dJ1_indexOf_4cfef_23 ?_
  refine x_icmp_lt (tgt := 29) C0 (by decide) dJ1_indexOf_4cfef_24 (fun _ => ?_) (fun hkk => absurd ((by decide)) hkk)
  refine x_aload_n C0 rfl dJ1_indexOf_4cfef_29 ?_
  refine x_iload_n C0 rfl dJ1_indexOf_4cfef_30 ?_
  refine x_iload_n C0 rfl dJ1_indexOf_4cfef_31 ?_
  refine x_iload_n C0 rfl dJ1_indexOf_4cfef_32 ?_
  refine x_callS [_, _, _, _] C0 (xRf_of hR (by decide) (Nat.zero_le _) (Nat.zero_le _)) ms_J1_indexOfChar_4cfef wm_J1_95 dJ1_indexOf_4cfef_33 rfl rfl (Nat.le_of_ble_eq_true rfl) (c_J1_indexOfChar_4cfef hn (fun v hv => ?_))
  refine x_iret C0 E (by decide) (by decide) dJ1_indexOf_4cfef_36 ?_
  exact hp v hv
theorem c_J0_coder_7d493 {S : xTS} {R : xTR} {I : xTI} {J : xTJ} {post : xPost} (hp : post (some (.int 0)) S R I J) : xSpec 1 yJ0_coder_7d493 cJ0_coder_7d493 1 (some .byte) 0 0 [.ref 10200] S R I J post := by
  refine xSpec_of mt_J0_coder_7d493 (Nat.le_of_ble_eq_true rfl) (fun G C0 hN hR E hI hZ => ?_)
  change XX G 0 0 0 [some (.ref 10200)] [] S R I J
  refine x_compact C0 wt_compact dJ0_coder_7d493_0 ?_
  refine x_if_eq (tgt := 13) C0 (by decide) dJ0_coder_7d493_3 (fun hkk => absurd hkk (by decide)) (fun _ => ?_)
  refine x_aload_n C0 rfl dJ0_coder_7d493_6 ?_
  refine x_tcoder C0 wt_coder dJ0_coder_7d493_7 ?_
  refine x_goto (tgt := 14) C0 (by decide) dJ0_coder_7d493_10 ?_
  refine x_zret C0 E (by decide) (by decide) rfl dJ0_coder_7d493_14 ?_
  exact hp
theorem c_J0_isLatin1_aae02 {S : xTS} {R : xTR} {I : xTI} {J : xTJ} {post : xPost} (hp : post (some (.int 1)) S R I J) : xSpec 1 yJ0_isLatin1_aae02 cJ0_isLatin1_aae02 1 (some .boolean) 0 0 [.ref 10200] S R I J post := by
  refine xSpec_of mt_J0_isLatin1_aae02 (Nat.le_of_ble_eq_true rfl) (fun G C0 hN hR E hI hZ => ?_)
  change XX G 0 0 0 [some (.ref 10200)] [] S R I J
  refine x_compact C0 wt_compact dJ0_isLatin1_aae02_0 ?_
  refine x_if_eq (tgt := 17) C0 (by decide) dJ0_isLatin1_aae02_3 (fun hkk => absurd hkk (by decide)) (fun _ => ?_)
  refine x_aload_n C0 rfl dJ0_isLatin1_aae02_6 ?_
  refine x_tcoder C0 wt_coder dJ0_isLatin1_aae02_7 ?_
  refine x_if_ne (tgt := 17) C0 (by decide) dJ0_isLatin1_aae02_10 (fun hkk => absurd (by decide) hkk) (fun _ => ?_)
  refine x_iconst (v := 1) C0 rfl dJ0_isLatin1_aae02_13 ?_
  refine x_goto (tgt := 18) C0 (by decide) dJ0_isLatin1_aae02_14 ?_
  refine x_zret C0 E (by decide) (by decide) rfl dJ0_isLatin1_aae02_18 ?_
  exact hp
theorem c_J0_length_8abf5 {S : xTS} {R : xTR} {I : xTI} {J : xTJ} {post : xPost} (hp : post (some (.int (nI 8))) S R I J) : xSpec 2 yJ0_length_8abf5 cJ0_length_8abf5 1 (some .int) 0 0 [.ref 10200] S R I J post := by
  refine xSpec_of mt_J0_length_8abf5 (Nat.le_of_ble_eq_true rfl) (fun G C0 hN hR E hI hZ => ?_)
  change XX G 0 0 0 [some (.ref 10200)] [] S R I J
  refine x_aload_n C0 rfl dJ0_length_8abf5_0 ?_
  refine x_tvalue C0 wt_value dJ0_length_8abf5_1 ?_
  refine x_tlen C0 dJ0_length_8abf5_4 ?_
  refine x_aload_n C0 rfl dJ0_length_8abf5_5 ?_
  refine x_callT [] C0 (xRf_of hR (by decide) (Nat.zero_le _) (Nat.zero_le _)) mx_J0_coder_7d493 wm_J0_335 dJ0_length_8abf5_6 rfl rfl (Nat.le_of_ble_eq_true rfl) (c_J0_coder_7d493 ?_)
  refine x_ishr C0 dJ0_length_8abf5_9 ?_
  refine x_topi (show nI 8 >>> ((0 : Int32) &&& 31) = nI 8 by decide) ?_
  refine x_iret C0 E (by decide) (by decide) dJ0_length_8abf5_10 ?_
  exact hp
theorem c_J0_indexOf_7cf53 {S : xTS} {R : xTR} {I : xTI} {J : xTJ} {post : xPost} {n : Nat} (hn : n < 128) (hp : ∀ v, (v < 0 ↔ sgB n = false) → post (some (.int v)) S R I J) : xSpec 3 yJ0_indexOf_7cf53 cJ0_indexOf_7cf53 3 (some .int) 0 0 [.ref 10200, .int (nI n), .int (nI 0)] S R I J post := by
  refine xSpec_of mt_J0_indexOf_7cf53 (Nat.le_of_ble_eq_true rfl) (fun G C0 hN hR E hI hZ => ?_)
  change XX G 0 0 0 [some (.ref 10200), some (.int (nI n)), some (.int (nI 0))] [] S R I J
  refine x_aload_n C0 rfl dJ0_indexOf_7cf53_0 ?_
  refine x_callT [] C0 (xRf_of hR (by decide) (Nat.zero_le _) (Nat.zero_le _)) mx_J0_isLatin1_aae02 wm_J0_492 dJ0_indexOf_7cf53_1 rfl rfl (Nat.le_of_ble_eq_true rfl) (c_J0_isLatin1_aae02 ?_)
  refine x_if_eq (tgt := 23) C0 (by decide) dJ0_indexOf_7cf53_4 (fun hkk => absurd hkk (by decide)) (fun _ => ?_)
  refine x_aload_n C0 rfl dJ0_indexOf_7cf53_7 ?_
  refine x_tvalue C0 wt_value dJ0_indexOf_7cf53_8 ?_
  refine x_iload_n C0 rfl dJ0_indexOf_7cf53_11 ?_
  refine x_iload_n C0 rfl dJ0_indexOf_7cf53_12 ?_
  refine x_aload_n C0 rfl dJ0_indexOf_7cf53_13 ?_
  refine x_callT [] C0 (xRf_of hR (by decide) (Nat.zero_le _) (Nat.zero_le _)) mx_J0_length_8abf5 wm_J0_505 dJ0_indexOf_7cf53_14 rfl rfl (Nat.le_of_ble_eq_true rfl) (c_J0_length_8abf5 ?_)
  refine x_callS [_, _, _, _] C0 (xRf_of hR (by decide) (Nat.zero_le _) (Nat.zero_le _)) ms_J1_indexOf_4cfef wm_J0_637 dJ0_indexOf_7cf53_17 rfl rfl (Nat.le_of_ble_eq_true rfl) (c_J1_indexOf_4cfef hn (fun v hv => ?_))
  refine x_goto (tgt := 36) C0 (by decide) dJ0_indexOf_7cf53_20 ?_
  refine x_iret C0 E (by decide) (by decide) dJ0_indexOf_7cf53_36 ?_
  exact hp v hv
theorem c_J0_indexOf_0f7a4 {S : xTS} {R : xTR} {I : xTI} {J : xTJ} {post : xPost} {n : Nat} (hn : n < 128) (hp : ∀ v, (v < 0 ↔ sgB n = false) → post (some (.int v)) S R I J) : xSpec 4 yJ0_indexOf_0f7a4 cJ0_indexOf_0f7a4 2 (some .int) 0 0 [.ref 10200, .int (nI n)] S R I J post := by
  refine xSpec_of mt_J0_indexOf_0f7a4 (Nat.le_of_ble_eq_true rfl) (fun G C0 hN hR E hI hZ => ?_)
  change XX G 0 0 0 [some (.ref 10200), some (.int (nI n))] [] S R I J
  refine x_aload_n C0 rfl dJ0_indexOf_0f7a4_0 ?_
  refine x_iload_n C0 rfl dJ0_indexOf_0f7a4_1 ?_
  refine x_iconst (v := nI 0) C0 rfl dJ0_indexOf_0f7a4_2 ?_
  refine x_callT [_, _] C0 (xRf_of hR (by decide) (Nat.zero_le _) (Nat.zero_le _)) mx_J0_indexOf_7cf53 wm_J0_633 dJ0_indexOf_0f7a4_3 rfl rfl (Nat.le_of_ble_eq_true rfl) (c_J0_indexOf_7cf53 hn (fun v hv => ?_))
  refine x_iret C0 E (by decide) (by decide) dJ0_indexOf_0f7a4_6 ?_
  exact hp v hv
