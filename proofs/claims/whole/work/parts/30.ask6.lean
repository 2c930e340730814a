/-! BITS; THE QUESTIONS: end, first -/
section XRN3
variable {G : xG} {own : String} {cc : ByteArray} {ret : Option FieldType} {cells slots pc : Nat} {L : List (Option Value)} {st : List Value} {S : xTS} {R : xTR} {I : xTI} {J : xTJ} {a b : Nat}
theorem x_iushr (C0 : XC G own cc ret) {x y : Int32} (hd : decode cc pc = .ok (.iushr, 1)) (k : XX G cells slots (pc + 1) L (.int (x.toUInt32 >>> (y.toUInt32 &&& Int32.toUInt32 31)).toInt32 :: st) S R I J) : XX G cells slots pc L (.int y :: .int x :: st) S R I J := by
  obtain ⟨p, l, e, Rm, s, m, args, below, meth, c, D, cs, ad, b, nL, Q⟩ := G
  intro H locs ls hn hl hP hS
  exact lv_iushr C0.1 C0.2.1 hd rfl (k H locs ls hn hl hP hS)
theorem x_ldcw {idx : Nat} {v : Int32} (C0 : XC G own cc ret) (hw : Cond.constant own idx v ∈ xT) (hd : decode cc pc = .ok (.ldc_w idx, 3)) (kk : XX G cells slots (pc + 3) L (.int v :: st) S R I J) : XX G cells slots pc L st S R I J := by
  obtain ⟨p, l, e, Rm, s, m, args, below, meth, c, D, cs, ad, b, nL, Q⟩ := G
  intro H locs ls hn hl hP hS
  exact lv_ldcw C0.1 C0.2.1 C0.2.2.2.1 (C0.2.2.2.2.1 _ hw) hd (kk H locs ls hn hl hP hS)
end XRN3
theorem xpost_eq {S : xTS} {R : xTR} {I : xTI} {J : xTJ} {post : xPost} {a b : Int32} (h : a = b) (hp : post (some (.int b)) S R I J) : post (some (.int a)) S R I J := h ▸ hp
/-- the lowest of n bits from w on -/
def sLow (v : Int32) : Nat → Nat → Int32
  | _, 0 => -1
  | w, n + 1 => if xbit v w then nI w else sLow v (w + 1) n
def jb1 (v : Int32) : Int32 := v - (((v).toUInt32 >>> ((1 : Int32).toUInt32 &&& Int32.toUInt32 31)).toInt32 &&& 1431655765)
def jb2 (v : Int32) : Int32 := (v &&& 858993459) + (((v).toUInt32 >>> ((2 : Int32).toUInt32 &&& Int32.toUInt32 31)).toInt32 &&& 858993459)
def jb3 (v : Int32) : Int32 := (v + ((v).toUInt32 >>> ((4 : Int32).toUInt32 &&& Int32.toUInt32 31)).toInt32) &&& 252645135
def jb4 (v : Int32) : Int32 := v + ((v).toUInt32 >>> ((8 : Int32).toUInt32 &&& Int32.toUInt32 31)).toInt32
def jb5 (v : Int32) : Int32 := v + ((v).toUInt32 >>> ((16 : Int32).toUInt32 &&& Int32.toUInt32 31)).toInt32
theorem jb_bits : ∀ m, m < 256 → jb5 (jb4 (jb3 (jb2 (jb1 (nI m))))) &&& 63 = sBits (nI m) 30 := by decide +kernel
theorem c_J6_bitCount_0f7a4 {S : xTS} {R : xTR} {I : xTI} {J : xTJ} {post : xPost} {m : Nat} (hm : m < 256) (hp : post (some (.int (sBits (nI m) 30))) S R I J) : xSpec 1 yJ6_bitCount_0f7a4 cJ6_bitCount_0f7a4 1 (some .int) 0 0 [.int (nI m)] S R I J post := by
  rw [← jb_bits m hm] at hp
  refine xSpec_of mt_J6_bitCount_0f7a4 (Nat.le_of_ble_eq_true rfl) (fun G C0 hN hR E hI hZ => ?_)
  change XX G 0 0 0 [some (.int (nI m))] [] S R I J
  refine x_iload_n C0 rfl dJ6_bitCount_0f7a4_0 ?_
  refine x_iload_n C0 rfl dJ6_bitCount_0f7a4_1 ?_
  refine x_iconst (v := 1) C0 rfl dJ6_bitCount_0f7a4_2 ?_
  refine x_iushr C0 dJ6_bitCount_0f7a4_3 ?_
  refine x_ldcw C0 wl_J6_265 dJ6_bitCount_0f7a4_4 ?_
  refine x_iand C0 dJ6_bitCount_0f7a4_7 ?_
  refine x_isub C0 dJ6_bitCount_0f7a4_8 ?_
  refine x_istore_n (L' := [_]) C0 hN (by decide) rfl dJ6_bitCount_0f7a4_9 ?_
  refine x_iload_n C0 rfl dJ6_bitCount_0f7a4_10 ?_
  refine x_ldcw C0 wl_J6_266 dJ6_bitCount_0f7a4_11 ?_
  refine x_iand C0 dJ6_bitCount_0f7a4_14 ?_
  refine x_iload_n C0 rfl dJ6_bitCount_0f7a4_15 ?_
  refine x_iconst (v := 2) C0 rfl dJ6_bitCount_0f7a4_16 ?_
  refine x_iushr C0 dJ6_bitCount_0f7a4_17 ?_
  refine x_ldcw C0 wl_J6_266 dJ6_bitCount_0f7a4_18 ?_
  refine x_iand C0 dJ6_bitCount_0f7a4_21 ?_
  refine x_iadd C0 dJ6_bitCount_0f7a4_22 ?_
  refine x_istore_n (L' := [_]) C0 hN (by decide) rfl dJ6_bitCount_0f7a4_23 ?_
  refine x_iload_n C0 rfl dJ6_bitCount_0f7a4_24 ?_
  refine x_iload_n C0 rfl dJ6_bitCount_0f7a4_25 ?_
  refine x_iconst (v := 4) C0 rfl dJ6_bitCount_0f7a4_26 ?_
  refine x_iushr C0 dJ6_bitCount_0f7a4_27 ?_
  refine x_iadd C0 dJ6_bitCount_0f7a4_28 ?_
  refine x_ldcw C0 wl_J6_267 dJ6_bitCount_0f7a4_29 ?_
  refine x_iand C0 dJ6_bitCount_0f7a4_32 ?_
  refine x_istore_n (L' := [_]) C0 hN (by decide) rfl dJ6_bitCount_0f7a4_33 ?_
  refine x_iload_n C0 rfl dJ6_bitCount_0f7a4_34 ?_
  refine x_iload_n C0 rfl dJ6_bitCount_0f7a4_35 ?_
  refine x_bipush (v := 8) C0 rfl dJ6_bitCount_0f7a4_36 ?_
  refine x_iushr C0 dJ6_bitCount_0f7a4_38 ?_
  refine x_iadd C0 dJ6_bitCount_0f7a4_39 ?_
  refine x_istore_n (L' := [_]) C0 hN (by decide) rfl dJ6_bitCount_0f7a4_40 ?_
  refine x_iload_n C0 rfl dJ6_bitCount_0f7a4_41 ?_
  refine x_iload_n C0 rfl dJ6_bitCount_0f7a4_42 ?_
  refine x_bipush (v := 16) C0 rfl dJ6_bitCount_0f7a4_43 ?_
  refine x_iushr C0 dJ6_bitCount_0f7a4_45 ?_
  refine x_iadd C0 dJ6_bitCount_0f7a4_46 ?_
  refine x_istore_n (L' := [_]) C0 hN (by decide) rfl dJ6_bitCount_0f7a4_47 ?_
  refine x_iload_n C0 rfl dJ6_bitCount_0f7a4_48 ?_
  refine x_bipush (v := 63) C0 rfl dJ6_bitCount_0f7a4_49 ?_
  refine x_iand C0 dJ6_bitCount_0f7a4_51 ?_
  refine x_iret C0 E (by decide) (by decide) dJ6_bitCount_0f7a4_52 ?_
  exact hp
theorem jz_bits : ∀ m, m < 64 → ¬ m = 0 → ((nI m ^^^ (-1)) &&& (nI m - 1) = 0 ∧ sLow (nI m) 0 6 = 0) ∨ ((nI m ^^^ (-1)) &&& (nI m - 1) = 1 ∧ sLow (nI m) 0 6 = 1) ∨ ((nI m ^^^ (-1)) &&& (nI m - 1) = 3 ∧ sLow (nI m) 0 6 = 2) ∨ ((nI m ^^^ (-1)) &&& (nI m - 1) = 7 ∧ sLow (nI m) 0 6 = 3) ∨ ((nI m ^^^ (-1)) &&& (nI m - 1) = 15 ∧ sLow (nI m) 0 6 = 4) ∨ ((nI m ^^^ (-1)) &&& (nI m - 1) = 31 ∧ sLow (nI m) 0 6 = 5) := by decide +kernel
theorem c_J6_numberOfTrailingZeros_0f7a4 {S : xTS} {R : xTR} {I : xTI} {J : xTJ} {post : xPost} (m : Nat) (hm : m < 64) (hm0 : ¬ m = 0) (hp : post (some (.int (sLow (nI m) 0 6))) S R I J) : xSpec 1 yJ6_numberOfTrailingZeros_0f7a4 cJ6_numberOfTrailingZeros_0f7a4 2 (some .int) 0 0 [.int (nI m)] S R I J post := by
  refine xSpec_of mt_J6_numberOfTrailingZeros_0f7a4 (Nat.le_of_ble_eq_true rfl) (fun G C0 hN hR E hI hZ => ?_)
  change XX G 0 0 0 [some (.int (nI m)), none] [] S R I J
  rcases jz_bits m hm hm0 with ⟨ez, es⟩ | ⟨ez, es⟩ | ⟨ez, es⟩ | ⟨ez, es⟩ | ⟨ez, es⟩ | ⟨ez, es⟩
  · refine x_iload_n C0 rfl dJ6_numberOfTrailingZeros_0f7a4_0 ?_
    refine x_iconst (v := -1) C0 rfl dJ6_numberOfTrailingZeros_0f7a4_1 ?_
    refine x_ixor C0 dJ6_numberOfTrailingZeros_0f7a4_2 ?_
    refine x_iload_n C0 rfl dJ6_numberOfTrailingZeros_0f7a4_3 ?_
    refine x_iconst (v := 1) C0 rfl dJ6_numberOfTrailingZeros_0f7a4_4 ?_
    refine x_isub C0 dJ6_numberOfTrailingZeros_0f7a4_5 ?_
    refine x_iand C0 dJ6_numberOfTrailingZeros_0f7a4_6 ?_
    refine x_topi ez ?_
    refine x_istore_n (L' := [_, _]) C0 hN (by decide) rfl dJ6_numberOfTrailingZeros_0f7a4_7 ?_
    refine x_iload_n C0 rfl dJ6_numberOfTrailingZeros_0f7a4_8 ?_
    refine x_if_gt (tgt := 17) C0 (by decide) dJ6_numberOfTrailingZeros_0f7a4_9 (fun hkk => absurd hkk (by decide)) (fun _ => ?_)
    refine x_iload_n C0 rfl dJ6_numberOfTrailingZeros_0f7a4_12 ?_
    refine x_bipush (v := 32) C0 rfl dJ6_numberOfTrailingZeros_0f7a4_13 ?_
    refine x_iand C0 dJ6_numberOfTrailingZeros_0f7a4_15 ?_
    refine x_iret C0 E (by decide) (by decide) dJ6_numberOfTrailingZeros_0f7a4_16 ?_
    rw [es] at hp
    exact hp
  · refine x_iload_n C0 rfl dJ6_numberOfTrailingZeros_0f7a4_0 ?_
    refine x_iconst (v := -1) C0 rfl dJ6_numberOfTrailingZeros_0f7a4_1 ?_
    refine x_ixor C0 dJ6_numberOfTrailingZeros_0f7a4_2 ?_
    refine x_iload_n C0 rfl dJ6_numberOfTrailingZeros_0f7a4_3 ?_
    refine x_iconst (v := 1) C0 rfl dJ6_numberOfTrailingZeros_0f7a4_4 ?_
    refine x_isub C0 dJ6_numberOfTrailingZeros_0f7a4_5 ?_
    refine x_iand C0 dJ6_numberOfTrailingZeros_0f7a4_6 ?_
    refine x_topi ez ?_
    refine x_istore_n (L' := [_, _]) C0 hN (by decide) rfl dJ6_numberOfTrailingZeros_0f7a4_7 ?_
    refine x_iload_n C0 rfl dJ6_numberOfTrailingZeros_0f7a4_8 ?_
    refine x_if_gt (tgt := 17) C0 (by decide) dJ6_numberOfTrailingZeros_0f7a4_9 (fun _ => ?_) (fun hkk => absurd (by decide) hkk)
    refine x_iconst (v := 1) C0 rfl dJ6_numberOfTrailingZeros_0f7a4_17 ?_
    refine x_istore_n (L' := [_, _]) C0 hN (by decide) rfl dJ6_numberOfTrailingZeros_0f7a4_18 ?_
    refine x_iload_n C0 rfl dJ6_numberOfTrailingZeros_0f7a4_19 ?_
    refine x_ldcw C0 wl_J6_264 dJ6_numberOfTrailingZeros_0f7a4_20 ?_
    refine x_icmp_le (tgt := 34) C0 (by decide) dJ6_numberOfTrailingZeros_0f7a4_23 (fun _ => ?_) (fun hkk => absurd (by decide) hkk)
    refine x_iload_n C0 rfl dJ6_numberOfTrailingZeros_0f7a4_34 ?_
    refine x_sipush (v := 256) C0 rfl dJ6_numberOfTrailingZeros_0f7a4_35 ?_
    refine x_icmp_le (tgt := 49) C0 (by decide) dJ6_numberOfTrailingZeros_0f7a4_38 (fun _ => ?_) (fun hkk => absurd (by decide) hkk)
    refine x_iload_n C0 rfl dJ6_numberOfTrailingZeros_0f7a4_49 ?_
    refine x_bipush (v := 16) C0 rfl dJ6_numberOfTrailingZeros_0f7a4_50 ?_
    refine x_icmp_le (tgt := 62) C0 (by decide) dJ6_numberOfTrailingZeros_0f7a4_52 (fun _ => ?_) (fun hkk => absurd (by decide) hkk)
    refine x_iload_n C0 rfl dJ6_numberOfTrailingZeros_0f7a4_62 ?_
    refine x_iconst (v := 4) C0 rfl dJ6_numberOfTrailingZeros_0f7a4_63 ?_
    refine x_icmp_le (tgt := 74) C0 (by decide) dJ6_numberOfTrailingZeros_0f7a4_64 (fun _ => ?_) (fun hkk => absurd (by decide) hkk)
    refine x_iload_n C0 rfl dJ6_numberOfTrailingZeros_0f7a4_74 ?_
    refine x_iload_n C0 rfl dJ6_numberOfTrailingZeros_0f7a4_75 ?_
    refine x_iconst (v := 1) C0 rfl dJ6_numberOfTrailingZeros_0f7a4_76 ?_
    refine x_iushr C0 dJ6_numberOfTrailingZeros_0f7a4_77 ?_
    refine x_iadd C0 dJ6_numberOfTrailingZeros_0f7a4_78 ?_
    refine x_iret C0 E (by decide) (by decide) dJ6_numberOfTrailingZeros_0f7a4_79 ?_
    rw [es] at hp
    exact hp
  · refine x_iload_n C0 rfl dJ6_numberOfTrailingZeros_0f7a4_0 ?_
    refine x_iconst (v := -1) C0 rfl dJ6_numberOfTrailingZeros_0f7a4_1 ?_
    refine x_ixor C0 dJ6_numberOfTrailingZeros_0f7a4_2 ?_
    refine x_iload_n C0 rfl dJ6_numberOfTrailingZeros_0f7a4_3 ?_
    refine x_iconst (v := 1) C0 rfl dJ6_numberOfTrailingZeros_0f7a4_4 ?_
    refine x_isub C0 dJ6_numberOfTrailingZeros_0f7a4_5 ?_
    refine x_iand C0 dJ6_numberOfTrailingZeros_0f7a4_6 ?_
    refine x_topi ez ?_
    refine x_istore_n (L' := [_, _]) C0 hN (by decide) rfl dJ6_numberOfTrailingZeros_0f7a4_7 ?_
    refine x_iload_n C0 rfl dJ6_numberOfTrailingZeros_0f7a4_8 ?_
    refine x_if_gt (tgt := 17) C0 (by decide) dJ6_numberOfTrailingZeros_0f7a4_9 (fun _ => ?_) (fun hkk => absurd (by decide) hkk)
    refine x_iconst (v := 1) C0 rfl dJ6_numberOfTrailingZeros_0f7a4_17 ?_
    refine x_istore_n (L' := [_, _]) C0 hN (by decide) rfl dJ6_numberOfTrailingZeros_0f7a4_18 ?_
    refine x_iload_n C0 rfl dJ6_numberOfTrailingZeros_0f7a4_19 ?_
    refine x_ldcw C0 wl_J6_264 dJ6_numberOfTrailingZeros_0f7a4_20 ?_
    refine x_icmp_le (tgt := 34) C0 (by decide) dJ6_numberOfTrailingZeros_0f7a4_23 (fun _ => ?_) (fun hkk => absurd (by decide) hkk)
    refine x_iload_n C0 rfl dJ6_numberOfTrailingZeros_0f7a4_34 ?_
    refine x_sipush (v := 256) C0 rfl dJ6_numberOfTrailingZeros_0f7a4_35 ?_
    refine x_icmp_le (tgt := 49) C0 (by decide) dJ6_numberOfTrailingZeros_0f7a4_38 (fun _ => ?_) (fun hkk => absurd (by decide) hkk)
    refine x_iload_n C0 rfl dJ6_numberOfTrailingZeros_0f7a4_49 ?_
    refine x_bipush (v := 16) C0 rfl dJ6_numberOfTrailingZeros_0f7a4_50 ?_
    refine x_icmp_le (tgt := 62) C0 (by decide) dJ6_numberOfTrailingZeros_0f7a4_52 (fun _ => ?_) (fun hkk => absurd (by decide) hkk)
    refine x_iload_n C0 rfl dJ6_numberOfTrailingZeros_0f7a4_62 ?_
    refine x_iconst (v := 4) C0 rfl dJ6_numberOfTrailingZeros_0f7a4_63 ?_
    refine x_icmp_le (tgt := 74) C0 (by decide) dJ6_numberOfTrailingZeros_0f7a4_64 (fun _ => ?_) (fun hkk => absurd (by decide) hkk)
    refine x_iload_n C0 rfl dJ6_numberOfTrailingZeros_0f7a4_74 ?_
    refine x_iload_n C0 rfl dJ6_numberOfTrailingZeros_0f7a4_75 ?_
    refine x_iconst (v := 1) C0 rfl dJ6_numberOfTrailingZeros_0f7a4_76 ?_
    refine x_iushr C0 dJ6_numberOfTrailingZeros_0f7a4_77 ?_
    refine x_iadd C0 dJ6_numberOfTrailingZeros_0f7a4_78 ?_
    refine x_iret C0 E (by decide) (by decide) dJ6_numberOfTrailingZeros_0f7a4_79 ?_
    rw [es] at hp
    exact hp
  · refine x_iload_n C0 rfl dJ6_numberOfTrailingZeros_0f7a4_0 ?_
    refine x_iconst (v := -1) C0 rfl dJ6_numberOfTrailingZeros_0f7a4_1 ?_
    refine x_ixor C0 dJ6_numberOfTrailingZeros_0f7a4_2 ?_
    refine x_iload_n C0 rfl dJ6_numberOfTrailingZeros_0f7a4_3 ?_
    refine x_iconst (v := 1) C0 rfl dJ6_numberOfTrailingZeros_0f7a4_4 ?_
    refine x_isub C0 dJ6_numberOfTrailingZeros_0f7a4_5 ?_
    refine x_iand C0 dJ6_numberOfTrailingZeros_0f7a4_6 ?_
    refine x_topi ez ?_
    refine x_istore_n (L' := [_, _]) C0 hN (by decide) rfl dJ6_numberOfTrailingZeros_0f7a4_7 ?_
    refine x_iload_n C0 rfl dJ6_numberOfTrailingZeros_0f7a4_8 ?_
    refine x_if_gt (tgt := 17) C0 (by decide) dJ6_numberOfTrailingZeros_0f7a4_9 (fun _ => ?_) (fun hkk => absurd (by decide) hkk)
    refine x_iconst (v := 1) C0 rfl dJ6_numberOfTrailingZeros_0f7a4_17 ?_
    refine x_istore_n (L' := [_, _]) C0 hN (by decide) rfl dJ6_numberOfTrailingZeros_0f7a4_18 ?_
    refine x_iload_n C0 rfl dJ6_numberOfTrailingZeros_0f7a4_19 ?_
    refine x_ldcw C0 wl_J6_264 dJ6_numberOfTrailingZeros_0f7a4_20 ?_
    refine x_icmp_le (tgt := 34) C0 (by decide) dJ6_numberOfTrailingZeros_0f7a4_23 (fun _ => ?_) (fun hkk => absurd (by decide) hkk)
    refine x_iload_n C0 rfl dJ6_numberOfTrailingZeros_0f7a4_34 ?_
    refine x_sipush (v := 256) C0 rfl dJ6_numberOfTrailingZeros_0f7a4_35 ?_
    refine x_icmp_le (tgt := 49) C0 (by decide) dJ6_numberOfTrailingZeros_0f7a4_38 (fun _ => ?_) (fun hkk => absurd (by decide) hkk)
    refine x_iload_n C0 rfl dJ6_numberOfTrailingZeros_0f7a4_49 ?_
    refine x_bipush (v := 16) C0 rfl dJ6_numberOfTrailingZeros_0f7a4_50 ?_
    refine x_icmp_le (tgt := 62) C0 (by decide) dJ6_numberOfTrailingZeros_0f7a4_52 (fun _ => ?_) (fun hkk => absurd (by decide) hkk)
    refine x_iload_n C0 rfl dJ6_numberOfTrailingZeros_0f7a4_62 ?_
    refine x_iconst (v := 4) C0 rfl dJ6_numberOfTrailingZeros_0f7a4_63 ?_
    refine x_icmp_le (tgt := 74) C0 (by decide) dJ6_numberOfTrailingZeros_0f7a4_64 (fun hkk => absurd hkk (by decide)) (fun _ => ?_)
    refine x_iinc (L' := [_, _]) C0 hN rfl (by decide) rfl rfl dJ6_numberOfTrailingZeros_0f7a4_67 ?_
    refine x_iload_n C0 rfl dJ6_numberOfTrailingZeros_0f7a4_70 ?_
    refine x_iconst (v := 2) C0 rfl dJ6_numberOfTrailingZeros_0f7a4_71 ?_
    refine x_iushr C0 dJ6_numberOfTrailingZeros_0f7a4_72 ?_
    refine x_istore_n (L' := [_, _]) C0 hN (by decide) rfl dJ6_numberOfTrailingZeros_0f7a4_73 ?_
    refine x_iload_n C0 rfl dJ6_numberOfTrailingZeros_0f7a4_74 ?_
    refine x_iload_n C0 rfl dJ6_numberOfTrailingZeros_0f7a4_75 ?_
    refine x_iconst (v := 1) C0 rfl dJ6_numberOfTrailingZeros_0f7a4_76 ?_
    refine x_iushr C0 dJ6_numberOfTrailingZeros_0f7a4_77 ?_
    refine x_iadd C0 dJ6_numberOfTrailingZeros_0f7a4_78 ?_
    refine x_iret C0 E (by decide) (by decide) dJ6_numberOfTrailingZeros_0f7a4_79 ?_
    rw [es] at hp
    exact hp
  · refine x_iload_n C0 rfl dJ6_numberOfTrailingZeros_0f7a4_0 ?_
    refine x_iconst (v := -1) C0 rfl dJ6_numberOfTrailingZeros_0f7a4_1 ?_
    refine x_ixor C0 dJ6_numberOfTrailingZeros_0f7a4_2 ?_
    refine x_iload_n C0 rfl dJ6_numberOfTrailingZeros_0f7a4_3 ?_
    refine x_iconst (v := 1) C0 rfl dJ6_numberOfTrailingZeros_0f7a4_4 ?_
    refine x_isub C0 dJ6_numberOfTrailingZeros_0f7a4_5 ?_
    refine x_iand C0 dJ6_numberOfTrailingZeros_0f7a4_6 ?_
    refine x_topi ez ?_
    refine x_istore_n (L' := [_, _]) C0 hN (by decide) rfl dJ6_numberOfTrailingZeros_0f7a4_7 ?_
    refine x_iload_n C0 rfl dJ6_numberOfTrailingZeros_0f7a4_8 ?_
    refine x_if_gt (tgt := 17) C0 (by decide) dJ6_numberOfTrailingZeros_0f7a4_9 (fun _ => ?_) (fun hkk => absurd (by decide) hkk)
    refine x_iconst (v := 1) C0 rfl dJ6_numberOfTrailingZeros_0f7a4_17 ?_
    refine x_istore_n (L' := [_, _]) C0 hN (by decide) rfl dJ6_numberOfTrailingZeros_0f7a4_18 ?_
    refine x_iload_n C0 rfl dJ6_numberOfTrailingZeros_0f7a4_19 ?_
    refine x_ldcw C0 wl_J6_264 dJ6_numberOfTrailingZeros_0f7a4_20 ?_
    refine x_icmp_le (tgt := 34) C0 (by decide) dJ6_numberOfTrailingZeros_0f7a4_23 (fun _ => ?_) (fun hkk => absurd (by decide) hkk)
    refine x_iload_n C0 rfl dJ6_numberOfTrailingZeros_0f7a4_34 ?_
    refine x_sipush (v := 256) C0 rfl dJ6_numberOfTrailingZeros_0f7a4_35 ?_
    refine x_icmp_le (tgt := 49) C0 (by decide) dJ6_numberOfTrailingZeros_0f7a4_38 (fun _ => ?_) (fun hkk => absurd (by decide) hkk)
    refine x_iload_n C0 rfl dJ6_numberOfTrailingZeros_0f7a4_49 ?_
    refine x_bipush (v := 16) C0 rfl dJ6_numberOfTrailingZeros_0f7a4_50 ?_
    refine x_icmp_le (tgt := 62) C0 (by decide) dJ6_numberOfTrailingZeros_0f7a4_52 (fun _ => ?_) (fun hkk => absurd (by decide) hkk)
    refine x_iload_n C0 rfl dJ6_numberOfTrailingZeros_0f7a4_62 ?_
    refine x_iconst (v := 4) C0 rfl dJ6_numberOfTrailingZeros_0f7a4_63 ?_
    refine x_icmp_le (tgt := 74) C0 (by decide) dJ6_numberOfTrailingZeros_0f7a4_64 (fun hkk => absurd hkk (by decide)) (fun _ => ?_)
    refine x_iinc (L' := [_, _]) C0 hN rfl (by decide) rfl rfl dJ6_numberOfTrailingZeros_0f7a4_67 ?_
    refine x_iload_n C0 rfl dJ6_numberOfTrailingZeros_0f7a4_70 ?_
    refine x_iconst (v := 2) C0 rfl dJ6_numberOfTrailingZeros_0f7a4_71 ?_
    refine x_iushr C0 dJ6_numberOfTrailingZeros_0f7a4_72 ?_
    refine x_istore_n (L' := [_, _]) C0 hN (by decide) rfl dJ6_numberOfTrailingZeros_0f7a4_73 ?_
    refine x_iload_n C0 rfl dJ6_numberOfTrailingZeros_0f7a4_74 ?_
    refine x_iload_n C0 rfl dJ6_numberOfTrailingZeros_0f7a4_75 ?_
    refine x_iconst (v := 1) C0 rfl dJ6_numberOfTrailingZeros_0f7a4_76 ?_
    refine x_iushr C0 dJ6_numberOfTrailingZeros_0f7a4_77 ?_
    refine x_iadd C0 dJ6_numberOfTrailingZeros_0f7a4_78 ?_
    refine x_iret C0 E (by decide) (by decide) dJ6_numberOfTrailingZeros_0f7a4_79 ?_
    rw [es] at hp
    exact hp
  · refine x_iload_n C0 rfl dJ6_numberOfTrailingZeros_0f7a4_0 ?_
    refine x_iconst (v := -1) C0 rfl dJ6_numberOfTrailingZeros_0f7a4_1 ?_
    refine x_ixor C0 dJ6_numberOfTrailingZeros_0f7a4_2 ?_
    refine x_iload_n C0 rfl dJ6_numberOfTrailingZeros_0f7a4_3 ?_
    refine x_iconst (v := 1) C0 rfl dJ6_numberOfTrailingZeros_0f7a4_4 ?_
    refine x_isub C0 dJ6_numberOfTrailingZeros_0f7a4_5 ?_
    refine x_iand C0 dJ6_numberOfTrailingZeros_0f7a4_6 ?_
    refine x_topi ez ?_
    refine x_istore_n (L' := [_, _]) C0 hN (by decide) rfl dJ6_numberOfTrailingZeros_0f7a4_7 ?_
    refine x_iload_n C0 rfl dJ6_numberOfTrailingZeros_0f7a4_8 ?_
    refine x_if_gt (tgt := 17) C0 (by decide) dJ6_numberOfTrailingZeros_0f7a4_9 (fun _ => ?_) (fun hkk => absurd (by decide) hkk)
    refine x_iconst (v := 1) C0 rfl dJ6_numberOfTrailingZeros_0f7a4_17 ?_
    refine x_istore_n (L' := [_, _]) C0 hN (by decide) rfl dJ6_numberOfTrailingZeros_0f7a4_18 ?_
    refine x_iload_n C0 rfl dJ6_numberOfTrailingZeros_0f7a4_19 ?_
    refine x_ldcw C0 wl_J6_264 dJ6_numberOfTrailingZeros_0f7a4_20 ?_
    refine x_icmp_le (tgt := 34) C0 (by decide) dJ6_numberOfTrailingZeros_0f7a4_23 (fun _ => ?_) (fun hkk => absurd (by decide) hkk)
    refine x_iload_n C0 rfl dJ6_numberOfTrailingZeros_0f7a4_34 ?_
    refine x_sipush (v := 256) C0 rfl dJ6_numberOfTrailingZeros_0f7a4_35 ?_
    refine x_icmp_le (tgt := 49) C0 (by decide) dJ6_numberOfTrailingZeros_0f7a4_38 (fun _ => ?_) (fun hkk => absurd (by decide) hkk)
    refine x_iload_n C0 rfl dJ6_numberOfTrailingZeros_0f7a4_49 ?_
    refine x_bipush (v := 16) C0 rfl dJ6_numberOfTrailingZeros_0f7a4_50 ?_
    refine x_icmp_le (tgt := 62) C0 (by decide) dJ6_numberOfTrailingZeros_0f7a4_52 (fun hkk => absurd hkk (by decide)) (fun _ => ?_)
    refine x_iinc (L' := [_, _]) C0 hN rfl (by decide) rfl rfl dJ6_numberOfTrailingZeros_0f7a4_55 ?_
    refine x_iload_n C0 rfl dJ6_numberOfTrailingZeros_0f7a4_58 ?_
    refine x_iconst (v := 4) C0 rfl dJ6_numberOfTrailingZeros_0f7a4_59 ?_
    refine x_iushr C0 dJ6_numberOfTrailingZeros_0f7a4_60 ?_
    refine x_istore_n (L' := [_, _]) C0 hN (by decide) rfl dJ6_numberOfTrailingZeros_0f7a4_61 ?_
    refine x_iload_n C0 rfl dJ6_numberOfTrailingZeros_0f7a4_62 ?_
    refine x_iconst (v := 4) C0 rfl dJ6_numberOfTrailingZeros_0f7a4_63 ?_
    refine x_icmp_le (tgt := 74) C0 (by decide) dJ6_numberOfTrailingZeros_0f7a4_64 (fun _ => ?_) (fun hkk => absurd (by decide) hkk)
    refine x_iload_n C0 rfl dJ6_numberOfTrailingZeros_0f7a4_74 ?_
    refine x_iload_n C0 rfl dJ6_numberOfTrailingZeros_0f7a4_75 ?_
    refine x_iconst (v := 1) C0 rfl dJ6_numberOfTrailingZeros_0f7a4_76 ?_
    refine x_iushr C0 dJ6_numberOfTrailingZeros_0f7a4_77 ?_
    refine x_iadd C0 dJ6_numberOfTrailingZeros_0f7a4_78 ?_
    refine x_iret C0 E (by decide) (by decide) dJ6_numberOfTrailingZeros_0f7a4_79 ?_
    rw [es] at hp
    exact hp
theorem or_bit : ∀ w, w < 6 → ∀ m, m < 2 ^ w → nI m ||| ((1 : Int32) <<< (nI w &&& 31)) = nI (m + 2 ^ w) := by decide +kernel
theorem sAll_mask {fl x : xRow} {dq : xDq} {k cl : Nat} : ∀ w, w ≤ 6 → ∃ m, m < 2 ^ w ∧ (sAll fl dq k cl x w).2 = nI m
  | 0, _ => ⟨0, by decide, rfl⟩
  | w + 1, h => by
    obtain ⟨m, hm, e⟩ := sAll_mask (fl := fl) (x := x) (dq := dq) (k := k) (cl := cl) w (by omega)
    unfold sAll
    split
    · dsimp only
      split
      · exact ⟨m + 2 ^ w, by rw [Nat.pow_succ]; omega, by rw [e]; exact or_bit w (by omega) m hm⟩
      · exact ⟨m, by rw [Nat.pow_succ]; omega, e⟩
    · exact ⟨m, by rw [Nat.pow_succ]; omega, e⟩
theorem mask_pos : ∀ m, m < 64 → (nI m ≤ 0 ↔ m = 0) := by decide +kernel
theorem low_V : ∀ V, V ≤ 6 → ∀ m, m < 2 ^ V → ¬ m = 0 → sLow (nI m) 0 6 = sLow (nI m) 0 V := by decide +kernel
theorem low_none : ∀ V, V ≤ 6 → ∀ m, m < 2 ^ V → sLow (nI m) 0 V = -1 → m = 0 := by decide +kernel
/-- the first who walks out, and where -/
def sFirst (fl : xRow) (dq : xDq) (V : Nat) (c : Int32) : Nat → Nat → xRow → Int32
  | 0, _, _ => -1
  | n + 1, k, x => if (sShowK fl dq k V x).2 = 0 then sFirst fl dq V c n (k + 1) (sShowK fl dq k V x).1 else if c = 0 then sLow (sShowK fl dq k V x).2 0 V else nI k
def aFirst (fl : xRow) (dq : xDq) (x : xRow) (V N : Nat) (c : Int32) : Int32 := if 0 ≤ c ∧ c ≤ 1 then sFirst fl dq V c (N - (x 0).toNatClampNeg) (x 0).toNatClampNeg x else -1
def aEnd (fl : xRow) (dq : xDq) (x : xRow) (V N : Nat) (i j : Int32) : Int32 := if (0 ≤ i ∧ i < fl 2) ∧ (0 ≤ j ∧ j < fl 0) then sEnd fl dq V (N - (x 0).toNatClampNeg) (x 0).toNatClampNeg x (20 + 6 * i.toNatClampNeg + j.toNatClampNeg) else -2
theorem c_X11_end {S : xTS} {R : xTR} {I : xTI} {J : xTJ} {post : xPost} {f T N V : Nat} {fl x : xRow} {lw : Option (List (Nat × Nat))} (hS : fixd S R) (hf : R 0 2 = some f) (C : FCore I f fl lw T N V x) {i j : Int32} (hp : ∀ I', FQ I I' → post (some (.int (aEnd fl (sDq fl lw) x V N i j))) S R I' J) : xSpec 6 yX11_end cX11_end 3 (some .int) 0 0 [.ref 0, .int i, .int j] S R I J post := by
  refine xSpec_of mt_X11_end (Nat.le_of_ble_eq_true rfl) (fun G C0 hN hR E hI hZ => ?_)
  change XX G 0 0 0 [some (.ref 0), some (.int i), some (.int j)] [] S R I J
  obtain ⟨hfm, wl, rF, rH, wx⟩ := id C
  have hF := hS.film hfm
  have hH := hS.hall (q := 33) (by decide)
  have hT6 := wl.2.1
  have hN8 := wl.2.2.2.1
  have hV6 := wl.2.2.2.2.2.1
  have eT : I f 0 = nI T := rF.1.trans wl.1
  have eN : I f 1 = nI N := rF.2.1.trans wl.2.2.1
  have eV : I f 2 = nI V := rF.2.2.1.trans wl.2.2.2.2.1
  have hfh : ∀ i j, i < 9 → j < 4 → f + i ≠ 33 + j := fun i j hi hj => hf_apart 33 (by decide) f hfm i hi j hj
  obtain ⟨fs0, fs1, fs2, fs3, fs4, fs5, fs6, fs7, fs8, fr4, fr5, fr6, fr7, fr8, fr9, fr10, fr11⟩ := id hF
  obtain ⟨hs0, hs1, hs2, hs3, hr4, hr5, hr6⟩ := id hH
  unfold aEnd at hp
  rw [← rF.2.2.1, ← rF.1] at hp
  have hT := hS.hall (q := 37) (by decide)
  obtain ⟨hq0, hq1, hq2, hq3, -⟩ := id hT
  have hf37 : ∀ i j, i < 9 → j < 4 → f + i ≠ 37 + j := fun i j hi hj => hf_apart 37 (by decide) f hfm i hi j hj
  have h3733 : ∀ i j, i < 4 → j < 4 → 37 + i ≠ 33 + j := fun i j hi hj => hh_apart 37 (by decide) 33 (by decide) (by decide) i hi j hj
  have rT : RHall (uhall I 37 33) 37 x N := uhall_hall h3733 hN8 rH
  refine x_aload_n C0 rfl dX11_end_0 ?_
  refine x_getR C0 wf_X11_26 (fixd.k0 hS) rfl rfl hf dX11_end_1 ?_
  refine x_iload_n C0 rfl dX11_end_4 ?_
  refine x_iload_n C0 rfl dX11_end_5 ?_
  refine x_callV [_, _] C0 hN rfl (xRf_of hR (by decide) (Nat.zero_le _) (Nat.zero_le _)) mv_X2_hasView wm_X11_168 dX11_end_6 (by assumption) rfl rfl (Nat.le_of_ble_eq_true rfl) (c_X2_hasView (by assumption) (fun g6 => ?_) (fun g6 => ?_))
  · refine x_if_ne (tgt := 15) C0 (by decide) dX11_end_9 (fun _ => ?_) (fun hkk => absurd hkk (by decide))
    obtain ⟨a, ha, ea⟩ := nI_ofi' eV (by omega) g6.1
    obtain ⟨b, hb, eb⟩ := nI_ofi' eT (by omega) g6.2
    rw [if_pos g6] at hp
    subst ea
    subst eb
    rw [nI_clamp (by omega), nI_clamp (by omega)] at hp
    refine x_aload_n C0 rfl dX11_end_15 ?_
    refine x_getR C0 wf_X11_50 (fixd.k0 hS) rfl rfl (fixd.trial hS) dX11_end_16 ?_
    refine x_aload_n C0 rfl dX11_end_19 ?_
    refine x_getR C0 wf_X11_46 (fixd.k0 hS) rfl rfl (fixd.now hS) dX11_end_20 ?_
    refine x_callV [_] C0 hN rfl (xRf_of hR (by decide) (Nat.zero_le _) (Nat.zero_le _)) mv_X3_copy wm_X11_176 dX11_end_23 (by assumption) rfl rfl (Nat.le_of_ble_eq_true rfl) (c_X3_copy hT hH h3733 ?_)
    refine x_aload_n C0 rfl dX11_end_26 ?_
    refine x_getR C0 wf_X11_26 (fixd.k0 hS) rfl rfl hf dX11_end_27 ?_
    refine x_aload_n C0 rfl dX11_end_30 ?_
    refine x_getR C0 wf_X11_50 (fixd.k0 hS) rfl rfl (fixd.trial hS) dX11_end_31 ?_
    refine x_callV [_] C0 hN rfl (xRf_of hR (by decide) (Nat.zero_le _) (Nat.zero_le _)) mv_X2_finish wm_X11_236 dX11_end_34 (by assumption) rfl rfl (Nat.le_of_ble_eq_true rfl) (c_X2_finish hF hT hf37 wl wx (C.fq FQ.copy).2.2.1 rT (fun k I2 hkN hx0 s2 r2 => ?_))
    refine x_aload_n C0 rfl dX11_end_37 ?_
    refine x_getR C0 wf_X11_50 (fixd.k0 hS) rfl rfl (fixd.trial hS) dX11_end_38 ?_
    refine x_iload_n C0 rfl dX11_end_41 ?_
    refine x_iload_n C0 rfl dX11_end_42 ?_
    refine x_callV [_, _] C0 hN rfl (xRf_of hR (by decide) (Nat.zero_le _) (Nat.zero_le _)) mv_X3_thought wm_X11_172 dX11_end_43 (by assumption) rfl rfl (Nat.le_of_ble_eq_true rfl) (c_X3_thought hT (by omega) (by omega) ?_)
    refine x_iret C0 E (by decide) (by decide) dX11_end_46 ?_
    rw [hx0, nI_clamp (by omega)] at hp
    rw [th_at r2 (by omega) (by omega)]
    exact hp I2 (FQ.copy.trans (FQ.hall s2))
  · refine x_if_ne (tgt := 15) C0 (by decide) dX11_end_9 (fun hkk => absurd (by decide) hkk) (fun _ => ?_)
    refine x_bipush (v := -2) C0 rfl dX11_end_12 ?_
    refine x_iret C0 E (by decide) (by decide) dX11_end_14 ?_
    rw [if_neg g6] at hp
    exact hp I FQ.rf
theorem c_X12_end {S : xTS} {R : xTR} {I : xTI} {J : xTJ} {post : xPost} {T N V : Nat} {fl x : xRow} {lw : Option (List (Nat × Nat))} (hM : isModel S R) (C : MCore I fl lw T N V x) {i j : Int32} (hp : ∀ I', MQs I I' → post (some (.int (aEnd fl (sDq fl lw) x V N i j))) S R I' J) : xSpec 7 yX12_end cX12_end 3 (some .int) 0 0 [.ref 135, .int i, .int j] S R I J post := by
  refine xSpec_of mt_X12_end (Nat.le_of_ble_eq_true rfl) (fun G C0 hN hR E hI hZ => ?_)
  change XX G 0 0 0 [some (.ref 135), some (.int i), some (.int j)] [] S R I J
  refine x_aload_n C0 rfl dX12_end_0 ?_
  refine x_iconst (v := nI 0) C0 rfl dX12_end_1 ?_
  refine x_putI C0 wf_X12_1 (isModel.k0 hM) rfl dX12_end_2 ?_
  have q1 := MQs.thrown (I := I) (v := nI 0)
  have C := C.mq q1
  generalize u2 I 135 0 (nI 0) = I1 at q1 C ⊢
  obtain ⟨wl, mF, mL, mH, wx⟩ := id C
  have hT6 := wl.2.1
  have hN8 := wl.2.2.2.1
  have hV6 := wl.2.2.2.2.2.1
  have eT : I1 141 0 = nI T := (mF 0 (by decide)).trans wl.1
  have eN : I1 141 1 = nI N := (mF 1 (by decide)).trans wl.2.2.1
  have eV : I1 141 2 = nI V := (mF 2 (by decide)).trans wl.2.2.2.2.1
  have hb0 : 0 ≤ 2192 := by decide
  unfold aEnd at hp
  rw [← mF 2 (by decide), ← mF 0 (by decide)] at hp
  refine x_aload_n C0 rfl dX12_end_5 ?_
  refine x_iload_n C0 rfl dX12_end_6 ?_
  refine x_callV [_] C0 hN rfl (xRf_of hR (by decide) (Nat.zero_le _) (Nat.zero_le _)) mv_X12_isWatcher wm_X12_344 dX12_end_7 (isModel.k0 hM) rfl rfl (Nat.le_of_ble_eq_true rfl) (c_X12_isWatcher hM (fun g7 => ?_) (fun g7 => ?_))
  · refine x_if_eq (tgt := 21) C0 (by decide) dX12_end_10 (fun hkk => absurd hkk (by decide)) (fun _ => ?_)
    refine x_aload_n C0 rfl dX12_end_13 ?_
    refine x_iload_n C0 rfl dX12_end_14 ?_
    refine x_callV [_] C0 hN rfl (xRf_of hR (by decide) (Nat.zero_le _) (Nat.zero_le _)) mv_X12_isThing wm_X12_347 dX12_end_15 (isModel.k0 hM) rfl rfl (Nat.le_of_ble_eq_true rfl) (c_X12_isThing hM (fun g15 => ?_) (fun g15 => ?_))
    · refine x_if_ne (tgt := 24) C0 (by decide) dX12_end_18 (fun _ => ?_) (fun hkk => absurd hkk (by decide))
      obtain ⟨a, ha, ea⟩ := nI_ofi' eV (by omega) g7
      obtain ⟨b, hb, eb⟩ := nI_ofi' eT (by omega) g15
      rw [if_pos ⟨g7, g15⟩] at hp
      subst ea
      subst eb
      rw [nI_clamp (by omega), nI_clamp (by omega)] at hp
      refine x_aload_n C0 rfl dX12_end_24 ?_
      refine x_iconst (v := nI 0) C0 rfl dX12_end_25 ?_
      refine x_sipush (v := nI 2058) C0 rfl dX12_end_26 ?_
      refine x_bipush (v := nI 62) C0 rfl dX12_end_29 ?_
      refine x_callV [_, _, _] C0 hN rfl (xRf_of hR (by decide) (Nat.zero_le _) (Nat.zero_le _)) mv_X12_copies wm_X12_294 dX12_end_31 (isModel.k0 hM) rfl rfl (Nat.le_of_ble_eq_true rfl) (c_X12_copies hM (Or.inl (by omega)) (by omega) (by omega) ?_)
      have q2 : MQs I1 (ucp I1 0 2058 62) := MQs.copy (by decide)
      obtain ⟨-, mF2, mL2, -, -⟩ := C.mq q2
      refine x_aload_n C0 rfl dX12_end_34 ?_
      refine x_sipush (v := nI 2058) C0 rfl dX12_end_35 ?_
      refine x_callV [_] C0 hN rfl (xRf_of hR (by decide) (Nat.zero_le _) (Nat.zero_le _)) mv_X12_ends wm_X12_372 dX12_end_38 (isModel.k0 hM) rfl rfl (Nat.le_of_ble_eq_true rfl) (c_X12_ends hM (by decide) wl wx mF2 mL2 (ucp_hall mH 62 (by decide)) (fun k I2 hkN hx0 s2 r2 v2 => ?_))
      refine x_aload_n C0 rfl dX12_end_41 ?_
      refine x_sipush (v := nI 2058) C0 rfl dX12_end_42 ?_
      refine x_iload_n C0 rfl dX12_end_45 ?_
      refine x_iload_n C0 rfl dX12_end_46 ?_
      refine x_callV [_, _, _] C0 hN rfl (xRf_of hR (by decide) (Nat.zero_le _) (Nat.zero_le _)) mv_X12_thoughtOf wm_X12_325 dX12_end_47 (isModel.k0 hM) rfl rfl (Nat.le_of_ble_eq_true rfl) (c_X12_thoughtOf hM (by decide) (by omega) (by omega) ?_)
      refine x_iret C0 E (by decide) (by decide) dX12_end_50 ?_
      rw [hx0, nI_clamp (by omega)] at hp
      rw [mth_at r2 (by omega) (by omega)]
      exact hp I2 ((q1.trans q2).trans (MQs.same s2 (by decide)))
    · refine x_if_ne (tgt := 24) C0 (by decide) dX12_end_18 (fun hkk => absurd (by decide) hkk) (fun _ => ?_)
      refine x_bipush (v := -2) C0 rfl dX12_end_21 ?_
      refine x_iret C0 E (by decide) (by decide) dX12_end_23 ?_
      rw [if_neg (fun q => g15 q.2)] at hp
      exact hp I1 q1
  · refine x_if_eq (tgt := 21) C0 (by decide) dX12_end_10 (fun _ => ?_) (fun hkk => absurd (by decide) hkk)
    refine x_bipush (v := -2) C0 rfl dX12_end_21 ?_
    refine x_iret C0 E (by decide) (by decide) dX12_end_23 ?_
    rw [if_neg (fun q => g7 q.1)] at hp
    exact hp I1 q1
theorem c_X11_first {S : xTS} {R : xTR} {I : xTI} {J : xTJ} {post : xPost} {f T N V : Nat} {fl x : xRow} {lw : Option (List (Nat × Nat))} (hS : fixd S R) (hf : R 0 2 = some f) (C : FCore I f fl lw T N V x) {c : Int32} (hp : ∀ I', FQ I I' → post (some (.int (aFirst fl (sDq fl lw) x V N c))) S R I' J) : xSpec 5 yX11_first cX11_first 4 (some .int) 0 0 [.ref 0, .int c] S R I J post := by
  refine xSpec_of mt_X11_first (Nat.le_of_ble_eq_true rfl) (fun G C0 hN hR E hI hZ => ?_)
  change XX G 0 0 0 [some (.ref 0), some (.int c), none, none] [] S R I J
  obtain ⟨hfm, wl, rF, rH, wx⟩ := id C
  have hF := hS.film hfm
  have hH := hS.hall (q := 33) (by decide)
  have hT6 := wl.2.1
  have hN8 := wl.2.2.2.1
  have hV6 := wl.2.2.2.2.2.1
  have eT : I f 0 = nI T := rF.1.trans wl.1
  have eN : I f 1 = nI N := rF.2.1.trans wl.2.2.1
  have eV : I f 2 = nI V := rF.2.2.1.trans wl.2.2.2.2.1
  have hfh : ∀ i j, i < 9 → j < 4 → f + i ≠ 33 + j := fun i j hi hj => hf_apart 33 (by decide) f hfm i hi j hj
  obtain ⟨fs0, fs1, fs2, fs3, fs4, fs5, fs6, fs7, fs8, fr4, fr5, fr6, fr7, fr8, fr9, fr10, fr11⟩ := id hF
  obtain ⟨hs0, hs1, hs2, hs3, hr4, hr5, hr6⟩ := id hH
  unfold aFirst at hp
  have hT := hS.hall (q := 37) (by decide)
  obtain ⟨hq0, hq1, hq2, hq3, -⟩ := id hT
  have hf37 : ∀ i j, i < 9 → j < 4 → f + i ≠ 37 + j := fun i j hi hj => hf_apart 37 (by decide) f hfm i hi j hj
  have h3733 : ∀ i j, i < 4 → j < 4 → 37 + i ≠ 33 + j := fun i j hi hj => hh_apart 37 (by decide) 33 (by decide) (by decide) i hi j hj
  have rT : RHall (uhall I 37 33) 37 x N := uhall_hall h3733 hN8 rH
  obtain ⟨k, hkN, hx0⟩ := wx.1
  rw [hx0, nI_clamp (by omega)] at hp
  have h30 : (∀ I', FQ I I' → post (some (.int (sFirst fl (sDq fl lw) V c (N - k) k x))) S R I' J) → ∀ n j I1 y v3, j + n = N → y 0 = nI j → WFx y T N V → FQ I I1 → RHall I1 37 y N → sFirst fl (sDq fl lw) V c (N - k) k x = sFirst fl (sDq fl lw) V c n j y → XX G 0 0 30 [some (.ref 0), some (.int c), some (.int (nI j)), v3] [] S R I1 J := by
    intro hp n
    induction n with
    | zero =>
      intro j I1 y v3 hj hy0 wy s1 r1 he
      have eN1 : I1 f 1 = nI j := by rw [(C.fq s1).2.2.1.2.1, wl.2.2.1, show N = j by omega]
      refine x_iload_n C0 rfl dX11_first_30 ?_
      refine x_aload_n C0 rfl dX11_first_31 ?_
      refine x_getR C0 wf_X11_26 (fixd.k0 hS) rfl rfl hf dX11_first_32 ?_
      refine x_getI C0 wf_X11_239 (by assumption) rfl dX11_first_35 ?_
      refine x_topi eN1 ?_
      refine x_icmp_ge (tgt := 76) C0 (by decide) dX11_first_38 (fun _ => ?_) (fun hkk => absurd ((Int32.le_refl _)) hkk)
      refine x_iconst (v := -1) C0 rfl dX11_first_76 ?_
      refine x_iret C0 E (by decide) (by decide) dX11_first_77 ?_
      rw [he] at hp
      exact hp I1 s1
    | succ n ih =>
      intro j I1 y v3 hj hy0 wy s1 r1 he
      have rF1 := (C.fq s1).2.2.1
      have eN1 : I1 f 1 = nI N := by rw [rF1.2.1, wl.2.2.1]
      obtain ⟨m, hm, em⟩ := sAll_mask (fl := fl) (x := y) (dq := sDq fl lw) (k := j) (cl := sClN fl y j) V hV6
      have em' : (sShowK fl (sDq fl lw) j V y).2 = nI m := em
      have hm6 : m < 64 := by have := Nat.pow_le_pow_right (n := 2) (by decide) hV6; omega
      refine x_iload_n C0 rfl dX11_first_30 ?_
      refine x_aload_n C0 rfl dX11_first_31 ?_
      refine x_getR C0 wf_X11_26 (fixd.k0 hS) rfl rfl hf dX11_first_32 ?_
      refine x_getI C0 wf_X11_239 (by assumption) rfl dX11_first_35 ?_
      refine x_topi eN1 ?_
      refine x_icmp_ge (tgt := 76) C0 (by decide) dX11_first_38 (fun hkk => absurd hkk (nI_ge (by omega) (by omega))) (fun _ => ?_)
      refine x_aload_n C0 rfl dX11_first_41 ?_
      refine x_getR C0 wf_X11_26 (fixd.k0 hS) rfl rfl hf dX11_first_42 ?_
      refine x_aload_n C0 rfl dX11_first_45 ?_
      refine x_getR C0 wf_X11_50 (fixd.k0 hS) rfl rfl (fixd.trial hS) dX11_first_46 ?_
      refine x_callV [_] C0 hN rfl (xRf_of hR (by decide) (Nat.zero_le _) (Nat.zero_le _)) mv_X2_screen wm_X11_179 dX11_first_49 (by assumption) rfl rfl (Nat.le_of_ble_eq_true rfl) (c_X2_screen hF hT hf37 wl wy rF1 r1 (fun q => absurd ((nI_eq (by omega) (by omega)).mp (hy0.symm.trans q)) (by omega)) (fun k2 I2 hk2 e2 s2 r2 => ?_))
      have hkk : k2 = j := (nI_eq (by omega) (by omega)).mp (e2.symm.trans hy0)
      subst hkk
      refine x_topi em' ?_
      refine x_istore_n (L' := [_, _, _, _]) C0 hN (by decide) rfl dX11_first_52 ?_
      refine x_iload_n C0 rfl dX11_first_53 ?_
      refine x_if_le (tgt := 70) C0 (by decide) dX11_first_54 (fun g54 => ?_) (fun g54 => ?_)
      · refine x_iinc (v := nI (k2 + 1)) (L' := [_, _, _, _]) C0 hN rfl (by decide) (nI_inc k2) rfl dX11_first_70 ?_
        refine x_goto (tgt := 30) C0 (by decide) dX11_first_73 ?_
        have em0 := (mask_pos m hm6).mp g54
        refine ih (k2 + 1) I2 _ _ (by omega) sShowK_0 (sShowK_WFx wl wy hk2) (s1.trans (FQ.hall s2)) r2 ?_
        rw [he]
        conv => lhs; unfold sFirst
        rw [if_pos (by rw [em', em0]; rfl)]
      · refine x_iload_n C0 rfl dX11_first_57 ?_
        refine x_if_ne (tgt := 68) C0 (by decide) dX11_first_58 (fun g58 => ?_) (fun g58 => ?_)
        · refine x_iload_n C0 rfl dX11_first_68 ?_
          refine x_iret C0 E (by decide) (by decide) dX11_first_69 ?_
          rw [he] at hp
          unfold sFirst at hp
          rw [em', if_neg (fun q => g54 (by rw [q]; decide)), if_neg g58] at hp
          exact hp I2 (s1.trans (FQ.hall s2))
        · refine x_iload_n C0 rfl dX11_first_61 ?_
          refine x_callS [_] C0 (xRf_of hR (by decide) (Nat.zero_le _) (Nat.zero_le _)) ms_J6_numberOfTrailingZeros_0f7a4 wm_X11_242 dX11_first_62 rfl rfl (Nat.le_of_ble_eq_true rfl) (c_J6_numberOfTrailingZeros_0f7a4 _ hm6 (fun q => absurd ((mask_pos m hm6).mpr q) g54) ?_)
          refine x_goto (tgt := 69) C0 (by decide) dX11_first_65 ?_
          refine x_iret C0 E (by decide) (by decide) dX11_first_69 ?_
          rw [he] at hp
          unfold sFirst at hp
          rw [em', if_neg (fun q => g54 (by rw [q]; decide)), if_pos g58, ← low_V V hV6 m hm (fun q => absurd ((mask_pos m hm6).mpr q) g54)] at hp
          exact hp I2 (s1.trans (FQ.hall s2))
  refine x_iload_n C0 rfl dX11_first_0 ?_
  refine x_if_lt (tgt := 9) C0 (by decide) dX11_first_1 (fun g1 => ?_) (fun g1 => ?_)
  · refine x_iconst (v := -1) C0 rfl dX11_first_9 ?_
    refine x_iret C0 E (by decide) (by decide) dX11_first_10 ?_
    rw [if_neg (fun q => absurd q.1 (i_nle.mpr g1))] at hp
    exact hp I FQ.rf
  · refine x_iload_n C0 rfl dX11_first_4 ?_
    refine x_iconst (v := 1) C0 rfl dX11_first_5 ?_
    refine x_icmp_le (tgt := 11) C0 (by decide) dX11_first_6 (fun g6 => ?_) (fun g6 => ?_)
    · refine x_aload_n C0 rfl dX11_first_11 ?_
      refine x_getR C0 wf_X11_50 (fixd.k0 hS) rfl rfl (fixd.trial hS) dX11_first_12 ?_
      refine x_aload_n C0 rfl dX11_first_15 ?_
      refine x_getR C0 wf_X11_46 (fixd.k0 hS) rfl rfl (fixd.now hS) dX11_first_16 ?_
      refine x_callV [_] C0 hN rfl (xRf_of hR (by decide) (Nat.zero_le _) (Nat.zero_le _)) mv_X3_copy wm_X11_176 dX11_first_19 (by assumption) rfl rfl (Nat.le_of_ble_eq_true rfl) (c_X3_copy hT hH h3733 ?_)
      refine x_aload_n C0 rfl dX11_first_22 ?_
      refine x_getR C0 wf_X11_46 (fixd.k0 hS) rfl rfl (fixd.now hS) dX11_first_23 ?_
      refine x_getI C0 wf_X11_141 (by assumption) rfl dX11_first_26 ?_
      refine x_topi (show uhall I 37 33 33 0 = nI k by rw [uhall_row I (by decide) (by decide) (by decide) (by decide), rH.1, hx0]) ?_
      refine x_istore_n (L' := [_, _, _, _]) C0 hN (by decide) rfl dX11_first_29 ?_
      rw [if_pos ⟨i_nlt.mp g1, g6⟩] at hp
      exact h30 hp (N - k) k _ x none (by omega) hx0 wx FQ.copy rT rfl
    · refine x_iconst (v := -1) C0 rfl dX11_first_9 ?_
      refine x_iret C0 E (by decide) (by decide) dX11_first_10 ?_
      rw [if_neg (fun q => g6 q.2)] at hp
      exact hp I FQ.rf
theorem c_X12_first {S : xTS} {R : xTR} {I : xTI} {J : xTJ} {post : xPost} {T N V : Nat} {fl x : xRow} {lw : Option (List (Nat × Nat))} (hM : isModel S R) (C : MCore I fl lw T N V x) {c : Int32} (hp : ∀ I', MQs I I' → post (some (.int (aFirst fl (sDq fl lw) x V N c))) S R I' J) : xSpec 6 yX12_first cX12_first 4 (some .int) 0 0 [.ref 135, .int c] S R I J post := by
  refine xSpec_of mt_X12_first (Nat.le_of_ble_eq_true rfl) (fun G C0 hN hR E hI hZ => ?_)
  change XX G 0 0 0 [some (.ref 135), some (.int c), none, none] [] S R I J
  refine x_aload_n C0 rfl dX12_first_0 ?_
  refine x_iconst (v := nI 0) C0 rfl dX12_first_1 ?_
  refine x_putI C0 wf_X12_1 (isModel.k0 hM) rfl dX12_first_2 ?_
  have q1 := MQs.thrown (I := I) (v := nI 0)
  have C := C.mq q1
  generalize u2 I 135 0 (nI 0) = I1 at q1 C ⊢
  obtain ⟨wl, mF, mL, mH, wx⟩ := id C
  have hT6 := wl.2.1
  have hN8 := wl.2.2.2.1
  have hV6 := wl.2.2.2.2.2.1
  have eT : I1 141 0 = nI T := (mF 0 (by decide)).trans wl.1
  have eN : I1 141 1 = nI N := (mF 1 (by decide)).trans wl.2.2.1
  have eV : I1 141 2 = nI V := (mF 2 (by decide)).trans wl.2.2.2.2.1
  have hb0 : 0 ≤ 2192 := by decide
  unfold aFirst at hp
  obtain ⟨k, hkN, hx0⟩ := wx.1
  rw [hx0, nI_clamp (by omega)] at hp
  have h26 : (∀ I', MQs I I' → post (some (.int (sFirst fl (sDq fl lw) V c (N - k) k x))) S R I' J) → ∀ n j I2 y v2 v3, j + n = N → y 0 = nI j → WFx y T N V → MQs I1 I2 → MHall I2 2058 y → sFirst fl (sDq fl lw) V c (N - k) k x = sFirst fl (sDq fl lw) V c n j y → XX G 0 0 26 [some (.ref 135), some (.int c), v2, v3] [] S R I2 J := by
    intro hp n
    induction n with
    | zero =>
      intro j I2 y v2 v3 hj hy0 wy s1 r1 he
      have eN1 : I2 141 1 = nI j := by rw [(C.mq s1).2.1 1 (by decide), wl.2.2.1, show N = j by omega]
      have y0 : I2 151 2058 = nI j := (r1 0 (by decide)).trans hy0
      refine x_aload_n C0 rfl dX12_first_26 ?_
      refine x_getR C0 wf_X12_119 (isModel.k0 hM) rfl rfl (isModel.r24 hM) dX12_first_27 ?_
      refine x_sipush (v := nI 2058) C0 rfl dX12_first_30 ?_
      refine x_ialoadN C0 (isModel.s24 hM) (by omega) (by omega) dX12_first_33 ?_
      refine x_topi y0 ?_
      refine x_aload_n C0 rfl dX12_first_34 ?_
      refine x_callV [] C0 hN rfl (xRf_of hR (by decide) (Nat.zero_le _) (Nat.zero_le _)) mv_X12_scenes wm_X12_285 dX12_first_35 (isModel.k0 hM) rfl rfl (Nat.le_of_ble_eq_true rfl) (c_X12_scenes hM ?_)
      refine x_topi eN1 ?_
      refine x_icmp_ge (tgt := 96) C0 (by decide) dX12_first_38 (fun _ => ?_) (fun hkk => absurd ((Int32.le_refl _)) hkk)
      refine x_iconst (v := -1) C0 rfl dX12_first_96 ?_
      refine x_iret C0 E (by decide) (by decide) dX12_first_97 ?_
      rw [he] at hp
      exact hp I2 (q1.trans s1)
    | succ n ih =>
      intro j I2 y v2 v3 hj hy0 wy s1 r1 he
      obtain ⟨-, mF2, mL2, -, -⟩ := C.mq s1
      have eN1 : I2 141 1 = nI N := by rw [mF2 1 (by decide), wl.2.2.1]
      have y0 : I2 151 2058 = nI j := (r1 0 (by decide)).trans hy0
      obtain ⟨m, hm, em⟩ := sAll_mask (fl := fl) (x := y) (dq := sDq fl lw) (k := j) (cl := sClN fl y j) V hV6
      have em' : (sShowK fl (sDq fl lw) j V y).2 = nI m := em
      have hm6 : m < 64 := by have := Nat.pow_le_pow_right (n := 2) (by decide) hV6; omega
      have h51 : ∀ I3, MQs I1 I3 → MHall I3 2058 (sShowK fl (sDq fl lw) j V y).1 → ∀ p w, w + p = V → sLow (nI m) 0 V = sLow (nI m) w p → XX G 0 0 51 [some (.ref 135), some (.int c), some (.int (nI m)), some (.int (nI w))] [] S R I3 J := by
        intro I3 s3 r3 p
        have eV3 : I3 141 2 = nI V := by rw [(C.mq s3).2.1 2 (by decide), wl.2.2.2.2.1]
        have y3 : I3 151 2058 = nI (j + 1) := (r3 0 (by decide)).trans sShowK_0
        induction p with
        | zero =>
          intro w hw hl
          have hw8 : w = V := by omega
          have em0 : m = 0 := low_none V hV6 m hm (hl.trans rfl)
          refine x_iload_n C0 rfl dX12_first_51 ?_
          refine x_aload_n C0 rfl dX12_first_52 ?_
          refine x_callV [] C0 hN rfl (xRf_of hR (by decide) (Nat.zero_le _) (Nat.zero_le _)) mv_X12_watchers wm_X12_282 dX12_first_53 (isModel.k0 hM) rfl rfl (Nat.le_of_ble_eq_true rfl) (c_X12_watchers hM ?_)
          refine x_topi eV3 ?_
          refine x_icmp_ge (tgt := 93) C0 (by decide) dX12_first_56 (fun _ => ?_) (fun hkk => absurd ((by rw [hw8]; exact Int32.le_refl _)) hkk)
          refine x_goto (tgt := 26) C0 (by decide) dX12_first_93 ?_
          refine ih (j + 1) I3 _ _ _ (by omega) sShowK_0 (sShowK_WFx wl wy (by omega)) s3 r3 ?_
          rw [he]
          conv => lhs; unfold sFirst
          rw [if_pos (by rw [em', em0]; rfl)]
        | succ p ihp =>
          intro w hw hl
          refine x_iload_n C0 rfl dX12_first_51 ?_
          refine x_aload_n C0 rfl dX12_first_52 ?_
          refine x_callV [] C0 hN rfl (xRf_of hR (by decide) (Nat.zero_le _) (Nat.zero_le _)) mv_X12_watchers wm_X12_282 dX12_first_53 (isModel.k0 hM) rfl rfl (Nat.le_of_ble_eq_true rfl) (c_X12_watchers hM ?_)
          refine x_topi eV3 ?_
          refine x_icmp_ge (tgt := 93) C0 (by decide) dX12_first_56 (fun hkk => absurd hkk (nI_ge (by omega) (by omega))) (fun _ => ?_)
          refine x_iload_n C0 rfl dX12_first_59 ?_
          refine x_iload_n C0 rfl dX12_first_60 ?_
          refine x_ishr C0 dX12_first_61 ?_
          refine x_iconst (v := 1) C0 rfl dX12_first_62 ?_
          refine x_iand C0 dX12_first_63 ?_
          refine x_iconst (v := 1) C0 rfl dX12_first_64 ?_
          refine x_icmp_ne (tgt := 87) C0 (by decide) dX12_first_65 (fun g65 => ?_) (fun g65 => ?_)
          · refine x_iinc (v := nI (w + 1)) (L' := [_, _, _, _]) C0 hN rfl (by decide) (nI_inc w) rfl dX12_first_87 ?_
            refine x_goto (tgt := 51) C0 (by decide) dX12_first_90 ?_
            refine ihp (w + 1) (by omega) ?_
            rw [hl]
            conv => lhs; unfold sLow
            rw [if_neg g65]
          · refine x_iload_n C0 rfl dX12_first_68 ?_
            refine x_if_ne (tgt := 76) C0 (by decide) dX12_first_69 (fun g69 => ?_) (fun g69 => ?_)
            · refine x_aload_n C0 rfl dX12_first_76 ?_
              refine x_getR C0 wf_X12_119 (isModel.k0 hM) rfl rfl (isModel.r24 hM) dX12_first_77 ?_
              refine x_sipush (v := nI 2058) C0 rfl dX12_first_80 ?_
              refine x_ialoadN C0 (isModel.s24 hM) (by omega) (by omega) dX12_first_83 ?_
              refine x_topi y3 ?_
              refine x_iconst (v := nI 1) C0 rfl dX12_first_84 ?_
              refine x_isub C0 dX12_first_85 ?_
              refine x_iret C0 E (by decide) (by decide) dX12_first_86 ?_
              have hm0 : ¬ m = 0 := fun q => by
                subst q
                exact absurd g65 (by have : ∀ w, w < 6 → ¬ xbit (nI 0) w := by decide +kernel
                                     exact this w (by omega))
              rw [he] at hp
              unfold sFirst at hp
              rw [em', if_neg (show ¬ nI m = 0 from fun q => hm0 ((nI_eq (b := 0) (by omega) (by omega)).mp q)), if_neg g69] at hp
              rw [show nI (j + 1) - nI 1 = nI j from nI_subn (by omega)]
              exact hp I3 (q1.trans s3)
            · refine x_iload_n C0 rfl dX12_first_72 ?_
              refine x_goto (tgt := 86) C0 (by decide) dX12_first_73 ?_
              refine x_iret C0 E (by decide) (by decide) dX12_first_86 ?_
              have hm0 : ¬ m = 0 := fun q => by
                subst q
                exact absurd g65 (by have : ∀ w, w < 6 → ¬ xbit (nI 0) w := by decide +kernel
                                     exact this w (by omega))
              rw [he] at hp
              unfold sFirst at hp
              rw [em', if_neg (show ¬ nI m = 0 from fun q => hm0 ((nI_eq (b := 0) (by omega) (by omega)).mp q)), if_pos g69, hl] at hp
              unfold sLow at hp
              rw [if_pos g65] at hp
              exact hp I3 (q1.trans s3)
      refine x_aload_n C0 rfl dX12_first_26 ?_
      refine x_getR C0 wf_X12_119 (isModel.k0 hM) rfl rfl (isModel.r24 hM) dX12_first_27 ?_
      refine x_sipush (v := nI 2058) C0 rfl dX12_first_30 ?_
      refine x_ialoadN C0 (isModel.s24 hM) (by omega) (by omega) dX12_first_33 ?_
      refine x_topi y0 ?_
      refine x_aload_n C0 rfl dX12_first_34 ?_
      refine x_callV [] C0 hN rfl (xRf_of hR (by decide) (Nat.zero_le _) (Nat.zero_le _)) mv_X12_scenes wm_X12_285 dX12_first_35 (isModel.k0 hM) rfl rfl (Nat.le_of_ble_eq_true rfl) (c_X12_scenes hM ?_)
      refine x_topi eN1 ?_
      refine x_icmp_ge (tgt := 96) C0 (by decide) dX12_first_38 (fun hkk => absurd hkk (nI_ge (by omega) (by omega))) (fun _ => ?_)
      refine x_aload_n C0 rfl dX12_first_41 ?_
      refine x_sipush (v := nI 2058) C0 rfl dX12_first_42 ?_
      refine x_callV [_] C0 hN rfl (xRf_of hR (by decide) (Nat.zero_le _) (Nat.zero_le _)) mv_X12_shows wm_X12_338 dX12_first_45 (isModel.k0 hM) rfl rfl (Nat.le_of_ble_eq_true rfl) (c_X12_shows hM (by decide) wl wy mF2 mL2 r1 (by omega) hy0 (fun I3 s3 r3 v3 => ?_))
      refine x_topi em' ?_
      refine x_istore_n (L' := [_, _, _, _]) C0 hN (by decide) rfl dX12_first_48 ?_
      refine x_iconst (v := nI 0) C0 rfl dX12_first_49 ?_
      refine x_istore_n (L' := [_, _, _, _]) C0 hN (by decide) rfl dX12_first_50 ?_
      exact h51 I3 (s1.trans (MQs.same s3 (by decide))) r3 V 0 (by omega) rfl
  refine x_iload_n C0 rfl dX12_first_5 ?_
  refine x_iconst (v := 0) C0 rfl dX12_first_6 ?_
  refine x_iconst (v := 1) C0 rfl dX12_first_7 ?_
  refine x_callS [_, _, _] C0 (xRf_of hR (by decide) (Nat.zero_le _) (Nat.zero_le _)) ms_X12_within wm_X12_207 dX12_first_8 rfl rfl (Nat.le_of_ble_eq_true rfl) (c_X12_within  (fun g8 => ?_) (fun g8 => ?_))
  · refine x_if_ne (tgt := 16) C0 (by decide) dX12_first_11 (fun _ => ?_) (fun hkk => absurd hkk (by decide))
    refine x_aload_n C0 rfl dX12_first_16 ?_
    refine x_iconst (v := nI 0) C0 rfl dX12_first_17 ?_
    refine x_sipush (v := nI 2058) C0 rfl dX12_first_18 ?_
    refine x_bipush (v := nI 62) C0 rfl dX12_first_21 ?_
    refine x_callV [_, _, _] C0 hN rfl (xRf_of hR (by decide) (Nat.zero_le _) (Nat.zero_le _)) mv_X12_copies wm_X12_294 dX12_first_23 (isModel.k0 hM) rfl rfl (Nat.le_of_ble_eq_true rfl) (c_X12_copies hM (Or.inl (by omega)) (by omega) (by omega) ?_)
    rw [if_pos g8] at hp
    exact h26 hp (N - k) k _ x none none (by omega) hx0 wx (MQs.copy (by decide)) (ucp_hall mH 62 (by decide)) rfl
  · refine x_if_ne (tgt := 16) C0 (by decide) dX12_first_11 (fun hkk => absurd (by decide) hkk) (fun _ => ?_)
    refine x_iconst (v := -1) C0 rfl dX12_first_14 ?_
    refine x_iret C0 E (by decide) (by decide) dX12_first_15 ?_
    rw [if_neg g8] at hp
    exact hp I1 q1
