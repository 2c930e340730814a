/-! LONGS; the draw -/
theorem l_toInt {k : Nat} (h : k < 2 ^ 63) : (Int64.ofNat k).toInt = k := Int64.toInt_ofNat_of_lt h
theorem l_mul (a b : Nat) : Int64.ofNat a * Int64.ofNat b = Int64.ofNat (a * b) := (Int64.ofNat_mul a b).symm
theorem l_add (a b : Nat) : Int64.ofNat a + Int64.ofNat b = Int64.ofNat (a + b) := (Int64.ofNat_add a b).symm
theorem l_div {a b : Nat} (ha : a < 2 ^ 63) (hb : b < 2 ^ 63) : Int64.ofNat a / Int64.ofNat b = Int64.ofNat (a / b) := by
  apply Int64.toInt_inj.mp
  have h3 : a / b < 2 ^ 63 := Nat.lt_of_le_of_lt (Nat.div_le_self a b) ha
  rw [Int64.toInt_div, l_toInt ha, l_toInt hb, l_toInt h3]
  rw [show (Int.tdiv (a : Int) (b : Int)) = ((a / b : Nat) : Int) from rfl]
  generalize a / b = c at h3 ⊢
  rw [Int.bmod_eq_of_le] <;> omega
theorem l_rem {a b : Nat} (ha : a < 2 ^ 63) (hb : b < 2 ^ 63) : Int64.ofNat a - Int64.ofNat a / Int64.ofNat b * Int64.ofNat b = Int64.ofNat (a % b) := by
  rw [l_div ha hb, l_mul, ← Int64.ofNat_sub a (a / b * b) (Nat.div_mul_le_self a b)]
  congr 1
  have := Nat.div_add_mod a b
  rw [Nat.mul_comm] at this
  omega
theorem l_int (d : Nat) : (Int64.ofNat d).toInt32 = nI d := Int64.toInt32_ofNat
theorem i_long {d : Nat} (h : d < 2 ^ 31) : (nI d).toInt64 = Int64.ofNat d := by
  apply Int64.toInt_inj.mp
  rw [Int32.toInt_toInt64, nI_toInt h, l_toInt (by omega)]
/-- the next state of the draw, and what it draws below n -/
def drG (g : Nat) : Nat := (g * 1103515245 + 12345) % 2147483648
def drD (g n : Nat) : Nat := drG g / 65536 % n
theorem drG_lt (g : Nat) : drG g < 2 ^ 31 := Nat.mod_lt _ (by decide)
theorem drD_lt {g n : Nat} (h : 0 < n) : drD g n < n := Nat.mod_lt _ h
theorem drG_eq {g : Nat} (h : g < 2 ^ 31) : Int64.ofNat g * 1103515245 + 12345 - (Int64.ofNat g * 1103515245 + 12345) / 2147483648 * 2147483648 = Int64.ofNat (drG g) := by
  rw [show (1103515245 : Int64) = Int64.ofNat 1103515245 from rfl, show (12345 : Int64) = Int64.ofNat 12345 from rfl, show (2147483648 : Int64) = Int64.ofNat 2147483648 from rfl, l_mul, l_add, l_rem (by omega) (by decide)]
  rfl
theorem drD_eq {g n : Nat} (h0 : n < 2 ^ 31) : (Int64.ofNat (drG g) / 65536 - Int64.ofNat (drG g) / 65536 / (nI n).toInt64 * (nI n).toInt64).toInt32 = nI (drD g n) := by
  have := drG_lt g
  rw [i_long h0, show (65536 : Int64) = Int64.ofNat 65536 from rfl, l_div (by omega) (by decide), l_rem (by omega) (by omega), l_int]
  rfl
theorem long_ne {n : Nat} (h0 : 0 < n) (h : n < 2 ^ 31) : ¬ (nI n).toInt64 = 0 := fun q => by
  rw [i_long h] at q
  have := congrArg Int64.toInt q
  rw [l_toInt (by omega)] at this
  have e : (0 : Int64).toInt = 0 := rfl
  omega
theorem c_X0_below {S : xTS} {R : xTR} {I : xTI} {J : xTJ} {post : xPost} (hs : S[110]? = some (0, 1)) {g n : Nat} (hg : g < 2 ^ 31) (hn0 : 0 < n) (hn : n < 2 ^ 31) (eg : J 110 0 = Int64.ofNat g) (hp : post (some (.int (nI (drD g n)))) S R I (u2 J 110 0 (Int64.ofNat (drG g)))) : xSpec 1 yX0_below cX0_below 2 (some .int) 0 0 [.ref 110, .int (nI n)] S R I J post := by
  refine xSpec_of mt_X0_below (Nat.le_of_ble_eq_true rfl) (fun G C0 hN hR E hI hZ => ?_)
  change XX G 0 0 0 [some (.ref 110), some (.int (nI n))] [] S R I J
  refine x_aload_n C0 rfl dX0_below_0 ?_
  refine x_aload_n C0 rfl dX0_below_1 ?_
  refine x_getJ C0 wf_X0_7 (by assumption) rfl dX0_below_2 ?_
  refine x_topl eg ?_
  refine x_ldc2 C0 wl_X0_13 dX0_below_5 ?_
  refine x_lmul C0 dX0_below_8 ?_
  refine x_ldc2 C0 wl_X0_15 dX0_below_9 ?_
  refine x_ladd C0 dX0_below_12 ?_
  refine x_ldc2 C0 wl_X0_17 dX0_below_13 ?_
  refine x_lrem C0 (by decide) dX0_below_16 ?_
  refine x_topl (drG_eq hg) ?_
  refine x_putJ C0 wf_X0_7 (by assumption) rfl dX0_below_17 ?_
  refine x_iload_n C0 rfl dX0_below_20 ?_
  refine x_if_le (tgt := 39) C0 (by decide) dX0_below_21 (fun hkk => absurd hkk ((fun q => absurd ((nI_le_iff (b := 0) (by omega) (by omega)).mp q) (by omega)))) (fun _ => ?_)
  refine x_aload_n C0 rfl dX0_below_24 ?_
  refine x_getJ C0 wf_X0_7 (by assumption) rfl dX0_below_25 ?_
  refine x_topl (u2_same _ _ _ _) ?_
  refine x_ldc2 C0 wl_X0_19 dX0_below_28 ?_
  refine x_ldiv C0 (by decide) dX0_below_31 ?_
  refine x_iload_n C0 rfl dX0_below_32 ?_
  refine x_i2l C0 dX0_below_33 ?_
  refine x_lrem C0 (long_ne hn0 hn) dX0_below_34 ?_
  refine x_l2i C0 dX0_below_35 ?_
  refine x_topi (drD_eq hn) ?_
  refine x_goto (tgt := 40) C0 (by decide) dX0_below_36 ?_
  refine x_iret C0 E (by decide) (by decide) dX0_below_40 ?_
  exact hp
theorem c_X12_draw {S : xTS} {R : xTR} {I : xTI} {J : xTJ} {post : xPost} (hM : isModel S R) {g n : Nat} (hg : g < 2 ^ 31) (hn0 : 0 < n) (hn : n < 2 ^ 31) (eg : J 135 29 = Int64.ofNat g) (hp : post (some (.int (nI (drD g n)))) S R I (u2 J 135 29 (Int64.ofNat (drG g)))) : xSpec 1 yX12_draw cX12_draw 2 (some .int) 0 0 [.ref 135, .int (nI n)] S R I J post := by
  refine xSpec_of mt_X12_draw (Nat.le_of_ble_eq_true rfl) (fun G C0 hN hR E hI hZ => ?_)
  change XX G 0 0 0 [some (.ref 135), some (.int (nI n))] [] S R I J
  refine x_aload_n C0 rfl dX12_draw_0 ?_
  refine x_aload_n C0 rfl dX12_draw_1 ?_
  refine x_getJ C0 wf_X12_402 (isModel.k0 hM) rfl dX12_draw_2 ?_
  refine x_topl eg ?_
  refine x_ldc2 C0 wl_X12_406 dX12_draw_5 ?_
  refine x_lmul C0 dX12_draw_8 ?_
  refine x_ldc2 C0 wl_X12_408 dX12_draw_9 ?_
  refine x_ladd C0 dX12_draw_12 ?_
  refine x_ldc2 C0 wl_X12_410 dX12_draw_13 ?_
  refine x_lrem C0 (by decide) dX12_draw_16 ?_
  refine x_topl (drG_eq hg) ?_
  refine x_putJ C0 wf_X12_402 (isModel.k0 hM) rfl dX12_draw_17 ?_
  refine x_aload_n C0 rfl dX12_draw_20 ?_
  refine x_getJ C0 wf_X12_402 (isModel.k0 hM) rfl dX12_draw_21 ?_
  refine x_topl (u2_same _ _ _ _) ?_
  refine x_ldc2 C0 wl_X12_412 dX12_draw_24 ?_
  refine x_ldiv C0 (by decide) dX12_draw_27 ?_
  refine x_iload_n C0 rfl dX12_draw_28 ?_
  refine x_i2l C0 dX12_draw_29 ?_
  refine x_lrem C0 (long_ne hn0 hn) dX12_draw_30 ?_
  refine x_l2i C0 dX12_draw_31 ?_
  refine x_topi (drD_eq hn) ?_
  refine x_iret C0 E (by decide) (by decide) dX12_draw_32 ?_
  exact hp
