/-! CONSTRUCTORS -/
def Blank (k : Nat) (R : xTR) (I : xTI) (J : xTJ) : Prop := ∀ j, k ≤ j → (∀ i, I j i = 0) ∧ (∀ i, J j i = 0) ∧ ∀ i, R j i = none
theorem Blank.up {k k' : Nat} {R : xTR} {I : xTI} {J : xTJ} (h : Blank k R I J) (hk : k ≤ k') : Blank k' R I J := fun j hj => h j (Nat.le_trans hk hj)
theorem xlen {S l : xTS} {k n : Nat} (hk : S.length = k) (hn : l.length = n) : (S ++ l).length = k + n := by rw [List.length_append, hk, hn]
theorem xget {S l : xTS} {a : Nat} {v : Nat × Nat} (h : S[a]? = some v) : (S ++ l)[a]? = some v := by
  rw [List.getElem?_append_left (List.getElem?_eq_some_iff.mp h).1]
  exact h
theorem xat {S l : xTS} {k i : Nat} {v : Nat × Nat} (hk : S.length = k) (h : l[i]? = some v) : (S ++ l)[k + i]? = some v := by
  rw [List.getElem?_append_right (by omega), hk, Nat.add_sub_cancel_left]
  exact h
theorem fu_X0 : ∀ j, j < 1 → (xft 0)[j]? = some (xtag (tyX0 j)) ∧ defaultValue (tyX0 j) = (if xtag (tyX0 j) = 2 then .long 0 else if xtag (tyX0 j) = 3 then .null else .int 0) := fun j hj => match j, hj with
  | 0, _ => ⟨rfl, rfl⟩
  | j + 1, h => absurd h (by omega)
theorem ft_X0 : ∀ j, j < 1 → ∃ ty, parseFieldDescriptor (TX0 j).2.2.1 = some ty ∧ (xft 0)[j]? = some (xtag ty) ∧ defaultValue ty = (if xtag ty = 2 then .long 0 else if xtag ty = 3 then .null else .int 0) := fun j hj => ⟨tyX0 j, tyX0_ok j hj, (fu_X0 j hj).1, (fu_X0 j hj).2⟩
theorem fu_X1 : ∀ j, j < 4 → (xft 1)[j]? = some (xtag (tyX1 j)) ∧ defaultValue (tyX1 j) = (if xtag (tyX1 j) = 2 then .long 0 else if xtag (tyX1 j) = 3 then .null else .int 0) := fun j hj => match j, hj with
  | 0, _ => ⟨rfl, rfl⟩
  | 1, _ => ⟨rfl, rfl⟩
  | 2, _ => ⟨rfl, rfl⟩
  | 3, _ => ⟨rfl, rfl⟩
  | j + 4, h => absurd h (by omega)
theorem ft_X1 : ∀ j, j < 4 → ∃ ty, parseFieldDescriptor (TX1 j).2.2.1 = some ty ∧ (xft 1)[j]? = some (xtag ty) ∧ defaultValue ty = (if xtag ty = 2 then .long 0 else if xtag ty = 3 then .null else .int 0) := fun j hj => ⟨tyX1 j, tyX1_ok j hj, (fu_X1 j hj).1, (fu_X1 j hj).2⟩
theorem fu_X2 : ∀ j, j < 12 → (xft 2)[j]? = some (xtag (tyX2 j)) ∧ defaultValue (tyX2 j) = (if xtag (tyX2 j) = 2 then .long 0 else if xtag (tyX2 j) = 3 then .null else .int 0) := fun j hj => match j, hj with
  | 0, _ => ⟨rfl, rfl⟩
  | 1, _ => ⟨rfl, rfl⟩
  | 2, _ => ⟨rfl, rfl⟩
  | 3, _ => ⟨rfl, rfl⟩
  | 4, _ => ⟨rfl, rfl⟩
  | 5, _ => ⟨rfl, rfl⟩
  | 6, _ => ⟨rfl, rfl⟩
  | 7, _ => ⟨rfl, rfl⟩
  | 8, _ => ⟨rfl, rfl⟩
  | 9, _ => ⟨rfl, rfl⟩
  | 10, _ => ⟨rfl, rfl⟩
  | 11, _ => ⟨rfl, rfl⟩
  | j + 12, h => absurd h (by omega)
theorem ft_X2 : ∀ j, j < 12 → ∃ ty, parseFieldDescriptor (TX2 j).2.2.1 = some ty ∧ (xft 2)[j]? = some (xtag ty) ∧ defaultValue ty = (if xtag ty = 2 then .long 0 else if xtag ty = 3 then .null else .int 0) := fun j hj => ⟨tyX2 j, tyX2_ok j hj, (fu_X2 j hj).1, (fu_X2 j hj).2⟩
theorem fu_X3 : ∀ j, j < 7 → (xft 3)[j]? = some (xtag (tyX3 j)) ∧ defaultValue (tyX3 j) = (if xtag (tyX3 j) = 2 then .long 0 else if xtag (tyX3 j) = 3 then .null else .int 0) := fun j hj => match j, hj with
  | 0, _ => ⟨rfl, rfl⟩
  | 1, _ => ⟨rfl, rfl⟩
  | 2, _ => ⟨rfl, rfl⟩
  | 3, _ => ⟨rfl, rfl⟩
  | 4, _ => ⟨rfl, rfl⟩
  | 5, _ => ⟨rfl, rfl⟩
  | 6, _ => ⟨rfl, rfl⟩
  | j + 7, h => absurd h (by omega)
theorem ft_X3 : ∀ j, j < 7 → ∃ ty, parseFieldDescriptor (TX3 j).2.2.1 = some ty ∧ (xft 3)[j]? = some (xtag ty) ∧ defaultValue ty = (if xtag ty = 2 then .long 0 else if xtag ty = 3 then .null else .int 0) := fun j hj => ⟨tyX3 j, tyX3_ok j hj, (fu_X3 j hj).1, (fu_X3 j hj).2⟩
theorem fu_X4 : ∀ j, j < 3 → (xft 4)[j]? = some (xtag (tyX4 j)) ∧ defaultValue (tyX4 j) = (if xtag (tyX4 j) = 2 then .long 0 else if xtag (tyX4 j) = 3 then .null else .int 0) := fun j hj => match j, hj with
  | 0, _ => ⟨rfl, rfl⟩
  | 1, _ => ⟨rfl, rfl⟩
  | 2, _ => ⟨rfl, rfl⟩
  | j + 3, h => absurd h (by omega)
theorem ft_X4 : ∀ j, j < 3 → ∃ ty, parseFieldDescriptor (TX4 j).2.2.1 = some ty ∧ (xft 4)[j]? = some (xtag ty) ∧ defaultValue ty = (if xtag ty = 2 then .long 0 else if xtag ty = 3 then .null else .int 0) := fun j hj => ⟨tyX4 j, tyX4_ok j hj, (fu_X4 j hj).1, (fu_X4 j hj).2⟩
theorem fu_X5 : ∀ j, j < 3 → (xft 5)[j]? = some (xtag (tyX5 j)) ∧ defaultValue (tyX5 j) = (if xtag (tyX5 j) = 2 then .long 0 else if xtag (tyX5 j) = 3 then .null else .int 0) := fun j hj => match j, hj with
  | 0, _ => ⟨rfl, rfl⟩
  | 1, _ => ⟨rfl, rfl⟩
  | 2, _ => ⟨rfl, rfl⟩
  | j + 3, h => absurd h (by omega)
theorem ft_X5 : ∀ j, j < 3 → ∃ ty, parseFieldDescriptor (TX5 j).2.2.1 = some ty ∧ (xft 5)[j]? = some (xtag ty) ∧ defaultValue ty = (if xtag ty = 2 then .long 0 else if xtag ty = 3 then .null else .int 0) := fun j hj => ⟨tyX5 j, tyX5_ok j hj, (fu_X5 j hj).1, (fu_X5 j hj).2⟩
theorem fu_X6 : ∀ j, j < 3 → (xft 6)[j]? = some (xtag (tyX6 j)) ∧ defaultValue (tyX6 j) = (if xtag (tyX6 j) = 2 then .long 0 else if xtag (tyX6 j) = 3 then .null else .int 0) := fun j hj => match j, hj with
  | 0, _ => ⟨rfl, rfl⟩
  | 1, _ => ⟨rfl, rfl⟩
  | 2, _ => ⟨rfl, rfl⟩
  | j + 3, h => absurd h (by omega)
theorem ft_X6 : ∀ j, j < 3 → ∃ ty, parseFieldDescriptor (TX6 j).2.2.1 = some ty ∧ (xft 6)[j]? = some (xtag ty) ∧ defaultValue ty = (if xtag ty = 2 then .long 0 else if xtag ty = 3 then .null else .int 0) := fun j hj => ⟨tyX6 j, tyX6_ok j hj, (fu_X6 j hj).1, (fu_X6 j hj).2⟩
theorem fu_X7 : ∀ j, j < 3 → (xft 7)[j]? = some (xtag (tyX7 j)) ∧ defaultValue (tyX7 j) = (if xtag (tyX7 j) = 2 then .long 0 else if xtag (tyX7 j) = 3 then .null else .int 0) := fun j hj => match j, hj with
  | 0, _ => ⟨rfl, rfl⟩
  | 1, _ => ⟨rfl, rfl⟩
  | 2, _ => ⟨rfl, rfl⟩
  | j + 3, h => absurd h (by omega)
theorem ft_X7 : ∀ j, j < 3 → ∃ ty, parseFieldDescriptor (TX7 j).2.2.1 = some ty ∧ (xft 7)[j]? = some (xtag ty) ∧ defaultValue ty = (if xtag ty = 2 then .long 0 else if xtag ty = 3 then .null else .int 0) := fun j hj => ⟨tyX7 j, tyX7_ok j hj, (fu_X7 j hj).1, (fu_X7 j hj).2⟩
theorem fu_X9 : ∀ j, j < 9 → (xft 8)[j]? = some (xtag (tyX9 j)) ∧ defaultValue (tyX9 j) = (if xtag (tyX9 j) = 2 then .long 0 else if xtag (tyX9 j) = 3 then .null else .int 0) := fun j hj => match j, hj with
  | 0, _ => ⟨rfl, rfl⟩
  | 1, _ => ⟨rfl, rfl⟩
  | 2, _ => ⟨rfl, rfl⟩
  | 3, _ => ⟨rfl, rfl⟩
  | 4, _ => ⟨rfl, rfl⟩
  | 5, _ => ⟨rfl, rfl⟩
  | 6, _ => ⟨rfl, rfl⟩
  | 7, _ => ⟨rfl, rfl⟩
  | 8, _ => ⟨rfl, rfl⟩
  | j + 9, h => absurd h (by omega)
theorem ft_X9 : ∀ j, j < 9 → ∃ ty, parseFieldDescriptor (TX9 j).2.2.1 = some ty ∧ (xft 8)[j]? = some (xtag ty) ∧ defaultValue ty = (if xtag ty = 2 then .long 0 else if xtag ty = 3 then .null else .int 0) := fun j hj => ⟨tyX9 j, tyX9_ok j hj, (fu_X9 j hj).1, (fu_X9 j hj).2⟩
theorem fu_X11 : ∀ j, j < 13 → (xft 9)[j]? = some (xtag (tyX11 j)) ∧ defaultValue (tyX11 j) = (if xtag (tyX11 j) = 2 then .long 0 else if xtag (tyX11 j) = 3 then .null else .int 0) := fun j hj => match j, hj with
  | 0, _ => ⟨rfl, rfl⟩
  | 1, _ => ⟨rfl, rfl⟩
  | 2, _ => ⟨rfl, rfl⟩
  | 3, _ => ⟨rfl, rfl⟩
  | 4, _ => ⟨rfl, rfl⟩
  | 5, _ => ⟨rfl, rfl⟩
  | 6, _ => ⟨rfl, rfl⟩
  | 7, _ => ⟨rfl, rfl⟩
  | 8, _ => ⟨rfl, rfl⟩
  | 9, _ => ⟨rfl, rfl⟩
  | 10, _ => ⟨rfl, rfl⟩
  | 11, _ => ⟨rfl, rfl⟩
  | 12, _ => ⟨rfl, rfl⟩
  | j + 13, h => absurd h (by omega)
theorem ft_X11 : ∀ j, j < 13 → ∃ ty, parseFieldDescriptor (TX11 j).2.2.1 = some ty ∧ (xft 9)[j]? = some (xtag ty) ∧ defaultValue ty = (if xtag ty = 2 then .long 0 else if xtag ty = 3 then .null else .int 0) := fun j hj => ⟨tyX11 j, tyX11_ok j hj, (fu_X11 j hj).1, (fu_X11 j hj).2⟩
theorem fu_X12 : ∀ j, j < 30 → (xft 10)[j]? = some (xtag (tyX12 j)) ∧ defaultValue (tyX12 j) = (if xtag (tyX12 j) = 2 then .long 0 else if xtag (tyX12 j) = 3 then .null else .int 0) := fun j hj => match j, hj with
  | 0, _ => ⟨rfl, rfl⟩
  | 1, _ => ⟨rfl, rfl⟩
  | 2, _ => ⟨rfl, rfl⟩
  | 3, _ => ⟨rfl, rfl⟩
  | 4, _ => ⟨rfl, rfl⟩
  | 5, _ => ⟨rfl, rfl⟩
  | 6, _ => ⟨rfl, rfl⟩
  | 7, _ => ⟨rfl, rfl⟩
  | 8, _ => ⟨rfl, rfl⟩
  | 9, _ => ⟨rfl, rfl⟩
  | 10, _ => ⟨rfl, rfl⟩
  | 11, _ => ⟨rfl, rfl⟩
  | 12, _ => ⟨rfl, rfl⟩
  | 13, _ => ⟨rfl, rfl⟩
  | 14, _ => ⟨rfl, rfl⟩
  | 15, _ => ⟨rfl, rfl⟩
  | 16, _ => ⟨rfl, rfl⟩
  | 17, _ => ⟨rfl, rfl⟩
  | 18, _ => ⟨rfl, rfl⟩
  | 19, _ => ⟨rfl, rfl⟩
  | 20, _ => ⟨rfl, rfl⟩
  | 21, _ => ⟨rfl, rfl⟩
  | 22, _ => ⟨rfl, rfl⟩
  | 23, _ => ⟨rfl, rfl⟩
  | 24, _ => ⟨rfl, rfl⟩
  | 25, _ => ⟨rfl, rfl⟩
  | 26, _ => ⟨rfl, rfl⟩
  | 27, _ => ⟨rfl, rfl⟩
  | 28, _ => ⟨rfl, rfl⟩
  | 29, _ => ⟨rfl, rfl⟩
  | j + 30, h => absurd h (by omega)
theorem ft_X12 : ∀ j, j < 30 → ∃ ty, parseFieldDescriptor (TX12 j).2.2.1 = some ty ∧ (xft 10)[j]? = some (xtag ty) ∧ defaultValue ty = (if xtag ty = 2 then .long 0 else if xtag ty = 3 then .null else .int 0) := fun j hj => ⟨tyX12 j, tyX12_ok j hj, (fu_X12 j hj).1, (fu_X12 j hj).2⟩
theorem k_X9_init {S : xTS} {R : xTR} {I : xTI} {J : xTJ} {post : xPost} {a k : Nat} (hk : S.length = k) (h9_ : k + 1 ≤ 10000) (ha : S[a]? = some (8, 9)) (B0_ : Blank k R I J) (hp : post none (S ++ [(13, 1000)]) (u2 R (a) 0 (some (k))) (I) J) : xSpec 2 yX9_init cX9_init 1 none 1 1000 [.ref a] S R I J post := by
  refine xSpec_of mt_X9_init (Nat.le_of_ble_eq_true rfl) (fun G C0_ hN hR E hI hZ => ?_)
  change XX G 0 0 0 [some (.ref a)] [] S R I J
  have hak : a < k := by rw [← hk]; exact (List.getElem?_eq_some_iff.mp ha).1
  have hz := hZ (by decide)
  rw [hk] at hz
  refine x_aload_n C0_ rfl dX9_init_0 ?_
  refine x_objInit C0_ (xRf_of hR (by decide) (Nat.zero_le _) (Nat.zero_le _)) wo_X9_3 woI woC (Nat.le_of_ble_eq_true rfl) dX9_init_1 ?_
  refine x_aload_n C0_ rfl dX9_init_4 ?_
  refine x_sipush (v := 1000) C0_ rfl dX9_init_5 ?_
  refine x_newarray (ty := .char) (atype := .char) (kd := 13) (k0 := k) (N := 1000) C0_ ⟨hz, by omega⟩ (xRf_of hR (by decide) (by decide) (by decide)) rfl (Or.inr (Or.inr (Or.inl ⟨rfl, rfl⟩))) wa_char (by rw [hk]; omega) (by decide) (by decide) (by decide) (fun j => by rw [hk]; exact (B0_ (k) (by omega)).1 j) (fun j => by rw [hk]; exact (B0_ (k) (by omega)).2.1 j) dX9_init_8 ?_
  rw [hk]
  show XX G 1 1000 10 [some (.ref a)] [.ref (k), .ref (a)] (S ++ [(13, 1000)]) (R) (I) J
  refine x_putF C0_ hI wq_X9_9 (xget ha) rfl (Or.inr ⟨_, rfl⟩) dX9_init_10 ?_
  have B1_ : Blank (k + 1) (u2 R (a) 0 (some (k))) (I) J := by
    intro j hj
    refine ⟨fun i => (B0_ j (by omega)).1 i, fun i => (B0_ j (by omega)).2.1 i, fun i => ?_⟩
    rw [u2_row _ _ _ (by omega)]; exact (B0_ j (by omega)).2.2 i
  refine x_vret C0_ E (by decide) (by decide) dX9_init_13 ?_
  exact hp
theorem k_X4_init {S : xTS} {R : xTR} {I : xTI} {J : xTJ} {post : xPost} {a k : Nat} (hk : S.length = k) (h9_ : k + 2 ≤ 10000) (ha : S[a]? = some (4, 3)) (B0_ : Blank k R I J) (hp : post none (S ++ [(11, 1000), (11, 24)]) (u2 (u2 R (a) 0 (some (k))) (a) 2 (some (k + 1))) (I) J) : xSpec 2 yX4_init cX4_init 1 none 2 1024 [.ref a] S R I J post := by
  refine xSpec_of mt_X4_init (Nat.le_of_ble_eq_true rfl) (fun G C0_ hN hR E hI hZ => ?_)
  change XX G 0 0 0 [some (.ref a)] [] S R I J
  have hak : a < k := by rw [← hk]; exact (List.getElem?_eq_some_iff.mp ha).1
  have hz := hZ (by decide)
  rw [hk] at hz
  refine x_aload_n C0_ rfl dX4_init_0 ?_
  refine x_objInit C0_ (xRf_of hR (by decide) (Nat.zero_le _) (Nat.zero_le _)) wo_X4_3 woI woC (Nat.le_of_ble_eq_true rfl) dX4_init_1 ?_
  refine x_aload_n C0_ rfl dX4_init_4 ?_
  refine x_sipush (v := 1000) C0_ rfl dX4_init_5 ?_
  refine x_newarray (ty := .int) (atype := .int) (kd := 11) (k0 := k) (N := 1000) C0_ ⟨hz, by omega⟩ (xRf_of hR (by decide) (by decide) (by decide)) rfl (Or.inl ⟨rfl, rfl⟩) wa_int (by rw [hk]; omega) (by decide) (by decide) (by decide) (fun j => by rw [hk]; exact (B0_ (k) (by omega)).1 j) (fun j => by rw [hk]; exact (B0_ (k) (by omega)).2.1 j) dX4_init_8 ?_
  rw [hk]
  show XX G 1 1000 10 [some (.ref a)] [.ref (k), .ref (a)] (S ++ [(11, 1000)]) (R) (I) J
  refine x_putF C0_ hI wq_X4_9 (xget ha) rfl (Or.inr ⟨_, rfl⟩) dX4_init_10 ?_
  have B1_ : Blank (k + 1) (u2 R (a) 0 (some (k))) (I) J := by
    intro j hj
    refine ⟨fun i => (B0_ j (by omega)).1 i, fun i => (B0_ j (by omega)).2.1 i, fun i => ?_⟩
    rw [u2_row _ _ _ (by omega)]; exact (B0_ j (by omega)).2.2 i
  refine x_aload_n C0_ rfl dX4_init_13 ?_
  refine x_bipush (v := 24) C0_ rfl dX4_init_14 ?_
  refine x_newarray (ty := .int) (atype := .int) (kd := 11) (k0 := k) (N := 24) C0_ ⟨hz, by rw [(xlen (l := [(11, 1000)]) (n := 1) hk rfl)]⟩ (xRf_of hR (by decide) (by decide) (by decide)) rfl (Or.inl ⟨rfl, rfl⟩) wa_int (by rw [(xlen (l := [(11, 1000)]) (n := 1) hk rfl)]; omega) (by decide) (by decide) (by decide) (fun j => by rw [(xlen (l := [(11, 1000)]) (n := 1) hk rfl)]; exact (B1_ (k + 1) (by omega)).1 j) (fun j => by rw [(xlen (l := [(11, 1000)]) (n := 1) hk rfl)]; exact (B1_ (k + 1) (by omega)).2.1 j) dX4_init_16 ?_
  rw [(xlen (l := [(11, 1000)]) (n := 1) hk rfl), List.append_assoc]
  show XX G 2 1024 18 [some (.ref a)] [.ref (k + 1), .ref (a)] (S ++ [(11, 1000), (11, 24)]) (u2 R (a) 0 (some (k))) (I) J
  refine x_putF C0_ hI wq_X4_15 (xget ha) rfl (Or.inr ⟨_, rfl⟩) dX4_init_18 ?_
  have B2_ : Blank (k + 2) (u2 (u2 R (a) 0 (some (k))) (a) 2 (some (k + 1))) (I) J := by
    intro j hj
    refine ⟨fun i => (B1_ j (by omega)).1 i, fun i => (B1_ j (by omega)).2.1 i, fun i => ?_⟩
    rw [u2_row _ _ _ (by omega)]; exact (B1_ j (by omega)).2.2 i
  refine x_vret C0_ E (by decide) (by decide) dX4_init_21 ?_
  exact hp
theorem k_X3_init {S : xTS} {R : xTR} {I : xTI} {J : xTJ} {post : xPost} {a k : Nat} (hk : S.length = k) (h9_ : k + 3 ≤ 10000) (ha : S[a]? = some (3, 7)) (B0_ : Blank k R I J) (hp : post none (S ++ [(11, 8), (11, 36), (11, 6)]) (u2 (u2 (u2 R (a) 4 (some (k))) (a) 5 (some (k + 1))) (a) 6 (some (k + 2))) (I) J) : xSpec 2 yX3_init cX3_init 1 none 3 50 [.ref a] S R I J post := by
  refine xSpec_of mt_X3_init (Nat.le_of_ble_eq_true rfl) (fun G C0_ hN hR E hI hZ => ?_)
  change XX G 0 0 0 [some (.ref a)] [] S R I J
  have hak : a < k := by rw [← hk]; exact (List.getElem?_eq_some_iff.mp ha).1
  have hz := hZ (by decide)
  rw [hk] at hz
  refine x_aload_n C0_ rfl dX3_init_0 ?_
  refine x_objInit C0_ (xRf_of hR (by decide) (Nat.zero_le _) (Nat.zero_le _)) wo_X3_3 woI woC (Nat.le_of_ble_eq_true rfl) dX3_init_1 ?_
  refine x_aload_n C0_ rfl dX3_init_4 ?_
  refine x_bipush (v := 8) C0_ rfl dX3_init_5 ?_
  refine x_newarray (ty := .int) (atype := .int) (kd := 11) (k0 := k) (N := 8) C0_ ⟨hz, by omega⟩ (xRf_of hR (by decide) (by decide) (by decide)) rfl (Or.inl ⟨rfl, rfl⟩) wa_int (by rw [hk]; omega) (by decide) (by decide) (by decide) (fun j => by rw [hk]; exact (B0_ (k) (by omega)).1 j) (fun j => by rw [hk]; exact (B0_ (k) (by omega)).2.1 j) dX3_init_7 ?_
  rw [hk]
  show XX G 1 8 9 [some (.ref a)] [.ref (k), .ref (a)] (S ++ [(11, 8)]) (R) (I) J
  refine x_putF C0_ hI wq_X3_9 (xget ha) rfl (Or.inr ⟨_, rfl⟩) dX3_init_9 ?_
  have B1_ : Blank (k + 1) (u2 R (a) 4 (some (k))) (I) J := by
    intro j hj
    refine ⟨fun i => (B0_ j (by omega)).1 i, fun i => (B0_ j (by omega)).2.1 i, fun i => ?_⟩
    rw [u2_row _ _ _ (by omega)]; exact (B0_ j (by omega)).2.2 i
  refine x_aload_n C0_ rfl dX3_init_12 ?_
  refine x_bipush (v := 36) C0_ rfl dX3_init_13 ?_
  refine x_newarray (ty := .int) (atype := .int) (kd := 11) (k0 := k) (N := 36) C0_ ⟨hz, by rw [(xlen (l := [(11, 8)]) (n := 1) hk rfl)]⟩ (xRf_of hR (by decide) (by decide) (by decide)) rfl (Or.inl ⟨rfl, rfl⟩) wa_int (by rw [(xlen (l := [(11, 8)]) (n := 1) hk rfl)]; omega) (by decide) (by decide) (by decide) (fun j => by rw [(xlen (l := [(11, 8)]) (n := 1) hk rfl)]; exact (B1_ (k + 1) (by omega)).1 j) (fun j => by rw [(xlen (l := [(11, 8)]) (n := 1) hk rfl)]; exact (B1_ (k + 1) (by omega)).2.1 j) dX3_init_15 ?_
  rw [(xlen (l := [(11, 8)]) (n := 1) hk rfl), List.append_assoc]
  show XX G 2 44 17 [some (.ref a)] [.ref (k + 1), .ref (a)] (S ++ [(11, 8), (11, 36)]) (u2 R (a) 4 (some (k))) (I) J
  refine x_putF C0_ hI wq_X3_15 (xget ha) rfl (Or.inr ⟨_, rfl⟩) dX3_init_17 ?_
  have B2_ : Blank (k + 2) (u2 (u2 R (a) 4 (some (k))) (a) 5 (some (k + 1))) (I) J := by
    intro j hj
    refine ⟨fun i => (B1_ j (by omega)).1 i, fun i => (B1_ j (by omega)).2.1 i, fun i => ?_⟩
    rw [u2_row _ _ _ (by omega)]; exact (B1_ j (by omega)).2.2 i
  refine x_aload_n C0_ rfl dX3_init_20 ?_
  refine x_bipush (v := 6) C0_ rfl dX3_init_21 ?_
  refine x_newarray (ty := .int) (atype := .int) (kd := 11) (k0 := k) (N := 6) C0_ ⟨hz, by rw [(xlen (l := [(11, 8), (11, 36)]) (n := 2) hk rfl)]⟩ (xRf_of hR (by decide) (by decide) (by decide)) rfl (Or.inl ⟨rfl, rfl⟩) wa_int (by rw [(xlen (l := [(11, 8), (11, 36)]) (n := 2) hk rfl)]; omega) (by decide) (by decide) (by decide) (fun j => by rw [(xlen (l := [(11, 8), (11, 36)]) (n := 2) hk rfl)]; exact (B2_ (k + 2) (by omega)).1 j) (fun j => by rw [(xlen (l := [(11, 8), (11, 36)]) (n := 2) hk rfl)]; exact (B2_ (k + 2) (by omega)).2.1 j) dX3_init_23 ?_
  rw [(xlen (l := [(11, 8), (11, 36)]) (n := 2) hk rfl), List.append_assoc]
  show XX G 3 50 25 [some (.ref a)] [.ref (k + 2), .ref (a)] (S ++ [(11, 8), (11, 36), (11, 6)]) (u2 (u2 R (a) 4 (some (k))) (a) 5 (some (k + 1))) (I) J
  refine x_putF C0_ hI wq_X3_18 (xget ha) rfl (Or.inr ⟨_, rfl⟩) dX3_init_25 ?_
  have B3_ : Blank (k + 3) (u2 (u2 (u2 R (a) 4 (some (k))) (a) 5 (some (k + 1))) (a) 6 (some (k + 2))) (I) J := by
    intro j hj
    refine ⟨fun i => (B2_ j (by omega)).1 i, fun i => (B2_ j (by omega)).2.1 i, fun i => ?_⟩
    rw [u2_row _ _ _ (by omega)]; exact (B2_ j (by omega)).2.2 i
  refine x_vret C0_ E (by decide) (by decide) dX3_init_28 ?_
  exact hp
theorem k_X1_init {S : xTS} {R : xTR} {I : xTI} {J : xTJ} {post : xPost} {a k : Nat} (hk : S.length = k) (h9_ : k + 3 ≤ 10000) (ha : S[a]? = some (1, 4)) (B0_ : Blank k R I J) (hp : post none (S ++ [(11, 40), (11, 40), (11, 40)]) (u2 (u2 (u2 R (a) 1 (some (k))) (a) 2 (some (k + 1))) (a) 3 (some (k + 2))) (I) J) : xSpec 2 yX1_init cX1_init 1 none 3 120 [.ref a] S R I J post := by
  refine xSpec_of mt_X1_init (Nat.le_of_ble_eq_true rfl) (fun G C0_ hN hR E hI hZ => ?_)
  change XX G 0 0 0 [some (.ref a)] [] S R I J
  have hak : a < k := by rw [← hk]; exact (List.getElem?_eq_some_iff.mp ha).1
  have hz := hZ (by decide)
  rw [hk] at hz
  refine x_aload_n C0_ rfl dX1_init_0 ?_
  refine x_objInit C0_ (xRf_of hR (by decide) (Nat.zero_le _) (Nat.zero_le _)) wo_X1_3 woI woC (Nat.le_of_ble_eq_true rfl) dX1_init_1 ?_
  refine x_aload_n C0_ rfl dX1_init_4 ?_
  refine x_bipush (v := 40) C0_ rfl dX1_init_5 ?_
  refine x_newarray (ty := .int) (atype := .int) (kd := 11) (k0 := k) (N := 40) C0_ ⟨hz, by omega⟩ (xRf_of hR (by decide) (by decide) (by decide)) rfl (Or.inl ⟨rfl, rfl⟩) wa_int (by rw [hk]; omega) (by decide) (by decide) (by decide) (fun j => by rw [hk]; exact (B0_ (k) (by omega)).1 j) (fun j => by rw [hk]; exact (B0_ (k) (by omega)).2.1 j) dX1_init_7 ?_
  rw [hk]
  show XX G 1 40 9 [some (.ref a)] [.ref (k), .ref (a)] (S ++ [(11, 40)]) (R) (I) J
  refine x_putF C0_ hI wq_X1_9 (xget ha) rfl (Or.inr ⟨_, rfl⟩) dX1_init_9 ?_
  have B1_ : Blank (k + 1) (u2 R (a) 1 (some (k))) (I) J := by
    intro j hj
    refine ⟨fun i => (B0_ j (by omega)).1 i, fun i => (B0_ j (by omega)).2.1 i, fun i => ?_⟩
    rw [u2_row _ _ _ (by omega)]; exact (B0_ j (by omega)).2.2 i
  refine x_aload_n C0_ rfl dX1_init_12 ?_
  refine x_bipush (v := 40) C0_ rfl dX1_init_13 ?_
  refine x_newarray (ty := .int) (atype := .int) (kd := 11) (k0 := k) (N := 40) C0_ ⟨hz, by rw [(xlen (l := [(11, 40)]) (n := 1) hk rfl)]⟩ (xRf_of hR (by decide) (by decide) (by decide)) rfl (Or.inl ⟨rfl, rfl⟩) wa_int (by rw [(xlen (l := [(11, 40)]) (n := 1) hk rfl)]; omega) (by decide) (by decide) (by decide) (fun j => by rw [(xlen (l := [(11, 40)]) (n := 1) hk rfl)]; exact (B1_ (k + 1) (by omega)).1 j) (fun j => by rw [(xlen (l := [(11, 40)]) (n := 1) hk rfl)]; exact (B1_ (k + 1) (by omega)).2.1 j) dX1_init_15 ?_
  rw [(xlen (l := [(11, 40)]) (n := 1) hk rfl), List.append_assoc]
  show XX G 2 80 17 [some (.ref a)] [.ref (k + 1), .ref (a)] (S ++ [(11, 40), (11, 40)]) (u2 R (a) 1 (some (k))) (I) J
  refine x_putF C0_ hI wq_X1_15 (xget ha) rfl (Or.inr ⟨_, rfl⟩) dX1_init_17 ?_
  have B2_ : Blank (k + 2) (u2 (u2 R (a) 1 (some (k))) (a) 2 (some (k + 1))) (I) J := by
    intro j hj
    refine ⟨fun i => (B1_ j (by omega)).1 i, fun i => (B1_ j (by omega)).2.1 i, fun i => ?_⟩
    rw [u2_row _ _ _ (by omega)]; exact (B1_ j (by omega)).2.2 i
  refine x_aload_n C0_ rfl dX1_init_20 ?_
  refine x_bipush (v := 40) C0_ rfl dX1_init_21 ?_
  refine x_newarray (ty := .int) (atype := .int) (kd := 11) (k0 := k) (N := 40) C0_ ⟨hz, by rw [(xlen (l := [(11, 40), (11, 40)]) (n := 2) hk rfl)]⟩ (xRf_of hR (by decide) (by decide) (by decide)) rfl (Or.inl ⟨rfl, rfl⟩) wa_int (by rw [(xlen (l := [(11, 40), (11, 40)]) (n := 2) hk rfl)]; omega) (by decide) (by decide) (by decide) (fun j => by rw [(xlen (l := [(11, 40), (11, 40)]) (n := 2) hk rfl)]; exact (B2_ (k + 2) (by omega)).1 j) (fun j => by rw [(xlen (l := [(11, 40), (11, 40)]) (n := 2) hk rfl)]; exact (B2_ (k + 2) (by omega)).2.1 j) dX1_init_23 ?_
  rw [(xlen (l := [(11, 40), (11, 40)]) (n := 2) hk rfl), List.append_assoc]
  show XX G 3 120 25 [some (.ref a)] [.ref (k + 2), .ref (a)] (S ++ [(11, 40), (11, 40), (11, 40)]) (u2 (u2 R (a) 1 (some (k))) (a) 2 (some (k + 1))) (I) J
  refine x_putF C0_ hI wq_X1_18 (xget ha) rfl (Or.inr ⟨_, rfl⟩) dX1_init_25 ?_
  have B3_ : Blank (k + 3) (u2 (u2 (u2 R (a) 1 (some (k))) (a) 2 (some (k + 1))) (a) 3 (some (k + 2))) (I) J := by
    intro j hj
    refine ⟨fun i => (B2_ j (by omega)).1 i, fun i => (B2_ j (by omega)).2.1 i, fun i => ?_⟩
    rw [u2_row _ _ _ (by omega)]; exact (B2_ j (by omega)).2.2 i
  refine x_vret C0_ E (by decide) (by decide) dX1_init_28 ?_
  exact hp
theorem k_X2_init {S : xTS} {R : xTR} {I : xTI} {J : xTJ} {post : xPost} {a k : Nat} (hk : S.length = k) (h9_ : k + 8 ≤ 10000) (ha : S[a]? = some (2, 12)) (B0_ : Blank k R I J) (hp : post none (S ++ [(12, 6), (12, 6), (11, 8), (11, 8), (11, 6), (11, 6), (11, 6), (11, 192)]) (u2 (u2 (u2 (u2 (u2 (u2 (u2 (u2 R (a) 4 (some (k))) (a) 5 (some (k + 1))) (a) 6 (some (k + 2))) (a) 7 (some (k + 3))) (a) 8 (some (k + 4))) (a) 9 (some (k + 5))) (a) 10 (some (k + 6))) (a) 11 (some (k + 7))) (u2 I a 3 8) J) : xSpec 2 yX2_init cX2_init 1 none 8 238 [.ref a] S R I J post := by
  refine xSpec_of mt_X2_init (Nat.le_of_ble_eq_true rfl) (fun G C0_ hN hR E hI hZ => ?_)
  change XX G 0 0 0 [some (.ref a)] [] S R I J
  have hak : a < k := by rw [← hk]; exact (List.getElem?_eq_some_iff.mp ha).1
  have hz := hZ (by decide)
  rw [hk] at hz
  refine x_aload_n C0_ rfl dX2_init_0 ?_
  refine x_objInit C0_ (xRf_of hR (by decide) (Nat.zero_le _) (Nat.zero_le _)) wo_X2_3 woI woC (Nat.le_of_ble_eq_true rfl) dX2_init_1 ?_
  refine x_aload_n C0_ rfl dX2_init_4 ?_
  refine x_bipush (v := 8) C0_ rfl dX2_init_5 ?_
  refine x_putI C0_ wf_X2_9 (ha) rfl dX2_init_7 ?_
  have B1_ : Blank (k) (R) (u2 I a 3 8) J := by
    intro j hj
    refine ⟨fun i => ?_, fun i => (B0_ j (by omega)).2.1 i, fun i => (B0_ j (by omega)).2.2 i⟩
    rw [u2_row _ _ _ (by omega)]; exact (B0_ j (by omega)).1 i
  refine x_aload_n C0_ rfl dX2_init_10 ?_
  refine x_bipush (v := 6) C0_ rfl dX2_init_11 ?_
  refine x_newarray (ty := .long) (atype := .long) (kd := 12) (k0 := k) (N := 6) C0_ ⟨hz, by omega⟩ (xRf_of hR (by decide) (by decide) (by decide)) rfl (Or.inr (Or.inl ⟨rfl, rfl⟩)) wa_long (by rw [hk]; omega) (by decide) (by decide) (by decide) (fun j => by rw [hk]; exact (B1_ (k) (by omega)).1 j) (fun j => by rw [hk]; exact (B1_ (k) (by omega)).2.1 j) dX2_init_13 ?_
  rw [hk]
  show XX G 1 6 15 [some (.ref a)] [.ref (k), .ref (a)] (S ++ [(12, 6)]) (R) (u2 I a 3 8) J
  refine x_putF C0_ hI wq_X2_15 (xget ha) rfl (Or.inr ⟨_, rfl⟩) dX2_init_15 ?_
  have B2_ : Blank (k + 1) (u2 R (a) 4 (some (k))) (u2 I a 3 8) J := by
    intro j hj
    refine ⟨fun i => (B1_ j (by omega)).1 i, fun i => (B1_ j (by omega)).2.1 i, fun i => ?_⟩
    rw [u2_row _ _ _ (by omega)]; exact (B1_ j (by omega)).2.2 i
  refine x_aload_n C0_ rfl dX2_init_18 ?_
  refine x_bipush (v := 6) C0_ rfl dX2_init_19 ?_
  refine x_newarray (ty := .long) (atype := .long) (kd := 12) (k0 := k) (N := 6) C0_ ⟨hz, by rw [(xlen (l := [(12, 6)]) (n := 1) hk rfl)]⟩ (xRf_of hR (by decide) (by decide) (by decide)) rfl (Or.inr (Or.inl ⟨rfl, rfl⟩)) wa_long (by rw [(xlen (l := [(12, 6)]) (n := 1) hk rfl)]; omega) (by decide) (by decide) (by decide) (fun j => by rw [(xlen (l := [(12, 6)]) (n := 1) hk rfl)]; exact (B2_ (k + 1) (by omega)).1 j) (fun j => by rw [(xlen (l := [(12, 6)]) (n := 1) hk rfl)]; exact (B2_ (k + 1) (by omega)).2.1 j) dX2_init_21 ?_
  rw [(xlen (l := [(12, 6)]) (n := 1) hk rfl), List.append_assoc]
  show XX G 2 12 23 [some (.ref a)] [.ref (k + 1), .ref (a)] (S ++ [(12, 6), (12, 6)]) (u2 R (a) 4 (some (k))) (u2 I a 3 8) J
  refine x_putF C0_ hI wq_X2_19 (xget ha) rfl (Or.inr ⟨_, rfl⟩) dX2_init_23 ?_
  have B3_ : Blank (k + 2) (u2 (u2 R (a) 4 (some (k))) (a) 5 (some (k + 1))) (u2 I a 3 8) J := by
    intro j hj
    refine ⟨fun i => (B2_ j (by omega)).1 i, fun i => (B2_ j (by omega)).2.1 i, fun i => ?_⟩
    rw [u2_row _ _ _ (by omega)]; exact (B2_ j (by omega)).2.2 i
  refine x_aload_n C0_ rfl dX2_init_26 ?_
  refine x_bipush (v := 8) C0_ rfl dX2_init_27 ?_
  refine x_newarray (ty := .int) (atype := .int) (kd := 11) (k0 := k) (N := 8) C0_ ⟨hz, by rw [(xlen (l := [(12, 6), (12, 6)]) (n := 2) hk rfl)]⟩ (xRf_of hR (by decide) (by decide) (by decide)) rfl (Or.inl ⟨rfl, rfl⟩) wa_int (by rw [(xlen (l := [(12, 6), (12, 6)]) (n := 2) hk rfl)]; omega) (by decide) (by decide) (by decide) (fun j => by rw [(xlen (l := [(12, 6), (12, 6)]) (n := 2) hk rfl)]; exact (B3_ (k + 2) (by omega)).1 j) (fun j => by rw [(xlen (l := [(12, 6), (12, 6)]) (n := 2) hk rfl)]; exact (B3_ (k + 2) (by omega)).2.1 j) dX2_init_29 ?_
  rw [(xlen (l := [(12, 6), (12, 6)]) (n := 2) hk rfl), List.append_assoc]
  show XX G 3 20 31 [some (.ref a)] [.ref (k + 2), .ref (a)] (S ++ [(12, 6), (12, 6), (11, 8)]) (u2 (u2 R (a) 4 (some (k))) (a) 5 (some (k + 1))) (u2 I a 3 8) J
  refine x_putF C0_ hI wq_X2_22 (xget ha) rfl (Or.inr ⟨_, rfl⟩) dX2_init_31 ?_
  have B4_ : Blank (k + 3) (u2 (u2 (u2 R (a) 4 (some (k))) (a) 5 (some (k + 1))) (a) 6 (some (k + 2))) (u2 I a 3 8) J := by
    intro j hj
    refine ⟨fun i => (B3_ j (by omega)).1 i, fun i => (B3_ j (by omega)).2.1 i, fun i => ?_⟩
    rw [u2_row _ _ _ (by omega)]; exact (B3_ j (by omega)).2.2 i
  refine x_aload_n C0_ rfl dX2_init_34 ?_
  refine x_bipush (v := 8) C0_ rfl dX2_init_35 ?_
  refine x_newarray (ty := .int) (atype := .int) (kd := 11) (k0 := k) (N := 8) C0_ ⟨hz, by rw [(xlen (l := [(12, 6), (12, 6), (11, 8)]) (n := 3) hk rfl)]⟩ (xRf_of hR (by decide) (by decide) (by decide)) rfl (Or.inl ⟨rfl, rfl⟩) wa_int (by rw [(xlen (l := [(12, 6), (12, 6), (11, 8)]) (n := 3) hk rfl)]; omega) (by decide) (by decide) (by decide) (fun j => by rw [(xlen (l := [(12, 6), (12, 6), (11, 8)]) (n := 3) hk rfl)]; exact (B4_ (k + 3) (by omega)).1 j) (fun j => by rw [(xlen (l := [(12, 6), (12, 6), (11, 8)]) (n := 3) hk rfl)]; exact (B4_ (k + 3) (by omega)).2.1 j) dX2_init_37 ?_
  rw [(xlen (l := [(12, 6), (12, 6), (11, 8)]) (n := 3) hk rfl), List.append_assoc]
  show XX G 4 28 39 [some (.ref a)] [.ref (k + 3), .ref (a)] (S ++ [(12, 6), (12, 6), (11, 8), (11, 8)]) (u2 (u2 (u2 R (a) 4 (some (k))) (a) 5 (some (k + 1))) (a) 6 (some (k + 2))) (u2 I a 3 8) J
  refine x_putF C0_ hI wq_X2_26 (xget ha) rfl (Or.inr ⟨_, rfl⟩) dX2_init_39 ?_
  have B5_ : Blank (k + 4) (u2 (u2 (u2 (u2 R (a) 4 (some (k))) (a) 5 (some (k + 1))) (a) 6 (some (k + 2))) (a) 7 (some (k + 3))) (u2 I a 3 8) J := by
    intro j hj
    refine ⟨fun i => (B4_ j (by omega)).1 i, fun i => (B4_ j (by omega)).2.1 i, fun i => ?_⟩
    rw [u2_row _ _ _ (by omega)]; exact (B4_ j (by omega)).2.2 i
  refine x_aload_n C0_ rfl dX2_init_42 ?_
  refine x_bipush (v := 6) C0_ rfl dX2_init_43 ?_
  refine x_newarray (ty := .int) (atype := .int) (kd := 11) (k0 := k) (N := 6) C0_ ⟨hz, by rw [(xlen (l := [(12, 6), (12, 6), (11, 8), (11, 8)]) (n := 4) hk rfl)]⟩ (xRf_of hR (by decide) (by decide) (by decide)) rfl (Or.inl ⟨rfl, rfl⟩) wa_int (by rw [(xlen (l := [(12, 6), (12, 6), (11, 8), (11, 8)]) (n := 4) hk rfl)]; omega) (by decide) (by decide) (by decide) (fun j => by rw [(xlen (l := [(12, 6), (12, 6), (11, 8), (11, 8)]) (n := 4) hk rfl)]; exact (B5_ (k + 4) (by omega)).1 j) (fun j => by rw [(xlen (l := [(12, 6), (12, 6), (11, 8), (11, 8)]) (n := 4) hk rfl)]; exact (B5_ (k + 4) (by omega)).2.1 j) dX2_init_45 ?_
  rw [(xlen (l := [(12, 6), (12, 6), (11, 8), (11, 8)]) (n := 4) hk rfl), List.append_assoc]
  show XX G 5 34 47 [some (.ref a)] [.ref (k + 4), .ref (a)] (S ++ [(12, 6), (12, 6), (11, 8), (11, 8), (11, 6)]) (u2 (u2 (u2 (u2 R (a) 4 (some (k))) (a) 5 (some (k + 1))) (a) 6 (some (k + 2))) (a) 7 (some (k + 3))) (u2 I a 3 8) J
  refine x_putF C0_ hI wq_X2_29 (xget ha) rfl (Or.inr ⟨_, rfl⟩) dX2_init_47 ?_
  have B6_ : Blank (k + 5) (u2 (u2 (u2 (u2 (u2 R (a) 4 (some (k))) (a) 5 (some (k + 1))) (a) 6 (some (k + 2))) (a) 7 (some (k + 3))) (a) 8 (some (k + 4))) (u2 I a 3 8) J := by
    intro j hj
    refine ⟨fun i => (B5_ j (by omega)).1 i, fun i => (B5_ j (by omega)).2.1 i, fun i => ?_⟩
    rw [u2_row _ _ _ (by omega)]; exact (B5_ j (by omega)).2.2 i
  refine x_aload_n C0_ rfl dX2_init_50 ?_
  refine x_bipush (v := 6) C0_ rfl dX2_init_51 ?_
  refine x_newarray (ty := .int) (atype := .int) (kd := 11) (k0 := k) (N := 6) C0_ ⟨hz, by rw [(xlen (l := [(12, 6), (12, 6), (11, 8), (11, 8), (11, 6)]) (n := 5) hk rfl)]⟩ (xRf_of hR (by decide) (by decide) (by decide)) rfl (Or.inl ⟨rfl, rfl⟩) wa_int (by rw [(xlen (l := [(12, 6), (12, 6), (11, 8), (11, 8), (11, 6)]) (n := 5) hk rfl)]; omega) (by decide) (by decide) (by decide) (fun j => by rw [(xlen (l := [(12, 6), (12, 6), (11, 8), (11, 8), (11, 6)]) (n := 5) hk rfl)]; exact (B6_ (k + 5) (by omega)).1 j) (fun j => by rw [(xlen (l := [(12, 6), (12, 6), (11, 8), (11, 8), (11, 6)]) (n := 5) hk rfl)]; exact (B6_ (k + 5) (by omega)).2.1 j) dX2_init_53 ?_
  rw [(xlen (l := [(12, 6), (12, 6), (11, 8), (11, 8), (11, 6)]) (n := 5) hk rfl), List.append_assoc]
  show XX G 6 40 55 [some (.ref a)] [.ref (k + 5), .ref (a)] (S ++ [(12, 6), (12, 6), (11, 8), (11, 8), (11, 6), (11, 6)]) (u2 (u2 (u2 (u2 (u2 R (a) 4 (some (k))) (a) 5 (some (k + 1))) (a) 6 (some (k + 2))) (a) 7 (some (k + 3))) (a) 8 (some (k + 4))) (u2 I a 3 8) J
  refine x_putF C0_ hI wq_X2_32 (xget ha) rfl (Or.inr ⟨_, rfl⟩) dX2_init_55 ?_
  have B7_ : Blank (k + 6) (u2 (u2 (u2 (u2 (u2 (u2 R (a) 4 (some (k))) (a) 5 (some (k + 1))) (a) 6 (some (k + 2))) (a) 7 (some (k + 3))) (a) 8 (some (k + 4))) (a) 9 (some (k + 5))) (u2 I a 3 8) J := by
    intro j hj
    refine ⟨fun i => (B6_ j (by omega)).1 i, fun i => (B6_ j (by omega)).2.1 i, fun i => ?_⟩
    rw [u2_row _ _ _ (by omega)]; exact (B6_ j (by omega)).2.2 i
  refine x_aload_n C0_ rfl dX2_init_58 ?_
  refine x_bipush (v := 6) C0_ rfl dX2_init_59 ?_
  refine x_newarray (ty := .int) (atype := .int) (kd := 11) (k0 := k) (N := 6) C0_ ⟨hz, by rw [(xlen (l := [(12, 6), (12, 6), (11, 8), (11, 8), (11, 6), (11, 6)]) (n := 6) hk rfl)]⟩ (xRf_of hR (by decide) (by decide) (by decide)) rfl (Or.inl ⟨rfl, rfl⟩) wa_int (by rw [(xlen (l := [(12, 6), (12, 6), (11, 8), (11, 8), (11, 6), (11, 6)]) (n := 6) hk rfl)]; omega) (by decide) (by decide) (by decide) (fun j => by rw [(xlen (l := [(12, 6), (12, 6), (11, 8), (11, 8), (11, 6), (11, 6)]) (n := 6) hk rfl)]; exact (B7_ (k + 6) (by omega)).1 j) (fun j => by rw [(xlen (l := [(12, 6), (12, 6), (11, 8), (11, 8), (11, 6), (11, 6)]) (n := 6) hk rfl)]; exact (B7_ (k + 6) (by omega)).2.1 j) dX2_init_61 ?_
  rw [(xlen (l := [(12, 6), (12, 6), (11, 8), (11, 8), (11, 6), (11, 6)]) (n := 6) hk rfl), List.append_assoc]
  show XX G 7 46 63 [some (.ref a)] [.ref (k + 6), .ref (a)] (S ++ [(12, 6), (12, 6), (11, 8), (11, 8), (11, 6), (11, 6), (11, 6)]) (u2 (u2 (u2 (u2 (u2 (u2 R (a) 4 (some (k))) (a) 5 (some (k + 1))) (a) 6 (some (k + 2))) (a) 7 (some (k + 3))) (a) 8 (some (k + 4))) (a) 9 (some (k + 5))) (u2 I a 3 8) J
  refine x_putF C0_ hI wq_X2_35 (xget ha) rfl (Or.inr ⟨_, rfl⟩) dX2_init_63 ?_
  have B8_ : Blank (k + 7) (u2 (u2 (u2 (u2 (u2 (u2 (u2 R (a) 4 (some (k))) (a) 5 (some (k + 1))) (a) 6 (some (k + 2))) (a) 7 (some (k + 3))) (a) 8 (some (k + 4))) (a) 9 (some (k + 5))) (a) 10 (some (k + 6))) (u2 I a 3 8) J := by
    intro j hj
    refine ⟨fun i => (B7_ j (by omega)).1 i, fun i => (B7_ j (by omega)).2.1 i, fun i => ?_⟩
    rw [u2_row _ _ _ (by omega)]; exact (B7_ j (by omega)).2.2 i
  refine x_aload_n C0_ rfl dX2_init_66 ?_
  refine x_sipush (v := 192) C0_ rfl dX2_init_67 ?_
  refine x_newarray (ty := .int) (atype := .int) (kd := 11) (k0 := k) (N := 192) C0_ ⟨hz, by rw [(xlen (l := [(12, 6), (12, 6), (11, 8), (11, 8), (11, 6), (11, 6), (11, 6)]) (n := 7) hk rfl)]⟩ (xRf_of hR (by decide) (by decide) (by decide)) rfl (Or.inl ⟨rfl, rfl⟩) wa_int (by rw [(xlen (l := [(12, 6), (12, 6), (11, 8), (11, 8), (11, 6), (11, 6), (11, 6)]) (n := 7) hk rfl)]; omega) (by decide) (by decide) (by decide) (fun j => by rw [(xlen (l := [(12, 6), (12, 6), (11, 8), (11, 8), (11, 6), (11, 6), (11, 6)]) (n := 7) hk rfl)]; exact (B8_ (k + 7) (by omega)).1 j) (fun j => by rw [(xlen (l := [(12, 6), (12, 6), (11, 8), (11, 8), (11, 6), (11, 6), (11, 6)]) (n := 7) hk rfl)]; exact (B8_ (k + 7) (by omega)).2.1 j) dX2_init_70 ?_
  rw [(xlen (l := [(12, 6), (12, 6), (11, 8), (11, 8), (11, 6), (11, 6), (11, 6)]) (n := 7) hk rfl), List.append_assoc]
  show XX G 8 238 72 [some (.ref a)] [.ref (k + 7), .ref (a)] (S ++ [(12, 6), (12, 6), (11, 8), (11, 8), (11, 6), (11, 6), (11, 6), (11, 192)]) (u2 (u2 (u2 (u2 (u2 (u2 (u2 R (a) 4 (some (k))) (a) 5 (some (k + 1))) (a) 6 (some (k + 2))) (a) 7 (some (k + 3))) (a) 8 (some (k + 4))) (a) 9 (some (k + 5))) (a) 10 (some (k + 6))) (u2 I a 3 8) J
  refine x_putF C0_ hI wq_X2_38 (xget ha) rfl (Or.inr ⟨_, rfl⟩) dX2_init_72 ?_
  have B9_ : Blank (k + 8) (u2 (u2 (u2 (u2 (u2 (u2 (u2 (u2 R (a) 4 (some (k))) (a) 5 (some (k + 1))) (a) 6 (some (k + 2))) (a) 7 (some (k + 3))) (a) 8 (some (k + 4))) (a) 9 (some (k + 5))) (a) 10 (some (k + 6))) (a) 11 (some (k + 7))) (u2 I a 3 8) J := by
    intro j hj
    refine ⟨fun i => (B8_ j (by omega)).1 i, fun i => (B8_ j (by omega)).2.1 i, fun i => ?_⟩
    rw [u2_row _ _ _ (by omega)]; exact (B8_ j (by omega)).2.2 i
  refine x_vret C0_ E (by decide) (by decide) dX2_init_75 ?_
  exact hp
theorem k_X0_init {S : xTS} {R : xTR} {I : xTI} {J : xTJ} {post : xPost} {a k : Nat} (hk : S.length = k) (h9_ : k + 1 ≤ 10000) (ha : S[a]? = some (0, 1)) (B0_ : Blank k R I J) (hp : post none (S) (R) (I) J) : xSpec 2 yX0_init cX0_init 1 none 0 0 [.ref a] S R I J post := by
  refine xSpec_of mt_X0_init (Nat.le_of_ble_eq_true rfl) (fun G C0_ hN hR E hI hZ => ?_)
  change XX G 0 0 0 [some (.ref a)] [] S R I J
  have hak : a < k := by rw [← hk]; exact (List.getElem?_eq_some_iff.mp ha).1
  refine x_aload_n C0_ rfl dX0_init_0 ?_
  refine x_objInit C0_ (xRf_of hR (by decide) (Nat.zero_le _) (Nat.zero_le _)) wo_X0_1 woI woC (Nat.le_of_ble_eq_true rfl) dX0_init_1 ?_
  refine x_vret C0_ E (by decide) (by decide) dX0_init_4 ?_
  exact hp
theorem k_X7_init {S : xTS} {R : xTR} {I : xTI} {J : xTJ} {post : xPost} {a k : Nat} (hk : S.length = k) (h9_ : k + 3 ≤ 10000) (ha : S[a]? = some (7, 3)) (B0_ : Blank k R I J) (hp : post none (S ++ [(4, 3), (11, 1000), (11, 24)]) (u2 (u2 (u2 R (k) 0 (some (k + 1))) (k) 2 (some (k + 2))) (a) 0 (some (k))) (I) J) : xSpec 3 yX7_init cX7_init 1 none 3 1027 [.ref a] S R I J post := by
  refine xSpec_of mt_X7_init (Nat.le_of_ble_eq_true rfl) (fun G C0_ hN hR E hI hZ => ?_)
  change XX G 0 0 0 [some (.ref a)] [] S R I J
  have hak : a < k := by rw [← hk]; exact (List.getElem?_eq_some_iff.mp ha).1
  have hz := hZ (by decide)
  rw [hk] at hz
  refine x_aload_n C0_ rfl dX7_init_0 ?_
  refine x_objInit C0_ (xRf_of hR (by decide) (Nat.zero_le _) (Nat.zero_le _)) wo_X7_3 woI woC (Nat.le_of_ble_eq_true rfl) dX7_init_1 ?_
  refine x_aload_n C0_ rfl dX7_init_4 ?_
  refine x_new (ci := 4) (k0 := k) C0_ ⟨hz, by omega⟩ (xRf_of hR (by decide) (by decide) (by decide)) cl_X4 wc_X7_9 wi_X4 wz_X4 (by rw [hk]; omega) ft_X4 rfl (fun j => by rw [hk]; exact (B0_ (k) (by omega)).1 j) (fun j => by rw [hk]; exact (B0_ (k) (by omega)).2.1 j) (fun j => by rw [hk]; exact (B0_ (k) (by omega)).2.2 j) dX7_init_5 ?_
  rw [hk]
  show XX G 1 3 8 [some (.ref a)] [.ref (k), .ref (a)] (S ++ [(4, 3)]) (R) (I) J
  refine x_dup C0_ rfl dX7_init_8 ?_
  refine x_callI (a := k) (k0 := k) (mc := 2) (ms := 1024) [] C0_ (fun _ => ⟨hz, by rw [(xlen (l := [(4, 3)]) (n := 1) hk rfl)]⟩) (xRf_of hR (by decide) (by decide) (by decide)) mi_X4_init (Or.inr ⟨_, wm_X7_11⟩) dX7_init_9 rfl rfl (Nat.le_of_ble_eq_true rfl) (k_X4_init (k := k + 1) (a := k) (xlen (l := [(4, 3)]) (n := 1) hk rfl) (by omega) (xat (i := 0) hk rfl) (B0_.up (by omega)) ?_)
  rw [List.append_assoc]
  show XX G 3 1027 12 [some (.ref a)] [.ref (k), .ref (a)] (S ++ [(4, 3), (11, 1000), (11, 24)]) (u2 (u2 R (k) 0 (some (k + 1))) (k) 2 (some (k + 2))) (I) J
  have B1_ : Blank (k + 3) (u2 (u2 R (k) 0 (some (k + 1))) (k) 2 (some (k + 2))) (I) J := by
    intro j hj
    refine ⟨fun i => ?_, fun i => (B0_ j (by omega)).2.1 i, fun i => ?_⟩
    · exact (B0_ j (by omega)).1 i
    · rw [u2_row _ _ _ (by omega), u2_row _ _ _ (by omega)]; exact (B0_ j (by omega)).2.2 i
  refine x_putF C0_ hI wq_X7_12 (xget ha) rfl (Or.inl ⟨_, rfl⟩) dX7_init_12 ?_
  have B2_ : Blank (k + 3) (u2 (u2 (u2 R (k) 0 (some (k + 1))) (k) 2 (some (k + 2))) (a) 0 (some (k))) (I) J := by
    intro j hj
    refine ⟨fun i => (B1_ j (by omega)).1 i, fun i => (B1_ j (by omega)).2.1 i, fun i => ?_⟩
    rw [u2_row _ _ _ (by omega)]; exact (B1_ j (by omega)).2.2 i
  refine x_vret C0_ E (by decide) (by decide) dX7_init_15 ?_
  exact hp
theorem k_X5_init {S : xTS} {R : xTR} {I : xTI} {J : xTJ} {post : xPost} {a k : Nat} (hk : S.length = k) (h9_ : k + 5 ≤ 10000) (ha : S[a]? = some (5, 3)) (B0_ : Blank k R I J) (hp : post none (S ++ [(3, 7), (11, 8), (11, 36), (11, 6), (11, 36)]) (u2 (u2 (u2 (u2 (u2 R (k) 4 (some (k + 1))) (k) 5 (some (k + 2))) (k) 6 (some (k + 3))) (a) 1 (some (k))) (a) 2 (some (k + 4))) (I) J) : xSpec 3 yX5_init cX5_init 1 none 5 93 [.ref a] S R I J post := by
  refine xSpec_of mt_X5_init (Nat.le_of_ble_eq_true rfl) (fun G C0_ hN hR E hI hZ => ?_)
  change XX G 0 0 0 [some (.ref a)] [] S R I J
  have hak : a < k := by rw [← hk]; exact (List.getElem?_eq_some_iff.mp ha).1
  have hz := hZ (by decide)
  rw [hk] at hz
  refine x_aload_n C0_ rfl dX5_init_0 ?_
  refine x_objInit C0_ (xRf_of hR (by decide) (Nat.zero_le _) (Nat.zero_le _)) wo_X5_3 woI woC (Nat.le_of_ble_eq_true rfl) dX5_init_1 ?_
  refine x_aload_n C0_ rfl dX5_init_4 ?_
  refine x_new (ci := 3) (k0 := k) C0_ ⟨hz, by omega⟩ (xRf_of hR (by decide) (by decide) (by decide)) cl_X3 wc_X5_9 wi_X3 wz_X3 (by rw [hk]; omega) ft_X3 rfl (fun j => by rw [hk]; exact (B0_ (k) (by omega)).1 j) (fun j => by rw [hk]; exact (B0_ (k) (by omega)).2.1 j) (fun j => by rw [hk]; exact (B0_ (k) (by omega)).2.2 j) dX5_init_5 ?_
  rw [hk]
  show XX G 1 7 8 [some (.ref a)] [.ref (k), .ref (a)] (S ++ [(3, 7)]) (R) (I) J
  refine x_dup C0_ rfl dX5_init_8 ?_
  refine x_callI (a := k) (k0 := k) (mc := 3) (ms := 50) [] C0_ (fun _ => ⟨hz, by rw [(xlen (l := [(3, 7)]) (n := 1) hk rfl)]⟩) (xRf_of hR (by decide) (by decide) (by decide)) mi_X3_init (Or.inr ⟨_, wm_X5_11⟩) dX5_init_9 rfl rfl (Nat.le_of_ble_eq_true rfl) (k_X3_init (k := k + 1) (a := k) (xlen (l := [(3, 7)]) (n := 1) hk rfl) (by omega) (xat (i := 0) hk rfl) (B0_.up (by omega)) ?_)
  rw [List.append_assoc]
  show XX G 4 57 12 [some (.ref a)] [.ref (k), .ref (a)] (S ++ [(3, 7), (11, 8), (11, 36), (11, 6)]) (u2 (u2 (u2 R (k) 4 (some (k + 1))) (k) 5 (some (k + 2))) (k) 6 (some (k + 3))) (I) J
  have B1_ : Blank (k + 4) (u2 (u2 (u2 R (k) 4 (some (k + 1))) (k) 5 (some (k + 2))) (k) 6 (some (k + 3))) (I) J := by
    intro j hj
    refine ⟨fun i => ?_, fun i => (B0_ j (by omega)).2.1 i, fun i => ?_⟩
    · exact (B0_ j (by omega)).1 i
    · rw [u2_row _ _ _ (by omega), u2_row _ _ _ (by omega), u2_row _ _ _ (by omega)]; exact (B0_ j (by omega)).2.2 i
  refine x_putF C0_ hI wq_X5_12 (xget ha) rfl (Or.inl ⟨_, rfl⟩) dX5_init_12 ?_
  have B2_ : Blank (k + 4) (u2 (u2 (u2 (u2 R (k) 4 (some (k + 1))) (k) 5 (some (k + 2))) (k) 6 (some (k + 3))) (a) 1 (some (k))) (I) J := by
    intro j hj
    refine ⟨fun i => (B1_ j (by omega)).1 i, fun i => (B1_ j (by omega)).2.1 i, fun i => ?_⟩
    rw [u2_row _ _ _ (by omega)]; exact (B1_ j (by omega)).2.2 i
  refine x_aload_n C0_ rfl dX5_init_15 ?_
  refine x_bipush (v := 36) C0_ rfl dX5_init_16 ?_
  refine x_newarray (ty := .int) (atype := .int) (kd := 11) (k0 := k) (N := 36) C0_ ⟨hz, by rw [(xlen (l := [(3, 7), (11, 8), (11, 36), (11, 6)]) (n := 4) hk rfl)]⟩ (xRf_of hR (by decide) (by decide) (by decide)) rfl (Or.inl ⟨rfl, rfl⟩) wa_int (by rw [(xlen (l := [(3, 7), (11, 8), (11, 36), (11, 6)]) (n := 4) hk rfl)]; omega) (by decide) (by decide) (by decide) (fun j => by rw [(xlen (l := [(3, 7), (11, 8), (11, 36), (11, 6)]) (n := 4) hk rfl)]; exact (B2_ (k + 4) (by omega)).1 j) (fun j => by rw [(xlen (l := [(3, 7), (11, 8), (11, 36), (11, 6)]) (n := 4) hk rfl)]; exact (B2_ (k + 4) (by omega)).2.1 j) dX5_init_18 ?_
  rw [(xlen (l := [(3, 7), (11, 8), (11, 36), (11, 6)]) (n := 4) hk rfl), List.append_assoc]
  show XX G 5 93 20 [some (.ref a)] [.ref (k + 4), .ref (a)] (S ++ [(3, 7), (11, 8), (11, 36), (11, 6), (11, 36)]) (u2 (u2 (u2 (u2 R (k) 4 (some (k + 1))) (k) 5 (some (k + 2))) (k) 6 (some (k + 3))) (a) 1 (some (k))) (I) J
  refine x_putF C0_ hI wq_X5_18 (xget ha) rfl (Or.inr ⟨_, rfl⟩) dX5_init_20 ?_
  have B3_ : Blank (k + 5) (u2 (u2 (u2 (u2 (u2 R (k) 4 (some (k + 1))) (k) 5 (some (k + 2))) (k) 6 (some (k + 3))) (a) 1 (some (k))) (a) 2 (some (k + 4))) (I) J := by
    intro j hj
    refine ⟨fun i => (B2_ j (by omega)).1 i, fun i => (B2_ j (by omega)).2.1 i, fun i => ?_⟩
    rw [u2_row _ _ _ (by omega)]; exact (B2_ j (by omega)).2.2 i
  refine x_vret C0_ E (by decide) (by decide) dX5_init_23 ?_
  exact hp
