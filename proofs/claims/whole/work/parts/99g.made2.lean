/-! CONSTRUCTORS, the large ones: all at their places -/
def RLs : List (Nat × Nat × Nat) := [(1, 0, 2), (0, 0, 1), (4, 0, 5), (4, 2, 6), (3, 0, 4), (0, 1, 3), (7, 4, 8), (7, 5, 9), (7, 6, 10), (7, 7, 11), (7, 8, 12), (7, 9, 13), (7, 10, 14), (7, 11, 15), (0, 2, 7), (16, 4, 17), (16, 5, 18), (16, 6, 19), (16, 7, 20), (16, 8, 21), (16, 9, 22), (16, 10, 23), (16, 11, 24), (0, 3, 16), (25, 1, 26), (25, 2, 27), (25, 3, 28), (0, 4, 25), (29, 1, 30), (29, 2, 31), (29, 3, 32), (0, 5, 29), (33, 4, 34), (33, 5, 35), (33, 6, 36), (0, 6, 33), (37, 4, 38), (37, 5, 39), (37, 6, 40), (0, 7, 37), (41, 0, 42), (43, 4, 44), (43, 5, 45), (43, 6, 46), (42, 0, 43), (47, 4, 48), (47, 5, 49), (47, 6, 50), (42, 1, 47), (51, 4, 52), (51, 5, 53), (51, 6, 54), (42, 2, 51), (55, 4, 56), (55, 5, 57), (55, 6, 58), (42, 3, 55), (59, 4, 60), (59, 5, 61), (59, 6, 62), (42, 4, 59), (63, 4, 64), (63, 5, 65), (63, 6, 66), (42, 5, 63), (67, 4, 68), (67, 5, 69), (67, 6, 70), (42, 6, 67), (71, 4, 72), (71, 5, 73), (71, 6, 74), (42, 7, 71), (75, 4, 76), (75, 5, 77), (75, 6, 78), (42, 8, 75), (79, 4, 80), (79, 5, 81), (79, 6, 82), (42, 9, 79), (83, 4, 84), (83, 5, 85), (83, 6, 86), (42, 10, 83), (87, 4, 88), (87, 5, 89), (87, 6, 90), (42, 11, 87), (91, 4, 92), (91, 5, 93), (91, 6, 94), (42, 12, 91), (95, 4, 96), (95, 5, 97), (95, 6, 98), (42, 13, 95), (99, 4, 100), (99, 5, 101), (99, 6, 102), (42, 14, 99), (103, 4, 104), (103, 5, 105), (103, 6, 106), (42, 15, 103), (0, 8, 41), (0, 9, 107), (0, 10, 108), (0, 11, 109), (0, 12, 110), (112, 4, 113), (112, 5, 114), (112, 6, 115), (111, 1, 112), (111, 2, 116), (107, 0, 111), (118, 4, 119), (118, 5, 120), (118, 6, 121), (117, 1, 118), (117, 2, 122), (107, 1, 117), (124, 4, 125), (124, 5, 126), (124, 6, 127), (123, 1, 124), (123, 2, 128), (107, 2, 123), (130, 4, 131), (130, 5, 132), (130, 6, 133), (129, 1, 130), (129, 2, 134), (107, 3, 129), (135, 1, 136), (135, 4, 137), (135, 5, 138), (135, 6, 139), (135, 9, 140), (135, 10, 141), (135, 11, 142), (135, 12, 143), (135, 14, 144), (135, 15, 145), (135, 16, 146), (135, 17, 147), (135, 21, 148), (135, 22, 149), (135, 23, 150), (135, 24, 151), (135, 26, 152), (135, 27, 153), (135, 28, 154)]
def JLs : List (Nat × Nat × Int64) := [(140, 0, 37901290), (140, 1, 35768386), (140, 2, 34429), (140, 3, 533), (140, 4, 40072202), (140, 5, 59118697698), (140, 6, 38424446), (140, 7, 43173210), (140, 8, 989842), (140, 9, 306555453), (140, 10, 973937), (140, 11, 44030523), (140, 12, 4904), (140, 13, 1014884), (140, 14, 2230448), (140, 15, 6900), (140, 16, 7775), (140, 17, 122589), (140, 18, 6040476), (140, 19, 19741), (140, 20, 1891), (140, 21, 573), (140, 22, 6232399), (140, 23, 148679067), (140, 24, 20687), (140, 25, 969451)]
def rOf (l : List (Nat × Nat × Nat)) : xTR := l.foldl (fun R q => u2 R q.1 q.2.1 (some q.2.2)) (fun _ _ => none)
def jOf (l : List (Nat × Nat × Int64)) : xTJ := l.foldl (fun R q => u2 R q.1 q.2.1 q.2.2) (fun _ _ => 0)
def iZ : xTI := fun _ _ => 0
def iA : xTI := u2 iZ 7 3 8
def iB : xTI := u2 iA 16 3 8
theorem iA_0 : ∀ j, 8 ≤ j → ∀ i, iA j i = 0 := fun j hj i => by
  unfold iA
  rw [u2_row _ _ _ (by omega)]
  rfl
theorem iB_0 : ∀ j, 17 ≤ j → ∀ i, iB j i = 0 := fun j hj i => by
  unfold iB
  rw [u2_row _ _ _ (by omega)]
  exact iA_0 j (by omega) i
theorem rOf_up {m a k v : Nat} (h : RLs.take (m + 1) = RLs.take m ++ [(a, k, v)]) : u2 (rOf (RLs.take m)) a k (some v) = rOf (RLs.take (m + 1)) := by
  unfold rOf
  rw [h, List.foldl_append]
  rfl
theorem jOf_up {m a k : Nat} {v : Int64} (h : JLs.take (m + 1) = JLs.take m ++ [(a, k, v)]) : u2 (jOf (JLs.take m)) a k v = jOf (JLs.take (m + 1)) := by
  unfold jOf
  rw [h, List.foldl_append]
  rfl
theorem rOf_0 (l : List (Nat × Nat × Nat)) (R : xTR) (n : Nat) (h : ∀ q ∈ l, q.1 < n) (hR : ∀ j, n ≤ j → ∀ i, R j i = none) : ∀ j, n ≤ j → ∀ i, l.foldl (fun R q => u2 R q.1 q.2.1 (some q.2.2)) R j i = none := by
  induction l generalizing R with
  | nil => exact hR
  | cons q l ih =>
    refine ih _ (fun p hp => h p (List.mem_cons_of_mem _ hp)) (fun j hj i => ?_)
    have := h q List.mem_cons_self
    show u2 R q.1 q.2.1 (some q.2.2) j i = none
    rw [u2_row _ _ _ (by omega)]
    exact hR j hj i
theorem jOf_0 (l : List (Nat × Nat × Int64)) (R : xTJ) (n : Nat) (h : ∀ q ∈ l, q.1 < n) (hR : ∀ j, n ≤ j → ∀ i, R j i = 0) : ∀ j, n ≤ j → ∀ i, l.foldl (fun R q => u2 R q.1 q.2.1 q.2.2) R j i = 0 := by
  induction l generalizing R with
  | nil => exact hR
  | cons q l ih =>
    refine ih _ (fun p hp => h p (List.mem_cons_of_mem _ hp)) (fun j hj i => ?_)
    have := h q List.mem_cons_self
    show u2 R q.1 q.2.1 q.2.2 j i = 0
    rw [u2_row _ _ _ (by omega)]
    exact hR j hj i
theorem blank_at {n m j : Nat} {I : xTI} (h : ∀ q ∈ RLs.take m, q.1 < n) (h2_ : ∀ q ∈ JLs.take j, q.1 < n) (hI : ∀ j, n ≤ j → ∀ i, I j i = 0) : Blank n (rOf (RLs.take m)) I (jOf (JLs.take j)) := fun q hq => ⟨hI q hq, jOf_0 _ _ n h2_ (fun _ _ _ => rfl) q hq, rOf_0 _ _ n h (fun _ _ _ => rfl) q hq⟩
set_option maxRecDepth 4000 in
theorem k_X6_init {post : xPost} (hp : post none (SALL.take 107) (rOf (RLs.take 105)) iB (jOf (JLs.take 0))) : xSpec 3 yX6_init cX6_init 2 none 65 928 [.ref 41] (SALL.take 42) (rOf (RLs.take 40)) iB (jOf (JLs.take 0)) post := by
  refine xSpec_of mt_X6_init (Nat.le_of_ble_eq_true rfl) (fun G C0_ hN hR E hI hZ => ?_)
  have hz := hZ (by decide)
  rw [show (SALL.take 42).length = 42 by decide +kernel] at hz
  change XX G 0 0 0 [some (.ref 41), none] [] (SALL.take 42) (rOf (RLs.take 40)) iB (jOf (JLs.take 0))
  refine x_aload_n C0_ rfl dX6_init_0 ?_
  refine x_objInit C0_ (xRf_of hR (by decide) (Nat.zero_le _) (Nat.zero_le _)) wo_X6_3 woI woC (Nat.le_of_ble_eq_true rfl) dX6_init_1 ?_
  refine x_aload_n C0_ rfl dX6_init_4 ?_
  refine x_bipush (v := nI 16) C0_ rfl dX6_init_5 ?_
  refine x_anewarray (kd := 15) (k0 := 42) (N := 16) C0_ ⟨hz, (show 42 + 0 = (SALL.take 42).length by decide +kernel)⟩ (xRf_of hR (by decide) (by decide) (by decide)) (Or.inl ⟨rfl, rfl⟩) wc_X6_9 wv_Hall (by decide +kernel) (by decide +kernel) (by decide +kernel) (by decide) (fun j => ((blank_at (n := 42) (m := 40) (j := 0) (by decide +kernel) (by decide +kernel) (fun j hj => iB_0 j (by omega))) (SALL.take 42).length (by decide +kernel)).2.2 j) dX6_init_7 ?_
  rw [show (SALL.take 42).length = 42 by decide +kernel, show SALL.take 42 ++ [(15, 16)] = SALL.take 43 by decide +kernel]
  refine x_putF C0_ hI wq_X6_11 (show (SALL.take 43)[41]? = some (6, 3) by decide +kernel) rfl (Or.inr ⟨_, rfl⟩) dX6_init_10 ?_
  rw [rOf_up (m := 40) (a := 41) (k := 0) (v := 42) (by decide +kernel)]
  refine x_iconst (v := nI 0) C0_ rfl dX6_init_13 ?_
  refine x_istore_n (L' := [_, _]) C0_ hN (by decide) rfl dX6_init_14 ?_
  refine x_iload_n C0_ rfl dX6_init_15 ?_
  refine x_aload_n C0_ rfl dX6_init_16 ?_
  refine x_getR C0_ wf_X6_11 (show (SALL.take 43)[41]? = some (6, 3) by decide +kernel) rfl rfl (show rOf (RLs.take 41) 41 0 = some 42 by decide +kernel) dX6_init_17 ?_
  refine x_alen (v := nI 16) C0_ (show (SALL.take 43)[42]? = some (15, 16) by decide +kernel) (by decide) (by decide) (by decide +kernel) dX6_init_20 ?_
  refine x_icmp_ge (tgt := 43) C0_ (by decide) dX6_init_21 (fun hkk => absurd hkk (by decide +kernel)) (fun _ => ?_)
  refine x_aload_n C0_ rfl dX6_init_24 ?_
  refine x_getR C0_ wf_X6_11 (show (SALL.take 43)[41]? = some (6, 3) by decide +kernel) rfl rfl (show rOf (RLs.take 41) 41 0 = some 42 by decide +kernel) dX6_init_25 ?_
  refine x_iload_n C0_ rfl dX6_init_28 ?_
  refine x_new (ci := 3) (k0 := 42) C0_ ⟨hz, (show 42 + 1 = (SALL.take 43).length by decide +kernel)⟩ (xRf_of hR (by decide) (by decide) (by decide)) cl_X3 wc_X6_9 wi_X3 wz_X3 (by decide +kernel) ft_X3 rfl (fun j => ((blank_at (n := 43) (m := 41) (j := 0) (by decide +kernel) (by decide +kernel) (fun j hj => iB_0 j (by omega))) (SALL.take 43).length (by decide +kernel)).1 j) (fun j => ((blank_at (n := 43) (m := 41) (j := 0) (by decide +kernel) (by decide +kernel) (fun j hj => iB_0 j (by omega))) (SALL.take 43).length (by decide +kernel)).2.1 j) (fun j => ((blank_at (n := 43) (m := 41) (j := 0) (by decide +kernel) (by decide +kernel) (fun j hj => iB_0 j (by omega))) (SALL.take 43).length (by decide +kernel)).2.2 j) dX6_init_29 ?_
  rw [show (SALL.take 43).length = 43 by decide +kernel, show SALL.take 43 ++ [(3, 7)] = SALL.take 44 by decide +kernel]
  refine x_dup C0_ rfl dX6_init_32 ?_
  refine x_callI (a := 43) (k0 := 42) (mc := 3) (ms := 50) [] C0_ (fun _ => ⟨hz, (show 42 + 2 = (SALL.take 44).length by decide +kernel)⟩) (xRf_of hR (by decide) (by decide) (by decide)) mi_X3_init (by first | exact Or.inl wm_X6_17 | exact Or.inr ⟨_, wm_X6_17⟩) dX6_init_33 rfl rfl (Nat.le_of_ble_eq_true rfl) (k_X3_init (k := 44) (a := 43) (show (SALL.take 44).length = 44 by decide +kernel) (by decide) (show (SALL.take 44)[43]? = some (3, 7) by decide +kernel) (blank_at (n := 44) (m := 41) (j := 0) (by decide +kernel) (by decide +kernel) (fun j hj => iB_0 j (by omega))) ?_)
  rw [show SALL.take 44 ++ [(11, 8), (11, 36), (11, 6)] = SALL.take 47 by decide +kernel]
  rw [rOf_up (m := 41) (a := 43) (k := 4) (v := 44) (by decide +kernel)]
  rw [rOf_up (m := 42) (a := 43) (k := 5) (v := 45) (by decide +kernel)]
  rw [rOf_up (m := 43) (a := 43) (k := 6) (v := 46) (by decide +kernel)]
  refine x_aastore (kd := 15) (ci := 3) C0_ (show (SALL.take 47)[42]? = some (15, 16) by decide +kernel) (show (SALL.take 47)[43]? = some (3, 7) by decide +kernel) (Or.inl ⟨rfl, rfl⟩) (vp_in_nI (by decide) (by decide)) dX6_init_36 ?_
  rw [show (nI 0).toNatClampNeg = 0 by decide +kernel]
  rw [rOf_up (m := 44) (a := 42) (k := 0) (v := 43) (by decide +kernel)]
  refine x_iinc (v := nI 1) (L' := [_, _]) C0_ hN rfl (by decide) (by decide +kernel) rfl dX6_init_37 ?_
  refine x_goto (tgt := 15) C0_ (by decide) dX6_init_40 ?_
  refine x_iload_n C0_ rfl dX6_init_15 ?_
  refine x_aload_n C0_ rfl dX6_init_16 ?_
  refine x_getR C0_ wf_X6_11 (show (SALL.take 47)[41]? = some (6, 3) by decide +kernel) rfl rfl (show rOf (RLs.take 45) 41 0 = some 42 by decide +kernel) dX6_init_17 ?_
  refine x_alen (v := nI 16) C0_ (show (SALL.take 47)[42]? = some (15, 16) by decide +kernel) (by decide) (by decide) (by decide +kernel) dX6_init_20 ?_
  refine x_icmp_ge (tgt := 43) C0_ (by decide) dX6_init_21 (fun hkk => absurd hkk (by decide +kernel)) (fun _ => ?_)
  refine x_aload_n C0_ rfl dX6_init_24 ?_
  refine x_getR C0_ wf_X6_11 (show (SALL.take 47)[41]? = some (6, 3) by decide +kernel) rfl rfl (show rOf (RLs.take 45) 41 0 = some 42 by decide +kernel) dX6_init_25 ?_
  refine x_iload_n C0_ rfl dX6_init_28 ?_
  refine x_new (ci := 3) (k0 := 42) C0_ ⟨hz, (show 42 + 5 = (SALL.take 47).length by decide +kernel)⟩ (xRf_of hR (by decide) (by decide) (by decide)) cl_X3 wc_X6_9 wi_X3 wz_X3 (by decide +kernel) ft_X3 rfl (fun j => ((blank_at (n := 47) (m := 45) (j := 0) (by decide +kernel) (by decide +kernel) (fun j hj => iB_0 j (by omega))) (SALL.take 47).length (by decide +kernel)).1 j) (fun j => ((blank_at (n := 47) (m := 45) (j := 0) (by decide +kernel) (by decide +kernel) (fun j hj => iB_0 j (by omega))) (SALL.take 47).length (by decide +kernel)).2.1 j) (fun j => ((blank_at (n := 47) (m := 45) (j := 0) (by decide +kernel) (by decide +kernel) (fun j hj => iB_0 j (by omega))) (SALL.take 47).length (by decide +kernel)).2.2 j) dX6_init_29 ?_
  rw [show (SALL.take 47).length = 47 by decide +kernel, show SALL.take 47 ++ [(3, 7)] = SALL.take 48 by decide +kernel]
  refine x_dup C0_ rfl dX6_init_32 ?_
  refine x_callI (a := 47) (k0 := 42) (mc := 3) (ms := 50) [] C0_ (fun _ => ⟨hz, (show 42 + 6 = (SALL.take 48).length by decide +kernel)⟩) (xRf_of hR (by decide) (by decide) (by decide)) mi_X3_init (by first | exact Or.inl wm_X6_17 | exact Or.inr ⟨_, wm_X6_17⟩) dX6_init_33 rfl rfl (Nat.le_of_ble_eq_true rfl) (k_X3_init (k := 48) (a := 47) (show (SALL.take 48).length = 48 by decide +kernel) (by decide) (show (SALL.take 48)[47]? = some (3, 7) by decide +kernel) (blank_at (n := 48) (m := 45) (j := 0) (by decide +kernel) (by decide +kernel) (fun j hj => iB_0 j (by omega))) ?_)
  rw [show SALL.take 48 ++ [(11, 8), (11, 36), (11, 6)] = SALL.take 51 by decide +kernel]
  rw [rOf_up (m := 45) (a := 47) (k := 4) (v := 48) (by decide +kernel)]
  rw [rOf_up (m := 46) (a := 47) (k := 5) (v := 49) (by decide +kernel)]
  rw [rOf_up (m := 47) (a := 47) (k := 6) (v := 50) (by decide +kernel)]
  refine x_aastore (kd := 15) (ci := 3) C0_ (show (SALL.take 51)[42]? = some (15, 16) by decide +kernel) (show (SALL.take 51)[47]? = some (3, 7) by decide +kernel) (Or.inl ⟨rfl, rfl⟩) (vp_in_nI (by decide) (by decide)) dX6_init_36 ?_
  rw [show (nI 1).toNatClampNeg = 1 by decide +kernel]
  rw [rOf_up (m := 48) (a := 42) (k := 1) (v := 47) (by decide +kernel)]
  refine x_iinc (v := nI 2) (L' := [_, _]) C0_ hN rfl (by decide) (by decide +kernel) rfl dX6_init_37 ?_
  refine x_goto (tgt := 15) C0_ (by decide) dX6_init_40 ?_
  refine x_iload_n C0_ rfl dX6_init_15 ?_
  refine x_aload_n C0_ rfl dX6_init_16 ?_
  refine x_getR C0_ wf_X6_11 (show (SALL.take 51)[41]? = some (6, 3) by decide +kernel) rfl rfl (show rOf (RLs.take 49) 41 0 = some 42 by decide +kernel) dX6_init_17 ?_
  refine x_alen (v := nI 16) C0_ (show (SALL.take 51)[42]? = some (15, 16) by decide +kernel) (by decide) (by decide) (by decide +kernel) dX6_init_20 ?_
  refine x_icmp_ge (tgt := 43) C0_ (by decide) dX6_init_21 (fun hkk => absurd hkk (by decide +kernel)) (fun _ => ?_)
  refine x_aload_n C0_ rfl dX6_init_24 ?_
  refine x_getR C0_ wf_X6_11 (show (SALL.take 51)[41]? = some (6, 3) by decide +kernel) rfl rfl (show rOf (RLs.take 49) 41 0 = some 42 by decide +kernel) dX6_init_25 ?_
  refine x_iload_n C0_ rfl dX6_init_28 ?_
  refine x_new (ci := 3) (k0 := 42) C0_ ⟨hz, (show 42 + 9 = (SALL.take 51).length by decide +kernel)⟩ (xRf_of hR (by decide) (by decide) (by decide)) cl_X3 wc_X6_9 wi_X3 wz_X3 (by decide +kernel) ft_X3 rfl (fun j => ((blank_at (n := 51) (m := 49) (j := 0) (by decide +kernel) (by decide +kernel) (fun j hj => iB_0 j (by omega))) (SALL.take 51).length (by decide +kernel)).1 j) (fun j => ((blank_at (n := 51) (m := 49) (j := 0) (by decide +kernel) (by decide +kernel) (fun j hj => iB_0 j (by omega))) (SALL.take 51).length (by decide +kernel)).2.1 j) (fun j => ((blank_at (n := 51) (m := 49) (j := 0) (by decide +kernel) (by decide +kernel) (fun j hj => iB_0 j (by omega))) (SALL.take 51).length (by decide +kernel)).2.2 j) dX6_init_29 ?_
  rw [show (SALL.take 51).length = 51 by decide +kernel, show SALL.take 51 ++ [(3, 7)] = SALL.take 52 by decide +kernel]
  refine x_dup C0_ rfl dX6_init_32 ?_
  refine x_callI (a := 51) (k0 := 42) (mc := 3) (ms := 50) [] C0_ (fun _ => ⟨hz, (show 42 + 10 = (SALL.take 52).length by decide +kernel)⟩) (xRf_of hR (by decide) (by decide) (by decide)) mi_X3_init (by first | exact Or.inl wm_X6_17 | exact Or.inr ⟨_, wm_X6_17⟩) dX6_init_33 rfl rfl (Nat.le_of_ble_eq_true rfl) (k_X3_init (k := 52) (a := 51) (show (SALL.take 52).length = 52 by decide +kernel) (by decide) (show (SALL.take 52)[51]? = some (3, 7) by decide +kernel) (blank_at (n := 52) (m := 49) (j := 0) (by decide +kernel) (by decide +kernel) (fun j hj => iB_0 j (by omega))) ?_)
  rw [show SALL.take 52 ++ [(11, 8), (11, 36), (11, 6)] = SALL.take 55 by decide +kernel]
  rw [rOf_up (m := 49) (a := 51) (k := 4) (v := 52) (by decide +kernel)]
  rw [rOf_up (m := 50) (a := 51) (k := 5) (v := 53) (by decide +kernel)]
  rw [rOf_up (m := 51) (a := 51) (k := 6) (v := 54) (by decide +kernel)]
  refine x_aastore (kd := 15) (ci := 3) C0_ (show (SALL.take 55)[42]? = some (15, 16) by decide +kernel) (show (SALL.take 55)[51]? = some (3, 7) by decide +kernel) (Or.inl ⟨rfl, rfl⟩) (vp_in_nI (by decide) (by decide)) dX6_init_36 ?_
  rw [show (nI 2).toNatClampNeg = 2 by decide +kernel]
  rw [rOf_up (m := 52) (a := 42) (k := 2) (v := 51) (by decide +kernel)]
  refine x_iinc (v := nI 3) (L' := [_, _]) C0_ hN rfl (by decide) (by decide +kernel) rfl dX6_init_37 ?_
  refine x_goto (tgt := 15) C0_ (by decide) dX6_init_40 ?_
  refine x_iload_n C0_ rfl dX6_init_15 ?_
  refine x_aload_n C0_ rfl dX6_init_16 ?_
  refine x_getR C0_ wf_X6_11 (show (SALL.take 55)[41]? = some (6, 3) by decide +kernel) rfl rfl (show rOf (RLs.take 53) 41 0 = some 42 by decide +kernel) dX6_init_17 ?_
  refine x_alen (v := nI 16) C0_ (show (SALL.take 55)[42]? = some (15, 16) by decide +kernel) (by decide) (by decide) (by decide +kernel) dX6_init_20 ?_
  refine x_icmp_ge (tgt := 43) C0_ (by decide) dX6_init_21 (fun hkk => absurd hkk (by decide +kernel)) (fun _ => ?_)
  refine x_aload_n C0_ rfl dX6_init_24 ?_
  refine x_getR C0_ wf_X6_11 (show (SALL.take 55)[41]? = some (6, 3) by decide +kernel) rfl rfl (show rOf (RLs.take 53) 41 0 = some 42 by decide +kernel) dX6_init_25 ?_
  refine x_iload_n C0_ rfl dX6_init_28 ?_
  refine x_new (ci := 3) (k0 := 42) C0_ ⟨hz, (show 42 + 13 = (SALL.take 55).length by decide +kernel)⟩ (xRf_of hR (by decide) (by decide) (by decide)) cl_X3 wc_X6_9 wi_X3 wz_X3 (by decide +kernel) ft_X3 rfl (fun j => ((blank_at (n := 55) (m := 53) (j := 0) (by decide +kernel) (by decide +kernel) (fun j hj => iB_0 j (by omega))) (SALL.take 55).length (by decide +kernel)).1 j) (fun j => ((blank_at (n := 55) (m := 53) (j := 0) (by decide +kernel) (by decide +kernel) (fun j hj => iB_0 j (by omega))) (SALL.take 55).length (by decide +kernel)).2.1 j) (fun j => ((blank_at (n := 55) (m := 53) (j := 0) (by decide +kernel) (by decide +kernel) (fun j hj => iB_0 j (by omega))) (SALL.take 55).length (by decide +kernel)).2.2 j) dX6_init_29 ?_
  rw [show (SALL.take 55).length = 55 by decide +kernel, show SALL.take 55 ++ [(3, 7)] = SALL.take 56 by decide +kernel]
  refine x_dup C0_ rfl dX6_init_32 ?_
  refine x_callI (a := 55) (k0 := 42) (mc := 3) (ms := 50) [] C0_ (fun _ => ⟨hz, (show 42 + 14 = (SALL.take 56).length by decide +kernel)⟩) (xRf_of hR (by decide) (by decide) (by decide)) mi_X3_init (by first | exact Or.inl wm_X6_17 | exact Or.inr ⟨_, wm_X6_17⟩) dX6_init_33 rfl rfl (Nat.le_of_ble_eq_true rfl) (k_X3_init (k := 56) (a := 55) (show (SALL.take 56).length = 56 by decide +kernel) (by decide) (show (SALL.take 56)[55]? = some (3, 7) by decide +kernel) (blank_at (n := 56) (m := 53) (j := 0) (by decide +kernel) (by decide +kernel) (fun j hj => iB_0 j (by omega))) ?_)
  rw [show SALL.take 56 ++ [(11, 8), (11, 36), (11, 6)] = SALL.take 59 by decide +kernel]
  rw [rOf_up (m := 53) (a := 55) (k := 4) (v := 56) (by decide +kernel)]
  rw [rOf_up (m := 54) (a := 55) (k := 5) (v := 57) (by decide +kernel)]
  rw [rOf_up (m := 55) (a := 55) (k := 6) (v := 58) (by decide +kernel)]
  refine x_aastore (kd := 15) (ci := 3) C0_ (show (SALL.take 59)[42]? = some (15, 16) by decide +kernel) (show (SALL.take 59)[55]? = some (3, 7) by decide +kernel) (Or.inl ⟨rfl, rfl⟩) (vp_in_nI (by decide) (by decide)) dX6_init_36 ?_
  rw [show (nI 3).toNatClampNeg = 3 by decide +kernel]
  rw [rOf_up (m := 56) (a := 42) (k := 3) (v := 55) (by decide +kernel)]
  refine x_iinc (v := nI 4) (L' := [_, _]) C0_ hN rfl (by decide) (by decide +kernel) rfl dX6_init_37 ?_
  refine x_goto (tgt := 15) C0_ (by decide) dX6_init_40 ?_
  refine x_iload_n C0_ rfl dX6_init_15 ?_
  refine x_aload_n C0_ rfl dX6_init_16 ?_
  refine x_getR C0_ wf_X6_11 (show (SALL.take 59)[41]? = some (6, 3) by decide +kernel) rfl rfl (show rOf (RLs.take 57) 41 0 = some 42 by decide +kernel) dX6_init_17 ?_
  refine x_alen (v := nI 16) C0_ (show (SALL.take 59)[42]? = some (15, 16) by decide +kernel) (by decide) (by decide) (by decide +kernel) dX6_init_20 ?_
  refine x_icmp_ge (tgt := 43) C0_ (by decide) dX6_init_21 (fun hkk => absurd hkk (by decide +kernel)) (fun _ => ?_)
  refine x_aload_n C0_ rfl dX6_init_24 ?_
  refine x_getR C0_ wf_X6_11 (show (SALL.take 59)[41]? = some (6, 3) by decide +kernel) rfl rfl (show rOf (RLs.take 57) 41 0 = some 42 by decide +kernel) dX6_init_25 ?_
  refine x_iload_n C0_ rfl dX6_init_28 ?_
  refine x_new (ci := 3) (k0 := 42) C0_ ⟨hz, (show 42 + 17 = (SALL.take 59).length by decide +kernel)⟩ (xRf_of hR (by decide) (by decide) (by decide)) cl_X3 wc_X6_9 wi_X3 wz_X3 (by decide +kernel) ft_X3 rfl (fun j => ((blank_at (n := 59) (m := 57) (j := 0) (by decide +kernel) (by decide +kernel) (fun j hj => iB_0 j (by omega))) (SALL.take 59).length (by decide +kernel)).1 j) (fun j => ((blank_at (n := 59) (m := 57) (j := 0) (by decide +kernel) (by decide +kernel) (fun j hj => iB_0 j (by omega))) (SALL.take 59).length (by decide +kernel)).2.1 j) (fun j => ((blank_at (n := 59) (m := 57) (j := 0) (by decide +kernel) (by decide +kernel) (fun j hj => iB_0 j (by omega))) (SALL.take 59).length (by decide +kernel)).2.2 j) dX6_init_29 ?_
  rw [show (SALL.take 59).length = 59 by decide +kernel, show SALL.take 59 ++ [(3, 7)] = SALL.take 60 by decide +kernel]
  refine x_dup C0_ rfl dX6_init_32 ?_
  refine x_callI (a := 59) (k0 := 42) (mc := 3) (ms := 50) [] C0_ (fun _ => ⟨hz, (show 42 + 18 = (SALL.take 60).length by decide +kernel)⟩) (xRf_of hR (by decide) (by decide) (by decide)) mi_X3_init (by first | exact Or.inl wm_X6_17 | exact Or.inr ⟨_, wm_X6_17⟩) dX6_init_33 rfl rfl (Nat.le_of_ble_eq_true rfl) (k_X3_init (k := 60) (a := 59) (show (SALL.take 60).length = 60 by decide +kernel) (by decide) (show (SALL.take 60)[59]? = some (3, 7) by decide +kernel) (blank_at (n := 60) (m := 57) (j := 0) (by decide +kernel) (by decide +kernel) (fun j hj => iB_0 j (by omega))) ?_)
  rw [show SALL.take 60 ++ [(11, 8), (11, 36), (11, 6)] = SALL.take 63 by decide +kernel]
  rw [rOf_up (m := 57) (a := 59) (k := 4) (v := 60) (by decide +kernel)]
  rw [rOf_up (m := 58) (a := 59) (k := 5) (v := 61) (by decide +kernel)]
  rw [rOf_up (m := 59) (a := 59) (k := 6) (v := 62) (by decide +kernel)]
  refine x_aastore (kd := 15) (ci := 3) C0_ (show (SALL.take 63)[42]? = some (15, 16) by decide +kernel) (show (SALL.take 63)[59]? = some (3, 7) by decide +kernel) (Or.inl ⟨rfl, rfl⟩) (vp_in_nI (by decide) (by decide)) dX6_init_36 ?_
  rw [show (nI 4).toNatClampNeg = 4 by decide +kernel]
  rw [rOf_up (m := 60) (a := 42) (k := 4) (v := 59) (by decide +kernel)]
  refine x_iinc (v := nI 5) (L' := [_, _]) C0_ hN rfl (by decide) (by decide +kernel) rfl dX6_init_37 ?_
  refine x_goto (tgt := 15) C0_ (by decide) dX6_init_40 ?_
  refine x_iload_n C0_ rfl dX6_init_15 ?_
  refine x_aload_n C0_ rfl dX6_init_16 ?_
  refine x_getR C0_ wf_X6_11 (show (SALL.take 63)[41]? = some (6, 3) by decide +kernel) rfl rfl (show rOf (RLs.take 61) 41 0 = some 42 by decide +kernel) dX6_init_17 ?_
  refine x_alen (v := nI 16) C0_ (show (SALL.take 63)[42]? = some (15, 16) by decide +kernel) (by decide) (by decide) (by decide +kernel) dX6_init_20 ?_
  refine x_icmp_ge (tgt := 43) C0_ (by decide) dX6_init_21 (fun hkk => absurd hkk (by decide +kernel)) (fun _ => ?_)
  refine x_aload_n C0_ rfl dX6_init_24 ?_
  refine x_getR C0_ wf_X6_11 (show (SALL.take 63)[41]? = some (6, 3) by decide +kernel) rfl rfl (show rOf (RLs.take 61) 41 0 = some 42 by decide +kernel) dX6_init_25 ?_
  refine x_iload_n C0_ rfl dX6_init_28 ?_
  refine x_new (ci := 3) (k0 := 42) C0_ ⟨hz, (show 42 + 21 = (SALL.take 63).length by decide +kernel)⟩ (xRf_of hR (by decide) (by decide) (by decide)) cl_X3 wc_X6_9 wi_X3 wz_X3 (by decide +kernel) ft_X3 rfl (fun j => ((blank_at (n := 63) (m := 61) (j := 0) (by decide +kernel) (by decide +kernel) (fun j hj => iB_0 j (by omega))) (SALL.take 63).length (by decide +kernel)).1 j) (fun j => ((blank_at (n := 63) (m := 61) (j := 0) (by decide +kernel) (by decide +kernel) (fun j hj => iB_0 j (by omega))) (SALL.take 63).length (by decide +kernel)).2.1 j) (fun j => ((blank_at (n := 63) (m := 61) (j := 0) (by decide +kernel) (by decide +kernel) (fun j hj => iB_0 j (by omega))) (SALL.take 63).length (by decide +kernel)).2.2 j) dX6_init_29 ?_
  rw [show (SALL.take 63).length = 63 by decide +kernel, show SALL.take 63 ++ [(3, 7)] = SALL.take 64 by decide +kernel]
  refine x_dup C0_ rfl dX6_init_32 ?_
  refine x_callI (a := 63) (k0 := 42) (mc := 3) (ms := 50) [] C0_ (fun _ => ⟨hz, (show 42 + 22 = (SALL.take 64).length by decide +kernel)⟩) (xRf_of hR (by decide) (by decide) (by decide)) mi_X3_init (by first | exact Or.inl wm_X6_17 | exact Or.inr ⟨_, wm_X6_17⟩) dX6_init_33 rfl rfl (Nat.le_of_ble_eq_true rfl) (k_X3_init (k := 64) (a := 63) (show (SALL.take 64).length = 64 by decide +kernel) (by decide) (show (SALL.take 64)[63]? = some (3, 7) by decide +kernel) (blank_at (n := 64) (m := 61) (j := 0) (by decide +kernel) (by decide +kernel) (fun j hj => iB_0 j (by omega))) ?_)
  rw [show SALL.take 64 ++ [(11, 8), (11, 36), (11, 6)] = SALL.take 67 by decide +kernel]
  rw [rOf_up (m := 61) (a := 63) (k := 4) (v := 64) (by decide +kernel)]
  rw [rOf_up (m := 62) (a := 63) (k := 5) (v := 65) (by decide +kernel)]
  rw [rOf_up (m := 63) (a := 63) (k := 6) (v := 66) (by decide +kernel)]
  refine x_aastore (kd := 15) (ci := 3) C0_ (show (SALL.take 67)[42]? = some (15, 16) by decide +kernel) (show (SALL.take 67)[63]? = some (3, 7) by decide +kernel) (Or.inl ⟨rfl, rfl⟩) (vp_in_nI (by decide) (by decide)) dX6_init_36 ?_
  rw [show (nI 5).toNatClampNeg = 5 by decide +kernel]
  rw [rOf_up (m := 64) (a := 42) (k := 5) (v := 63) (by decide +kernel)]
  refine x_iinc (v := nI 6) (L' := [_, _]) C0_ hN rfl (by decide) (by decide +kernel) rfl dX6_init_37 ?_
  refine x_goto (tgt := 15) C0_ (by decide) dX6_init_40 ?_
  refine x_iload_n C0_ rfl dX6_init_15 ?_
  refine x_aload_n C0_ rfl dX6_init_16 ?_
  refine x_getR C0_ wf_X6_11 (show (SALL.take 67)[41]? = some (6, 3) by decide +kernel) rfl rfl (show rOf (RLs.take 65) 41 0 = some 42 by decide +kernel) dX6_init_17 ?_
  refine x_alen (v := nI 16) C0_ (show (SALL.take 67)[42]? = some (15, 16) by decide +kernel) (by decide) (by decide) (by decide +kernel) dX6_init_20 ?_
  refine x_icmp_ge (tgt := 43) C0_ (by decide) dX6_init_21 (fun hkk => absurd hkk (by decide +kernel)) (fun _ => ?_)
  refine x_aload_n C0_ rfl dX6_init_24 ?_
  refine x_getR C0_ wf_X6_11 (show (SALL.take 67)[41]? = some (6, 3) by decide +kernel) rfl rfl (show rOf (RLs.take 65) 41 0 = some 42 by decide +kernel) dX6_init_25 ?_
  refine x_iload_n C0_ rfl dX6_init_28 ?_
  refine x_new (ci := 3) (k0 := 42) C0_ ⟨hz, (show 42 + 25 = (SALL.take 67).length by decide +kernel)⟩ (xRf_of hR (by decide) (by decide) (by decide)) cl_X3 wc_X6_9 wi_X3 wz_X3 (by decide +kernel) ft_X3 rfl (fun j => ((blank_at (n := 67) (m := 65) (j := 0) (by decide +kernel) (by decide +kernel) (fun j hj => iB_0 j (by omega))) (SALL.take 67).length (by decide +kernel)).1 j) (fun j => ((blank_at (n := 67) (m := 65) (j := 0) (by decide +kernel) (by decide +kernel) (fun j hj => iB_0 j (by omega))) (SALL.take 67).length (by decide +kernel)).2.1 j) (fun j => ((blank_at (n := 67) (m := 65) (j := 0) (by decide +kernel) (by decide +kernel) (fun j hj => iB_0 j (by omega))) (SALL.take 67).length (by decide +kernel)).2.2 j) dX6_init_29 ?_
  rw [show (SALL.take 67).length = 67 by decide +kernel, show SALL.take 67 ++ [(3, 7)] = SALL.take 68 by decide +kernel]
  refine x_dup C0_ rfl dX6_init_32 ?_
  refine x_callI (a := 67) (k0 := 42) (mc := 3) (ms := 50) [] C0_ (fun _ => ⟨hz, (show 42 + 26 = (SALL.take 68).length by decide +kernel)⟩) (xRf_of hR (by decide) (by decide) (by decide)) mi_X3_init (by first | exact Or.inl wm_X6_17 | exact Or.inr ⟨_, wm_X6_17⟩) dX6_init_33 rfl rfl (Nat.le_of_ble_eq_true rfl) (k_X3_init (k := 68) (a := 67) (show (SALL.take 68).length = 68 by decide +kernel) (by decide) (show (SALL.take 68)[67]? = some (3, 7) by decide +kernel) (blank_at (n := 68) (m := 65) (j := 0) (by decide +kernel) (by decide +kernel) (fun j hj => iB_0 j (by omega))) ?_)
  rw [show SALL.take 68 ++ [(11, 8), (11, 36), (11, 6)] = SALL.take 71 by decide +kernel]
  rw [rOf_up (m := 65) (a := 67) (k := 4) (v := 68) (by decide +kernel)]
  rw [rOf_up (m := 66) (a := 67) (k := 5) (v := 69) (by decide +kernel)]
  rw [rOf_up (m := 67) (a := 67) (k := 6) (v := 70) (by decide +kernel)]
  refine x_aastore (kd := 15) (ci := 3) C0_ (show (SALL.take 71)[42]? = some (15, 16) by decide +kernel) (show (SALL.take 71)[67]? = some (3, 7) by decide +kernel) (Or.inl ⟨rfl, rfl⟩) (vp_in_nI (by decide) (by decide)) dX6_init_36 ?_
  rw [show (nI 6).toNatClampNeg = 6 by decide +kernel]
  rw [rOf_up (m := 68) (a := 42) (k := 6) (v := 67) (by decide +kernel)]
  refine x_iinc (v := nI 7) (L' := [_, _]) C0_ hN rfl (by decide) (by decide +kernel) rfl dX6_init_37 ?_
  refine x_goto (tgt := 15) C0_ (by decide) dX6_init_40 ?_
  refine x_iload_n C0_ rfl dX6_init_15 ?_
  refine x_aload_n C0_ rfl dX6_init_16 ?_
  refine x_getR C0_ wf_X6_11 (show (SALL.take 71)[41]? = some (6, 3) by decide +kernel) rfl rfl (show rOf (RLs.take 69) 41 0 = some 42 by decide +kernel) dX6_init_17 ?_
  refine x_alen (v := nI 16) C0_ (show (SALL.take 71)[42]? = some (15, 16) by decide +kernel) (by decide) (by decide) (by decide +kernel) dX6_init_20 ?_
  refine x_icmp_ge (tgt := 43) C0_ (by decide) dX6_init_21 (fun hkk => absurd hkk (by decide +kernel)) (fun _ => ?_)
  refine x_aload_n C0_ rfl dX6_init_24 ?_
  refine x_getR C0_ wf_X6_11 (show (SALL.take 71)[41]? = some (6, 3) by decide +kernel) rfl rfl (show rOf (RLs.take 69) 41 0 = some 42 by decide +kernel) dX6_init_25 ?_
  refine x_iload_n C0_ rfl dX6_init_28 ?_
  refine x_new (ci := 3) (k0 := 42) C0_ ⟨hz, (show 42 + 29 = (SALL.take 71).length by decide +kernel)⟩ (xRf_of hR (by decide) (by decide) (by decide)) cl_X3 wc_X6_9 wi_X3 wz_X3 (by decide +kernel) ft_X3 rfl (fun j => ((blank_at (n := 71) (m := 69) (j := 0) (by decide +kernel) (by decide +kernel) (fun j hj => iB_0 j (by omega))) (SALL.take 71).length (by decide +kernel)).1 j) (fun j => ((blank_at (n := 71) (m := 69) (j := 0) (by decide +kernel) (by decide +kernel) (fun j hj => iB_0 j (by omega))) (SALL.take 71).length (by decide +kernel)).2.1 j) (fun j => ((blank_at (n := 71) (m := 69) (j := 0) (by decide +kernel) (by decide +kernel) (fun j hj => iB_0 j (by omega))) (SALL.take 71).length (by decide +kernel)).2.2 j) dX6_init_29 ?_
  rw [show (SALL.take 71).length = 71 by decide +kernel, show SALL.take 71 ++ [(3, 7)] = SALL.take 72 by decide +kernel]
  refine x_dup C0_ rfl dX6_init_32 ?_
  refine x_callI (a := 71) (k0 := 42) (mc := 3) (ms := 50) [] C0_ (fun _ => ⟨hz, (show 42 + 30 = (SALL.take 72).length by decide +kernel)⟩) (xRf_of hR (by decide) (by decide) (by decide)) mi_X3_init (by first | exact Or.inl wm_X6_17 | exact Or.inr ⟨_, wm_X6_17⟩) dX6_init_33 rfl rfl (Nat.le_of_ble_eq_true rfl) (k_X3_init (k := 72) (a := 71) (show (SALL.take 72).length = 72 by decide +kernel) (by decide) (show (SALL.take 72)[71]? = some (3, 7) by decide +kernel) (blank_at (n := 72) (m := 69) (j := 0) (by decide +kernel) (by decide +kernel) (fun j hj => iB_0 j (by omega))) ?_)
  rw [show SALL.take 72 ++ [(11, 8), (11, 36), (11, 6)] = SALL.take 75 by decide +kernel]
  rw [rOf_up (m := 69) (a := 71) (k := 4) (v := 72) (by decide +kernel)]
  rw [rOf_up (m := 70) (a := 71) (k := 5) (v := 73) (by decide +kernel)]
  rw [rOf_up (m := 71) (a := 71) (k := 6) (v := 74) (by decide +kernel)]
  refine x_aastore (kd := 15) (ci := 3) C0_ (show (SALL.take 75)[42]? = some (15, 16) by decide +kernel) (show (SALL.take 75)[71]? = some (3, 7) by decide +kernel) (Or.inl ⟨rfl, rfl⟩) (vp_in_nI (by decide) (by decide)) dX6_init_36 ?_
  rw [show (nI 7).toNatClampNeg = 7 by decide +kernel]
  rw [rOf_up (m := 72) (a := 42) (k := 7) (v := 71) (by decide +kernel)]
  refine x_iinc (v := nI 8) (L' := [_, _]) C0_ hN rfl (by decide) (by decide +kernel) rfl dX6_init_37 ?_
  refine x_goto (tgt := 15) C0_ (by decide) dX6_init_40 ?_
  refine x_iload_n C0_ rfl dX6_init_15 ?_
  refine x_aload_n C0_ rfl dX6_init_16 ?_
  refine x_getR C0_ wf_X6_11 (show (SALL.take 75)[41]? = some (6, 3) by decide +kernel) rfl rfl (show rOf (RLs.take 73) 41 0 = some 42 by decide +kernel) dX6_init_17 ?_
  refine x_alen (v := nI 16) C0_ (show (SALL.take 75)[42]? = some (15, 16) by decide +kernel) (by decide) (by decide) (by decide +kernel) dX6_init_20 ?_
  refine x_icmp_ge (tgt := 43) C0_ (by decide) dX6_init_21 (fun hkk => absurd hkk (by decide +kernel)) (fun _ => ?_)
  refine x_aload_n C0_ rfl dX6_init_24 ?_
  refine x_getR C0_ wf_X6_11 (show (SALL.take 75)[41]? = some (6, 3) by decide +kernel) rfl rfl (show rOf (RLs.take 73) 41 0 = some 42 by decide +kernel) dX6_init_25 ?_
  refine x_iload_n C0_ rfl dX6_init_28 ?_
  refine x_new (ci := 3) (k0 := 42) C0_ ⟨hz, (show 42 + 33 = (SALL.take 75).length by decide +kernel)⟩ (xRf_of hR (by decide) (by decide) (by decide)) cl_X3 wc_X6_9 wi_X3 wz_X3 (by decide +kernel) ft_X3 rfl (fun j => ((blank_at (n := 75) (m := 73) (j := 0) (by decide +kernel) (by decide +kernel) (fun j hj => iB_0 j (by omega))) (SALL.take 75).length (by decide +kernel)).1 j) (fun j => ((blank_at (n := 75) (m := 73) (j := 0) (by decide +kernel) (by decide +kernel) (fun j hj => iB_0 j (by omega))) (SALL.take 75).length (by decide +kernel)).2.1 j) (fun j => ((blank_at (n := 75) (m := 73) (j := 0) (by decide +kernel) (by decide +kernel) (fun j hj => iB_0 j (by omega))) (SALL.take 75).length (by decide +kernel)).2.2 j) dX6_init_29 ?_
  rw [show (SALL.take 75).length = 75 by decide +kernel, show SALL.take 75 ++ [(3, 7)] = SALL.take 76 by decide +kernel]
  refine x_dup C0_ rfl dX6_init_32 ?_
  refine x_callI (a := 75) (k0 := 42) (mc := 3) (ms := 50) [] C0_ (fun _ => ⟨hz, (show 42 + 34 = (SALL.take 76).length by decide +kernel)⟩) (xRf_of hR (by decide) (by decide) (by decide)) mi_X3_init (by first | exact Or.inl wm_X6_17 | exact Or.inr ⟨_, wm_X6_17⟩) dX6_init_33 rfl rfl (Nat.le_of_ble_eq_true rfl) (k_X3_init (k := 76) (a := 75) (show (SALL.take 76).length = 76 by decide +kernel) (by decide) (show (SALL.take 76)[75]? = some (3, 7) by decide +kernel) (blank_at (n := 76) (m := 73) (j := 0) (by decide +kernel) (by decide +kernel) (fun j hj => iB_0 j (by omega))) ?_)
  rw [show SALL.take 76 ++ [(11, 8), (11, 36), (11, 6)] = SALL.take 79 by decide +kernel]
  rw [rOf_up (m := 73) (a := 75) (k := 4) (v := 76) (by decide +kernel)]
  rw [rOf_up (m := 74) (a := 75) (k := 5) (v := 77) (by decide +kernel)]
  rw [rOf_up (m := 75) (a := 75) (k := 6) (v := 78) (by decide +kernel)]
  refine x_aastore (kd := 15) (ci := 3) C0_ (show (SALL.take 79)[42]? = some (15, 16) by decide +kernel) (show (SALL.take 79)[75]? = some (3, 7) by decide +kernel) (Or.inl ⟨rfl, rfl⟩) (vp_in_nI (by decide) (by decide)) dX6_init_36 ?_
  rw [show (nI 8).toNatClampNeg = 8 by decide +kernel]
  rw [rOf_up (m := 76) (a := 42) (k := 8) (v := 75) (by decide +kernel)]
  refine x_iinc (v := nI 9) (L' := [_, _]) C0_ hN rfl (by decide) (by decide +kernel) rfl dX6_init_37 ?_
  refine x_goto (tgt := 15) C0_ (by decide) dX6_init_40 ?_
  refine x_iload_n C0_ rfl dX6_init_15 ?_
  refine x_aload_n C0_ rfl dX6_init_16 ?_
  refine x_getR C0_ wf_X6_11 (show (SALL.take 79)[41]? = some (6, 3) by decide +kernel) rfl rfl (show rOf (RLs.take 77) 41 0 = some 42 by decide +kernel) dX6_init_17 ?_
  refine x_alen (v := nI 16) C0_ (show (SALL.take 79)[42]? = some (15, 16) by decide +kernel) (by decide) (by decide) (by decide +kernel) dX6_init_20 ?_
  refine x_icmp_ge (tgt := 43) C0_ (by decide) dX6_init_21 (fun hkk => absurd hkk (by decide +kernel)) (fun _ => ?_)
  refine x_aload_n C0_ rfl dX6_init_24 ?_
  refine x_getR C0_ wf_X6_11 (show (SALL.take 79)[41]? = some (6, 3) by decide +kernel) rfl rfl (show rOf (RLs.take 77) 41 0 = some 42 by decide +kernel) dX6_init_25 ?_
  refine x_iload_n C0_ rfl dX6_init_28 ?_
  refine x_new (ci := 3) (k0 := 42) C0_ ⟨hz, (show 42 + 37 = (SALL.take 79).length by decide +kernel)⟩ (xRf_of hR (by decide) (by decide) (by decide)) cl_X3 wc_X6_9 wi_X3 wz_X3 (by decide +kernel) ft_X3 rfl (fun j => ((blank_at (n := 79) (m := 77) (j := 0) (by decide +kernel) (by decide +kernel) (fun j hj => iB_0 j (by omega))) (SALL.take 79).length (by decide +kernel)).1 j) (fun j => ((blank_at (n := 79) (m := 77) (j := 0) (by decide +kernel) (by decide +kernel) (fun j hj => iB_0 j (by omega))) (SALL.take 79).length (by decide +kernel)).2.1 j) (fun j => ((blank_at (n := 79) (m := 77) (j := 0) (by decide +kernel) (by decide +kernel) (fun j hj => iB_0 j (by omega))) (SALL.take 79).length (by decide +kernel)).2.2 j) dX6_init_29 ?_
  rw [show (SALL.take 79).length = 79 by decide +kernel, show SALL.take 79 ++ [(3, 7)] = SALL.take 80 by decide +kernel]
  refine x_dup C0_ rfl dX6_init_32 ?_
  refine x_callI (a := 79) (k0 := 42) (mc := 3) (ms := 50) [] C0_ (fun _ => ⟨hz, (show 42 + 38 = (SALL.take 80).length by decide +kernel)⟩) (xRf_of hR (by decide) (by decide) (by decide)) mi_X3_init (by first | exact Or.inl wm_X6_17 | exact Or.inr ⟨_, wm_X6_17⟩) dX6_init_33 rfl rfl (Nat.le_of_ble_eq_true rfl) (k_X3_init (k := 80) (a := 79) (show (SALL.take 80).length = 80 by decide +kernel) (by decide) (show (SALL.take 80)[79]? = some (3, 7) by decide +kernel) (blank_at (n := 80) (m := 77) (j := 0) (by decide +kernel) (by decide +kernel) (fun j hj => iB_0 j (by omega))) ?_)
  rw [show SALL.take 80 ++ [(11, 8), (11, 36), (11, 6)] = SALL.take 83 by decide +kernel]
  rw [rOf_up (m := 77) (a := 79) (k := 4) (v := 80) (by decide +kernel)]
  rw [rOf_up (m := 78) (a := 79) (k := 5) (v := 81) (by decide +kernel)]
  rw [rOf_up (m := 79) (a := 79) (k := 6) (v := 82) (by decide +kernel)]
  refine x_aastore (kd := 15) (ci := 3) C0_ (show (SALL.take 83)[42]? = some (15, 16) by decide +kernel) (show (SALL.take 83)[79]? = some (3, 7) by decide +kernel) (Or.inl ⟨rfl, rfl⟩) (vp_in_nI (by decide) (by decide)) dX6_init_36 ?_
  rw [show (nI 9).toNatClampNeg = 9 by decide +kernel]
  rw [rOf_up (m := 80) (a := 42) (k := 9) (v := 79) (by decide +kernel)]
  refine x_iinc (v := nI 10) (L' := [_, _]) C0_ hN rfl (by decide) (by decide +kernel) rfl dX6_init_37 ?_
  refine x_goto (tgt := 15) C0_ (by decide) dX6_init_40 ?_
  refine x_iload_n C0_ rfl dX6_init_15 ?_
  refine x_aload_n C0_ rfl dX6_init_16 ?_
  refine x_getR C0_ wf_X6_11 (show (SALL.take 83)[41]? = some (6, 3) by decide +kernel) rfl rfl (show rOf (RLs.take 81) 41 0 = some 42 by decide +kernel) dX6_init_17 ?_
  refine x_alen (v := nI 16) C0_ (show (SALL.take 83)[42]? = some (15, 16) by decide +kernel) (by decide) (by decide) (by decide +kernel) dX6_init_20 ?_
  refine x_icmp_ge (tgt := 43) C0_ (by decide) dX6_init_21 (fun hkk => absurd hkk (by decide +kernel)) (fun _ => ?_)
  refine x_aload_n C0_ rfl dX6_init_24 ?_
  refine x_getR C0_ wf_X6_11 (show (SALL.take 83)[41]? = some (6, 3) by decide +kernel) rfl rfl (show rOf (RLs.take 81) 41 0 = some 42 by decide +kernel) dX6_init_25 ?_
  refine x_iload_n C0_ rfl dX6_init_28 ?_
  refine x_new (ci := 3) (k0 := 42) C0_ ⟨hz, (show 42 + 41 = (SALL.take 83).length by decide +kernel)⟩ (xRf_of hR (by decide) (by decide) (by decide)) cl_X3 wc_X6_9 wi_X3 wz_X3 (by decide +kernel) ft_X3 rfl (fun j => ((blank_at (n := 83) (m := 81) (j := 0) (by decide +kernel) (by decide +kernel) (fun j hj => iB_0 j (by omega))) (SALL.take 83).length (by decide +kernel)).1 j) (fun j => ((blank_at (n := 83) (m := 81) (j := 0) (by decide +kernel) (by decide +kernel) (fun j hj => iB_0 j (by omega))) (SALL.take 83).length (by decide +kernel)).2.1 j) (fun j => ((blank_at (n := 83) (m := 81) (j := 0) (by decide +kernel) (by decide +kernel) (fun j hj => iB_0 j (by omega))) (SALL.take 83).length (by decide +kernel)).2.2 j) dX6_init_29 ?_
  rw [show (SALL.take 83).length = 83 by decide +kernel, show SALL.take 83 ++ [(3, 7)] = SALL.take 84 by decide +kernel]
  refine x_dup C0_ rfl dX6_init_32 ?_
  refine x_callI (a := 83) (k0 := 42) (mc := 3) (ms := 50) [] C0_ (fun _ => ⟨hz, (show 42 + 42 = (SALL.take 84).length by decide +kernel)⟩) (xRf_of hR (by decide) (by decide) (by decide)) mi_X3_init (by first | exact Or.inl wm_X6_17 | exact Or.inr ⟨_, wm_X6_17⟩) dX6_init_33 rfl rfl (Nat.le_of_ble_eq_true rfl) (k_X3_init (k := 84) (a := 83) (show (SALL.take 84).length = 84 by decide +kernel) (by decide) (show (SALL.take 84)[83]? = some (3, 7) by decide +kernel) (blank_at (n := 84) (m := 81) (j := 0) (by decide +kernel) (by decide +kernel) (fun j hj => iB_0 j (by omega))) ?_)
  rw [show SALL.take 84 ++ [(11, 8), (11, 36), (11, 6)] = SALL.take 87 by decide +kernel]
  rw [rOf_up (m := 81) (a := 83) (k := 4) (v := 84) (by decide +kernel)]
  rw [rOf_up (m := 82) (a := 83) (k := 5) (v := 85) (by decide +kernel)]
  rw [rOf_up (m := 83) (a := 83) (k := 6) (v := 86) (by decide +kernel)]
  refine x_aastore (kd := 15) (ci := 3) C0_ (show (SALL.take 87)[42]? = some (15, 16) by decide +kernel) (show (SALL.take 87)[83]? = some (3, 7) by decide +kernel) (Or.inl ⟨rfl, rfl⟩) (vp_in_nI (by decide) (by decide)) dX6_init_36 ?_
  rw [show (nI 10).toNatClampNeg = 10 by decide +kernel]
  rw [rOf_up (m := 84) (a := 42) (k := 10) (v := 83) (by decide +kernel)]
  refine x_iinc (v := nI 11) (L' := [_, _]) C0_ hN rfl (by decide) (by decide +kernel) rfl dX6_init_37 ?_
  refine x_goto (tgt := 15) C0_ (by decide) dX6_init_40 ?_
  refine x_iload_n C0_ rfl dX6_init_15 ?_
  refine x_aload_n C0_ rfl dX6_init_16 ?_
  refine x_getR C0_ wf_X6_11 (show (SALL.take 87)[41]? = some (6, 3) by decide +kernel) rfl rfl (show rOf (RLs.take 85) 41 0 = some 42 by decide +kernel) dX6_init_17 ?_
  refine x_alen (v := nI 16) C0_ (show (SALL.take 87)[42]? = some (15, 16) by decide +kernel) (by decide) (by decide) (by decide +kernel) dX6_init_20 ?_
  refine x_icmp_ge (tgt := 43) C0_ (by decide) dX6_init_21 (fun hkk => absurd hkk (by decide +kernel)) (fun _ => ?_)
  refine x_aload_n C0_ rfl dX6_init_24 ?_
  refine x_getR C0_ wf_X6_11 (show (SALL.take 87)[41]? = some (6, 3) by decide +kernel) rfl rfl (show rOf (RLs.take 85) 41 0 = some 42 by decide +kernel) dX6_init_25 ?_
  refine x_iload_n C0_ rfl dX6_init_28 ?_
  refine x_new (ci := 3) (k0 := 42) C0_ ⟨hz, (show 42 + 45 = (SALL.take 87).length by decide +kernel)⟩ (xRf_of hR (by decide) (by decide) (by decide)) cl_X3 wc_X6_9 wi_X3 wz_X3 (by decide +kernel) ft_X3 rfl (fun j => ((blank_at (n := 87) (m := 85) (j := 0) (by decide +kernel) (by decide +kernel) (fun j hj => iB_0 j (by omega))) (SALL.take 87).length (by decide +kernel)).1 j) (fun j => ((blank_at (n := 87) (m := 85) (j := 0) (by decide +kernel) (by decide +kernel) (fun j hj => iB_0 j (by omega))) (SALL.take 87).length (by decide +kernel)).2.1 j) (fun j => ((blank_at (n := 87) (m := 85) (j := 0) (by decide +kernel) (by decide +kernel) (fun j hj => iB_0 j (by omega))) (SALL.take 87).length (by decide +kernel)).2.2 j) dX6_init_29 ?_
  rw [show (SALL.take 87).length = 87 by decide +kernel, show SALL.take 87 ++ [(3, 7)] = SALL.take 88 by decide +kernel]
  refine x_dup C0_ rfl dX6_init_32 ?_
  refine x_callI (a := 87) (k0 := 42) (mc := 3) (ms := 50) [] C0_ (fun _ => ⟨hz, (show 42 + 46 = (SALL.take 88).length by decide +kernel)⟩) (xRf_of hR (by decide) (by decide) (by decide)) mi_X3_init (by first | exact Or.inl wm_X6_17 | exact Or.inr ⟨_, wm_X6_17⟩) dX6_init_33 rfl rfl (Nat.le_of_ble_eq_true rfl) (k_X3_init (k := 88) (a := 87) (show (SALL.take 88).length = 88 by decide +kernel) (by decide) (show (SALL.take 88)[87]? = some (3, 7) by decide +kernel) (blank_at (n := 88) (m := 85) (j := 0) (by decide +kernel) (by decide +kernel) (fun j hj => iB_0 j (by omega))) ?_)
  rw [show SALL.take 88 ++ [(11, 8), (11, 36), (11, 6)] = SALL.take 91 by decide +kernel]
  rw [rOf_up (m := 85) (a := 87) (k := 4) (v := 88) (by decide +kernel)]
  rw [rOf_up (m := 86) (a := 87) (k := 5) (v := 89) (by decide +kernel)]
  rw [rOf_up (m := 87) (a := 87) (k := 6) (v := 90) (by decide +kernel)]
  refine x_aastore (kd := 15) (ci := 3) C0_ (show (SALL.take 91)[42]? = some (15, 16) by decide +kernel) (show (SALL.take 91)[87]? = some (3, 7) by decide +kernel) (Or.inl ⟨rfl, rfl⟩) (vp_in_nI (by decide) (by decide)) dX6_init_36 ?_
  rw [show (nI 11).toNatClampNeg = 11 by decide +kernel]
  rw [rOf_up (m := 88) (a := 42) (k := 11) (v := 87) (by decide +kernel)]
  refine x_iinc (v := nI 12) (L' := [_, _]) C0_ hN rfl (by decide) (by decide +kernel) rfl dX6_init_37 ?_
  refine x_goto (tgt := 15) C0_ (by decide) dX6_init_40 ?_
  refine x_iload_n C0_ rfl dX6_init_15 ?_
  refine x_aload_n C0_ rfl dX6_init_16 ?_
  refine x_getR C0_ wf_X6_11 (show (SALL.take 91)[41]? = some (6, 3) by decide +kernel) rfl rfl (show rOf (RLs.take 89) 41 0 = some 42 by decide +kernel) dX6_init_17 ?_
  refine x_alen (v := nI 16) C0_ (show (SALL.take 91)[42]? = some (15, 16) by decide +kernel) (by decide) (by decide) (by decide +kernel) dX6_init_20 ?_
  refine x_icmp_ge (tgt := 43) C0_ (by decide) dX6_init_21 (fun hkk => absurd hkk (by decide +kernel)) (fun _ => ?_)
  refine x_aload_n C0_ rfl dX6_init_24 ?_
  refine x_getR C0_ wf_X6_11 (show (SALL.take 91)[41]? = some (6, 3) by decide +kernel) rfl rfl (show rOf (RLs.take 89) 41 0 = some 42 by decide +kernel) dX6_init_25 ?_
  refine x_iload_n C0_ rfl dX6_init_28 ?_
  refine x_new (ci := 3) (k0 := 42) C0_ ⟨hz, (show 42 + 49 = (SALL.take 91).length by decide +kernel)⟩ (xRf_of hR (by decide) (by decide) (by decide)) cl_X3 wc_X6_9 wi_X3 wz_X3 (by decide +kernel) ft_X3 rfl (fun j => ((blank_at (n := 91) (m := 89) (j := 0) (by decide +kernel) (by decide +kernel) (fun j hj => iB_0 j (by omega))) (SALL.take 91).length (by decide +kernel)).1 j) (fun j => ((blank_at (n := 91) (m := 89) (j := 0) (by decide +kernel) (by decide +kernel) (fun j hj => iB_0 j (by omega))) (SALL.take 91).length (by decide +kernel)).2.1 j) (fun j => ((blank_at (n := 91) (m := 89) (j := 0) (by decide +kernel) (by decide +kernel) (fun j hj => iB_0 j (by omega))) (SALL.take 91).length (by decide +kernel)).2.2 j) dX6_init_29 ?_
  rw [show (SALL.take 91).length = 91 by decide +kernel, show SALL.take 91 ++ [(3, 7)] = SALL.take 92 by decide +kernel]
  refine x_dup C0_ rfl dX6_init_32 ?_
  refine x_callI (a := 91) (k0 := 42) (mc := 3) (ms := 50) [] C0_ (fun _ => ⟨hz, (show 42 + 50 = (SALL.take 92).length by decide +kernel)⟩) (xRf_of hR (by decide) (by decide) (by decide)) mi_X3_init (by first | exact Or.inl wm_X6_17 | exact Or.inr ⟨_, wm_X6_17⟩) dX6_init_33 rfl rfl (Nat.le_of_ble_eq_true rfl) (k_X3_init (k := 92) (a := 91) (show (SALL.take 92).length = 92 by decide +kernel) (by decide) (show (SALL.take 92)[91]? = some (3, 7) by decide +kernel) (blank_at (n := 92) (m := 89) (j := 0) (by decide +kernel) (by decide +kernel) (fun j hj => iB_0 j (by omega))) ?_)
  rw [show SALL.take 92 ++ [(11, 8), (11, 36), (11, 6)] = SALL.take 95 by decide +kernel]
  rw [rOf_up (m := 89) (a := 91) (k := 4) (v := 92) (by decide +kernel)]
  rw [rOf_up (m := 90) (a := 91) (k := 5) (v := 93) (by decide +kernel)]
  rw [rOf_up (m := 91) (a := 91) (k := 6) (v := 94) (by decide +kernel)]
  refine x_aastore (kd := 15) (ci := 3) C0_ (show (SALL.take 95)[42]? = some (15, 16) by decide +kernel) (show (SALL.take 95)[91]? = some (3, 7) by decide +kernel) (Or.inl ⟨rfl, rfl⟩) (vp_in_nI (by decide) (by decide)) dX6_init_36 ?_
  rw [show (nI 12).toNatClampNeg = 12 by decide +kernel]
  rw [rOf_up (m := 92) (a := 42) (k := 12) (v := 91) (by decide +kernel)]
  refine x_iinc (v := nI 13) (L' := [_, _]) C0_ hN rfl (by decide) (by decide +kernel) rfl dX6_init_37 ?_
  refine x_goto (tgt := 15) C0_ (by decide) dX6_init_40 ?_
  refine x_iload_n C0_ rfl dX6_init_15 ?_
  refine x_aload_n C0_ rfl dX6_init_16 ?_
  refine x_getR C0_ wf_X6_11 (show (SALL.take 95)[41]? = some (6, 3) by decide +kernel) rfl rfl (show rOf (RLs.take 93) 41 0 = some 42 by decide +kernel) dX6_init_17 ?_
  refine x_alen (v := nI 16) C0_ (show (SALL.take 95)[42]? = some (15, 16) by decide +kernel) (by decide) (by decide) (by decide +kernel) dX6_init_20 ?_
  refine x_icmp_ge (tgt := 43) C0_ (by decide) dX6_init_21 (fun hkk => absurd hkk (by decide +kernel)) (fun _ => ?_)
  refine x_aload_n C0_ rfl dX6_init_24 ?_
  refine x_getR C0_ wf_X6_11 (show (SALL.take 95)[41]? = some (6, 3) by decide +kernel) rfl rfl (show rOf (RLs.take 93) 41 0 = some 42 by decide +kernel) dX6_init_25 ?_
  refine x_iload_n C0_ rfl dX6_init_28 ?_
  refine x_new (ci := 3) (k0 := 42) C0_ ⟨hz, (show 42 + 53 = (SALL.take 95).length by decide +kernel)⟩ (xRf_of hR (by decide) (by decide) (by decide)) cl_X3 wc_X6_9 wi_X3 wz_X3 (by decide +kernel) ft_X3 rfl (fun j => ((blank_at (n := 95) (m := 93) (j := 0) (by decide +kernel) (by decide +kernel) (fun j hj => iB_0 j (by omega))) (SALL.take 95).length (by decide +kernel)).1 j) (fun j => ((blank_at (n := 95) (m := 93) (j := 0) (by decide +kernel) (by decide +kernel) (fun j hj => iB_0 j (by omega))) (SALL.take 95).length (by decide +kernel)).2.1 j) (fun j => ((blank_at (n := 95) (m := 93) (j := 0) (by decide +kernel) (by decide +kernel) (fun j hj => iB_0 j (by omega))) (SALL.take 95).length (by decide +kernel)).2.2 j) dX6_init_29 ?_
  rw [show (SALL.take 95).length = 95 by decide +kernel, show SALL.take 95 ++ [(3, 7)] = SALL.take 96 by decide +kernel]
  refine x_dup C0_ rfl dX6_init_32 ?_
  refine x_callI (a := 95) (k0 := 42) (mc := 3) (ms := 50) [] C0_ (fun _ => ⟨hz, (show 42 + 54 = (SALL.take 96).length by decide +kernel)⟩) (xRf_of hR (by decide) (by decide) (by decide)) mi_X3_init (by first | exact Or.inl wm_X6_17 | exact Or.inr ⟨_, wm_X6_17⟩) dX6_init_33 rfl rfl (Nat.le_of_ble_eq_true rfl) (k_X3_init (k := 96) (a := 95) (show (SALL.take 96).length = 96 by decide +kernel) (by decide) (show (SALL.take 96)[95]? = some (3, 7) by decide +kernel) (blank_at (n := 96) (m := 93) (j := 0) (by decide +kernel) (by decide +kernel) (fun j hj => iB_0 j (by omega))) ?_)
  rw [show SALL.take 96 ++ [(11, 8), (11, 36), (11, 6)] = SALL.take 99 by decide +kernel]
  rw [rOf_up (m := 93) (a := 95) (k := 4) (v := 96) (by decide +kernel)]
  rw [rOf_up (m := 94) (a := 95) (k := 5) (v := 97) (by decide +kernel)]
  rw [rOf_up (m := 95) (a := 95) (k := 6) (v := 98) (by decide +kernel)]
  refine x_aastore (kd := 15) (ci := 3) C0_ (show (SALL.take 99)[42]? = some (15, 16) by decide +kernel) (show (SALL.take 99)[95]? = some (3, 7) by decide +kernel) (Or.inl ⟨rfl, rfl⟩) (vp_in_nI (by decide) (by decide)) dX6_init_36 ?_
  rw [show (nI 13).toNatClampNeg = 13 by decide +kernel]
  rw [rOf_up (m := 96) (a := 42) (k := 13) (v := 95) (by decide +kernel)]
  refine x_iinc (v := nI 14) (L' := [_, _]) C0_ hN rfl (by decide) (by decide +kernel) rfl dX6_init_37 ?_
  refine x_goto (tgt := 15) C0_ (by decide) dX6_init_40 ?_
  refine x_iload_n C0_ rfl dX6_init_15 ?_
  refine x_aload_n C0_ rfl dX6_init_16 ?_
  refine x_getR C0_ wf_X6_11 (show (SALL.take 99)[41]? = some (6, 3) by decide +kernel) rfl rfl (show rOf (RLs.take 97) 41 0 = some 42 by decide +kernel) dX6_init_17 ?_
  refine x_alen (v := nI 16) C0_ (show (SALL.take 99)[42]? = some (15, 16) by decide +kernel) (by decide) (by decide) (by decide +kernel) dX6_init_20 ?_
  refine x_icmp_ge (tgt := 43) C0_ (by decide) dX6_init_21 (fun hkk => absurd hkk (by decide +kernel)) (fun _ => ?_)
  refine x_aload_n C0_ rfl dX6_init_24 ?_
  refine x_getR C0_ wf_X6_11 (show (SALL.take 99)[41]? = some (6, 3) by decide +kernel) rfl rfl (show rOf (RLs.take 97) 41 0 = some 42 by decide +kernel) dX6_init_25 ?_
  refine x_iload_n C0_ rfl dX6_init_28 ?_
  refine x_new (ci := 3) (k0 := 42) C0_ ⟨hz, (show 42 + 57 = (SALL.take 99).length by decide +kernel)⟩ (xRf_of hR (by decide) (by decide) (by decide)) cl_X3 wc_X6_9 wi_X3 wz_X3 (by decide +kernel) ft_X3 rfl (fun j => ((blank_at (n := 99) (m := 97) (j := 0) (by decide +kernel) (by decide +kernel) (fun j hj => iB_0 j (by omega))) (SALL.take 99).length (by decide +kernel)).1 j) (fun j => ((blank_at (n := 99) (m := 97) (j := 0) (by decide +kernel) (by decide +kernel) (fun j hj => iB_0 j (by omega))) (SALL.take 99).length (by decide +kernel)).2.1 j) (fun j => ((blank_at (n := 99) (m := 97) (j := 0) (by decide +kernel) (by decide +kernel) (fun j hj => iB_0 j (by omega))) (SALL.take 99).length (by decide +kernel)).2.2 j) dX6_init_29 ?_
  rw [show (SALL.take 99).length = 99 by decide +kernel, show SALL.take 99 ++ [(3, 7)] = SALL.take 100 by decide +kernel]
  refine x_dup C0_ rfl dX6_init_32 ?_
  refine x_callI (a := 99) (k0 := 42) (mc := 3) (ms := 50) [] C0_ (fun _ => ⟨hz, (show 42 + 58 = (SALL.take 100).length by decide +kernel)⟩) (xRf_of hR (by decide) (by decide) (by decide)) mi_X3_init (by first | exact Or.inl wm_X6_17 | exact Or.inr ⟨_, wm_X6_17⟩) dX6_init_33 rfl rfl (Nat.le_of_ble_eq_true rfl) (k_X3_init (k := 100) (a := 99) (show (SALL.take 100).length = 100 by decide +kernel) (by decide) (show (SALL.take 100)[99]? = some (3, 7) by decide +kernel) (blank_at (n := 100) (m := 97) (j := 0) (by decide +kernel) (by decide +kernel) (fun j hj => iB_0 j (by omega))) ?_)
  rw [show SALL.take 100 ++ [(11, 8), (11, 36), (11, 6)] = SALL.take 103 by decide +kernel]
  rw [rOf_up (m := 97) (a := 99) (k := 4) (v := 100) (by decide +kernel)]
  rw [rOf_up (m := 98) (a := 99) (k := 5) (v := 101) (by decide +kernel)]
  rw [rOf_up (m := 99) (a := 99) (k := 6) (v := 102) (by decide +kernel)]
  refine x_aastore (kd := 15) (ci := 3) C0_ (show (SALL.take 103)[42]? = some (15, 16) by decide +kernel) (show (SALL.take 103)[99]? = some (3, 7) by decide +kernel) (Or.inl ⟨rfl, rfl⟩) (vp_in_nI (by decide) (by decide)) dX6_init_36 ?_
  rw [show (nI 14).toNatClampNeg = 14 by decide +kernel]
  rw [rOf_up (m := 100) (a := 42) (k := 14) (v := 99) (by decide +kernel)]
  refine x_iinc (v := nI 15) (L' := [_, _]) C0_ hN rfl (by decide) (by decide +kernel) rfl dX6_init_37 ?_
  refine x_goto (tgt := 15) C0_ (by decide) dX6_init_40 ?_
  refine x_iload_n C0_ rfl dX6_init_15 ?_
  refine x_aload_n C0_ rfl dX6_init_16 ?_
  refine x_getR C0_ wf_X6_11 (show (SALL.take 103)[41]? = some (6, 3) by decide +kernel) rfl rfl (show rOf (RLs.take 101) 41 0 = some 42 by decide +kernel) dX6_init_17 ?_
  refine x_alen (v := nI 16) C0_ (show (SALL.take 103)[42]? = some (15, 16) by decide +kernel) (by decide) (by decide) (by decide +kernel) dX6_init_20 ?_
  refine x_icmp_ge (tgt := 43) C0_ (by decide) dX6_init_21 (fun hkk => absurd hkk (by decide +kernel)) (fun _ => ?_)
  refine x_aload_n C0_ rfl dX6_init_24 ?_
  refine x_getR C0_ wf_X6_11 (show (SALL.take 103)[41]? = some (6, 3) by decide +kernel) rfl rfl (show rOf (RLs.take 101) 41 0 = some 42 by decide +kernel) dX6_init_25 ?_
  refine x_iload_n C0_ rfl dX6_init_28 ?_
  refine x_new (ci := 3) (k0 := 42) C0_ ⟨hz, (show 42 + 61 = (SALL.take 103).length by decide +kernel)⟩ (xRf_of hR (by decide) (by decide) (by decide)) cl_X3 wc_X6_9 wi_X3 wz_X3 (by decide +kernel) ft_X3 rfl (fun j => ((blank_at (n := 103) (m := 101) (j := 0) (by decide +kernel) (by decide +kernel) (fun j hj => iB_0 j (by omega))) (SALL.take 103).length (by decide +kernel)).1 j) (fun j => ((blank_at (n := 103) (m := 101) (j := 0) (by decide +kernel) (by decide +kernel) (fun j hj => iB_0 j (by omega))) (SALL.take 103).length (by decide +kernel)).2.1 j) (fun j => ((blank_at (n := 103) (m := 101) (j := 0) (by decide +kernel) (by decide +kernel) (fun j hj => iB_0 j (by omega))) (SALL.take 103).length (by decide +kernel)).2.2 j) dX6_init_29 ?_
  rw [show (SALL.take 103).length = 103 by decide +kernel, show SALL.take 103 ++ [(3, 7)] = SALL.take 104 by decide +kernel]
  refine x_dup C0_ rfl dX6_init_32 ?_
  refine x_callI (a := 103) (k0 := 42) (mc := 3) (ms := 50) [] C0_ (fun _ => ⟨hz, (show 42 + 62 = (SALL.take 104).length by decide +kernel)⟩) (xRf_of hR (by decide) (by decide) (by decide)) mi_X3_init (by first | exact Or.inl wm_X6_17 | exact Or.inr ⟨_, wm_X6_17⟩) dX6_init_33 rfl rfl (Nat.le_of_ble_eq_true rfl) (k_X3_init (k := 104) (a := 103) (show (SALL.take 104).length = 104 by decide +kernel) (by decide) (show (SALL.take 104)[103]? = some (3, 7) by decide +kernel) (blank_at (n := 104) (m := 101) (j := 0) (by decide +kernel) (by decide +kernel) (fun j hj => iB_0 j (by omega))) ?_)
  rw [show SALL.take 104 ++ [(11, 8), (11, 36), (11, 6)] = SALL.take 107 by decide +kernel]
  rw [rOf_up (m := 101) (a := 103) (k := 4) (v := 104) (by decide +kernel)]
  rw [rOf_up (m := 102) (a := 103) (k := 5) (v := 105) (by decide +kernel)]
  rw [rOf_up (m := 103) (a := 103) (k := 6) (v := 106) (by decide +kernel)]
  refine x_aastore (kd := 15) (ci := 3) C0_ (show (SALL.take 107)[42]? = some (15, 16) by decide +kernel) (show (SALL.take 107)[103]? = some (3, 7) by decide +kernel) (Or.inl ⟨rfl, rfl⟩) (vp_in_nI (by decide) (by decide)) dX6_init_36 ?_
  rw [show (nI 15).toNatClampNeg = 15 by decide +kernel]
  rw [rOf_up (m := 104) (a := 42) (k := 15) (v := 103) (by decide +kernel)]
  refine x_iinc (v := nI 16) (L' := [_, _]) C0_ hN rfl (by decide) (by decide +kernel) rfl dX6_init_37 ?_
  refine x_goto (tgt := 15) C0_ (by decide) dX6_init_40 ?_
  refine x_iload_n C0_ rfl dX6_init_15 ?_
  refine x_aload_n C0_ rfl dX6_init_16 ?_
  refine x_getR C0_ wf_X6_11 (show (SALL.take 107)[41]? = some (6, 3) by decide +kernel) rfl rfl (show rOf (RLs.take 105) 41 0 = some 42 by decide +kernel) dX6_init_17 ?_
  refine x_alen (v := nI 16) C0_ (show (SALL.take 107)[42]? = some (15, 16) by decide +kernel) (by decide) (by decide) (by decide +kernel) dX6_init_20 ?_
  refine x_icmp_ge (tgt := 43) C0_ (by decide) dX6_init_21 (fun _ => ?_) (fun hkk => absurd (by decide +kernel) hkk)
  refine x_vret C0_ E (by decide) (by decide) dX6_init_43 ?_
  exact hp
set_option maxRecDepth 4000 in
theorem k_X11_init {post : xPost} (hp : post none (SALL.take 135) (rOf (RLs.take 134)) (uopen iB 7 33) (jOf (JLs.take 0))) : xSpec 5 yX11_init cX11_init 2 none 134 4365 [.ref 0] (SALL.take 1) (rOf (RLs.take 0)) iZ (jOf (JLs.take 0)) post := by
  refine xSpec_of mt_X11_init (Nat.le_of_ble_eq_true rfl) (fun G C0_ hN hR E hI hZ => ?_)
  have hz := hZ (by decide)
  rw [show (SALL.take 1).length = 1 by decide +kernel] at hz
  change XX G 0 0 0 [some (.ref 0), none] [] (SALL.take 1) (rOf (RLs.take 0)) iZ (jOf (JLs.take 0))
  refine x_aload_n C0_ rfl dX11_init_0 ?_
  refine x_objInit C0_ (xRf_of hR (by decide) (Nat.zero_le _) (Nat.zero_le _)) wo_X11_3 woI woC (Nat.le_of_ble_eq_true rfl) dX11_init_1 ?_
  refine x_aload_n C0_ rfl dX11_init_4 ?_
  refine x_new (ci := 8) (k0 := 1) C0_ ⟨hz, (show 1 + 0 = (SALL.take 1).length by decide +kernel)⟩ (xRf_of hR (by decide) (by decide) (by decide)) cl_X9 wc_X11_9 wi_X9 wz_X9 (by decide +kernel) ft_X9 rfl (fun j => ((blank_at (n := 1) (m := 0) (j := 0) (by decide +kernel) (by decide +kernel) (fun _ _ _ => rfl)) (SALL.take 1).length (by decide +kernel)).1 j) (fun j => ((blank_at (n := 1) (m := 0) (j := 0) (by decide +kernel) (by decide +kernel) (fun _ _ _ => rfl)) (SALL.take 1).length (by decide +kernel)).2.1 j) (fun j => ((blank_at (n := 1) (m := 0) (j := 0) (by decide +kernel) (by decide +kernel) (fun _ _ _ => rfl)) (SALL.take 1).length (by decide +kernel)).2.2 j) dX11_init_5 ?_
  rw [show (SALL.take 1).length = 1 by decide +kernel, show SALL.take 1 ++ [(8, 9)] = SALL.take 2 by decide +kernel]
  refine x_dup C0_ rfl dX11_init_8 ?_
  refine x_callI (a := 1) (k0 := 1) (mc := 1) (ms := 1000) [] C0_ (fun _ => ⟨hz, (show 1 + 1 = (SALL.take 2).length by decide +kernel)⟩) (xRf_of hR (by decide) (by decide) (by decide)) mi_X9_init (by first | exact Or.inl wm_X11_11 | exact Or.inr ⟨_, wm_X11_11⟩) dX11_init_9 rfl rfl (Nat.le_of_ble_eq_true rfl) (k_X9_init (k := 2) (a := 1) (show (SALL.take 2).length = 2 by decide +kernel) (by decide) (show (SALL.take 2)[1]? = some (8, 9) by decide +kernel) (blank_at (n := 2) (m := 0) (j := 0) (by decide +kernel) (by decide +kernel) (fun _ _ _ => rfl)) ?_)
  rw [show SALL.take 2 ++ [(13, 1000)] = SALL.take 3 by decide +kernel]
  rw [rOf_up (m := 0) (a := 1) (k := 0) (v := 2) (by decide +kernel)]
  refine x_putF C0_ hI wq_X11_12 (show (SALL.take 3)[0]? = some (9, 13) by decide +kernel) rfl (Or.inl ⟨_, rfl⟩) dX11_init_12 ?_
  rw [rOf_up (m := 1) (a := 0) (k := 0) (v := 1) (by decide +kernel)]
  refine x_aload_n C0_ rfl dX11_init_15 ?_
  refine x_new (ci := 7) (k0 := 1) C0_ ⟨hz, (show 1 + 2 = (SALL.take 3).length by decide +kernel)⟩ (xRf_of hR (by decide) (by decide) (by decide)) cl_X7 wc_X11_16 wi_X7 wz_X7 (by decide +kernel) ft_X7 rfl (fun j => ((blank_at (n := 3) (m := 2) (j := 0) (by decide +kernel) (by decide +kernel) (fun _ _ _ => rfl)) (SALL.take 3).length (by decide +kernel)).1 j) (fun j => ((blank_at (n := 3) (m := 2) (j := 0) (by decide +kernel) (by decide +kernel) (fun _ _ _ => rfl)) (SALL.take 3).length (by decide +kernel)).2.1 j) (fun j => ((blank_at (n := 3) (m := 2) (j := 0) (by decide +kernel) (by decide +kernel) (fun _ _ _ => rfl)) (SALL.take 3).length (by decide +kernel)).2.2 j) dX11_init_16 ?_
  rw [show (SALL.take 3).length = 3 by decide +kernel, show SALL.take 3 ++ [(7, 3)] = SALL.take 4 by decide +kernel]
  refine x_dup C0_ rfl dX11_init_19 ?_
  refine x_callI (a := 3) (k0 := 1) (mc := 3) (ms := 1027) [] C0_ (fun _ => ⟨hz, (show 1 + 3 = (SALL.take 4).length by decide +kernel)⟩) (xRf_of hR (by decide) (by decide) (by decide)) mi_X7_init (by first | exact Or.inl wm_X11_18 | exact Or.inr ⟨_, wm_X11_18⟩) dX11_init_20 rfl rfl (Nat.le_of_ble_eq_true rfl) (k_X7_init (k := 4) (a := 3) (show (SALL.take 4).length = 4 by decide +kernel) (by decide) (show (SALL.take 4)[3]? = some (7, 3) by decide +kernel) (blank_at (n := 4) (m := 2) (j := 0) (by decide +kernel) (by decide +kernel) (fun _ _ _ => rfl)) ?_)
  rw [show SALL.take 4 ++ [(4, 3), (11, 1000), (11, 24)] = SALL.take 7 by decide +kernel]
  rw [rOf_up (m := 2) (a := 4) (k := 0) (v := 5) (by decide +kernel)]
  rw [rOf_up (m := 3) (a := 4) (k := 2) (v := 6) (by decide +kernel)]
  rw [rOf_up (m := 4) (a := 3) (k := 0) (v := 4) (by decide +kernel)]
  refine x_putF C0_ hI wq_X11_19 (show (SALL.take 7)[0]? = some (9, 13) by decide +kernel) rfl (Or.inl ⟨_, rfl⟩) dX11_init_23 ?_
  rw [rOf_up (m := 5) (a := 0) (k := 1) (v := 3) (by decide +kernel)]
  refine x_aload_n C0_ rfl dX11_init_26 ?_
  refine x_new (ci := 2) (k0 := 1) C0_ ⟨hz, (show 1 + 6 = (SALL.take 7).length by decide +kernel)⟩ (xRf_of hR (by decide) (by decide) (by decide)) cl_X2 wc_X11_23 wi_X2 wz_X2 (by decide +kernel) ft_X2 rfl (fun j => ((blank_at (n := 7) (m := 6) (j := 0) (by decide +kernel) (by decide +kernel) (fun _ _ _ => rfl)) (SALL.take 7).length (by decide +kernel)).1 j) (fun j => ((blank_at (n := 7) (m := 6) (j := 0) (by decide +kernel) (by decide +kernel) (fun _ _ _ => rfl)) (SALL.take 7).length (by decide +kernel)).2.1 j) (fun j => ((blank_at (n := 7) (m := 6) (j := 0) (by decide +kernel) (by decide +kernel) (fun _ _ _ => rfl)) (SALL.take 7).length (by decide +kernel)).2.2 j) dX11_init_27 ?_
  rw [show (SALL.take 7).length = 7 by decide +kernel, show SALL.take 7 ++ [(2, 12)] = SALL.take 8 by decide +kernel]
  refine x_dup C0_ rfl dX11_init_30 ?_
  refine x_callI (a := 7) (k0 := 1) (mc := 8) (ms := 238) [] C0_ (fun _ => ⟨hz, (show 1 + 7 = (SALL.take 8).length by decide +kernel)⟩) (xRf_of hR (by decide) (by decide) (by decide)) mi_X2_init (by first | exact Or.inl wm_X11_25 | exact Or.inr ⟨_, wm_X11_25⟩) dX11_init_31 rfl rfl (Nat.le_of_ble_eq_true rfl) (k_X2_init (k := 8) (a := 7) (show (SALL.take 8).length = 8 by decide +kernel) (by decide) (show (SALL.take 8)[7]? = some (2, 12) by decide +kernel) (blank_at (n := 8) (m := 6) (j := 0) (by decide +kernel) (by decide +kernel) (fun _ _ _ => rfl)) ?_)
  rw [show SALL.take 8 ++ [(12, 6), (12, 6), (11, 8), (11, 8), (11, 6), (11, 6), (11, 6), (11, 192)] = SALL.take 16 by decide +kernel]
  rw [rOf_up (m := 6) (a := 7) (k := 4) (v := 8) (by decide +kernel)]
  rw [rOf_up (m := 7) (a := 7) (k := 5) (v := 9) (by decide +kernel)]
  rw [rOf_up (m := 8) (a := 7) (k := 6) (v := 10) (by decide +kernel)]
  rw [rOf_up (m := 9) (a := 7) (k := 7) (v := 11) (by decide +kernel)]
  rw [rOf_up (m := 10) (a := 7) (k := 8) (v := 12) (by decide +kernel)]
  rw [rOf_up (m := 11) (a := 7) (k := 9) (v := 13) (by decide +kernel)]
  rw [rOf_up (m := 12) (a := 7) (k := 10) (v := 14) (by decide +kernel)]
  rw [rOf_up (m := 13) (a := 7) (k := 11) (v := 15) (by decide +kernel)]
  rw [show u2 iZ 7 3 8 = iA from rfl]
  refine x_putQ (r := some 7) C0_ wf_X11_26 (show (SALL.take 16)[0]? = some (9, 13) by decide +kernel) rfl dX11_init_34 ?_
  rw [rOf_up (m := 14) (a := 0) (k := 2) (v := 7) (by decide +kernel)]
  refine x_aload_n C0_ rfl dX11_init_37 ?_
  refine x_new (ci := 2) (k0 := 1) C0_ ⟨hz, (show 1 + 15 = (SALL.take 16).length by decide +kernel)⟩ (xRf_of hR (by decide) (by decide) (by decide)) cl_X2 wc_X11_23 wi_X2 wz_X2 (by decide +kernel) ft_X2 rfl (fun j => ((blank_at (n := 16) (m := 15) (j := 0) (by decide +kernel) (by decide +kernel) (fun j hj => iA_0 j (by omega))) (SALL.take 16).length (by decide +kernel)).1 j) (fun j => ((blank_at (n := 16) (m := 15) (j := 0) (by decide +kernel) (by decide +kernel) (fun j hj => iA_0 j (by omega))) (SALL.take 16).length (by decide +kernel)).2.1 j) (fun j => ((blank_at (n := 16) (m := 15) (j := 0) (by decide +kernel) (by decide +kernel) (fun j hj => iA_0 j (by omega))) (SALL.take 16).length (by decide +kernel)).2.2 j) dX11_init_38 ?_
  rw [show (SALL.take 16).length = 16 by decide +kernel, show SALL.take 16 ++ [(2, 12)] = SALL.take 17 by decide +kernel]
  refine x_dup C0_ rfl dX11_init_41 ?_
  refine x_callI (a := 16) (k0 := 1) (mc := 8) (ms := 238) [] C0_ (fun _ => ⟨hz, (show 1 + 16 = (SALL.take 17).length by decide +kernel)⟩) (xRf_of hR (by decide) (by decide) (by decide)) mi_X2_init (by first | exact Or.inl wm_X11_25 | exact Or.inr ⟨_, wm_X11_25⟩) dX11_init_42 rfl rfl (Nat.le_of_ble_eq_true rfl) (k_X2_init (k := 17) (a := 16) (show (SALL.take 17).length = 17 by decide +kernel) (by decide) (show (SALL.take 17)[16]? = some (2, 12) by decide +kernel) (blank_at (n := 17) (m := 15) (j := 0) (by decide +kernel) (by decide +kernel) (fun j hj => iA_0 j (by omega))) ?_)
  rw [show SALL.take 17 ++ [(12, 6), (12, 6), (11, 8), (11, 8), (11, 6), (11, 6), (11, 6), (11, 192)] = SALL.take 25 by decide +kernel]
  rw [rOf_up (m := 15) (a := 16) (k := 4) (v := 17) (by decide +kernel)]
  rw [rOf_up (m := 16) (a := 16) (k := 5) (v := 18) (by decide +kernel)]
  rw [rOf_up (m := 17) (a := 16) (k := 6) (v := 19) (by decide +kernel)]
  rw [rOf_up (m := 18) (a := 16) (k := 7) (v := 20) (by decide +kernel)]
  rw [rOf_up (m := 19) (a := 16) (k := 8) (v := 21) (by decide +kernel)]
  rw [rOf_up (m := 20) (a := 16) (k := 9) (v := 22) (by decide +kernel)]
  rw [rOf_up (m := 21) (a := 16) (k := 10) (v := 23) (by decide +kernel)]
  rw [rOf_up (m := 22) (a := 16) (k := 11) (v := 24) (by decide +kernel)]
  rw [show u2 iA 16 3 8 = iB from rfl]
  refine x_putQ (r := some 16) C0_ wf_X11_30 (show (SALL.take 25)[0]? = some (9, 13) by decide +kernel) rfl dX11_init_45 ?_
  rw [rOf_up (m := 23) (a := 0) (k := 3) (v := 16) (by decide +kernel)]
  refine x_aload_n C0_ rfl dX11_init_48 ?_
  refine x_new (ci := 1) (k0 := 1) C0_ ⟨hz, (show 1 + 24 = (SALL.take 25).length by decide +kernel)⟩ (xRf_of hR (by decide) (by decide) (by decide)) cl_X1 wc_X11_33 wi_X1 wz_X1 (by decide +kernel) ft_X1 rfl (fun j => ((blank_at (n := 25) (m := 24) (j := 0) (by decide +kernel) (by decide +kernel) (fun j hj => iB_0 j (by omega))) (SALL.take 25).length (by decide +kernel)).1 j) (fun j => ((blank_at (n := 25) (m := 24) (j := 0) (by decide +kernel) (by decide +kernel) (fun j hj => iB_0 j (by omega))) (SALL.take 25).length (by decide +kernel)).2.1 j) (fun j => ((blank_at (n := 25) (m := 24) (j := 0) (by decide +kernel) (by decide +kernel) (fun j hj => iB_0 j (by omega))) (SALL.take 25).length (by decide +kernel)).2.2 j) dX11_init_49 ?_
  rw [show (SALL.take 25).length = 25 by decide +kernel, show SALL.take 25 ++ [(1, 4)] = SALL.take 26 by decide +kernel]
  refine x_dup C0_ rfl dX11_init_52 ?_
  refine x_callI (a := 25) (k0 := 1) (mc := 3) (ms := 120) [] C0_ (fun _ => ⟨hz, (show 1 + 25 = (SALL.take 26).length by decide +kernel)⟩) (xRf_of hR (by decide) (by decide) (by decide)) mi_X1_init (by first | exact Or.inl wm_X11_35 | exact Or.inr ⟨_, wm_X11_35⟩) dX11_init_53 rfl rfl (Nat.le_of_ble_eq_true rfl) (k_X1_init (k := 26) (a := 25) (show (SALL.take 26).length = 26 by decide +kernel) (by decide) (show (SALL.take 26)[25]? = some (1, 4) by decide +kernel) (blank_at (n := 26) (m := 24) (j := 0) (by decide +kernel) (by decide +kernel) (fun j hj => iB_0 j (by omega))) ?_)
  rw [show SALL.take 26 ++ [(11, 40), (11, 40), (11, 40)] = SALL.take 29 by decide +kernel]
  rw [rOf_up (m := 24) (a := 25) (k := 1) (v := 26) (by decide +kernel)]
  rw [rOf_up (m := 25) (a := 25) (k := 2) (v := 27) (by decide +kernel)]
  rw [rOf_up (m := 26) (a := 25) (k := 3) (v := 28) (by decide +kernel)]
  refine x_putQ (r := some 25) C0_ wf_X11_36 (show (SALL.take 29)[0]? = some (9, 13) by decide +kernel) rfl dX11_init_56 ?_
  rw [rOf_up (m := 27) (a := 0) (k := 4) (v := 25) (by decide +kernel)]
  refine x_aload_n C0_ rfl dX11_init_59 ?_
  refine x_new (ci := 1) (k0 := 1) C0_ ⟨hz, (show 1 + 28 = (SALL.take 29).length by decide +kernel)⟩ (xRf_of hR (by decide) (by decide) (by decide)) cl_X1 wc_X11_33 wi_X1 wz_X1 (by decide +kernel) ft_X1 rfl (fun j => ((blank_at (n := 29) (m := 28) (j := 0) (by decide +kernel) (by decide +kernel) (fun j hj => iB_0 j (by omega))) (SALL.take 29).length (by decide +kernel)).1 j) (fun j => ((blank_at (n := 29) (m := 28) (j := 0) (by decide +kernel) (by decide +kernel) (fun j hj => iB_0 j (by omega))) (SALL.take 29).length (by decide +kernel)).2.1 j) (fun j => ((blank_at (n := 29) (m := 28) (j := 0) (by decide +kernel) (by decide +kernel) (fun j hj => iB_0 j (by omega))) (SALL.take 29).length (by decide +kernel)).2.2 j) dX11_init_60 ?_
  rw [show (SALL.take 29).length = 29 by decide +kernel, show SALL.take 29 ++ [(1, 4)] = SALL.take 30 by decide +kernel]
  refine x_dup C0_ rfl dX11_init_63 ?_
  refine x_callI (a := 29) (k0 := 1) (mc := 3) (ms := 120) [] C0_ (fun _ => ⟨hz, (show 1 + 29 = (SALL.take 30).length by decide +kernel)⟩) (xRf_of hR (by decide) (by decide) (by decide)) mi_X1_init (by first | exact Or.inl wm_X11_35 | exact Or.inr ⟨_, wm_X11_35⟩) dX11_init_64 rfl rfl (Nat.le_of_ble_eq_true rfl) (k_X1_init (k := 30) (a := 29) (show (SALL.take 30).length = 30 by decide +kernel) (by decide) (show (SALL.take 30)[29]? = some (1, 4) by decide +kernel) (blank_at (n := 30) (m := 28) (j := 0) (by decide +kernel) (by decide +kernel) (fun j hj => iB_0 j (by omega))) ?_)
  rw [show SALL.take 30 ++ [(11, 40), (11, 40), (11, 40)] = SALL.take 33 by decide +kernel]
  rw [rOf_up (m := 28) (a := 29) (k := 1) (v := 30) (by decide +kernel)]
  rw [rOf_up (m := 29) (a := 29) (k := 2) (v := 31) (by decide +kernel)]
  rw [rOf_up (m := 30) (a := 29) (k := 3) (v := 32) (by decide +kernel)]
  refine x_putQ (r := some 29) C0_ wf_X11_40 (show (SALL.take 33)[0]? = some (9, 13) by decide +kernel) rfl dX11_init_67 ?_
  rw [rOf_up (m := 31) (a := 0) (k := 5) (v := 29) (by decide +kernel)]
  refine x_aload_n C0_ rfl dX11_init_70 ?_
  refine x_new (ci := 3) (k0 := 1) C0_ ⟨hz, (show 1 + 32 = (SALL.take 33).length by decide +kernel)⟩ (xRf_of hR (by decide) (by decide) (by decide)) cl_X3 wc_X11_43 wi_X3 wz_X3 (by decide +kernel) ft_X3 rfl (fun j => ((blank_at (n := 33) (m := 32) (j := 0) (by decide +kernel) (by decide +kernel) (fun j hj => iB_0 j (by omega))) (SALL.take 33).length (by decide +kernel)).1 j) (fun j => ((blank_at (n := 33) (m := 32) (j := 0) (by decide +kernel) (by decide +kernel) (fun j hj => iB_0 j (by omega))) (SALL.take 33).length (by decide +kernel)).2.1 j) (fun j => ((blank_at (n := 33) (m := 32) (j := 0) (by decide +kernel) (by decide +kernel) (fun j hj => iB_0 j (by omega))) (SALL.take 33).length (by decide +kernel)).2.2 j) dX11_init_71 ?_
  rw [show (SALL.take 33).length = 33 by decide +kernel, show SALL.take 33 ++ [(3, 7)] = SALL.take 34 by decide +kernel]
  refine x_dup C0_ rfl dX11_init_74 ?_
  refine x_callI (a := 33) (k0 := 1) (mc := 3) (ms := 50) [] C0_ (fun _ => ⟨hz, (show 1 + 33 = (SALL.take 34).length by decide +kernel)⟩) (xRf_of hR (by decide) (by decide) (by decide)) mi_X3_init (by first | exact Or.inl wm_X11_45 | exact Or.inr ⟨_, wm_X11_45⟩) dX11_init_75 rfl rfl (Nat.le_of_ble_eq_true rfl) (k_X3_init (k := 34) (a := 33) (show (SALL.take 34).length = 34 by decide +kernel) (by decide) (show (SALL.take 34)[33]? = some (3, 7) by decide +kernel) (blank_at (n := 34) (m := 32) (j := 0) (by decide +kernel) (by decide +kernel) (fun j hj => iB_0 j (by omega))) ?_)
  rw [show SALL.take 34 ++ [(11, 8), (11, 36), (11, 6)] = SALL.take 37 by decide +kernel]
  rw [rOf_up (m := 32) (a := 33) (k := 4) (v := 34) (by decide +kernel)]
  rw [rOf_up (m := 33) (a := 33) (k := 5) (v := 35) (by decide +kernel)]
  rw [rOf_up (m := 34) (a := 33) (k := 6) (v := 36) (by decide +kernel)]
  refine x_putF C0_ hI wq_X11_46 (show (SALL.take 37)[0]? = some (9, 13) by decide +kernel) rfl (Or.inl ⟨_, rfl⟩) dX11_init_78 ?_
  rw [rOf_up (m := 35) (a := 0) (k := 6) (v := 33) (by decide +kernel)]
  refine x_aload_n C0_ rfl dX11_init_81 ?_
  refine x_new (ci := 3) (k0 := 1) C0_ ⟨hz, (show 1 + 36 = (SALL.take 37).length by decide +kernel)⟩ (xRf_of hR (by decide) (by decide) (by decide)) cl_X3 wc_X11_43 wi_X3 wz_X3 (by decide +kernel) ft_X3 rfl (fun j => ((blank_at (n := 37) (m := 36) (j := 0) (by decide +kernel) (by decide +kernel) (fun j hj => iB_0 j (by omega))) (SALL.take 37).length (by decide +kernel)).1 j) (fun j => ((blank_at (n := 37) (m := 36) (j := 0) (by decide +kernel) (by decide +kernel) (fun j hj => iB_0 j (by omega))) (SALL.take 37).length (by decide +kernel)).2.1 j) (fun j => ((blank_at (n := 37) (m := 36) (j := 0) (by decide +kernel) (by decide +kernel) (fun j hj => iB_0 j (by omega))) (SALL.take 37).length (by decide +kernel)).2.2 j) dX11_init_82 ?_
  rw [show (SALL.take 37).length = 37 by decide +kernel, show SALL.take 37 ++ [(3, 7)] = SALL.take 38 by decide +kernel]
  refine x_dup C0_ rfl dX11_init_85 ?_
  refine x_callI (a := 37) (k0 := 1) (mc := 3) (ms := 50) [] C0_ (fun _ => ⟨hz, (show 1 + 37 = (SALL.take 38).length by decide +kernel)⟩) (xRf_of hR (by decide) (by decide) (by decide)) mi_X3_init (by first | exact Or.inl wm_X11_45 | exact Or.inr ⟨_, wm_X11_45⟩) dX11_init_86 rfl rfl (Nat.le_of_ble_eq_true rfl) (k_X3_init (k := 38) (a := 37) (show (SALL.take 38).length = 38 by decide +kernel) (by decide) (show (SALL.take 38)[37]? = some (3, 7) by decide +kernel) (blank_at (n := 38) (m := 36) (j := 0) (by decide +kernel) (by decide +kernel) (fun j hj => iB_0 j (by omega))) ?_)
  rw [show SALL.take 38 ++ [(11, 8), (11, 36), (11, 6)] = SALL.take 41 by decide +kernel]
  rw [rOf_up (m := 36) (a := 37) (k := 4) (v := 38) (by decide +kernel)]
  rw [rOf_up (m := 37) (a := 37) (k := 5) (v := 39) (by decide +kernel)]
  rw [rOf_up (m := 38) (a := 37) (k := 6) (v := 40) (by decide +kernel)]
  refine x_putF C0_ hI wq_X11_50 (show (SALL.take 41)[0]? = some (9, 13) by decide +kernel) rfl (Or.inl ⟨_, rfl⟩) dX11_init_89 ?_
  rw [rOf_up (m := 39) (a := 0) (k := 7) (v := 37) (by decide +kernel)]
  refine x_aload_n C0_ rfl dX11_init_92 ?_
  refine x_new (ci := 6) (k0 := 1) C0_ ⟨hz, (show 1 + 40 = (SALL.take 41).length by decide +kernel)⟩ (xRf_of hR (by decide) (by decide) (by decide)) cl_X6 wc_X11_53 wi_X6 wz_X6 (by decide +kernel) ft_X6 rfl (fun j => ((blank_at (n := 41) (m := 40) (j := 0) (by decide +kernel) (by decide +kernel) (fun j hj => iB_0 j (by omega))) (SALL.take 41).length (by decide +kernel)).1 j) (fun j => ((blank_at (n := 41) (m := 40) (j := 0) (by decide +kernel) (by decide +kernel) (fun j hj => iB_0 j (by omega))) (SALL.take 41).length (by decide +kernel)).2.1 j) (fun j => ((blank_at (n := 41) (m := 40) (j := 0) (by decide +kernel) (by decide +kernel) (fun j hj => iB_0 j (by omega))) (SALL.take 41).length (by decide +kernel)).2.2 j) dX11_init_93 ?_
  rw [show (SALL.take 41).length = 41 by decide +kernel, show SALL.take 41 ++ [(6, 3)] = SALL.take 42 by decide +kernel]
  refine x_dup C0_ rfl dX11_init_96 ?_
  refine x_callI (a := 41) (k0 := 1) (mc := 65) (ms := 928) [] C0_ (fun _ => ⟨hz, (show 1 + 41 = (SALL.take 42).length by decide +kernel)⟩) (xRf_of hR (by decide) (by decide) (by decide)) mi_X6_init (by first | exact Or.inl wm_X11_55 | exact Or.inr ⟨_, wm_X11_55⟩) dX11_init_97 rfl rfl (Nat.le_of_ble_eq_true rfl) (k_X6_init ?_)
  refine x_putF C0_ hI wq_X11_56 (show (SALL.take 107)[0]? = some (9, 13) by decide +kernel) rfl (Or.inl ⟨_, rfl⟩) dX11_init_100 ?_
  rw [rOf_up (m := 105) (a := 0) (k := 8) (v := 41) (by decide +kernel)]
  refine x_aload_n C0_ rfl dX11_init_103 ?_
  refine x_iconst (v := nI 4) C0_ rfl dX11_init_104 ?_
  refine x_anewarray (kd := 16) (k0 := 1) (N := 4) C0_ ⟨hz, (show 1 + 106 = (SALL.take 107).length by decide +kernel)⟩ (xRf_of hR (by decide) (by decide) (by decide)) (Or.inr ⟨rfl, rfl⟩) wc_X11_60 wv_Mark (by decide +kernel) (by decide +kernel) (by decide +kernel) (by decide) (fun j => ((blank_at (n := 107) (m := 106) (j := 0) (by decide +kernel) (by decide +kernel) (fun j hj => iB_0 j (by omega))) (SALL.take 107).length (by decide +kernel)).2.2 j) dX11_init_105 ?_
  rw [show (SALL.take 107).length = 107 by decide +kernel, show SALL.take 107 ++ [(16, 4)] = SALL.take 108 by decide +kernel]
  refine x_putF C0_ hI wq_X11_62 (show (SALL.take 108)[0]? = some (9, 13) by decide +kernel) rfl (Or.inr ⟨_, rfl⟩) dX11_init_108 ?_
  rw [rOf_up (m := 106) (a := 0) (k := 9) (v := 107) (by decide +kernel)]
  refine x_aload_n C0_ rfl dX11_init_111 ?_
  refine x_bipush (v := nI 36) C0_ rfl dX11_init_112 ?_
  refine x_newarray (ty := .int) (atype := .int) (kd := 11) (k0 := 1) (N := 36) C0_ ⟨hz, (show 1 + 107 = (SALL.take 108).length by decide +kernel)⟩ (xRf_of hR (by decide) (by decide) (by decide)) rfl (Or.inl ⟨rfl, rfl⟩) wa_int (by decide +kernel) (by decide +kernel) (by decide +kernel) (by decide) (fun j => ((blank_at (n := 108) (m := 107) (j := 0) (by decide +kernel) (by decide +kernel) (fun j hj => iB_0 j (by omega))) (SALL.take 108).length (by decide +kernel)).1 j) (fun j => ((blank_at (n := 108) (m := 107) (j := 0) (by decide +kernel) (by decide +kernel) (fun j hj => iB_0 j (by omega))) (SALL.take 108).length (by decide +kernel)).2.1 j) dX11_init_114 ?_
  rw [show (SALL.take 108).length = 108 by decide +kernel, show SALL.take 108 ++ [(11, 36)] = SALL.take 109 by decide +kernel]
  refine x_putF C0_ hI wq_X11_66 (show (SALL.take 109)[0]? = some (9, 13) by decide +kernel) rfl (Or.inr ⟨_, rfl⟩) dX11_init_116 ?_
  rw [rOf_up (m := 107) (a := 0) (k := 10) (v := 108) (by decide +kernel)]
  refine x_aload_n C0_ rfl dX11_init_119 ?_
  refine x_bipush (v := nI 108) C0_ rfl dX11_init_120 ?_
  refine x_newarray (ty := .int) (atype := .int) (kd := 11) (k0 := 1) (N := 108) C0_ ⟨hz, (show 1 + 108 = (SALL.take 109).length by decide +kernel)⟩ (xRf_of hR (by decide) (by decide) (by decide)) rfl (Or.inl ⟨rfl, rfl⟩) wa_int (by decide +kernel) (by decide +kernel) (by decide +kernel) (by decide) (fun j => ((blank_at (n := 109) (m := 108) (j := 0) (by decide +kernel) (by decide +kernel) (fun j hj => iB_0 j (by omega))) (SALL.take 109).length (by decide +kernel)).1 j) (fun j => ((blank_at (n := 109) (m := 108) (j := 0) (by decide +kernel) (by decide +kernel) (fun j hj => iB_0 j (by omega))) (SALL.take 109).length (by decide +kernel)).2.1 j) dX11_init_122 ?_
  rw [show (SALL.take 109).length = 109 by decide +kernel, show SALL.take 109 ++ [(11, 108)] = SALL.take 110 by decide +kernel]
  refine x_putF C0_ hI wq_X11_70 (show (SALL.take 110)[0]? = some (9, 13) by decide +kernel) rfl (Or.inr ⟨_, rfl⟩) dX11_init_124 ?_
  rw [rOf_up (m := 108) (a := 0) (k := 11) (v := 109) (by decide +kernel)]
  refine x_aload_n C0_ rfl dX11_init_127 ?_
  refine x_new (ci := 0) (k0 := 1) C0_ ⟨hz, (show 1 + 109 = (SALL.take 110).length by decide +kernel)⟩ (xRf_of hR (by decide) (by decide) (by decide)) cl_X0 wc_X11_73 wi_X0 wz_X0 (by decide +kernel) ft_X0 rfl (fun j => ((blank_at (n := 110) (m := 109) (j := 0) (by decide +kernel) (by decide +kernel) (fun j hj => iB_0 j (by omega))) (SALL.take 110).length (by decide +kernel)).1 j) (fun j => ((blank_at (n := 110) (m := 109) (j := 0) (by decide +kernel) (by decide +kernel) (fun j hj => iB_0 j (by omega))) (SALL.take 110).length (by decide +kernel)).2.1 j) (fun j => ((blank_at (n := 110) (m := 109) (j := 0) (by decide +kernel) (by decide +kernel) (fun j hj => iB_0 j (by omega))) (SALL.take 110).length (by decide +kernel)).2.2 j) dX11_init_128 ?_
  rw [show (SALL.take 110).length = 110 by decide +kernel, show SALL.take 110 ++ [(0, 1)] = SALL.take 111 by decide +kernel]
  refine x_dup C0_ rfl dX11_init_131 ?_
  refine x_callI (a := 110) (k0 := 1) (mc := 0) (ms := 0) [] C0_ (fun _ => ⟨hz, (show 1 + 110 = (SALL.take 111).length by decide +kernel)⟩) (xRf_of hR (by decide) (by decide) (by decide)) mi_X0_init (by first | exact Or.inl wm_X11_75 | exact Or.inr ⟨_, wm_X11_75⟩) dX11_init_132 rfl rfl (Nat.le_of_ble_eq_true rfl) (k_X0_init (k := 111) (a := 110) (show (SALL.take 111).length = 111 by decide +kernel) (by decide) (show (SALL.take 111)[110]? = some (0, 1) by decide +kernel) (blank_at (n := 111) (m := 109) (j := 0) (by decide +kernel) (by decide +kernel) (fun j hj => iB_0 j (by omega))) ?_)
  refine x_putF C0_ hI wq_X11_76 (show (SALL.take 111)[0]? = some (9, 13) by decide +kernel) rfl (Or.inl ⟨_, rfl⟩) dX11_init_135 ?_
  rw [rOf_up (m := 109) (a := 0) (k := 12) (v := 110) (by decide +kernel)]
  refine x_iconst (v := nI 0) C0_ rfl dX11_init_138 ?_
  refine x_istore_n (L' := [_, _]) C0_ hN (by decide) rfl dX11_init_139 ?_
  refine x_iload_n C0_ rfl dX11_init_140 ?_
  refine x_aload_n C0_ rfl dX11_init_141 ?_
  refine x_getR C0_ wf_X11_62 (show (SALL.take 111)[0]? = some (9, 13) by decide +kernel) rfl rfl (show rOf (RLs.take 110) 0 9 = some 107 by decide +kernel) dX11_init_142 ?_
  refine x_alen (v := nI 4) C0_ (show (SALL.take 111)[107]? = some (16, 4) by decide +kernel) (by decide) (by decide) (by decide +kernel) dX11_init_145 ?_
  refine x_icmp_ge (tgt := 168) C0_ (by decide) dX11_init_146 (fun hkk => absurd hkk (by decide +kernel)) (fun _ => ?_)
  refine x_aload_n C0_ rfl dX11_init_149 ?_
  refine x_getR C0_ wf_X11_62 (show (SALL.take 111)[0]? = some (9, 13) by decide +kernel) rfl rfl (show rOf (RLs.take 110) 0 9 = some 107 by decide +kernel) dX11_init_150 ?_
  refine x_iload_n C0_ rfl dX11_init_153 ?_
  refine x_new (ci := 5) (k0 := 1) C0_ ⟨hz, (show 1 + 110 = (SALL.take 111).length by decide +kernel)⟩ (xRf_of hR (by decide) (by decide) (by decide)) cl_X5 wc_X11_60 wi_X5 wz_X5 (by decide +kernel) ft_X5 rfl (fun j => ((blank_at (n := 111) (m := 110) (j := 0) (by decide +kernel) (by decide +kernel) (fun j hj => iB_0 j (by omega))) (SALL.take 111).length (by decide +kernel)).1 j) (fun j => ((blank_at (n := 111) (m := 110) (j := 0) (by decide +kernel) (by decide +kernel) (fun j hj => iB_0 j (by omega))) (SALL.take 111).length (by decide +kernel)).2.1 j) (fun j => ((blank_at (n := 111) (m := 110) (j := 0) (by decide +kernel) (by decide +kernel) (fun j hj => iB_0 j (by omega))) (SALL.take 111).length (by decide +kernel)).2.2 j) dX11_init_154 ?_
  rw [show (SALL.take 111).length = 111 by decide +kernel, show SALL.take 111 ++ [(5, 3)] = SALL.take 112 by decide +kernel]
  refine x_dup C0_ rfl dX11_init_157 ?_
  refine x_callI (a := 111) (k0 := 1) (mc := 5) (ms := 93) [] C0_ (fun _ => ⟨hz, (show 1 + 111 = (SALL.take 112).length by decide +kernel)⟩) (xRf_of hR (by decide) (by decide) (by decide)) mi_X5_init (by first | exact Or.inl wm_X11_80 | exact Or.inr ⟨_, wm_X11_80⟩) dX11_init_158 rfl rfl (Nat.le_of_ble_eq_true rfl) (k_X5_init (k := 112) (a := 111) (show (SALL.take 112).length = 112 by decide +kernel) (by decide) (show (SALL.take 112)[111]? = some (5, 3) by decide +kernel) (blank_at (n := 112) (m := 110) (j := 0) (by decide +kernel) (by decide +kernel) (fun j hj => iB_0 j (by omega))) ?_)
  rw [show SALL.take 112 ++ [(3, 7), (11, 8), (11, 36), (11, 6), (11, 36)] = SALL.take 117 by decide +kernel]
  rw [rOf_up (m := 110) (a := 112) (k := 4) (v := 113) (by decide +kernel)]
  rw [rOf_up (m := 111) (a := 112) (k := 5) (v := 114) (by decide +kernel)]
  rw [rOf_up (m := 112) (a := 112) (k := 6) (v := 115) (by decide +kernel)]
  rw [rOf_up (m := 113) (a := 111) (k := 1) (v := 112) (by decide +kernel)]
  rw [rOf_up (m := 114) (a := 111) (k := 2) (v := 116) (by decide +kernel)]
  refine x_aastore (kd := 16) (ci := 5) C0_ (show (SALL.take 117)[107]? = some (16, 4) by decide +kernel) (show (SALL.take 117)[111]? = some (5, 3) by decide +kernel) (Or.inr ⟨rfl, rfl⟩) (vp_in_nI (by decide) (by decide)) dX11_init_161 ?_
  rw [show (nI 0).toNatClampNeg = 0 by decide +kernel]
  rw [rOf_up (m := 115) (a := 107) (k := 0) (v := 111) (by decide +kernel)]
  refine x_iinc (v := nI 1) (L' := [_, _]) C0_ hN rfl (by decide) (by decide +kernel) rfl dX11_init_162 ?_
  refine x_goto (tgt := 140) C0_ (by decide) dX11_init_165 ?_
  refine x_iload_n C0_ rfl dX11_init_140 ?_
  refine x_aload_n C0_ rfl dX11_init_141 ?_
  refine x_getR C0_ wf_X11_62 (show (SALL.take 117)[0]? = some (9, 13) by decide +kernel) rfl rfl (show rOf (RLs.take 116) 0 9 = some 107 by decide +kernel) dX11_init_142 ?_
  refine x_alen (v := nI 4) C0_ (show (SALL.take 117)[107]? = some (16, 4) by decide +kernel) (by decide) (by decide) (by decide +kernel) dX11_init_145 ?_
  refine x_icmp_ge (tgt := 168) C0_ (by decide) dX11_init_146 (fun hkk => absurd hkk (by decide +kernel)) (fun _ => ?_)
  refine x_aload_n C0_ rfl dX11_init_149 ?_
  refine x_getR C0_ wf_X11_62 (show (SALL.take 117)[0]? = some (9, 13) by decide +kernel) rfl rfl (show rOf (RLs.take 116) 0 9 = some 107 by decide +kernel) dX11_init_150 ?_
  refine x_iload_n C0_ rfl dX11_init_153 ?_
  refine x_new (ci := 5) (k0 := 1) C0_ ⟨hz, (show 1 + 116 = (SALL.take 117).length by decide +kernel)⟩ (xRf_of hR (by decide) (by decide) (by decide)) cl_X5 wc_X11_60 wi_X5 wz_X5 (by decide +kernel) ft_X5 rfl (fun j => ((blank_at (n := 117) (m := 116) (j := 0) (by decide +kernel) (by decide +kernel) (fun j hj => iB_0 j (by omega))) (SALL.take 117).length (by decide +kernel)).1 j) (fun j => ((blank_at (n := 117) (m := 116) (j := 0) (by decide +kernel) (by decide +kernel) (fun j hj => iB_0 j (by omega))) (SALL.take 117).length (by decide +kernel)).2.1 j) (fun j => ((blank_at (n := 117) (m := 116) (j := 0) (by decide +kernel) (by decide +kernel) (fun j hj => iB_0 j (by omega))) (SALL.take 117).length (by decide +kernel)).2.2 j) dX11_init_154 ?_
  rw [show (SALL.take 117).length = 117 by decide +kernel, show SALL.take 117 ++ [(5, 3)] = SALL.take 118 by decide +kernel]
  refine x_dup C0_ rfl dX11_init_157 ?_
  refine x_callI (a := 117) (k0 := 1) (mc := 5) (ms := 93) [] C0_ (fun _ => ⟨hz, (show 1 + 117 = (SALL.take 118).length by decide +kernel)⟩) (xRf_of hR (by decide) (by decide) (by decide)) mi_X5_init (by first | exact Or.inl wm_X11_80 | exact Or.inr ⟨_, wm_X11_80⟩) dX11_init_158 rfl rfl (Nat.le_of_ble_eq_true rfl) (k_X5_init (k := 118) (a := 117) (show (SALL.take 118).length = 118 by decide +kernel) (by decide) (show (SALL.take 118)[117]? = some (5, 3) by decide +kernel) (blank_at (n := 118) (m := 116) (j := 0) (by decide +kernel) (by decide +kernel) (fun j hj => iB_0 j (by omega))) ?_)
  rw [show SALL.take 118 ++ [(3, 7), (11, 8), (11, 36), (11, 6), (11, 36)] = SALL.take 123 by decide +kernel]
  rw [rOf_up (m := 116) (a := 118) (k := 4) (v := 119) (by decide +kernel)]
  rw [rOf_up (m := 117) (a := 118) (k := 5) (v := 120) (by decide +kernel)]
  rw [rOf_up (m := 118) (a := 118) (k := 6) (v := 121) (by decide +kernel)]
  rw [rOf_up (m := 119) (a := 117) (k := 1) (v := 118) (by decide +kernel)]
  rw [rOf_up (m := 120) (a := 117) (k := 2) (v := 122) (by decide +kernel)]
  refine x_aastore (kd := 16) (ci := 5) C0_ (show (SALL.take 123)[107]? = some (16, 4) by decide +kernel) (show (SALL.take 123)[117]? = some (5, 3) by decide +kernel) (Or.inr ⟨rfl, rfl⟩) (vp_in_nI (by decide) (by decide)) dX11_init_161 ?_
  rw [show (nI 1).toNatClampNeg = 1 by decide +kernel]
  rw [rOf_up (m := 121) (a := 107) (k := 1) (v := 117) (by decide +kernel)]
  refine x_iinc (v := nI 2) (L' := [_, _]) C0_ hN rfl (by decide) (by decide +kernel) rfl dX11_init_162 ?_
  refine x_goto (tgt := 140) C0_ (by decide) dX11_init_165 ?_
  refine x_iload_n C0_ rfl dX11_init_140 ?_
  refine x_aload_n C0_ rfl dX11_init_141 ?_
  refine x_getR C0_ wf_X11_62 (show (SALL.take 123)[0]? = some (9, 13) by decide +kernel) rfl rfl (show rOf (RLs.take 122) 0 9 = some 107 by decide +kernel) dX11_init_142 ?_
  refine x_alen (v := nI 4) C0_ (show (SALL.take 123)[107]? = some (16, 4) by decide +kernel) (by decide) (by decide) (by decide +kernel) dX11_init_145 ?_
  refine x_icmp_ge (tgt := 168) C0_ (by decide) dX11_init_146 (fun hkk => absurd hkk (by decide +kernel)) (fun _ => ?_)
  refine x_aload_n C0_ rfl dX11_init_149 ?_
  refine x_getR C0_ wf_X11_62 (show (SALL.take 123)[0]? = some (9, 13) by decide +kernel) rfl rfl (show rOf (RLs.take 122) 0 9 = some 107 by decide +kernel) dX11_init_150 ?_
  refine x_iload_n C0_ rfl dX11_init_153 ?_
  refine x_new (ci := 5) (k0 := 1) C0_ ⟨hz, (show 1 + 122 = (SALL.take 123).length by decide +kernel)⟩ (xRf_of hR (by decide) (by decide) (by decide)) cl_X5 wc_X11_60 wi_X5 wz_X5 (by decide +kernel) ft_X5 rfl (fun j => ((blank_at (n := 123) (m := 122) (j := 0) (by decide +kernel) (by decide +kernel) (fun j hj => iB_0 j (by omega))) (SALL.take 123).length (by decide +kernel)).1 j) (fun j => ((blank_at (n := 123) (m := 122) (j := 0) (by decide +kernel) (by decide +kernel) (fun j hj => iB_0 j (by omega))) (SALL.take 123).length (by decide +kernel)).2.1 j) (fun j => ((blank_at (n := 123) (m := 122) (j := 0) (by decide +kernel) (by decide +kernel) (fun j hj => iB_0 j (by omega))) (SALL.take 123).length (by decide +kernel)).2.2 j) dX11_init_154 ?_
  rw [show (SALL.take 123).length = 123 by decide +kernel, show SALL.take 123 ++ [(5, 3)] = SALL.take 124 by decide +kernel]
  refine x_dup C0_ rfl dX11_init_157 ?_
  refine x_callI (a := 123) (k0 := 1) (mc := 5) (ms := 93) [] C0_ (fun _ => ⟨hz, (show 1 + 123 = (SALL.take 124).length by decide +kernel)⟩) (xRf_of hR (by decide) (by decide) (by decide)) mi_X5_init (by first | exact Or.inl wm_X11_80 | exact Or.inr ⟨_, wm_X11_80⟩) dX11_init_158 rfl rfl (Nat.le_of_ble_eq_true rfl) (k_X5_init (k := 124) (a := 123) (show (SALL.take 124).length = 124 by decide +kernel) (by decide) (show (SALL.take 124)[123]? = some (5, 3) by decide +kernel) (blank_at (n := 124) (m := 122) (j := 0) (by decide +kernel) (by decide +kernel) (fun j hj => iB_0 j (by omega))) ?_)
  rw [show SALL.take 124 ++ [(3, 7), (11, 8), (11, 36), (11, 6), (11, 36)] = SALL.take 129 by decide +kernel]
  rw [rOf_up (m := 122) (a := 124) (k := 4) (v := 125) (by decide +kernel)]
  rw [rOf_up (m := 123) (a := 124) (k := 5) (v := 126) (by decide +kernel)]
  rw [rOf_up (m := 124) (a := 124) (k := 6) (v := 127) (by decide +kernel)]
  rw [rOf_up (m := 125) (a := 123) (k := 1) (v := 124) (by decide +kernel)]
  rw [rOf_up (m := 126) (a := 123) (k := 2) (v := 128) (by decide +kernel)]
  refine x_aastore (kd := 16) (ci := 5) C0_ (show (SALL.take 129)[107]? = some (16, 4) by decide +kernel) (show (SALL.take 129)[123]? = some (5, 3) by decide +kernel) (Or.inr ⟨rfl, rfl⟩) (vp_in_nI (by decide) (by decide)) dX11_init_161 ?_
  rw [show (nI 2).toNatClampNeg = 2 by decide +kernel]
  rw [rOf_up (m := 127) (a := 107) (k := 2) (v := 123) (by decide +kernel)]
  refine x_iinc (v := nI 3) (L' := [_, _]) C0_ hN rfl (by decide) (by decide +kernel) rfl dX11_init_162 ?_
  refine x_goto (tgt := 140) C0_ (by decide) dX11_init_165 ?_
  refine x_iload_n C0_ rfl dX11_init_140 ?_
  refine x_aload_n C0_ rfl dX11_init_141 ?_
  refine x_getR C0_ wf_X11_62 (show (SALL.take 129)[0]? = some (9, 13) by decide +kernel) rfl rfl (show rOf (RLs.take 128) 0 9 = some 107 by decide +kernel) dX11_init_142 ?_
  refine x_alen (v := nI 4) C0_ (show (SALL.take 129)[107]? = some (16, 4) by decide +kernel) (by decide) (by decide) (by decide +kernel) dX11_init_145 ?_
  refine x_icmp_ge (tgt := 168) C0_ (by decide) dX11_init_146 (fun hkk => absurd hkk (by decide +kernel)) (fun _ => ?_)
  refine x_aload_n C0_ rfl dX11_init_149 ?_
  refine x_getR C0_ wf_X11_62 (show (SALL.take 129)[0]? = some (9, 13) by decide +kernel) rfl rfl (show rOf (RLs.take 128) 0 9 = some 107 by decide +kernel) dX11_init_150 ?_
  refine x_iload_n C0_ rfl dX11_init_153 ?_
  refine x_new (ci := 5) (k0 := 1) C0_ ⟨hz, (show 1 + 128 = (SALL.take 129).length by decide +kernel)⟩ (xRf_of hR (by decide) (by decide) (by decide)) cl_X5 wc_X11_60 wi_X5 wz_X5 (by decide +kernel) ft_X5 rfl (fun j => ((blank_at (n := 129) (m := 128) (j := 0) (by decide +kernel) (by decide +kernel) (fun j hj => iB_0 j (by omega))) (SALL.take 129).length (by decide +kernel)).1 j) (fun j => ((blank_at (n := 129) (m := 128) (j := 0) (by decide +kernel) (by decide +kernel) (fun j hj => iB_0 j (by omega))) (SALL.take 129).length (by decide +kernel)).2.1 j) (fun j => ((blank_at (n := 129) (m := 128) (j := 0) (by decide +kernel) (by decide +kernel) (fun j hj => iB_0 j (by omega))) (SALL.take 129).length (by decide +kernel)).2.2 j) dX11_init_154 ?_
  rw [show (SALL.take 129).length = 129 by decide +kernel, show SALL.take 129 ++ [(5, 3)] = SALL.take 130 by decide +kernel]
  refine x_dup C0_ rfl dX11_init_157 ?_
  refine x_callI (a := 129) (k0 := 1) (mc := 5) (ms := 93) [] C0_ (fun _ => ⟨hz, (show 1 + 129 = (SALL.take 130).length by decide +kernel)⟩) (xRf_of hR (by decide) (by decide) (by decide)) mi_X5_init (by first | exact Or.inl wm_X11_80 | exact Or.inr ⟨_, wm_X11_80⟩) dX11_init_158 rfl rfl (Nat.le_of_ble_eq_true rfl) (k_X5_init (k := 130) (a := 129) (show (SALL.take 130).length = 130 by decide +kernel) (by decide) (show (SALL.take 130)[129]? = some (5, 3) by decide +kernel) (blank_at (n := 130) (m := 128) (j := 0) (by decide +kernel) (by decide +kernel) (fun j hj => iB_0 j (by omega))) ?_)
  rw [show SALL.take 130 ++ [(3, 7), (11, 8), (11, 36), (11, 6), (11, 36)] = SALL.take 135 by decide +kernel]
  rw [rOf_up (m := 128) (a := 130) (k := 4) (v := 131) (by decide +kernel)]
  rw [rOf_up (m := 129) (a := 130) (k := 5) (v := 132) (by decide +kernel)]
  rw [rOf_up (m := 130) (a := 130) (k := 6) (v := 133) (by decide +kernel)]
  rw [rOf_up (m := 131) (a := 129) (k := 1) (v := 130) (by decide +kernel)]
  rw [rOf_up (m := 132) (a := 129) (k := 2) (v := 134) (by decide +kernel)]
  refine x_aastore (kd := 16) (ci := 5) C0_ (show (SALL.take 135)[107]? = some (16, 4) by decide +kernel) (show (SALL.take 135)[129]? = some (5, 3) by decide +kernel) (Or.inr ⟨rfl, rfl⟩) (vp_in_nI (by decide) (by decide)) dX11_init_161 ?_
  rw [show (nI 3).toNatClampNeg = 3 by decide +kernel]
  rw [rOf_up (m := 133) (a := 107) (k := 3) (v := 129) (by decide +kernel)]
  refine x_iinc (v := nI 4) (L' := [_, _]) C0_ hN rfl (by decide) (by decide +kernel) rfl dX11_init_162 ?_
  refine x_goto (tgt := 140) C0_ (by decide) dX11_init_165 ?_
  refine x_iload_n C0_ rfl dX11_init_140 ?_
  refine x_aload_n C0_ rfl dX11_init_141 ?_
  refine x_getR C0_ wf_X11_62 (show (SALL.take 135)[0]? = some (9, 13) by decide +kernel) rfl rfl (show rOf (RLs.take 134) 0 9 = some 107 by decide +kernel) dX11_init_142 ?_
  refine x_alen (v := nI 4) C0_ (show (SALL.take 135)[107]? = some (16, 4) by decide +kernel) (by decide) (by decide) (by decide +kernel) dX11_init_145 ?_
  refine x_icmp_ge (tgt := 168) C0_ (by decide) dX11_init_146 (fun _ => ?_) (fun hkk => absurd (by decide +kernel) hkk)
  refine x_aload_n C0_ rfl dX11_init_168 ?_
  refine x_getR C0_ wf_X11_26 (show (SALL.take 135)[0]? = some (9, 13) by decide +kernel) rfl rfl (show rOf (RLs.take 134) 0 2 = some 7 by decide +kernel) dX11_init_169 ?_
  refine x_aload_n C0_ rfl dX11_init_172 ?_
  refine x_getR C0_ wf_X11_46 (show (SALL.take 135)[0]? = some (9, 13) by decide +kernel) rfl rfl (show rOf (RLs.take 134) 0 6 = some 33 by decide +kernel) dX11_init_173 ?_
  have hF : isFilm (SALL.take 135) (rOf (RLs.take 134)) 7 := by unfold isFilm; decide +kernel
  have hH : isHall (SALL.take 135) (rOf (RLs.take 134)) 33 := by unfold isHall; decide +kernel
  refine x_callV [_] C0_ hN rfl (xRf_of hR (by decide) (by decide) (by decide)) mv_X2_open wm_X11_81 dX11_init_176 (show (SALL.take 135)[7]? = some (2, 12) by decide +kernel) rfl rfl (Nat.le_of_ble_eq_true rfl) (c_X2_open hF hH (fun i j hi hj => by omega) ?_)
  refine x_vret C0_ E (by decide) (by decide) dX11_init_179 ?_
  exact hp
set_option maxRecDepth 4000 in
theorem k_X12_init {I : xTI} {post : xPost} (hI0_ : ∀ j, 136 ≤ j → ∀ i, I j i = 0) (hp : ∀ I', (∀ a, a < 135 → I' a = I a) → (∀ k, k ≠ 25 → I' 135 k = I 135 k) → I' 135 25 = nI 0 → MFilm I' (fRow F0' false) → I' 148 0 = nI 0 → MHall I' 0 (sStart (fRow F0' false) 0) → (∀ i, i < 36 → I' 151 (62 + i) = -2) → (∀ m, m < 4 → I' 152 m = nI 0) → post none (SALL.take 155) (rOf (RLs.take 153)) I' (jOf (JLs.take 26))) : xSpec 5 yX12_init cX12_init 1 none 19 12406 [.ref 135] (SALL.take 136) (rOf (RLs.take 134)) I (jOf (JLs.take 0)) post := by
  refine xSpec_of mt_X12_init (Nat.le_of_ble_eq_true rfl) (fun G C0_ hN hR E hI hZ => ?_)
  have hz := hZ (by decide)
  rw [show (SALL.take 136).length = 136 by decide +kernel] at hz
  change XX G 0 0 0 [some (.ref 135)] [] (SALL.take 136) (rOf (RLs.take 134)) I (jOf (JLs.take 0))
  refine x_aload_n C0_ rfl dX12_init_0 ?_
  refine x_objInit C0_ (xRf_of hR (by decide) (Nat.zero_le _) (Nat.zero_le _)) wo_X12_18 woI woC (Nat.le_of_ble_eq_true rfl) dX12_init_1 ?_
  refine x_aload_n C0_ rfl dX12_init_4 ?_
  refine x_sipush (v := nI 1000) C0_ rfl dX12_init_5 ?_
  refine x_newarray (ty := .int) (atype := .int) (kd := 11) (k0 := 136) (N := 1000) C0_ ⟨hz, (show 136 + 0 = (SALL.take 136).length by decide +kernel)⟩ (xRf_of hR (by decide) (by decide) (by decide)) rfl (Or.inl ⟨rfl, rfl⟩) wa_int (by decide +kernel) (by decide +kernel) (by decide +kernel) (by decide) (fun j => ((blank_at (n := 136) (m := 134) (j := 0) (by decide +kernel) (by decide +kernel) (fun j hj => hI0_ j (by omega))) (SALL.take 136).length (by decide +kernel)).1 j) (fun j => ((blank_at (n := 136) (m := 134) (j := 0) (by decide +kernel) (by decide +kernel) (fun j hj => hI0_ j (by omega))) (SALL.take 136).length (by decide +kernel)).2.1 j) dX12_init_8 ?_
  rw [show (SALL.take 136).length = 136 by decide +kernel, show SALL.take 136 ++ [(11, 1000)] = SALL.take 137 by decide +kernel]
  refine x_putF C0_ hI wq_X12_14 (show (SALL.take 137)[135]? = some (10, 30) by decide +kernel) rfl (Or.inr ⟨_, rfl⟩) dX12_init_10 ?_
  rw [rOf_up (m := 134) (a := 135) (k := 1) (v := 136) (by decide +kernel)]
  refine x_aload_n C0_ rfl dX12_init_13 ?_
  refine x_sipush (v := nI 1002) C0_ rfl dX12_init_14 ?_
  refine x_newarray (ty := .int) (atype := .int) (kd := 11) (k0 := 136) (N := 1002) C0_ ⟨hz, (show 136 + 1 = (SALL.take 137).length by decide +kernel)⟩ (xRf_of hR (by decide) (by decide) (by decide)) rfl (Or.inl ⟨rfl, rfl⟩) wa_int (by decide +kernel) (by decide +kernel) (by decide +kernel) (by decide) (fun j => ((blank_at (n := 137) (m := 135) (j := 0) (by decide +kernel) (by decide +kernel) (fun j hj => hI0_ j (by omega))) (SALL.take 137).length (by decide +kernel)).1 j) (fun j => ((blank_at (n := 137) (m := 135) (j := 0) (by decide +kernel) (by decide +kernel) (fun j hj => hI0_ j (by omega))) (SALL.take 137).length (by decide +kernel)).2.1 j) dX12_init_17 ?_
  rw [show (SALL.take 137).length = 137 by decide +kernel, show SALL.take 137 ++ [(11, 1002)] = SALL.take 138 by decide +kernel]
  refine x_putF C0_ hI wq_X12_24 (show (SALL.take 138)[135]? = some (10, 30) by decide +kernel) rfl (Or.inr ⟨_, rfl⟩) dX12_init_19 ?_
  rw [rOf_up (m := 135) (a := 135) (k := 4) (v := 137) (by decide +kernel)]
  refine x_aload_n C0_ rfl dX12_init_22 ?_
  refine x_sipush (v := nI 1002) C0_ rfl dX12_init_23 ?_
  refine x_newarray (ty := .int) (atype := .int) (kd := 11) (k0 := 136) (N := 1002) C0_ ⟨hz, (show 136 + 2 = (SALL.take 138).length by decide +kernel)⟩ (xRf_of hR (by decide) (by decide) (by decide)) rfl (Or.inl ⟨rfl, rfl⟩) wa_int (by decide +kernel) (by decide +kernel) (by decide +kernel) (by decide) (fun j => ((blank_at (n := 138) (m := 136) (j := 0) (by decide +kernel) (by decide +kernel) (fun j hj => hI0_ j (by omega))) (SALL.take 138).length (by decide +kernel)).1 j) (fun j => ((blank_at (n := 138) (m := 136) (j := 0) (by decide +kernel) (by decide +kernel) (fun j hj => hI0_ j (by omega))) (SALL.take 138).length (by decide +kernel)).2.1 j) dX12_init_26 ?_
  rw [show (SALL.take 138).length = 138 by decide +kernel, show SALL.take 138 ++ [(11, 1002)] = SALL.take 139 by decide +kernel]
  refine x_putF C0_ hI wq_X12_27 (show (SALL.take 139)[135]? = some (10, 30) by decide +kernel) rfl (Or.inr ⟨_, rfl⟩) dX12_init_28 ?_
  rw [rOf_up (m := 136) (a := 135) (k := 5) (v := 138) (by decide +kernel)]
  refine x_aload_n C0_ rfl dX12_init_31 ?_
  refine x_sipush (v := nI 1002) C0_ rfl dX12_init_32 ?_
  refine x_newarray (ty := .long) (atype := .long) (kd := 12) (k0 := 136) (N := 1002) C0_ ⟨hz, (show 136 + 3 = (SALL.take 139).length by decide +kernel)⟩ (xRf_of hR (by decide) (by decide) (by decide)) rfl (Or.inr (Or.inl ⟨rfl, rfl⟩)) wa_long (by decide +kernel) (by decide +kernel) (by decide +kernel) (by decide) (fun j => ((blank_at (n := 139) (m := 137) (j := 0) (by decide +kernel) (by decide +kernel) (fun j hj => hI0_ j (by omega))) (SALL.take 139).length (by decide +kernel)).1 j) (fun j => ((blank_at (n := 139) (m := 137) (j := 0) (by decide +kernel) (by decide +kernel) (fun j hj => hI0_ j (by omega))) (SALL.take 139).length (by decide +kernel)).2.1 j) dX12_init_35 ?_
  rw [show (SALL.take 139).length = 139 by decide +kernel, show SALL.take 139 ++ [(12, 1002)] = SALL.take 140 by decide +kernel]
  refine x_putF C0_ hI wq_X12_30 (show (SALL.take 140)[135]? = some (10, 30) by decide +kernel) rfl (Or.inr ⟨_, rfl⟩) dX12_init_37 ?_
  rw [rOf_up (m := 137) (a := 135) (k := 6) (v := 139) (by decide +kernel)]
  refine x_aload_n C0_ rfl dX12_init_40 ?_
  refine x_bipush (v := nI 26) C0_ rfl dX12_init_41 ?_
  refine x_newarray (ty := .long) (atype := .long) (kd := 12) (k0 := 136) (N := 26) C0_ ⟨hz, (show 136 + 4 = (SALL.take 140).length by decide +kernel)⟩ (xRf_of hR (by decide) (by decide) (by decide)) rfl (Or.inr (Or.inl ⟨rfl, rfl⟩)) wa_long (by decide +kernel) (by decide +kernel) (by decide +kernel) (by decide) (fun j => ((blank_at (n := 140) (m := 138) (j := 0) (by decide +kernel) (by decide +kernel) (fun j hj => hI0_ j (by omega))) (SALL.take 140).length (by decide +kernel)).1 j) (fun j => ((blank_at (n := 140) (m := 138) (j := 0) (by decide +kernel) (by decide +kernel) (fun j hj => hI0_ j (by omega))) (SALL.take 140).length (by decide +kernel)).2.1 j) dX12_init_43 ?_
  rw [show (SALL.take 140).length = 140 by decide +kernel, show SALL.take 140 ++ [(12, 26)] = SALL.take 141 by decide +kernel]
  refine x_dup C0_ rfl dX12_init_45 ?_
  refine x_iconst (v := nI 0) C0_ rfl dX12_init_46 ?_
  refine x_ldc2 C0_ wl_X12_34 dX12_init_47 ?_
  refine x_lastoreN C0_ (show (SALL.take 141)[140]? = some (12, 26) by decide +kernel) (by decide) (by decide) dX12_init_50 ?_
  rw [jOf_up (m := 0) (a := 140) (k := 0) (v := 37901290) (by decide +kernel)]
  refine x_dup C0_ rfl dX12_init_51 ?_
  refine x_iconst (v := nI 1) C0_ rfl dX12_init_52 ?_
  refine x_ldc2 C0_ wl_X12_36 dX12_init_53 ?_
  refine x_lastoreN C0_ (show (SALL.take 141)[140]? = some (12, 26) by decide +kernel) (by decide) (by decide) dX12_init_56 ?_
  rw [jOf_up (m := 1) (a := 140) (k := 1) (v := 35768386) (by decide +kernel)]
  refine x_dup C0_ rfl dX12_init_57 ?_
  refine x_iconst (v := nI 2) C0_ rfl dX12_init_58 ?_
  refine x_ldc2 C0_ wl_X12_38 dX12_init_59 ?_
  refine x_lastoreN C0_ (show (SALL.take 141)[140]? = some (12, 26) by decide +kernel) (by decide) (by decide) dX12_init_62 ?_
  rw [jOf_up (m := 2) (a := 140) (k := 2) (v := 34429) (by decide +kernel)]
  refine x_dup C0_ rfl dX12_init_63 ?_
  refine x_iconst (v := nI 3) C0_ rfl dX12_init_64 ?_
  refine x_ldc2 C0_ wl_X12_40 dX12_init_65 ?_
  refine x_lastoreN C0_ (show (SALL.take 141)[140]? = some (12, 26) by decide +kernel) (by decide) (by decide) dX12_init_68 ?_
  rw [jOf_up (m := 3) (a := 140) (k := 3) (v := 533) (by decide +kernel)]
  refine x_dup C0_ rfl dX12_init_69 ?_
  refine x_iconst (v := nI 4) C0_ rfl dX12_init_70 ?_
  refine x_ldc2 C0_ wl_X12_42 dX12_init_71 ?_
  refine x_lastoreN C0_ (show (SALL.take 141)[140]? = some (12, 26) by decide +kernel) (by decide) (by decide) dX12_init_74 ?_
  rw [jOf_up (m := 4) (a := 140) (k := 4) (v := 40072202) (by decide +kernel)]
  refine x_dup C0_ rfl dX12_init_75 ?_
  refine x_iconst (v := nI 5) C0_ rfl dX12_init_76 ?_
  refine x_ldc2 C0_ wl_X12_44 dX12_init_77 ?_
  refine x_lastoreN C0_ (show (SALL.take 141)[140]? = some (12, 26) by decide +kernel) (by decide) (by decide) dX12_init_80 ?_
  rw [jOf_up (m := 5) (a := 140) (k := 5) (v := 59118697698) (by decide +kernel)]
  refine x_dup C0_ rfl dX12_init_81 ?_
  refine x_bipush (v := nI 6) C0_ rfl dX12_init_82 ?_
  refine x_ldc2 C0_ wl_X12_46 dX12_init_84 ?_
  refine x_lastoreN C0_ (show (SALL.take 141)[140]? = some (12, 26) by decide +kernel) (by decide) (by decide) dX12_init_87 ?_
  rw [jOf_up (m := 6) (a := 140) (k := 6) (v := 38424446) (by decide +kernel)]
  refine x_dup C0_ rfl dX12_init_88 ?_
  refine x_bipush (v := nI 7) C0_ rfl dX12_init_89 ?_
  refine x_ldc2 C0_ wl_X12_48 dX12_init_91 ?_
  refine x_lastoreN C0_ (show (SALL.take 141)[140]? = some (12, 26) by decide +kernel) (by decide) (by decide) dX12_init_94 ?_
  rw [jOf_up (m := 7) (a := 140) (k := 7) (v := 43173210) (by decide +kernel)]
  refine x_dup C0_ rfl dX12_init_95 ?_
  refine x_bipush (v := nI 8) C0_ rfl dX12_init_96 ?_
  refine x_ldc2 C0_ wl_X12_50 dX12_init_98 ?_
  refine x_lastoreN C0_ (show (SALL.take 141)[140]? = some (12, 26) by decide +kernel) (by decide) (by decide) dX12_init_101 ?_
  rw [jOf_up (m := 8) (a := 140) (k := 8) (v := 989842) (by decide +kernel)]
  refine x_dup C0_ rfl dX12_init_102 ?_
  refine x_bipush (v := nI 9) C0_ rfl dX12_init_103 ?_
  refine x_ldc2 C0_ wl_X12_52 dX12_init_105 ?_
  refine x_lastoreN C0_ (show (SALL.take 141)[140]? = some (12, 26) by decide +kernel) (by decide) (by decide) dX12_init_108 ?_
  rw [jOf_up (m := 9) (a := 140) (k := 9) (v := 306555453) (by decide +kernel)]
  refine x_dup C0_ rfl dX12_init_109 ?_
  refine x_bipush (v := nI 10) C0_ rfl dX12_init_110 ?_
  refine x_ldc2 C0_ wl_X12_54 dX12_init_112 ?_
  refine x_lastoreN C0_ (show (SALL.take 141)[140]? = some (12, 26) by decide +kernel) (by decide) (by decide) dX12_init_115 ?_
  rw [jOf_up (m := 10) (a := 140) (k := 10) (v := 973937) (by decide +kernel)]
  refine x_dup C0_ rfl dX12_init_116 ?_
  refine x_bipush (v := nI 11) C0_ rfl dX12_init_117 ?_
  refine x_ldc2 C0_ wl_X12_56 dX12_init_119 ?_
  refine x_lastoreN C0_ (show (SALL.take 141)[140]? = some (12, 26) by decide +kernel) (by decide) (by decide) dX12_init_122 ?_
  rw [jOf_up (m := 11) (a := 140) (k := 11) (v := 44030523) (by decide +kernel)]
  refine x_dup C0_ rfl dX12_init_123 ?_
  refine x_bipush (v := nI 12) C0_ rfl dX12_init_124 ?_
  refine x_ldc2 C0_ wl_X12_58 dX12_init_126 ?_
  refine x_lastoreN C0_ (show (SALL.take 141)[140]? = some (12, 26) by decide +kernel) (by decide) (by decide) dX12_init_129 ?_
  rw [jOf_up (m := 12) (a := 140) (k := 12) (v := 4904) (by decide +kernel)]
  refine x_dup C0_ rfl dX12_init_130 ?_
  refine x_bipush (v := nI 13) C0_ rfl dX12_init_131 ?_
  refine x_ldc2 C0_ wl_X12_60 dX12_init_133 ?_
  refine x_lastoreN C0_ (show (SALL.take 141)[140]? = some (12, 26) by decide +kernel) (by decide) (by decide) dX12_init_136 ?_
  rw [jOf_up (m := 13) (a := 140) (k := 13) (v := 1014884) (by decide +kernel)]
  refine x_dup C0_ rfl dX12_init_137 ?_
  refine x_bipush (v := nI 14) C0_ rfl dX12_init_138 ?_
  refine x_ldc2 C0_ wl_X12_62 dX12_init_140 ?_
  refine x_lastoreN C0_ (show (SALL.take 141)[140]? = some (12, 26) by decide +kernel) (by decide) (by decide) dX12_init_143 ?_
  rw [jOf_up (m := 14) (a := 140) (k := 14) (v := 2230448) (by decide +kernel)]
  refine x_dup C0_ rfl dX12_init_144 ?_
  refine x_bipush (v := nI 15) C0_ rfl dX12_init_145 ?_
  refine x_ldc2 C0_ wl_X12_64 dX12_init_147 ?_
  refine x_lastoreN C0_ (show (SALL.take 141)[140]? = some (12, 26) by decide +kernel) (by decide) (by decide) dX12_init_150 ?_
  rw [jOf_up (m := 15) (a := 140) (k := 15) (v := 6900) (by decide +kernel)]
  refine x_dup C0_ rfl dX12_init_151 ?_
  refine x_bipush (v := nI 16) C0_ rfl dX12_init_152 ?_
  refine x_ldc2 C0_ wl_X12_66 dX12_init_154 ?_
  refine x_lastoreN C0_ (show (SALL.take 141)[140]? = some (12, 26) by decide +kernel) (by decide) (by decide) dX12_init_157 ?_
  rw [jOf_up (m := 16) (a := 140) (k := 16) (v := 7775) (by decide +kernel)]
  refine x_dup C0_ rfl dX12_init_158 ?_
  refine x_bipush (v := nI 17) C0_ rfl dX12_init_159 ?_
  refine x_ldc2 C0_ wl_X12_68 dX12_init_161 ?_
  refine x_lastoreN C0_ (show (SALL.take 141)[140]? = some (12, 26) by decide +kernel) (by decide) (by decide) dX12_init_164 ?_
  rw [jOf_up (m := 17) (a := 140) (k := 17) (v := 122589) (by decide +kernel)]
  refine x_dup C0_ rfl dX12_init_165 ?_
  refine x_bipush (v := nI 18) C0_ rfl dX12_init_166 ?_
  refine x_ldc2 C0_ wl_X12_70 dX12_init_168 ?_
  refine x_lastoreN C0_ (show (SALL.take 141)[140]? = some (12, 26) by decide +kernel) (by decide) (by decide) dX12_init_171 ?_
  rw [jOf_up (m := 18) (a := 140) (k := 18) (v := 6040476) (by decide +kernel)]
  refine x_dup C0_ rfl dX12_init_172 ?_
  refine x_bipush (v := nI 19) C0_ rfl dX12_init_173 ?_
  refine x_ldc2 C0_ wl_X12_72 dX12_init_175 ?_
  refine x_lastoreN C0_ (show (SALL.take 141)[140]? = some (12, 26) by decide +kernel) (by decide) (by decide) dX12_init_178 ?_
  rw [jOf_up (m := 19) (a := 140) (k := 19) (v := 19741) (by decide +kernel)]
  refine x_dup C0_ rfl dX12_init_179 ?_
  refine x_bipush (v := nI 20) C0_ rfl dX12_init_180 ?_
  refine x_ldc2 C0_ wl_X12_74 dX12_init_182 ?_
  refine x_lastoreN C0_ (show (SALL.take 141)[140]? = some (12, 26) by decide +kernel) (by decide) (by decide) dX12_init_185 ?_
  rw [jOf_up (m := 20) (a := 140) (k := 20) (v := 1891) (by decide +kernel)]
  refine x_dup C0_ rfl dX12_init_186 ?_
  refine x_bipush (v := nI 21) C0_ rfl dX12_init_187 ?_
  refine x_ldc2 C0_ wl_X12_76 dX12_init_189 ?_
  refine x_lastoreN C0_ (show (SALL.take 141)[140]? = some (12, 26) by decide +kernel) (by decide) (by decide) dX12_init_192 ?_
  rw [jOf_up (m := 21) (a := 140) (k := 21) (v := 573) (by decide +kernel)]
  refine x_dup C0_ rfl dX12_init_193 ?_
  refine x_bipush (v := nI 22) C0_ rfl dX12_init_194 ?_
  refine x_ldc2 C0_ wl_X12_78 dX12_init_196 ?_
  refine x_lastoreN C0_ (show (SALL.take 141)[140]? = some (12, 26) by decide +kernel) (by decide) (by decide) dX12_init_199 ?_
  rw [jOf_up (m := 22) (a := 140) (k := 22) (v := 6232399) (by decide +kernel)]
  refine x_dup C0_ rfl dX12_init_200 ?_
  refine x_bipush (v := nI 23) C0_ rfl dX12_init_201 ?_
  refine x_ldc2 C0_ wl_X12_80 dX12_init_203 ?_
  refine x_lastoreN C0_ (show (SALL.take 141)[140]? = some (12, 26) by decide +kernel) (by decide) (by decide) dX12_init_206 ?_
  rw [jOf_up (m := 23) (a := 140) (k := 23) (v := 148679067) (by decide +kernel)]
  refine x_dup C0_ rfl dX12_init_207 ?_
  refine x_bipush (v := nI 24) C0_ rfl dX12_init_208 ?_
  refine x_ldc2 C0_ wl_X12_82 dX12_init_210 ?_
  refine x_lastoreN C0_ (show (SALL.take 141)[140]? = some (12, 26) by decide +kernel) (by decide) (by decide) dX12_init_213 ?_
  rw [jOf_up (m := 24) (a := 140) (k := 24) (v := 20687) (by decide +kernel)]
  refine x_dup C0_ rfl dX12_init_214 ?_
  refine x_bipush (v := nI 25) C0_ rfl dX12_init_215 ?_
  refine x_ldc2 C0_ wl_X12_84 dX12_init_217 ?_
  refine x_lastoreN C0_ (show (SALL.take 141)[140]? = some (12, 26) by decide +kernel) (by decide) (by decide) dX12_init_220 ?_
  rw [jOf_up (m := 25) (a := 140) (k := 25) (v := 969451) (by decide +kernel)]
  refine x_putF C0_ hI wq_X12_86 (show (SALL.take 141)[135]? = some (10, 30) by decide +kernel) rfl (Or.inr ⟨_, rfl⟩) dX12_init_221 ?_
  rw [rOf_up (m := 138) (a := 135) (k := 9) (v := 140) (by decide +kernel)]
  refine x_aload_n C0_ rfl dX12_init_224 ?_
  refine x_bipush (v := nI 120) C0_ rfl dX12_init_225 ?_
  refine x_newarray (ty := .int) (atype := .int) (kd := 11) (k0 := 136) (N := 120) C0_ ⟨hz, (show 136 + 5 = (SALL.take 141).length by decide +kernel)⟩ (xRf_of hR (by decide) (by decide) (by decide)) rfl (Or.inl ⟨rfl, rfl⟩) wa_int (by decide +kernel) (by decide +kernel) (by decide +kernel) (by decide) (fun j => ((blank_at (n := 141) (m := 139) (j := 26) (by decide +kernel) (by decide +kernel) (fun j hj => hI0_ j (by omega))) (SALL.take 141).length (by decide +kernel)).1 j) (fun j => ((blank_at (n := 141) (m := 139) (j := 26) (by decide +kernel) (by decide +kernel) (fun j hj => hI0_ j (by omega))) (SALL.take 141).length (by decide +kernel)).2.1 j) dX12_init_227 ?_
  rw [show (SALL.take 141).length = 141 by decide +kernel, show SALL.take 141 ++ [(11, 120)] = SALL.take 142 by decide +kernel]
  refine x_putF C0_ hI wq_X12_89 (show (SALL.take 142)[135]? = some (10, 30) by decide +kernel) rfl (Or.inr ⟨_, rfl⟩) dX12_init_229 ?_
  rw [rOf_up (m := 139) (a := 135) (k := 10) (v := 141) (by decide +kernel)]
  refine x_aload_n C0_ rfl dX12_init_232 ?_
  refine x_sipush (v := nI 2200) C0_ rfl dX12_init_233 ?_
  refine x_newarray (ty := .int) (atype := .int) (kd := 11) (k0 := 136) (N := 2200) C0_ ⟨hz, (show 136 + 6 = (SALL.take 142).length by decide +kernel)⟩ (xRf_of hR (by decide) (by decide) (by decide)) rfl (Or.inl ⟨rfl, rfl⟩) wa_int (by decide +kernel) (by decide +kernel) (by decide +kernel) (by decide) (fun j => ((blank_at (n := 142) (m := 140) (j := 26) (by decide +kernel) (by decide +kernel) (fun j hj => hI0_ j (by omega))) (SALL.take 142).length (by decide +kernel)).1 j) (fun j => ((blank_at (n := 142) (m := 140) (j := 26) (by decide +kernel) (by decide +kernel) (fun j hj => hI0_ j (by omega))) (SALL.take 142).length (by decide +kernel)).2.1 j) dX12_init_236 ?_
  rw [show (SALL.take 142).length = 142 by decide +kernel, show SALL.take 142 ++ [(11, 2200)] = SALL.take 143 by decide +kernel]
  refine x_putF C0_ hI wq_X12_92 (show (SALL.take 143)[135]? = some (10, 30) by decide +kernel) rfl (Or.inr ⟨_, rfl⟩) dX12_init_238 ?_
  rw [rOf_up (m := 140) (a := 135) (k := 11) (v := 142) (by decide +kernel)]
  refine x_aload_n C0_ rfl dX12_init_241 ?_
  refine x_sipush (v := nI 2200) C0_ rfl dX12_init_242 ?_
  refine x_newarray (ty := .int) (atype := .int) (kd := 11) (k0 := 136) (N := 2200) C0_ ⟨hz, (show 136 + 7 = (SALL.take 143).length by decide +kernel)⟩ (xRf_of hR (by decide) (by decide) (by decide)) rfl (Or.inl ⟨rfl, rfl⟩) wa_int (by decide +kernel) (by decide +kernel) (by decide +kernel) (by decide) (fun j => ((blank_at (n := 143) (m := 141) (j := 26) (by decide +kernel) (by decide +kernel) (fun j hj => hI0_ j (by omega))) (SALL.take 143).length (by decide +kernel)).1 j) (fun j => ((blank_at (n := 143) (m := 141) (j := 26) (by decide +kernel) (by decide +kernel) (fun j hj => hI0_ j (by omega))) (SALL.take 143).length (by decide +kernel)).2.1 j) dX12_init_245 ?_
  rw [show (SALL.take 143).length = 143 by decide +kernel, show SALL.take 143 ++ [(11, 2200)] = SALL.take 144 by decide +kernel]
  refine x_putF C0_ hI wq_X12_95 (show (SALL.take 144)[135]? = some (10, 30) by decide +kernel) rfl (Or.inr ⟨_, rfl⟩) dX12_init_247 ?_
  rw [rOf_up (m := 141) (a := 135) (k := 12) (v := 143) (by decide +kernel)]
  refine x_aload_n C0_ rfl dX12_init_250 ?_
  refine x_bipush (v := nI 12) C0_ rfl dX12_init_251 ?_
  refine x_newarray (ty := .long) (atype := .long) (kd := 12) (k0 := 136) (N := 12) C0_ ⟨hz, (show 136 + 8 = (SALL.take 144).length by decide +kernel)⟩ (xRf_of hR (by decide) (by decide) (by decide)) rfl (Or.inr (Or.inl ⟨rfl, rfl⟩)) wa_long (by decide +kernel) (by decide +kernel) (by decide +kernel) (by decide) (fun j => ((blank_at (n := 144) (m := 142) (j := 26) (by decide +kernel) (by decide +kernel) (fun j hj => hI0_ j (by omega))) (SALL.take 144).length (by decide +kernel)).1 j) (fun j => ((blank_at (n := 144) (m := 142) (j := 26) (by decide +kernel) (by decide +kernel) (fun j hj => hI0_ j (by omega))) (SALL.take 144).length (by decide +kernel)).2.1 j) dX12_init_253 ?_
  rw [show (SALL.take 144).length = 144 by decide +kernel, show SALL.take 144 ++ [(12, 12)] = SALL.take 145 by decide +kernel]
  refine x_putF C0_ hI wq_X12_98 (show (SALL.take 145)[135]? = some (10, 30) by decide +kernel) rfl (Or.inr ⟨_, rfl⟩) dX12_init_255 ?_
  rw [rOf_up (m := 142) (a := 135) (k := 14) (v := 144) (by decide +kernel)]
  refine x_aload_n C0_ rfl dX12_init_258 ?_
  refine x_bipush (v := nI 12) C0_ rfl dX12_init_259 ?_
  refine x_newarray (ty := .long) (atype := .long) (kd := 12) (k0 := 136) (N := 12) C0_ ⟨hz, (show 136 + 9 = (SALL.take 145).length by decide +kernel)⟩ (xRf_of hR (by decide) (by decide) (by decide)) rfl (Or.inr (Or.inl ⟨rfl, rfl⟩)) wa_long (by decide +kernel) (by decide +kernel) (by decide +kernel) (by decide) (fun j => ((blank_at (n := 145) (m := 143) (j := 26) (by decide +kernel) (by decide +kernel) (fun j hj => hI0_ j (by omega))) (SALL.take 145).length (by decide +kernel)).1 j) (fun j => ((blank_at (n := 145) (m := 143) (j := 26) (by decide +kernel) (by decide +kernel) (fun j hj => hI0_ j (by omega))) (SALL.take 145).length (by decide +kernel)).2.1 j) dX12_init_261 ?_
  rw [show (SALL.take 145).length = 145 by decide +kernel, show SALL.take 145 ++ [(12, 12)] = SALL.take 146 by decide +kernel]
  refine x_putF C0_ hI wq_X12_101 (show (SALL.take 146)[135]? = some (10, 30) by decide +kernel) rfl (Or.inr ⟨_, rfl⟩) dX12_init_263 ?_
  rw [rOf_up (m := 143) (a := 135) (k := 15) (v := 145) (by decide +kernel)]
  refine x_aload_n C0_ rfl dX12_init_266 ?_
  refine x_bipush (v := nI 12) C0_ rfl dX12_init_267 ?_
  refine x_newarray (ty := .int) (atype := .int) (kd := 11) (k0 := 136) (N := 12) C0_ ⟨hz, (show 136 + 10 = (SALL.take 146).length by decide +kernel)⟩ (xRf_of hR (by decide) (by decide) (by decide)) rfl (Or.inl ⟨rfl, rfl⟩) wa_int (by decide +kernel) (by decide +kernel) (by decide +kernel) (by decide) (fun j => ((blank_at (n := 146) (m := 144) (j := 26) (by decide +kernel) (by decide +kernel) (fun j hj => hI0_ j (by omega))) (SALL.take 146).length (by decide +kernel)).1 j) (fun j => ((blank_at (n := 146) (m := 144) (j := 26) (by decide +kernel) (by decide +kernel) (fun j hj => hI0_ j (by omega))) (SALL.take 146).length (by decide +kernel)).2.1 j) dX12_init_269 ?_
  rw [show (SALL.take 146).length = 146 by decide +kernel, show SALL.take 146 ++ [(11, 12)] = SALL.take 147 by decide +kernel]
  refine x_putF C0_ hI wq_X12_104 (show (SALL.take 147)[135]? = some (10, 30) by decide +kernel) rfl (Or.inr ⟨_, rfl⟩) dX12_init_271 ?_
  rw [rOf_up (m := 144) (a := 135) (k := 16) (v := 146) (by decide +kernel)]
  refine x_aload_n C0_ rfl dX12_init_274 ?_
  refine x_bipush (v := nI 12) C0_ rfl dX12_init_275 ?_
  refine x_newarray (ty := .int) (atype := .int) (kd := 11) (k0 := 136) (N := 12) C0_ ⟨hz, (show 136 + 11 = (SALL.take 147).length by decide +kernel)⟩ (xRf_of hR (by decide) (by decide) (by decide)) rfl (Or.inl ⟨rfl, rfl⟩) wa_int (by decide +kernel) (by decide +kernel) (by decide +kernel) (by decide) (fun j => ((blank_at (n := 147) (m := 145) (j := 26) (by decide +kernel) (by decide +kernel) (fun j hj => hI0_ j (by omega))) (SALL.take 147).length (by decide +kernel)).1 j) (fun j => ((blank_at (n := 147) (m := 145) (j := 26) (by decide +kernel) (by decide +kernel) (fun j hj => hI0_ j (by omega))) (SALL.take 147).length (by decide +kernel)).2.1 j) dX12_init_277 ?_
  rw [show (SALL.take 147).length = 147 by decide +kernel, show SALL.take 147 ++ [(11, 12)] = SALL.take 148 by decide +kernel]
  refine x_putF C0_ hI wq_X12_107 (show (SALL.take 148)[135]? = some (10, 30) by decide +kernel) rfl (Or.inr ⟨_, rfl⟩) dX12_init_279 ?_
  rw [rOf_up (m := 145) (a := 135) (k := 17) (v := 147) (by decide +kernel)]
  refine x_aload_n C0_ rfl dX12_init_282 ?_
  refine x_sipush (v := nI 330) C0_ rfl dX12_init_283 ?_
  refine x_newarray (ty := .int) (atype := .int) (kd := 11) (k0 := 136) (N := 330) C0_ ⟨hz, (show 136 + 12 = (SALL.take 148).length by decide +kernel)⟩ (xRf_of hR (by decide) (by decide) (by decide)) rfl (Or.inl ⟨rfl, rfl⟩) wa_int (by decide +kernel) (by decide +kernel) (by decide +kernel) (by decide) (fun j => ((blank_at (n := 148) (m := 146) (j := 26) (by decide +kernel) (by decide +kernel) (fun j hj => hI0_ j (by omega))) (SALL.take 148).length (by decide +kernel)).1 j) (fun j => ((blank_at (n := 148) (m := 146) (j := 26) (by decide +kernel) (by decide +kernel) (fun j hj => hI0_ j (by omega))) (SALL.take 148).length (by decide +kernel)).2.1 j) dX12_init_286 ?_
  rw [show (SALL.take 148).length = 148 by decide +kernel, show SALL.take 148 ++ [(11, 330)] = SALL.take 149 by decide +kernel]
  refine x_putF C0_ hI wq_X12_110 (show (SALL.take 149)[135]? = some (10, 30) by decide +kernel) rfl (Or.inr ⟨_, rfl⟩) dX12_init_288 ?_
  rw [rOf_up (m := 146) (a := 135) (k := 21) (v := 148) (by decide +kernel)]
  refine x_aload_n C0_ rfl dX12_init_291 ?_
  refine x_iconst (v := nI 4) C0_ rfl dX12_init_292 ?_
  refine x_newarray (ty := .int) (atype := .int) (kd := 11) (k0 := 136) (N := 4) C0_ ⟨hz, (show 136 + 13 = (SALL.take 149).length by decide +kernel)⟩ (xRf_of hR (by decide) (by decide) (by decide)) rfl (Or.inl ⟨rfl, rfl⟩) wa_int (by decide +kernel) (by decide +kernel) (by decide +kernel) (by decide) (fun j => ((blank_at (n := 149) (m := 147) (j := 26) (by decide +kernel) (by decide +kernel) (fun j hj => hI0_ j (by omega))) (SALL.take 149).length (by decide +kernel)).1 j) (fun j => ((blank_at (n := 149) (m := 147) (j := 26) (by decide +kernel) (by decide +kernel) (fun j hj => hI0_ j (by omega))) (SALL.take 149).length (by decide +kernel)).2.1 j) dX12_init_293 ?_
  rw [show (SALL.take 149).length = 149 by decide +kernel, show SALL.take 149 ++ [(11, 4)] = SALL.take 150 by decide +kernel]
  refine x_putF C0_ hI wq_X12_113 (show (SALL.take 150)[135]? = some (10, 30) by decide +kernel) rfl (Or.inr ⟨_, rfl⟩) dX12_init_295 ?_
  rw [rOf_up (m := 147) (a := 135) (k := 22) (v := 149) (by decide +kernel)]
  refine x_aload_n C0_ rfl dX12_init_298 ?_
  refine x_sipush (v := nI 1100) C0_ rfl dX12_init_299 ?_
  refine x_newarray (ty := .int) (atype := .int) (kd := 11) (k0 := 136) (N := 1100) C0_ ⟨hz, (show 136 + 14 = (SALL.take 150).length by decide +kernel)⟩ (xRf_of hR (by decide) (by decide) (by decide)) rfl (Or.inl ⟨rfl, rfl⟩) wa_int (by decide +kernel) (by decide +kernel) (by decide +kernel) (by decide) (fun j => ((blank_at (n := 150) (m := 148) (j := 26) (by decide +kernel) (by decide +kernel) (fun j hj => hI0_ j (by omega))) (SALL.take 150).length (by decide +kernel)).1 j) (fun j => ((blank_at (n := 150) (m := 148) (j := 26) (by decide +kernel) (by decide +kernel) (fun j hj => hI0_ j (by omega))) (SALL.take 150).length (by decide +kernel)).2.1 j) dX12_init_302 ?_
  rw [show (SALL.take 150).length = 150 by decide +kernel, show SALL.take 150 ++ [(11, 1100)] = SALL.take 151 by decide +kernel]
  refine x_putF C0_ hI wq_X12_116 (show (SALL.take 151)[135]? = some (10, 30) by decide +kernel) rfl (Or.inr ⟨_, rfl⟩) dX12_init_304 ?_
  rw [rOf_up (m := 148) (a := 135) (k := 23) (v := 150) (by decide +kernel)]
  refine x_aload_n C0_ rfl dX12_init_307 ?_
  refine x_sipush (v := nI 2254) C0_ rfl dX12_init_308 ?_
  refine x_newarray (ty := .int) (atype := .int) (kd := 11) (k0 := 136) (N := 2254) C0_ ⟨hz, (show 136 + 15 = (SALL.take 151).length by decide +kernel)⟩ (xRf_of hR (by decide) (by decide) (by decide)) rfl (Or.inl ⟨rfl, rfl⟩) wa_int (by decide +kernel) (by decide +kernel) (by decide +kernel) (by decide) (fun j => ((blank_at (n := 151) (m := 149) (j := 26) (by decide +kernel) (by decide +kernel) (fun j hj => hI0_ j (by omega))) (SALL.take 151).length (by decide +kernel)).1 j) (fun j => ((blank_at (n := 151) (m := 149) (j := 26) (by decide +kernel) (by decide +kernel) (fun j hj => hI0_ j (by omega))) (SALL.take 151).length (by decide +kernel)).2.1 j) dX12_init_311 ?_
  rw [show (SALL.take 151).length = 151 by decide +kernel, show SALL.take 151 ++ [(11, 2254)] = SALL.take 152 by decide +kernel]
  refine x_putF C0_ hI wq_X12_119 (show (SALL.take 152)[135]? = some (10, 30) by decide +kernel) rfl (Or.inr ⟨_, rfl⟩) dX12_init_313 ?_
  rw [rOf_up (m := 149) (a := 135) (k := 24) (v := 151) (by decide +kernel)]
  refine x_aload_n C0_ rfl dX12_init_316 ?_
  refine x_iconst (v := nI 4) C0_ rfl dX12_init_317 ?_
  refine x_newarray (ty := .boolean) (atype := .boolean) (kd := 14) (k0 := 136) (N := 4) C0_ ⟨hz, (show 136 + 16 = (SALL.take 152).length by decide +kernel)⟩ (xRf_of hR (by decide) (by decide) (by decide)) rfl (Or.inr (Or.inr (Or.inr ⟨rfl, rfl⟩))) wa_boolean (by decide +kernel) (by decide +kernel) (by decide +kernel) (by decide) (fun j => ((blank_at (n := 152) (m := 150) (j := 26) (by decide +kernel) (by decide +kernel) (fun j hj => hI0_ j (by omega))) (SALL.take 152).length (by decide +kernel)).1 j) (fun j => ((blank_at (n := 152) (m := 150) (j := 26) (by decide +kernel) (by decide +kernel) (fun j hj => hI0_ j (by omega))) (SALL.take 152).length (by decide +kernel)).2.1 j) dX12_init_318 ?_
  rw [show (SALL.take 152).length = 152 by decide +kernel, show SALL.take 152 ++ [(14, 4)] = SALL.take 153 by decide +kernel]
  refine x_putF C0_ hI wq_X12_122 (show (SALL.take 153)[135]? = some (10, 30) by decide +kernel) rfl (Or.inr ⟨_, rfl⟩) dX12_init_320 ?_
  rw [rOf_up (m := 150) (a := 135) (k := 26) (v := 152) (by decide +kernel)]
  refine x_aload_n C0_ rfl dX12_init_323 ?_
  refine x_bipush (v := nI 6) C0_ rfl dX12_init_324 ?_
  refine x_newarray (ty := .int) (atype := .int) (kd := 11) (k0 := 136) (N := 6) C0_ ⟨hz, (show 136 + 17 = (SALL.take 153).length by decide +kernel)⟩ (xRf_of hR (by decide) (by decide) (by decide)) rfl (Or.inl ⟨rfl, rfl⟩) wa_int (by decide +kernel) (by decide +kernel) (by decide +kernel) (by decide) (fun j => ((blank_at (n := 153) (m := 151) (j := 26) (by decide +kernel) (by decide +kernel) (fun j hj => hI0_ j (by omega))) (SALL.take 153).length (by decide +kernel)).1 j) (fun j => ((blank_at (n := 153) (m := 151) (j := 26) (by decide +kernel) (by decide +kernel) (fun j hj => hI0_ j (by omega))) (SALL.take 153).length (by decide +kernel)).2.1 j) dX12_init_326 ?_
  rw [show (SALL.take 153).length = 153 by decide +kernel, show SALL.take 153 ++ [(11, 6)] = SALL.take 154 by decide +kernel]
  refine x_putF C0_ hI wq_X12_126 (show (SALL.take 154)[135]? = some (10, 30) by decide +kernel) rfl (Or.inr ⟨_, rfl⟩) dX12_init_328 ?_
  rw [rOf_up (m := 151) (a := 135) (k := 27) (v := 153) (by decide +kernel)]
  refine x_aload_n C0_ rfl dX12_init_331 ?_
  refine x_bipush (v := nI 108) C0_ rfl dX12_init_332 ?_
  refine x_newarray (ty := .int) (atype := .int) (kd := 11) (k0 := 136) (N := 108) C0_ ⟨hz, (show 136 + 18 = (SALL.take 154).length by decide +kernel)⟩ (xRf_of hR (by decide) (by decide) (by decide)) rfl (Or.inl ⟨rfl, rfl⟩) wa_int (by decide +kernel) (by decide +kernel) (by decide +kernel) (by decide) (fun j => ((blank_at (n := 154) (m := 152) (j := 26) (by decide +kernel) (by decide +kernel) (fun j hj => hI0_ j (by omega))) (SALL.take 154).length (by decide +kernel)).1 j) (fun j => ((blank_at (n := 154) (m := 152) (j := 26) (by decide +kernel) (by decide +kernel) (fun j hj => hI0_ j (by omega))) (SALL.take 154).length (by decide +kernel)).2.1 j) dX12_init_334 ?_
  rw [show (SALL.take 154).length = 154 by decide +kernel, show SALL.take 154 ++ [(11, 108)] = SALL.take 155 by decide +kernel]
  refine x_putF C0_ hI wq_X12_129 (show (SALL.take 155)[135]? = some (10, 30) by decide +kernel) rfl (Or.inr ⟨_, rfl⟩) dX12_init_336 ?_
  rw [rOf_up (m := 152) (a := 135) (k := 28) (v := 154) (by decide +kernel)]
  refine x_aload_n C0_ rfl dX12_init_339 ?_
  refine x_iconst (v := nI 0) C0_ rfl dX12_init_340 ?_
  have hM : isModel (SALL.take 155) (rOf (RLs.take 153)) := ⟨by decide +kernel, by decide +kernel, by decide +kernel, by decide +kernel, by decide +kernel, by decide +kernel, by decide +kernel, by decide +kernel, by decide +kernel, by decide +kernel, by decide +kernel, by decide +kernel, by decide +kernel, by decide +kernel, by decide +kernel, by decide +kernel, by decide +kernel, by decide +kernel, by decide +kernel, by decide +kernel, by decide +kernel, by decide +kernel, by decide +kernel, by decide +kernel, by decide +kernel, by decide +kernel, by decide +kernel, by decide +kernel, by decide +kernel, by decide +kernel, by decide +kernel, by decide +kernel, by decide +kernel, by decide +kernel, by decide +kernel, by decide +kernel, by decide +kernel, by decide +kernel, by decide +kernel⟩
  refine x_callV [_] C0_ hN rfl (xRf_of hR (by decide) (by decide) (by decide)) mv_X12_standsAsAlways wm_X12_132 dX12_init_341 (show (SALL.take 155)[135]? = some (10, 30) by decide +kernel) rfl rfl (Nat.le_of_ble_eq_true rfl) (c_X12_standsAsAlways hM (b := 0) (by decide) (fun I1_ a1_ a2_ a3_ => ?_))
  have mF : MFilm I1_ (fRow F0' false) := fun i hi => by have := a3_ i hi; rw [Nat.zero_add] at this; exact this
  refine x_aload_n C0_ rfl dX12_init_344 ?_
  refine x_callV [] C0_ hN rfl (xRf_of hR (by decide) (by decide) (by decide)) mv_X12_begins wm_X12_136 dX12_init_345 (show (SALL.take 155)[135]? = some (10, 30) by decide +kernel) rfl rfl (Nat.le_of_ble_eq_true rfl) (c_X12_begins hM (fRow_WFl F0_ok) mF (fun I2_ b1_ b2_ b3_ b4_ b5_ b6_ b7_ => ?_))
  refine x_vret C0_ E (by decide) (by decide) dX12_init_348 ?_
  refine hp I2_ (fun a h => ?_) (fun k h => ?_) b3_ (fun i hi => ?_) b4_ b5_ b6_ b7_
  · rw [b1_ a (by omega) (by omega) (by omega) (by omega)]; exact a1_ a (by omega)
  · rw [b2_ k h]; rw [a1_ 135 (by decide)]
  · rw [b1_ 141 (by decide) (by decide) (by decide) (by decide)]; exact mF i hi
