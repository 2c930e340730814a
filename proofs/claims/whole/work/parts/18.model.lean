/-! THE REFERENCE: where it lies, its leaves -/
def isModel (S : xTS) (R : xTR) : Prop := S[135]? = some (10, 30) ∧ S[136]? = some (11, 1000) ∧ S[137]? = some (11, 1002) ∧ S[138]? = some (11, 1002) ∧ S[139]? = some (12, 1002) ∧ S[140]? = some (12, 26) ∧ S[141]? = some (11, 120) ∧ S[142]? = some (11, 2200) ∧ S[143]? = some (11, 2200) ∧ S[144]? = some (12, 12) ∧ S[145]? = some (12, 12) ∧ S[146]? = some (11, 12) ∧ S[147]? = some (11, 12) ∧ S[148]? = some (11, 330) ∧ S[149]? = some (11, 4) ∧ S[150]? = some (11, 1100) ∧ S[151]? = some (11, 2254) ∧ S[152]? = some (14, 4) ∧ S[153]? = some (11, 6) ∧ S[154]? = some (11, 108) ∧ R 135 1 = some 136 ∧ R 135 4 = some 137 ∧ R 135 5 = some 138 ∧ R 135 6 = some 139 ∧ R 135 9 = some 140 ∧ R 135 10 = some 141 ∧ R 135 11 = some 142 ∧ R 135 12 = some 143 ∧ R 135 14 = some 144 ∧ R 135 15 = some 145 ∧ R 135 16 = some 146 ∧ R 135 17 = some 147 ∧ R 135 21 = some 148 ∧ R 135 22 = some 149 ∧ R 135 23 = some 150 ∧ R 135 24 = some 151 ∧ R 135 26 = some 152 ∧ R 135 27 = some 153 ∧ R 135 28 = some 154
theorem isModel.k0 {S : xTS} {R : xTR} (h : isModel S R) : S[135]? = some (10, 30) := h.1
theorem isModel.s1 {S : xTS} {R : xTR} (h : isModel S R) : S[136]? = some (11, 1000) := h.2.1
theorem isModel.s4 {S : xTS} {R : xTR} (h : isModel S R) : S[137]? = some (11, 1002) := h.2.2.1
theorem isModel.s5 {S : xTS} {R : xTR} (h : isModel S R) : S[138]? = some (11, 1002) := h.2.2.2.1
theorem isModel.s6 {S : xTS} {R : xTR} (h : isModel S R) : S[139]? = some (12, 1002) := h.2.2.2.2.1
theorem isModel.s9 {S : xTS} {R : xTR} (h : isModel S R) : S[140]? = some (12, 26) := h.2.2.2.2.2.1
theorem isModel.s10 {S : xTS} {R : xTR} (h : isModel S R) : S[141]? = some (11, 120) := h.2.2.2.2.2.2.1
theorem isModel.s11 {S : xTS} {R : xTR} (h : isModel S R) : S[142]? = some (11, 2200) := h.2.2.2.2.2.2.2.1
theorem isModel.s12 {S : xTS} {R : xTR} (h : isModel S R) : S[143]? = some (11, 2200) := h.2.2.2.2.2.2.2.2.1
theorem isModel.s14 {S : xTS} {R : xTR} (h : isModel S R) : S[144]? = some (12, 12) := h.2.2.2.2.2.2.2.2.2.1
theorem isModel.s15 {S : xTS} {R : xTR} (h : isModel S R) : S[145]? = some (12, 12) := h.2.2.2.2.2.2.2.2.2.2.1
theorem isModel.s16 {S : xTS} {R : xTR} (h : isModel S R) : S[146]? = some (11, 12) := h.2.2.2.2.2.2.2.2.2.2.2.1
theorem isModel.s17 {S : xTS} {R : xTR} (h : isModel S R) : S[147]? = some (11, 12) := h.2.2.2.2.2.2.2.2.2.2.2.2.1
theorem isModel.s21 {S : xTS} {R : xTR} (h : isModel S R) : S[148]? = some (11, 330) := h.2.2.2.2.2.2.2.2.2.2.2.2.2.1
theorem isModel.s22 {S : xTS} {R : xTR} (h : isModel S R) : S[149]? = some (11, 4) := h.2.2.2.2.2.2.2.2.2.2.2.2.2.2.1
theorem isModel.s23 {S : xTS} {R : xTR} (h : isModel S R) : S[150]? = some (11, 1100) := h.2.2.2.2.2.2.2.2.2.2.2.2.2.2.2.1
theorem isModel.s24 {S : xTS} {R : xTR} (h : isModel S R) : S[151]? = some (11, 2254) := h.2.2.2.2.2.2.2.2.2.2.2.2.2.2.2.2.1
theorem isModel.s26 {S : xTS} {R : xTR} (h : isModel S R) : S[152]? = some (14, 4) := h.2.2.2.2.2.2.2.2.2.2.2.2.2.2.2.2.2.1
theorem isModel.s27 {S : xTS} {R : xTR} (h : isModel S R) : S[153]? = some (11, 6) := h.2.2.2.2.2.2.2.2.2.2.2.2.2.2.2.2.2.2.1
theorem isModel.s28 {S : xTS} {R : xTR} (h : isModel S R) : S[154]? = some (11, 108) := h.2.2.2.2.2.2.2.2.2.2.2.2.2.2.2.2.2.2.2.1
theorem isModel.r1 {S : xTS} {R : xTR} (h : isModel S R) : R 135 1 = some 136 := h.2.2.2.2.2.2.2.2.2.2.2.2.2.2.2.2.2.2.2.2.1
theorem isModel.r4 {S : xTS} {R : xTR} (h : isModel S R) : R 135 4 = some 137 := h.2.2.2.2.2.2.2.2.2.2.2.2.2.2.2.2.2.2.2.2.2.1
theorem isModel.r5 {S : xTS} {R : xTR} (h : isModel S R) : R 135 5 = some 138 := h.2.2.2.2.2.2.2.2.2.2.2.2.2.2.2.2.2.2.2.2.2.2.1
theorem isModel.r6 {S : xTS} {R : xTR} (h : isModel S R) : R 135 6 = some 139 := h.2.2.2.2.2.2.2.2.2.2.2.2.2.2.2.2.2.2.2.2.2.2.2.1
theorem isModel.r9 {S : xTS} {R : xTR} (h : isModel S R) : R 135 9 = some 140 := h.2.2.2.2.2.2.2.2.2.2.2.2.2.2.2.2.2.2.2.2.2.2.2.2.1
theorem isModel.r10 {S : xTS} {R : xTR} (h : isModel S R) : R 135 10 = some 141 := h.2.2.2.2.2.2.2.2.2.2.2.2.2.2.2.2.2.2.2.2.2.2.2.2.2.1
theorem isModel.r11 {S : xTS} {R : xTR} (h : isModel S R) : R 135 11 = some 142 := h.2.2.2.2.2.2.2.2.2.2.2.2.2.2.2.2.2.2.2.2.2.2.2.2.2.2.1
theorem isModel.r12 {S : xTS} {R : xTR} (h : isModel S R) : R 135 12 = some 143 := h.2.2.2.2.2.2.2.2.2.2.2.2.2.2.2.2.2.2.2.2.2.2.2.2.2.2.2.1
theorem isModel.r14 {S : xTS} {R : xTR} (h : isModel S R) : R 135 14 = some 144 := h.2.2.2.2.2.2.2.2.2.2.2.2.2.2.2.2.2.2.2.2.2.2.2.2.2.2.2.2.1
theorem isModel.r15 {S : xTS} {R : xTR} (h : isModel S R) : R 135 15 = some 145 := h.2.2.2.2.2.2.2.2.2.2.2.2.2.2.2.2.2.2.2.2.2.2.2.2.2.2.2.2.2.1
theorem isModel.r16 {S : xTS} {R : xTR} (h : isModel S R) : R 135 16 = some 146 := h.2.2.2.2.2.2.2.2.2.2.2.2.2.2.2.2.2.2.2.2.2.2.2.2.2.2.2.2.2.2.1
theorem isModel.r17 {S : xTS} {R : xTR} (h : isModel S R) : R 135 17 = some 147 := h.2.2.2.2.2.2.2.2.2.2.2.2.2.2.2.2.2.2.2.2.2.2.2.2.2.2.2.2.2.2.2.1
theorem isModel.r21 {S : xTS} {R : xTR} (h : isModel S R) : R 135 21 = some 148 := h.2.2.2.2.2.2.2.2.2.2.2.2.2.2.2.2.2.2.2.2.2.2.2.2.2.2.2.2.2.2.2.2.1
theorem isModel.r22 {S : xTS} {R : xTR} (h : isModel S R) : R 135 22 = some 149 := h.2.2.2.2.2.2.2.2.2.2.2.2.2.2.2.2.2.2.2.2.2.2.2.2.2.2.2.2.2.2.2.2.2.1
theorem isModel.r23 {S : xTS} {R : xTR} (h : isModel S R) : R 135 23 = some 150 := h.2.2.2.2.2.2.2.2.2.2.2.2.2.2.2.2.2.2.2.2.2.2.2.2.2.2.2.2.2.2.2.2.2.2.1
theorem isModel.r24 {S : xTS} {R : xTR} (h : isModel S R) : R 135 24 = some 151 := h.2.2.2.2.2.2.2.2.2.2.2.2.2.2.2.2.2.2.2.2.2.2.2.2.2.2.2.2.2.2.2.2.2.2.2.1
theorem isModel.r26 {S : xTS} {R : xTR} (h : isModel S R) : R 135 26 = some 152 := h.2.2.2.2.2.2.2.2.2.2.2.2.2.2.2.2.2.2.2.2.2.2.2.2.2.2.2.2.2.2.2.2.2.2.2.2.1
theorem isModel.r27 {S : xTS} {R : xTR} (h : isModel S R) : R 135 27 = some 153 := h.2.2.2.2.2.2.2.2.2.2.2.2.2.2.2.2.2.2.2.2.2.2.2.2.2.2.2.2.2.2.2.2.2.2.2.2.2.1
theorem isModel.r28 {S : xTS} {R : xTR} (h : isModel S R) : R 135 28 = some 154 := h.2.2.2.2.2.2.2.2.2.2.2.2.2.2.2.2.2.2.2.2.2.2.2.2.2.2.2.2.2.2.2.2.2.2.2.2.2.2
section XRN2
variable {G : xG} {own : String} {cc : ByteArray} {ret : Option FieldType} {cells slots pc : Nat} {L : List (Option Value)} {st : List Value} {S : xTS} {R : xTR} {I : xTI} {J : xTJ} {a b : Nat}
theorem x_iaddN (C0 : XC G own cc ret) (hd : decode cc pc = .ok (.iadd, 1)) (k : XX G cells slots (pc + 1) L (.int (nI (a + b)) :: st) S R I J) : XX G cells slots pc L (.int (nI b) :: .int (nI a) :: st) S R I J := x_iadd C0 hd (by rw [nI_add]; exact k)
theorem x_imulN (C0 : XC G own cc ret) (hd : decode cc pc = .ok (.imul, 1)) (k : XX G cells slots (pc + 1) L (.int (nI (a * b)) :: st) S R I J) : XX G cells slots pc L (.int (nI b) :: .int (nI a) :: st) S R I J := x_imul C0 hd (by rw [nI_mul]; exact k)
end XRN2
/-- the reference's film, its hall at b -/
def MFilm (I : xTI) (fl : xRow) : Prop := ∀ i, i < 60 → I 141 i = fl i
def MHall (I : xTI) (b : Nat) (x : xRow) : Prop := ∀ i, i < 62 → I 151 (b + i) = x i
theorem MHall.at {I : xTI} {b i j : Nat} {x : xRow} (h : MHall I b x) (hi : i < 62) (e : j = b + i) : I 151 j = x i := by subst e; exact h i hi
theorem c_X12_things {S : xTS} {R : xTR} {I : xTI} {J : xTJ} {post : xPost} (hM : isModel S R) (hp : post (some (.int (I 141 0))) S R I J) : xSpec 1 yX12_things cX12_things 1 (some .int) 0 0 [.ref 135] S R I J post := by
  refine xSpec_of mt_X12_things (Nat.le_of_ble_eq_true rfl) (fun G C0 hN hR E hI hZ => ?_)
  change XX G 0 0 0 [some (.ref 135)] [] S R I J
  refine x_aload_n C0 rfl dX12_things_0 ?_
  refine x_getR C0 wf_X12_89 (isModel.k0 hM) rfl rfl (isModel.r10 hM) dX12_things_1 ?_
  refine x_iconst (v := nI 0) C0 rfl dX12_things_4 ?_
  refine x_ialoadN C0 (isModel.s10 hM) (by omega) (by omega) dX12_things_5 ?_
  refine x_iret C0 E (by decide) (by decide) dX12_things_6 ?_
  exact hp
theorem c_X12_scenes {S : xTS} {R : xTR} {I : xTI} {J : xTJ} {post : xPost} (hM : isModel S R) (hp : post (some (.int (I 141 1))) S R I J) : xSpec 1 yX12_scenes cX12_scenes 1 (some .int) 0 0 [.ref 135] S R I J post := by
  refine xSpec_of mt_X12_scenes (Nat.le_of_ble_eq_true rfl) (fun G C0 hN hR E hI hZ => ?_)
  change XX G 0 0 0 [some (.ref 135)] [] S R I J
  refine x_aload_n C0 rfl dX12_scenes_0 ?_
  refine x_getR C0 wf_X12_89 (isModel.k0 hM) rfl rfl (isModel.r10 hM) dX12_scenes_1 ?_
  refine x_iconst (v := nI 1) C0 rfl dX12_scenes_4 ?_
  refine x_ialoadN C0 (isModel.s10 hM) (by omega) (by omega) dX12_scenes_5 ?_
  refine x_iret C0 E (by decide) (by decide) dX12_scenes_6 ?_
  exact hp
theorem c_X12_watchers {S : xTS} {R : xTR} {I : xTI} {J : xTJ} {post : xPost} (hM : isModel S R) (hp : post (some (.int (I 141 2))) S R I J) : xSpec 1 yX12_watchers cX12_watchers 1 (some .int) 0 0 [.ref 135] S R I J post := by
  refine xSpec_of mt_X12_watchers (Nat.le_of_ble_eq_true rfl) (fun G C0 hN hR E hI hZ => ?_)
  change XX G 0 0 0 [some (.ref 135)] [] S R I J
  refine x_aload_n C0 rfl dX12_watchers_0 ?_
  refine x_getR C0 wf_X12_89 (isModel.k0 hM) rfl rfl (isModel.r10 hM) dX12_watchers_1 ?_
  refine x_iconst (v := nI 2) C0 rfl dX12_watchers_4 ?_
  refine x_ialoadN C0 (isModel.s10 hM) (by omega) (by omega) dX12_watchers_5 ?_
  refine x_iret C0 E (by decide) (by decide) dX12_watchers_6 ?_
  exact hp
theorem c_X12_watcherOf {S : xTS} {R : xTR} {I : xTI} {J : xTJ} {post : xPost} (hM : isModel S R) {w k : Nat} (hw : w < 6) (hk : k < 3) (hp : post (some (.int (I 141 (37 + 3 * w + k)))) S R I J) : xSpec 1 yX12_watcherOf cX12_watcherOf 3 (some .int) 0 0 [.ref 135, .int (nI w), .int (nI k)] S R I J post := by
  refine xSpec_of mt_X12_watcherOf (Nat.le_of_ble_eq_true rfl) (fun G C0 hN hR E hI hZ => ?_)
  change XX G 0 0 0 [some (.ref 135), some (.int (nI w)), some (.int (nI k))] [] S R I J
  refine x_aload_n C0 rfl dX12_watcherOf_0 ?_
  refine x_getR C0 wf_X12_89 (isModel.k0 hM) rfl rfl (isModel.r10 hM) dX12_watcherOf_1 ?_
  refine x_bipush (v := nI 37) C0 rfl dX12_watcherOf_4 ?_
  refine x_iconst (v := nI 3) C0 rfl dX12_watcherOf_6 ?_
  refine x_iload_n C0 rfl dX12_watcherOf_7 ?_
  refine x_imulN C0 dX12_watcherOf_8 ?_
  refine x_iaddN C0 dX12_watcherOf_9 ?_
  refine x_iload_n C0 rfl dX12_watcherOf_10 ?_
  refine x_iaddN C0 dX12_watcherOf_11 ?_
  refine x_ialoadN C0 (isModel.s10 hM) (by omega) (by omega) dX12_watcherOf_12 ?_
  refine x_iret C0 E (by decide) (by decide) dX12_watcherOf_13 ?_
  exact hp
theorem c_X12_isThing {S : xTS} {R : xTR} {I : xTI} {J : xTJ} {post : xPost} (hM : isModel S R) {i : Int32} (h1 : 0 ≤ i ∧ i < I 141 0 → post (some (.int 1)) S R I J) (h0 : ¬ (0 ≤ i ∧ i < I 141 0) → post (some (.int 0)) S R I J) : xSpec 2 yX12_isThing cX12_isThing 2 (some .boolean) 0 0 [.ref 135, .int i] S R I J post := by
  refine xSpec_of mt_X12_isThing (Nat.le_of_ble_eq_true rfl) (fun G C0 hN hR E hI hZ => ?_)
  change XX G 0 0 0 [some (.ref 135), some (.int i)] [] S R I J
  refine x_iload_n C0 rfl dX12_isThing_0 ?_
  refine x_if_lt (tgt := 16) C0 (by decide) dX12_isThing_1 (fun g1 => ?_) (fun g1 => ?_)
  · refine x_iconst (v := 0) C0 rfl dX12_isThing_16 ?_
    refine x_zret C0 E (by decide) (by decide) rfl dX12_isThing_17 ?_
    exact h0 (fun q => i_nlt.mpr q.1 g1)
  · refine x_iload_n C0 rfl dX12_isThing_4 ?_
    refine x_aload_n C0 rfl dX12_isThing_5 ?_
    refine x_callV [] C0 hN rfl (xRf_of hR (by decide) (Nat.zero_le _) (Nat.zero_le _)) mv_X12_things wm_X12_297 dX12_isThing_6 (isModel.k0 hM) rfl rfl (Nat.le_of_ble_eq_true rfl) (c_X12_things hM ?_)
    refine x_icmp_ge (tgt := 16) C0 (by decide) dX12_isThing_9 (fun g2 => ?_) (fun g2 => ?_)
    · refine x_iconst (v := 0) C0 rfl dX12_isThing_16 ?_
      refine x_zret C0 E (by decide) (by decide) rfl dX12_isThing_17 ?_
      exact h0 (fun q => i_nle.mpr q.2 g2)
    · refine x_iconst (v := 1) C0 rfl dX12_isThing_12 ?_
      refine x_goto (tgt := 17) C0 (by decide) dX12_isThing_13 ?_
      refine x_zret C0 E (by decide) (by decide) rfl dX12_isThing_17 ?_
      exact h1 ⟨i_nlt.mp g1, i_nle.mp g2⟩
theorem c_X12_isScene {S : xTS} {R : xTR} {I : xTI} {J : xTJ} {post : xPost} (hM : isModel S R) {i : Int32} (h1 : 0 ≤ i ∧ i < I 141 1 → post (some (.int 1)) S R I J) (h0 : ¬ (0 ≤ i ∧ i < I 141 1) → post (some (.int 0)) S R I J) : xSpec 2 yX12_isScene cX12_isScene 2 (some .boolean) 0 0 [.ref 135, .int i] S R I J post := by
  refine xSpec_of mt_X12_isScene (Nat.le_of_ble_eq_true rfl) (fun G C0 hN hR E hI hZ => ?_)
  change XX G 0 0 0 [some (.ref 135), some (.int i)] [] S R I J
  refine x_iload_n C0 rfl dX12_isScene_0 ?_
  refine x_if_lt (tgt := 16) C0 (by decide) dX12_isScene_1 (fun g1 => ?_) (fun g1 => ?_)
  · refine x_iconst (v := 0) C0 rfl dX12_isScene_16 ?_
    refine x_zret C0 E (by decide) (by decide) rfl dX12_isScene_17 ?_
    exact h0 (fun q => i_nlt.mpr q.1 g1)
  · refine x_iload_n C0 rfl dX12_isScene_4 ?_
    refine x_aload_n C0 rfl dX12_isScene_5 ?_
    refine x_callV [] C0 hN rfl (xRf_of hR (by decide) (Nat.zero_le _) (Nat.zero_le _)) mv_X12_scenes wm_X12_285 dX12_isScene_6 (isModel.k0 hM) rfl rfl (Nat.le_of_ble_eq_true rfl) (c_X12_scenes hM ?_)
    refine x_icmp_ge (tgt := 16) C0 (by decide) dX12_isScene_9 (fun g2 => ?_) (fun g2 => ?_)
    · refine x_iconst (v := 0) C0 rfl dX12_isScene_16 ?_
      refine x_zret C0 E (by decide) (by decide) rfl dX12_isScene_17 ?_
      exact h0 (fun q => i_nle.mpr q.2 g2)
    · refine x_iconst (v := 1) C0 rfl dX12_isScene_12 ?_
      refine x_goto (tgt := 17) C0 (by decide) dX12_isScene_13 ?_
      refine x_zret C0 E (by decide) (by decide) rfl dX12_isScene_17 ?_
      exact h1 ⟨i_nlt.mp g1, i_nle.mp g2⟩
theorem c_X12_isWatcher {S : xTS} {R : xTR} {I : xTI} {J : xTJ} {post : xPost} (hM : isModel S R) {i : Int32} (h1 : 0 ≤ i ∧ i < I 141 2 → post (some (.int 1)) S R I J) (h0 : ¬ (0 ≤ i ∧ i < I 141 2) → post (some (.int 0)) S R I J) : xSpec 2 yX12_isWatcher cX12_isWatcher 2 (some .boolean) 0 0 [.ref 135, .int i] S R I J post := by
  refine xSpec_of mt_X12_isWatcher (Nat.le_of_ble_eq_true rfl) (fun G C0 hN hR E hI hZ => ?_)
  change XX G 0 0 0 [some (.ref 135), some (.int i)] [] S R I J
  refine x_iload_n C0 rfl dX12_isWatcher_0 ?_
  refine x_if_lt (tgt := 16) C0 (by decide) dX12_isWatcher_1 (fun g1 => ?_) (fun g1 => ?_)
  · refine x_iconst (v := 0) C0 rfl dX12_isWatcher_16 ?_
    refine x_zret C0 E (by decide) (by decide) rfl dX12_isWatcher_17 ?_
    exact h0 (fun q => i_nlt.mpr q.1 g1)
  · refine x_iload_n C0 rfl dX12_isWatcher_4 ?_
    refine x_aload_n C0 rfl dX12_isWatcher_5 ?_
    refine x_callV [] C0 hN rfl (xRf_of hR (by decide) (Nat.zero_le _) (Nat.zero_le _)) mv_X12_watchers wm_X12_282 dX12_isWatcher_6 (isModel.k0 hM) rfl rfl (Nat.le_of_ble_eq_true rfl) (c_X12_watchers hM ?_)
    refine x_icmp_ge (tgt := 16) C0 (by decide) dX12_isWatcher_9 (fun g2 => ?_) (fun g2 => ?_)
    · refine x_iconst (v := 0) C0 rfl dX12_isWatcher_16 ?_
      refine x_zret C0 E (by decide) (by decide) rfl dX12_isWatcher_17 ?_
      exact h0 (fun q => i_nle.mpr q.2 g2)
    · refine x_iconst (v := 1) C0 rfl dX12_isWatcher_12 ?_
      refine x_goto (tgt := 17) C0 (by decide) dX12_isWatcher_13 ?_
      refine x_zret C0 E (by decide) (by decide) rfl dX12_isWatcher_17 ?_
      exact h1 ⟨i_nlt.mp g1, i_nle.mp g2⟩
theorem c_X12_isIn {S : xTS} {R : xTR} {I : xTI} {J : xTJ} {post : xPost} (hM : isModel S R) {b k : Nat} (hb : b ≤ 2192) (h1 : xbit (I 151 (b + 2)) k → post (some (.int 1)) S R I J) (h0 : ¬ xbit (I 151 (b + 2)) k → post (some (.int 0)) S R I J) : xSpec 1 yX12_isIn cX12_isIn 3 (some .boolean) 0 0 [.ref 135, .int (nI b), .int (nI k)] S R I J post := by
  refine xSpec_of mt_X12_isIn (Nat.le_of_ble_eq_true rfl) (fun G C0 hN hR E hI hZ => ?_)
  change XX G 0 0 0 [some (.ref 135), some (.int (nI b)), some (.int (nI k))] [] S R I J
  refine x_aload_n C0 rfl dX12_isIn_0 ?_
  refine x_getR C0 wf_X12_119 (isModel.k0 hM) rfl rfl (isModel.r24 hM) dX12_isIn_1 ?_
  refine x_iload_n C0 rfl dX12_isIn_4 ?_
  refine x_iconst (v := nI 2) C0 rfl dX12_isIn_5 ?_
  refine x_iaddN C0 dX12_isIn_6 ?_
  refine x_ialoadN C0 (isModel.s24 hM) (by omega) (by omega) dX12_isIn_7 ?_
  refine x_iload_n C0 rfl dX12_isIn_8 ?_
  refine x_ishr C0 dX12_isIn_9 ?_
  refine x_iconst (v := 1) C0 rfl dX12_isIn_10 ?_
  refine x_iand C0 dX12_isIn_11 ?_
  refine x_iconst (v := 1) C0 rfl dX12_isIn_12 ?_
  refine x_icmp_ne (tgt := 20) C0 (by decide) dX12_isIn_13 (fun h13 => ?_) (fun h13 => ?_)
  · refine x_iconst (v := nI 0) C0 rfl dX12_isIn_20 ?_
    refine x_zret C0 E (by decide) (by decide) rfl dX12_isIn_21 ?_
    exact h0 h13
  · refine x_iconst (v := 1) C0 rfl dX12_isIn_16 ?_
    refine x_goto (tgt := 21) C0 (by decide) dX12_isIn_17 ?_
    refine x_zret C0 E (by decide) (by decide) rfl dX12_isIn_21 ?_
    exact h1 h13
theorem c_X12_isCut {S : xTS} {R : xTR} {I : xTI} {J : xTJ} {post : xPost} (hM : isModel S R) {b k : Nat} (hb : b ≤ 2192) (h1 : xbit (I 151 (b + 3)) k → post (some (.int 1)) S R I J) (h0 : ¬ xbit (I 151 (b + 3)) k → post (some (.int 0)) S R I J) : xSpec 1 yX12_isCut cX12_isCut 3 (some .boolean) 0 0 [.ref 135, .int (nI b), .int (nI k)] S R I J post := by
  refine xSpec_of mt_X12_isCut (Nat.le_of_ble_eq_true rfl) (fun G C0 hN hR E hI hZ => ?_)
  change XX G 0 0 0 [some (.ref 135), some (.int (nI b)), some (.int (nI k))] [] S R I J
  refine x_aload_n C0 rfl dX12_isCut_0 ?_
  refine x_getR C0 wf_X12_119 (isModel.k0 hM) rfl rfl (isModel.r24 hM) dX12_isCut_1 ?_
  refine x_iload_n C0 rfl dX12_isCut_4 ?_
  refine x_iconst (v := nI 3) C0 rfl dX12_isCut_5 ?_
  refine x_iaddN C0 dX12_isCut_6 ?_
  refine x_ialoadN C0 (isModel.s24 hM) (by omega) (by omega) dX12_isCut_7 ?_
  refine x_iload_n C0 rfl dX12_isCut_8 ?_
  refine x_ishr C0 dX12_isCut_9 ?_
  refine x_iconst (v := 1) C0 rfl dX12_isCut_10 ?_
  refine x_iand C0 dX12_isCut_11 ?_
  refine x_iconst (v := 1) C0 rfl dX12_isCut_12 ?_
  refine x_icmp_ne (tgt := 20) C0 (by decide) dX12_isCut_13 (fun h13 => ?_) (fun h13 => ?_)
  · refine x_iconst (v := nI 0) C0 rfl dX12_isCut_20 ?_
    refine x_zret C0 E (by decide) (by decide) rfl dX12_isCut_21 ?_
    exact h0 h13
  · refine x_iconst (v := 1) C0 rfl dX12_isCut_16 ?_
    refine x_goto (tgt := 21) C0 (by decide) dX12_isCut_17 ?_
    refine x_zret C0 E (by decide) (by decide) rfl dX12_isCut_21 ?_
    exact h1 h13
theorem c_X12_thoughtOf {S : xTS} {R : xTR} {I : xTI} {J : xTJ} {post : xPost} (hM : isModel S R) {b w t : Nat} (hb : b ≤ 2192) (hw : w < 6) (ht : t < 6) (hp : post (some (.int (I 151 (b + 20 + 6 * w + t)))) S R I J) : xSpec 1 yX12_thoughtOf cX12_thoughtOf 4 (some .int) 0 0 [.ref 135, .int (nI b), .int (nI w), .int (nI t)] S R I J post := by
  refine xSpec_of mt_X12_thoughtOf (Nat.le_of_ble_eq_true rfl) (fun G C0 hN hR E hI hZ => ?_)
  change XX G 0 0 0 [some (.ref 135), some (.int (nI b)), some (.int (nI w)), some (.int (nI t))] [] S R I J
  refine x_aload_n C0 rfl dX12_thoughtOf_0 ?_
  refine x_getR C0 wf_X12_119 (isModel.k0 hM) rfl rfl (isModel.r24 hM) dX12_thoughtOf_1 ?_
  refine x_iload_n C0 rfl dX12_thoughtOf_4 ?_
  refine x_bipush (v := nI 20) C0 rfl dX12_thoughtOf_5 ?_
  refine x_iaddN C0 dX12_thoughtOf_7 ?_
  refine x_bipush (v := nI 6) C0 rfl dX12_thoughtOf_8 ?_
  refine x_iload_n C0 rfl dX12_thoughtOf_10 ?_
  refine x_imulN C0 dX12_thoughtOf_11 ?_
  refine x_iaddN C0 dX12_thoughtOf_12 ?_
  refine x_iload_n C0 rfl dX12_thoughtOf_13 ?_
  refine x_iaddN C0 dX12_thoughtOf_14 ?_
  refine x_ialoadN C0 (isModel.s24 hM) (by omega) (by omega) dX12_thoughtOf_15 ?_
  refine x_iret C0 E (by decide) (by decide) dX12_thoughtOf_16 ?_
  exact hp
theorem c_X12_within {S : xTS} {R : xTR} {I : xTI} {J : xTJ} {post : xPost} {v lo hi : Int32} (h1 : lo ≤ v ∧ v ≤ hi → post (some (.int 1)) S R I J) (h0 : ¬ (lo ≤ v ∧ v ≤ hi) → post (some (.int 0)) S R I J) : xSpec 1 yX12_within cX12_within 3 (some .boolean) 0 0 [.int v, .int lo, .int hi] S R I J post := by
  refine xSpec_of mt_X12_within (Nat.le_of_ble_eq_true rfl) (fun G C0 hN hR E hI hZ => ?_)
  change XX G 0 0 0 [some (.int v), some (.int lo), some (.int hi)] [] S R I J
  refine x_iload_n C0 rfl dX12_within_0 ?_
  refine x_iload_n C0 rfl dX12_within_1 ?_
  refine x_icmp_lt (tgt := 14) C0 (by decide) dX12_within_2 (fun g2 => ?_) (fun g2 => ?_)
  · refine x_iconst (v := 0) C0 rfl dX12_within_14 ?_
    refine x_zret C0 E (by decide) (by decide) rfl dX12_within_15 ?_
    exact h0 (fun q => i_nlt.mpr q.1 g2)
  · refine x_iload_n C0 rfl dX12_within_5 ?_
    refine x_iload_n C0 rfl dX12_within_6 ?_
    refine x_icmp_gt (tgt := 14) C0 (by decide) dX12_within_7 (fun g7 => ?_) (fun g7 => ?_)
    · refine x_iconst (v := 0) C0 rfl dX12_within_14 ?_
      refine x_zret C0 E (by decide) (by decide) rfl dX12_within_15 ?_
      exact h0 (fun q => absurd g7 (i_nlt.mpr q.2))
    · refine x_iconst (v := 1) C0 rfl dX12_within_10 ?_
      refine x_goto (tgt := 15) C0 (by decide) dX12_within_11 ?_
      refine x_zret C0 E (by decide) (by decide) rfl dX12_within_15 ?_
      exact h1 ⟨i_nlt.mp g2, i_nlt.mp g7⟩
theorem c_X12_saidThing {S : xTS} {R : xTR} {I : xTI} {J : xTJ} {post : xPost} (hM : isModel S R) {b k : Nat} {fl x : xRow} (hb : b ≤ 2192) (hk : k < 8) (hf : MFilm I fl) (hx : MHall I b x) (hp : post (some (.int (sThing fl x k))) S R I J) : xSpec 2 yX12_saidThing cX12_saidThing 3 (some .int) 0 0 [.ref 135, .int (nI b), .int (nI k)] S R I J post := by
  refine xSpec_of mt_X12_saidThing (Nat.le_of_ble_eq_true rfl) (fun G C0 hN hR E hI hZ => ?_)
  change XX G 0 0 0 [some (.ref 135), some (.int (nI b)), some (.int (nI k))] [] S R I J
  refine x_aload_n C0 rfl dX12_saidThing_0 ?_
  refine x_iload_n C0 rfl dX12_saidThing_1 ?_
  refine x_iload_n C0 rfl dX12_saidThing_2 ?_
  refine x_callV [_, _] C0 hN rfl (xRf_of hR (by decide) (Nat.zero_le _) (Nat.zero_le _)) mv_X12_isCut wm_X12_300 dX12_saidThing_3 (isModel.k0 hM) rfl rfl (Nat.le_of_ble_eq_true rfl) (c_X12_isCut hM hb (fun g3 => ?_) (fun g3 => ?_))
  · refine x_if_eq (tgt := 13) C0 (by decide) dX12_saidThing_6 (fun hkk => absurd hkk (by decide)) (fun _ => ?_)
    refine x_iconst (v := -1) C0 rfl dX12_saidThing_9 ?_
    refine x_goto (tgt := 23) C0 (by decide) dX12_saidThing_10 ?_
    refine x_iret C0 E (by decide) (by decide) dX12_saidThing_23 ?_
    have e : sThing fl x k = -1 := by unfold sThing; rw [if_pos (by rw [← hx 3 (by omega)]; exact g3)]
    rw [e] at hp
    exact hp
  · refine x_if_eq (tgt := 13) C0 (by decide) dX12_saidThing_6 (fun _ => ?_) (fun hkk => absurd (by decide) hkk)
    refine x_aload_n C0 rfl dX12_saidThing_13 ?_
    refine x_getR C0 wf_X12_89 (isModel.k0 hM) rfl rfl (isModel.r10 hM) dX12_saidThing_14 ?_
    refine x_iconst (v := nI 5) C0 rfl dX12_saidThing_17 ?_
    refine x_iconst (v := nI 4) C0 rfl dX12_saidThing_18 ?_
    refine x_iload_n C0 rfl dX12_saidThing_19 ?_
    refine x_imulN C0 dX12_saidThing_20 ?_
    refine x_iaddN C0 dX12_saidThing_21 ?_
    refine x_ialoadN C0 (isModel.s10 hM) (by omega) (by omega) dX12_saidThing_22 ?_
    refine x_iret C0 E (by decide) (by decide) dX12_saidThing_23 ?_
    have e : sThing fl x k = fl (5 + 4 * k) := by unfold sThing; rw [if_neg (by rw [← hx 3 (by omega)]; exact g3)]
    rw [hf (5 + 4 * k) (by omega), ← e]
    exact hp
theorem c_X12_saidIs {S : xTS} {R : xTR} {I : xTI} {J : xTJ} {post : xPost} (hM : isModel S R) {b k : Nat} {fl x : xRow} (hb : b ≤ 2192) (hk : k < 8) (hf : MFilm I fl) (hx : MHall I b x) (hp : post (some (.int (sIs fl x k))) S R I J) : xSpec 3 yX12_saidIs cX12_saidIs 6 (some .int) 0 0 [.ref 135, .int (nI b), .int (nI k)] S R I J post := by
  refine xSpec_of mt_X12_saidIs (Nat.le_of_ble_eq_true rfl) (fun G C0 hN hR E hI hZ => ?_)
  change XX G 0 0 0 [some (.ref 135), some (.int (nI b)), some (.int (nI k)), none, none, none] [] S R I J
  have hexit : ∀ v e, (if sThing fl x k < 0 then -1 else v) = sIs fl x k → XX G 0 0 80 [some (.ref 135), some (.int (nI b)), some (.int (nI k)), some (.int (sThing fl x k)), some (.int v), some (.int e)] [] S R I J := by
    intro v e he
    refine x_iload_n C0 rfl dX12_saidIs_80 ?_
    refine x_if_ge (tgt := 88) C0 (by decide) dX12_saidIs_81 (fun g81 => ?_) (fun g81 => ?_)
    · refine x_iload C0 rfl dX12_saidIs_88 ?_
      refine x_iret C0 E (by decide) (by decide) dX12_saidIs_90 ?_
      rw [if_neg (i_nlt.mpr g81)] at he
      rw [he]
      exact hp
    · refine x_iconst (v := -1) C0 rfl dX12_saidIs_84 ?_
      refine x_goto (tgt := 90) C0 (by decide) dX12_saidIs_85 ?_
      refine x_iret C0 E (by decide) (by decide) dX12_saidIs_90 ?_
      rw [if_pos (i_nle.mp g81)] at he
      rw [he]
      exact hp
  have hloop : ∀ n e, e + n = k → XX G 0 0 24 [some (.ref 135), some (.int (nI b)), some (.int (nI k)), some (.int (sThing fl x k)), some (.int (if fl 3 ≤ nI k then sLast x (sThing fl x k) e (fl (6 + 4 * k)) else fl (6 + 4 * k))), some (.int (nI e))] [] S R I J := by
    intro n
    induction n with
    | zero =>
      intro e he
      have he' : e = k := by omega
      subst he'
      refine x_iload C0 rfl dX12_saidIs_24 ?_
      refine x_iload_n C0 rfl dX12_saidIs_26 ?_
      refine x_icmp_ge (tgt := 80) C0 (by decide) dX12_saidIs_27 (fun _ => ?_) (fun hkk => absurd ((Int32.le_refl _)) hkk)
      exact hexit _ _ rfl
    | succ n ih =>
      intro e he
      have w1 : I 151 (b + 4 + e) = x (4 + e) := hx.at (by omega) (by omega)
      have w2 : I 151 (b + 12 + e) = x (12 + e) := hx.at (by omega) (by omega)
      by_cases g37 : fl 3 ≤ nI k
      · have ihe := ih (e + 1) (by omega)
        rw [if_pos g37] at ihe ⊢
        have hS : sLast x (sThing fl x k) (e + 1) (fl (6 + 4 * k)) = if x (4 + e) = sThing fl x k then x (12 + e) else sLast x (sThing fl x k) e (fl (6 + 4 * k)) := rfl
        refine x_iload C0 rfl dX12_saidIs_24 ?_
        refine x_iload_n C0 rfl dX12_saidIs_26 ?_
        refine x_icmp_ge (tgt := 80) C0 (by decide) dX12_saidIs_27 (fun hkk => absurd hkk (nI_ge (by omega) (by omega))) (fun _ => ?_)
        refine x_iload_n C0 rfl dX12_saidIs_30 ?_
        refine x_aload_n C0 rfl dX12_saidIs_31 ?_
        refine x_getR C0 wf_X12_89 (isModel.k0 hM) rfl rfl (isModel.r10 hM) dX12_saidIs_32 ?_
        refine x_iconst (v := nI 3) C0 rfl dX12_saidIs_35 ?_
        refine x_ialoadN C0 (isModel.s10 hM) (by omega) (by omega) dX12_saidIs_36 ?_
        refine x_topi (hf 3 (by decide)) ?_
        refine x_icmp_lt (tgt := 80) C0 (by decide) dX12_saidIs_37 (fun hkk => absurd hkk (i_nlt.mpr g37)) (fun _ => ?_)
        refine x_aload_n C0 rfl dX12_saidIs_40 ?_
        refine x_getR C0 wf_X12_119 (isModel.k0 hM) rfl rfl (isModel.r24 hM) dX12_saidIs_41 ?_
        refine x_iload_n C0 rfl dX12_saidIs_44 ?_
        refine x_iconst (v := nI 4) C0 rfl dX12_saidIs_45 ?_
        refine x_iaddN C0 dX12_saidIs_46 ?_
        refine x_iload C0 rfl dX12_saidIs_47 ?_
        refine x_iaddN C0 dX12_saidIs_49 ?_
        refine x_ialoadN C0 (isModel.s24 hM) (by omega) (by omega) dX12_saidIs_50 ?_
        refine x_topi w1 ?_
        refine x_iload_n C0 rfl dX12_saidIs_51 ?_
        refine x_icmp_ne (tgt := 70) C0 (by decide) dX12_saidIs_52 (fun g52 => ?_) (fun g52 => ?_)
        · refine x_iload C0 rfl dX12_saidIs_70 ?_
          refine x_istore (L' := [_, _, _, _, _, _]) C0 hN (by decide) rfl dX12_saidIs_72 ?_
          refine x_iinc (v := nI (e + 1)) (L' := [_, _, _, _, _, _]) C0 hN rfl (by decide) (nI_inc e) rfl dX12_saidIs_74 ?_
          refine x_goto (tgt := 24) C0 (by decide) dX12_saidIs_77 ?_
          rw [if_neg g52] at hS
          rw [hS] at ihe
          exact ihe
        · refine x_aload_n C0 rfl dX12_saidIs_55 ?_
          refine x_getR C0 wf_X12_119 (isModel.k0 hM) rfl rfl (isModel.r24 hM) dX12_saidIs_56 ?_
          refine x_iload_n C0 rfl dX12_saidIs_59 ?_
          refine x_bipush (v := nI 12) C0 rfl dX12_saidIs_60 ?_
          refine x_iaddN C0 dX12_saidIs_62 ?_
          refine x_iload C0 rfl dX12_saidIs_63 ?_
          refine x_iaddN C0 dX12_saidIs_65 ?_
          refine x_ialoadN C0 (isModel.s24 hM) (by omega) (by omega) dX12_saidIs_66 ?_
          refine x_topi w2 ?_
          refine x_goto (tgt := 72) C0 (by decide) dX12_saidIs_67 ?_
          refine x_istore (L' := [_, _, _, _, _, _]) C0 hN (by decide) rfl dX12_saidIs_72 ?_
          refine x_iinc (v := nI (e + 1)) (L' := [_, _, _, _, _, _]) C0 hN rfl (by decide) (nI_inc e) rfl dX12_saidIs_74 ?_
          refine x_goto (tgt := 24) C0 (by decide) dX12_saidIs_77 ?_
          rw [if_pos g52] at hS
          rw [hS] at ihe
          exact ihe
      · rw [if_neg g37]
        refine x_iload C0 rfl dX12_saidIs_24 ?_
        refine x_iload_n C0 rfl dX12_saidIs_26 ?_
        refine x_icmp_ge (tgt := 80) C0 (by decide) dX12_saidIs_27 (fun hkk => absurd hkk (nI_ge (by omega) (by omega))) (fun _ => ?_)
        refine x_iload_n C0 rfl dX12_saidIs_30 ?_
        refine x_aload_n C0 rfl dX12_saidIs_31 ?_
        refine x_getR C0 wf_X12_89 (isModel.k0 hM) rfl rfl (isModel.r10 hM) dX12_saidIs_32 ?_
        refine x_iconst (v := nI 3) C0 rfl dX12_saidIs_35 ?_
        refine x_ialoadN C0 (isModel.s10 hM) (by omega) (by omega) dX12_saidIs_36 ?_
        refine x_topi (hf 3 (by decide)) ?_
        refine x_icmp_lt (tgt := 80) C0 (by decide) dX12_saidIs_37 (fun _ => ?_) (fun hkk => absurd (i_nle.mp g37) hkk)
        exact hexit _ _ (by unfold sIs; rw [if_neg g37])
  refine x_aload_n C0 rfl dX12_saidIs_0 ?_
  refine x_iload_n C0 rfl dX12_saidIs_1 ?_
  refine x_iload_n C0 rfl dX12_saidIs_2 ?_
  refine x_callV [_, _] C0 hN rfl (xRf_of hR (by decide) (Nat.zero_le _) (Nat.zero_le _)) mv_X12_saidThing wm_X12_304 dX12_saidIs_3 (isModel.k0 hM) rfl rfl (Nat.le_of_ble_eq_true rfl) (c_X12_saidThing hM hb (by omega) hf hx ?_)
  refine x_istore_n (L' := [_, _, _, _, _, _]) C0 hN (by decide) rfl dX12_saidIs_6 ?_
  refine x_aload_n C0 rfl dX12_saidIs_7 ?_
  refine x_getR C0 wf_X12_89 (isModel.k0 hM) rfl rfl (isModel.r10 hM) dX12_saidIs_8 ?_
  refine x_iconst (v := nI 5) C0 rfl dX12_saidIs_11 ?_
  refine x_iconst (v := nI 4) C0 rfl dX12_saidIs_12 ?_
  refine x_iload_n C0 rfl dX12_saidIs_13 ?_
  refine x_imulN C0 dX12_saidIs_14 ?_
  refine x_iaddN C0 dX12_saidIs_15 ?_
  refine x_iconst (v := nI 1) C0 rfl dX12_saidIs_16 ?_
  refine x_iaddN C0 dX12_saidIs_17 ?_
  refine x_ialoadN C0 (isModel.s10 hM) (by omega) (by omega) dX12_saidIs_18 ?_
  refine x_topi (v := fl (6 + 4 * k)) (by rw [hf (5 + 4 * k + 1) (by omega), show 5 + 4 * k + 1 = 6 + 4 * k by omega]) ?_
  refine x_istore (L' := [_, _, _, _, _, _]) C0 hN (by decide) rfl dX12_saidIs_19 ?_
  refine x_iconst (v := nI 0) C0 rfl dX12_saidIs_21 ?_
  refine x_istore (L' := [_, _, _, _, _, _]) C0 hN (by decide) rfl dX12_saidIs_22 ?_
  have := hloop k 0 (by omega)
  rw [show (if fl 3 ≤ nI k then sLast x (sThing fl x k) 0 (fl (6 + 4 * k)) else fl (6 + 4 * k)) = fl (6 + 4 * k) from ite_self _] at this
  exact this
