/-! THE QUESTIONS: sets -/
def seN (fl : xRow) (dq : xDq) (x td : xRow) (T N V : Nat) : Nat → Nat
  | 0 => 0
  | s + 1 => if sHit fl dq x td T N V s then seN fl dq x td T N V s + 1 else seN fl dq x td T N V s
def seL (fl : xRow) (dq : xDq) (x td : xRow) (T N V : Nat) (l0 : Int32) : Nat → Int32
  | 0 => l0
  | s + 1 => if sHit fl dq x td T N V s then seL fl dq x td T N V l0 s &&& nI s else seL fl dq x td T N V l0 s
def seO (fl : xRow) (dq : xDq) (x td : xRow) (T N V : Nat) : Nat → Int32
  | 0 => 0
  | s + 1 => if sHit fl dq x td T N V s then seO fl dq x td T N V s ||| nI s else seO fl dq x td T N V s
theorem se_yes {fl : xRow} {dq : xDq} {x td : xRow} {T N V : Nat} {l0 : Int32} {s : Nat} (h : sHit fl dq x td T N V s) : seN fl dq x td T N V (s + 1) = seN fl dq x td T N V s + 1 ∧ seL fl dq x td T N V l0 (s + 1) = seL fl dq x td T N V l0 s &&& nI s ∧ seO fl dq x td T N V (s + 1) = seO fl dq x td T N V s ||| nI s := by
  refine ⟨?_, ?_, ?_⟩
  · conv => lhs; unfold seN; rw [if_pos h]
  · conv => lhs; unfold seL; rw [if_pos h]
  · conv => lhs; unfold seO; rw [if_pos h]
theorem se_no {fl : xRow} {dq : xDq} {x td : xRow} {T N V : Nat} {l0 : Int32} {s : Nat} (h : ¬ sHit fl dq x td T N V s) : seN fl dq x td T N V (s + 1) = seN fl dq x td T N V s ∧ seL fl dq x td T N V l0 (s + 1) = seL fl dq x td T N V l0 s ∧ seO fl dq x td T N V (s + 1) = seO fl dq x td T N V s := by
  refine ⟨?_, ?_, ?_⟩
  · conv => lhs; unfold seN; rw [if_neg h]
  · conv => lhs; unfold seL; rw [if_neg h]
  · conv => lhs; unfold seO; rw [if_neg h]
theorem se_end {fl : xRow} {dq : xDq} {x td : xRow} {T N V : Nat} {l0 : Int32} (wx : WFx x T N V) (hN : N ≤ 8) : ∀ n, 2 ^ N + n ≤ 256 → seN fl dq x td T N V (2 ^ N + n) = seN fl dq x td T N V (2 ^ N) ∧ seL fl dq x td T N V l0 (2 ^ N + n) = seL fl dq x td T N V l0 (2 ^ N) ∧ seO fl dq x td T N V (2 ^ N + n) = seO fl dq x td T N V (2 ^ N)
  | 0, _ => ⟨rfl, rfl, rfl⟩
  | n + 1, h => by
    have e := se_no (fl := fl) (dq := dq) (td := td) (V := V) (T := T) (l0 := l0) (s := 2 ^ N + n) (N := N) (x := x) (fun q => cut_out wx hN (by omega) (by omega) q.1)
    rw [← Nat.add_assoc, e.1, e.2.1, e.2.2]
    exact se_end wx hN n (by omega)
theorem sub_and {v c : Int32} (h : v &&& (c ^^^ (-1)) = 0) : c &&& v = v := by
  have h1 : v.toBitVec &&& (c.toBitVec ^^^ (-1 : Int32).toBitVec) = 0#32 := by
    rw [← Int32.toBitVec_xor, ← Int32.toBitVec_and, h]; rfl
  apply Int32.toBitVec_inj.mp
  rw [Int32.toBitVec_and]
  rw [show (-1 : Int32).toBitVec = BitVec.allOnes 32 from rfl, BitVec.xor_allOnes] at h1
  ext i hi
  have := congrArg (fun z : BitVec 32 => z[i]) h1
  simp at this ⊢
  cases h3 : v.toBitVec[i] <;> simp_all
theorem all_and : ∀ N, N ≤ 8 → ∀ s, s < 2 ^ N → nI (2 ^ N - 1) &&& nI s = nI s := by decide +kernel
theorem seL_same {fl : xRow} {dq : xDq} {x td : xRow} {T N V : Nat} (hN : N ≤ 8) : ∀ s, s ≤ 2 ^ N → (seN fl dq x td T N V s = 0 ∧ seL fl dq x td T N V (nI (2 ^ N - 1)) s = nI (2 ^ N - 1) ∧ seL fl dq x td T N V (sCuttable x N) s = sCuttable x N) ∨ (¬ seN fl dq x td T N V s = 0 ∧ seL fl dq x td T N V (nI (2 ^ N - 1)) s = seL fl dq x td T N V (sCuttable x N) s)
  | 0, _ => Or.inl ⟨rfl, rfl, rfl⟩
  | s + 1, h => by
    by_cases g : sHit fl dq x td T N V s
    · have e1 := se_yes (l0 := nI (2 ^ N - 1)) g
      have e2 := se_yes (l0 := sCuttable x N) g
      refine Or.inr ⟨by rw [e1.1]; omega, ?_⟩
      rw [e1.2.1, e2.2.1]
      rcases seL_same hN s (by omega) with ⟨_, q1, q2⟩ | ⟨_, q⟩
      · rw [q1, q2, all_and N hN s (by omega), sub_and g.1]
      · rw [q]
    · have e1 := se_no (l0 := nI (2 ^ N - 1)) g
      have e2 := se_no (l0 := sCuttable x N) g
      rw [e1.1, e1.2.1, e2.2.1]
      exact seL_same hN s (by omega)
theorem seN_le {fl : xRow} {dq : xDq} {x td : xRow} {T N V : Nat} : ∀ s, seN fl dq x td T N V s ≤ s
  | 0 => Nat.le_refl _
  | s + 1 => by
    have := seN_le (fl := fl) (dq := dq) (x := x) (td := td) (T := T) (N := N) (V := V) s
    by_cases g : sHit fl dq x td T N V s
    · rw [(se_yes (l0 := 0) g).1]; omega
    · rw [(se_no (l0 := 0) g).1]; omega
def aSets (fl : xRow) (dq : xDq) (x td : xRow) (T N V : Nat) (c : Int32) : Int32 := if 0 ≤ c ∧ c ≤ 2 then (if c = 0 then nI (seN fl dq x td T N V (2 ^ N)) else if seN fl dq x td T N V (2 ^ N) = 0 then -1 else if c = 1 then seL fl dq x td T N V (sCuttable x N) (2 ^ N) else seO fl dq x td T N V (2 ^ N)) else -1
theorem c_X11_sets {S : xTS} {R : xTR} {I : xTI} {J : xTJ} {post : xPost} {f T N V : Nat} {fl x : xRow} {lw : Option (List (Nat × Nat))} (hS : fixd S R) (hf : R 0 2 = some f) (C : FCore I f fl lw T N V x) {td : xRow} (htd : hTd td) (tF : tFd I td) {c : Int32} (hp : ∀ I', FQ I I' → post (some (.int (aSets fl (sDq fl lw) x td T N V c))) S R I' J) : xSpec 7 yX11_sets cX11_sets 7 (some .int) 0 0 [.ref 0, .int c] S R I J post := by
  refine xSpec_of mt_X11_sets (Nat.le_of_ble_eq_true rfl) (fun G C0 hN hR E hI hZ => ?_)
  change XX G 0 0 0 [some (.ref 0), some (.int c), none, none, none, none, none] [] S R I J
  obtain ⟨hfm, wl, rF, rH, wx⟩ := id C
  have hF := hS.film hfm
  have hH := hS.hall (q := 33) (by decide)
  have hT6 := wl.2.1
  have hN8 := wl.2.2.2.1
  have hV6 := wl.2.2.2.2.2.1
  have eT : I f 0 = nI T := rF.1.trans wl.1
  have eN : I f 1 = nI N := rF.2.1.trans wl.2.2.1
  have eV : I f 2 = nI V := rF.2.2.1.trans wl.2.2.2.2.1
  have hfh : ∀ i j, i < 9 → j < 4 → f + i ≠ 33 + j := fun i j hi hj => hf_apart 33 (by decide) f hfm i hi j hj
  obtain ⟨fs0, fs1, fs2, fs3, fs4, fs5, fs6, fs7, fs8, fr4, fr5, fr6, fr7, fr8, fr9, fr10, fr11⟩ := id hF
  obtain ⟨hs0, hs1, hs2, hs3, hr4, hr5, hr6⟩ := id hH
  unfold aSets at hp
  have h256 := shl_le hN8
  have h80 : (0 ≤ c ∧ c ≤ 2) → ∀ I1, FQ I I1 → XX G 0 0 80 [some (.ref 0), some (.int c), some (.int (sCuttable x N)), some (.int (nI (seN fl (sDq fl lw) x td T N V (2 ^ N)))), some (.int (seL fl (sDq fl lw) x td T N V (sCuttable x N) (2 ^ N))), some (.int (seO fl (sDq fl lw) x td T N V (2 ^ N))), some (.int (nI 256))] [] S R I1 J := by
    intro hc I1 s1
    rw [if_pos hc] at hp
    have hle := seN_le (fl := fl) (dq := sDq fl lw) (x := x) (td := td) (T := T) (N := N) (V := V) (2 ^ N)
    refine x_iload_n C0 rfl dX11_sets_80 ?_
    refine x_if_ne (tgt := 86) C0 (by decide) dX11_sets_81 (fun g81 => ?_) (fun g81 => ?_)
    · refine x_iload_n C0 rfl dX11_sets_86 ?_
      refine x_if_ne (tgt := 92) C0 (by decide) dX11_sets_87 (fun g87 => ?_) (fun g87 => ?_)
      · refine x_iload_n C0 rfl dX11_sets_92 ?_
        refine x_iconst (v := 1) C0 rfl dX11_sets_93 ?_
        refine x_icmp_ne (tgt := 102) C0 (by decide) dX11_sets_94 (fun g94 => ?_) (fun g94 => ?_)
        · refine x_iload C0 rfl dX11_sets_102 ?_
          refine x_iret C0 E (by decide) (by decide) dX11_sets_104 ?_
          rw [if_neg g81, if_neg (fun q => g87 (by rw [q]; decide)), if_neg g94] at hp
          exact hp I1 s1
        · refine x_iload C0 rfl dX11_sets_97 ?_
          refine x_goto (tgt := 104) C0 (by decide) dX11_sets_99 ?_
          refine x_iret C0 E (by decide) (by decide) dX11_sets_104 ?_
          rw [if_neg g81, if_neg (fun q => g87 (by rw [q]; decide)), if_pos g94] at hp
          exact hp I1 s1
      · refine x_iconst (v := -1) C0 rfl dX11_sets_90 ?_
        refine x_iret C0 E (by decide) (by decide) dX11_sets_91 ?_
        rw [if_neg g81, if_pos ((nI_eq (b := 0) (by omega) (by omega)).mp g87)] at hp
        exact hp I1 s1
    · refine x_iload_n C0 rfl dX11_sets_84 ?_
      refine x_iret C0 E (by decide) (by decide) dX11_sets_85 ?_
      rw [if_pos g81] at hp
      exact hp I1 s1
  have h27 : (0 ≤ c ∧ c ≤ 2) → ∀ n s I1, s + n = 256 → FQ I I1 → XX G 0 0 27 [some (.ref 0), some (.int c), some (.int (sCuttable x N)), some (.int (nI (seN fl (sDq fl lw) x td T N V s))), some (.int (seL fl (sDq fl lw) x td T N V (sCuttable x N) s)), some (.int (seO fl (sDq fl lw) x td T N V s)), some (.int (nI s))] [] S R I1 J := by
    intro hc n
    induction n with
    | zero =>
      intro s I1 hn9 s1
      have hn8 : s = 256 := by omega
      refine x_iload C0 rfl dX11_sets_27 ?_
      refine x_sipush (v := 256) C0 rfl dX11_sets_29 ?_
      refine x_icmp_ge (tgt := 80) C0 (by decide) dX11_sets_32 (fun _ => ?_) (fun hkk => absurd ((by rw [hn8]; decide)) hkk)
      subst hn8
      have e := se_end (fl := fl) (dq := sDq fl lw) (td := td) (V := V) (T := T) (l0 := sCuttable x N) wx hN8 (256 - 2 ^ N) (by omega)
      rw [show 2 ^ N + (256 - 2 ^ N) = 256 by omega] at e
      rw [e.1, e.2.1, e.2.2]
      exact h80 hc I1 s1
    | succ n ih =>
      intro s I1 hn9 s1
      have CC := C.fq s1
      refine x_iload C0 rfl dX11_sets_27 ?_
      refine x_sipush (v := 256) C0 rfl dX11_sets_29 ?_
      refine x_icmp_ge (tgt := 80) C0 (by decide) dX11_sets_32 (fun hkk => absurd hkk ((nI_ge (b := 256) (by omega) (by omega)))) (fun _ => ?_)
      refine x_iload C0 rfl dX11_sets_35 ?_
      refine x_iload_n C0 rfl dX11_sets_37 ?_
      refine x_iconst (v := -1) C0 rfl dX11_sets_38 ?_
      refine x_ixor C0 dX11_sets_39 ?_
      refine x_iand C0 dX11_sets_40 ?_
      refine x_if_ne (tgt := 74) C0 (by decide) dX11_sets_41 (fun g41 => ?_) (fun g41 => ?_)
      · refine x_iinc (v := nI (s + 1)) (L' := [_, _, _, _, _, _, _]) C0 hN rfl (by decide) (nI_inc s) rfl dX11_sets_74 ?_
        refine x_goto (tgt := 27) C0 (by decide) dX11_sets_77 ?_
        have := ih (s + 1) I1 (by omega) s1
        have e := se_no (fl := fl) (dq := sDq fl lw) (x := x) (td := td) (T := T) (N := N) (V := V) (l0 := sCuttable x N) (s := s) (fun z => g41 z.1)
        rw [e.1, e.2.1, e.2.2] at this
        exact this
      · have hs2 := cut_in wx hN8 (by omega) g41
        refine x_aload_n C0 rfl dX11_sets_44 ?_
        refine x_iload C0 rfl dX11_sets_45 ?_
        refine x_callV [_] C0 hN rfl (xRf_of hR (by decide) (Nat.zero_le _) (Nat.zero_le _)) mv_X11_finishCut wm_X11_272 dX11_sets_47 (fixd.k0 hS) rfl rfl (Nat.le_of_ble_eq_true rfl) (c_X11_finishCut hS hf CC hs2 (fun I2 s2 _ r2 => ?_))
        refine x_aload_n C0 rfl dX11_sets_50 ?_
        refine x_callV [] C0 hN rfl (xRf_of hR (by decide) (Nat.zero_le _) (Nat.zero_le _)) mv_X11_isAsTold wm_X11_304 dX11_sets_51 (fixd.k0 hS) rfl rfl (Nat.le_of_ble_eq_true rfl) (c_X11_isAsTold hS hf (CC.fq s2) htd (tF.fq (s1.trans s2)) r2 (fun g51 => ?_) (fun g51 => ?_))
        · refine x_if_eq (tgt := 74) C0 (by decide) dX11_sets_54 (fun hkk => absurd hkk (by decide)) (fun _ => ?_)
          refine x_iinc (v := nI (seN fl (sDq fl lw) x td T N V s + 1)) (L' := [_, _, _, _, _, _, _]) C0 hN rfl (by decide) (nI_inc _) rfl dX11_sets_57 ?_
          refine x_iload C0 rfl dX11_sets_60 ?_
          refine x_iload C0 rfl dX11_sets_62 ?_
          refine x_iand C0 dX11_sets_64 ?_
          refine x_istore (L' := [_, _, _, _, _, _, _]) C0 hN (by decide) rfl dX11_sets_65 ?_
          refine x_iload C0 rfl dX11_sets_67 ?_
          refine x_iload C0 rfl dX11_sets_69 ?_
          refine x_ior C0 dX11_sets_71 ?_
          refine x_istore (L' := [_, _, _, _, _, _, _]) C0 hN (by decide) rfl dX11_sets_72 ?_
          refine x_iinc (v := nI (s + 1)) (L' := [_, _, _, _, _, _, _]) C0 hN rfl (by decide) (nI_inc s) rfl dX11_sets_74 ?_
          refine x_goto (tgt := 27) C0 (by decide) dX11_sets_77 ?_
          have := ih (s + 1) I2 (by omega) (s1.trans s2)
          have e := se_yes (fl := fl) (dq := sDq fl lw) (x := x) (td := td) (T := T) (N := N) (V := V) (l0 := sCuttable x N) (s := s) ⟨g41, g51⟩
          rw [e.1, e.2.1, e.2.2] at this
          exact this
        · refine x_if_eq (tgt := 74) C0 (by decide) dX11_sets_54 (fun _ => ?_) (fun hkk => absurd (by decide) hkk)
          refine x_iinc (v := nI (s + 1)) (L' := [_, _, _, _, _, _, _]) C0 hN rfl (by decide) (nI_inc s) rfl dX11_sets_74 ?_
          refine x_goto (tgt := 27) C0 (by decide) dX11_sets_77 ?_
          have := ih (s + 1) I2 (by omega) (s1.trans s2)
          have e := se_no (fl := fl) (dq := sDq fl lw) (x := x) (td := td) (T := T) (N := N) (V := V) (l0 := sCuttable x N) (s := s) (fun z => g51 z.2)
          rw [e.1, e.2.1, e.2.2] at this
          exact this
  refine x_iload_n C0 rfl dX11_sets_0 ?_
  refine x_if_lt (tgt := 9) C0 (by decide) dX11_sets_1 (fun g1 => ?_) (fun g1 => ?_)
  · refine x_iconst (v := -1) C0 rfl dX11_sets_9 ?_
    refine x_iret C0 E (by decide) (by decide) dX11_sets_10 ?_
    rw [if_neg (fun q => absurd q.1 (i_nle.mpr g1))] at hp
    exact hp I FQ.rf
  · refine x_iload_n C0 rfl dX11_sets_4 ?_
    refine x_iconst (v := 2) C0 rfl dX11_sets_5 ?_
    refine x_icmp_le (tgt := 11) C0 (by decide) dX11_sets_6 (fun g6 => ?_) (fun g6 => ?_)
    · refine x_aload_n C0 rfl dX11_sets_11 ?_
      refine x_callV [] C0 hN rfl (xRf_of hR (by decide) (Nat.zero_le _) (Nat.zero_le _)) mv_X11_cuttable wm_X11_269 dX11_sets_12 (fixd.k0 hS) rfl rfl (Nat.le_of_ble_eq_true rfl) (c_X11_cuttable hS hf C ?_)
      refine x_istore_n (L' := [_, _, _, _, _, _, _]) C0 hN (by decide) rfl dX11_sets_15 ?_
      refine x_iconst (v := 0) C0 rfl dX11_sets_16 ?_
      refine x_istore_n (L' := [_, _, _, _, _, _, _]) C0 hN (by decide) rfl dX11_sets_17 ?_
      refine x_iload_n C0 rfl dX11_sets_18 ?_
      refine x_istore (L' := [_, _, _, _, _, _, _]) C0 hN (by decide) rfl dX11_sets_19 ?_
      refine x_iconst (v := 0) C0 rfl dX11_sets_21 ?_
      refine x_istore (L' := [_, _, _, _, _, _, _]) C0 hN (by decide) rfl dX11_sets_22 ?_
      refine x_iconst (v := 0) C0 rfl dX11_sets_24 ?_
      refine x_istore (L' := [_, _, _, _, _, _, _]) C0 hN (by decide) rfl dX11_sets_25 ?_
      exact h27 ⟨i_nlt.mp g1, g6⟩ 256 0 I (by omega) FQ.rf
    · refine x_iconst (v := -1) C0 rfl dX11_sets_9 ?_
      refine x_iret C0 E (by decide) (by decide) dX11_sets_10 ?_
      rw [if_neg (fun q => g6 q.2)] at hp
      exact hp I FQ.rf
theorem c_X12_sets {S : xTS} {R : xTR} {I : xTI} {J : xTJ} {post : xPost} {T N V : Nat} {fl x : xRow} {lw : Option (List (Nat × Nat))} (hM : isModel S R) (C : MCore I fl lw T N V x) {td : xRow} (htd : hTd td) (tM : tMd I td) {c : Int32} (hp : ∀ I', MQs I I' → post (some (.int (aSets fl (sDq fl lw) x td T N V c))) S R I' J) : xSpec 9 yX12_sets cX12_sets 6 (some .int) 0 0 [.ref 135, .int c] S R I J post := by
  refine xSpec_of mt_X12_sets (Nat.le_of_ble_eq_true rfl) (fun G C0 hN hR E hI hZ => ?_)
  change XX G 0 0 0 [some (.ref 135), some (.int c), none, none, none, none] [] S R I J
  refine x_aload_n C0 rfl dX12_sets_0 ?_
  refine x_iconst (v := nI 0) C0 rfl dX12_sets_1 ?_
  refine x_putI C0 wf_X12_1 (isModel.k0 hM) rfl dX12_sets_2 ?_
  have q1 := MQs.thrown (I := I) (v := nI 0)
  have C := C.mq q1
  generalize u2 I 135 0 (nI 0) = I1 at q1 C ⊢
  obtain ⟨wl, mF, mL, mH, wx⟩ := id C
  have hT6 := wl.2.1
  have hN8 := wl.2.2.2.1
  have hV6 := wl.2.2.2.2.2.1
  have eT : I1 141 0 = nI T := (mF 0 (by decide)).trans wl.1
  have eN : I1 141 1 = nI N := (mF 1 (by decide)).trans wl.2.2.1
  have eV : I1 141 2 = nI V := (mF 2 (by decide)).trans wl.2.2.2.2.1
  have hb0 : 0 ≤ 2192 := by decide
  unfold aSets at hp
  have tM := tM.mq q1
  have h256 := shl_le hN8
  have h33 : (0 ≤ c ∧ c ≤ 2) → ∀ n s I2, s + n = 2 ^ N → MQs I1 I2 → XX G 0 0 33 [some (.ref 135), some (.int c), some (.int (nI (seN fl (sDq fl lw) x td T N V s))), some (.int (seL fl (sDq fl lw) x td T N V (nI (2 ^ N - 1)) s)), some (.int (seO fl (sDq fl lw) x td T N V s)), some (.int (nI s))] [] S R I2 J := by
    intro hc n
    rw [if_pos hc] at hp
    induction n with
    | zero =>
      intro s I2 hn9 s1
      have hn8 : s = 2 ^ N := by omega
      have eN2 : I2 141 1 = nI N := by rw [(C.mq s1).2.1 1 (by decide), wl.2.2.1]
      have hle := seN_le (fl := fl) (dq := sDq fl lw) (x := x) (td := td) (T := T) (N := N) (V := V) (2 ^ N)
      have hsame := seL_same (fl := fl) (dq := sDq fl lw) (x := x) (td := td) (T := T) (V := V) hN8 (2 ^ N) (Nat.le_refl _)
      subst hn8
      refine x_iload C0 rfl dX12_sets_33 ?_
      refine x_iconst (v := 1) C0 rfl dX12_sets_35 ?_
      refine x_aload_n C0 rfl dX12_sets_36 ?_
      refine x_callV [] C0 hN rfl (xRf_of hR (by decide) (Nat.zero_le _) (Nat.zero_le _)) mv_X12_scenes wm_X12_285 dX12_sets_37 (isModel.k0 hM) rfl rfl (Nat.le_of_ble_eq_true rfl) (c_X12_scenes hM ?_)
      refine x_topi eN2 ?_
      refine x_ishl C0 dX12_sets_40 ?_
      refine x_topi (pow_shl N hN8) ?_
      refine x_icmp_ge (tgt := 74) C0 (by decide) dX12_sets_41 (fun _ => ?_) (fun hkk => absurd ((Int32.le_refl _)) hkk)
      refine x_iload_n C0 rfl dX12_sets_74 ?_
      refine x_if_ne (tgt := 82) C0 (by decide) dX12_sets_75 (fun g75 => ?_) (fun g75 => ?_)
      · refine x_iload_n C0 rfl dX12_sets_82 ?_
        refine x_if_ne (tgt := 90) C0 (by decide) dX12_sets_83 (fun g83 => ?_) (fun g83 => ?_)
        · refine x_iload_n C0 rfl dX12_sets_90 ?_
          refine x_iconst (v := 1) C0 rfl dX12_sets_91 ?_
          refine x_icmp_ne (tgt := 99) C0 (by decide) dX12_sets_92 (fun g92 => ?_) (fun g92 => ?_)
          · refine x_iload C0 rfl dX12_sets_99 ?_
            refine x_iret C0 E (by decide) (by decide) dX12_sets_101 ?_
            rw [if_neg g75, if_neg (fun q => g83 (by rw [q]; decide)), if_neg g92] at hp
            exact hp I2 (q1.trans s1)
          · refine x_iload_n C0 rfl dX12_sets_95 ?_
            refine x_goto (tgt := 101) C0 (by decide) dX12_sets_96 ?_
            refine x_iret C0 E (by decide) (by decide) dX12_sets_101 ?_
            rw [if_neg g75, if_neg (fun q => g83 (by rw [q]; decide)), if_pos g92] at hp
            rw [(hsame.resolve_left (fun q => g83 (by rw [q.1]; decide))).2]
            exact hp I2 (q1.trans s1)
        · refine x_iconst (v := -1) C0 rfl dX12_sets_86 ?_
          refine x_goto (tgt := 101) C0 (by decide) dX12_sets_87 ?_
          refine x_iret C0 E (by decide) (by decide) dX12_sets_101 ?_
          rw [if_neg g75, if_pos ((nI_eq (b := 0) (by omega) (by omega)).mp g83)] at hp
          exact hp I2 (q1.trans s1)
      · refine x_iload_n C0 rfl dX12_sets_78 ?_
        refine x_goto (tgt := 101) C0 (by decide) dX12_sets_79 ?_
        refine x_iret C0 E (by decide) (by decide) dX12_sets_101 ?_
        rw [if_pos g75] at hp
        exact hp I2 (q1.trans s1)
    | succ n ih =>
      intro s I2 hn9 s1
      have CC := C.mq s1
      have eN2 : I2 141 1 = nI N := by rw [CC.2.1 1 (by decide), wl.2.2.1]
      have hyes : ∀ I3, MQs I2 I3 → sHit fl (sDq fl lw) x td T N V s → XX G 0 0 50 [some (.ref 135), some (.int c), some (.int (nI (seN fl (sDq fl lw) x td T N V s))), some (.int (seL fl (sDq fl lw) x td T N V (nI (2 ^ N - 1)) s)), some (.int (seO fl (sDq fl lw) x td T N V s)), some (.int (nI s))] [.int 1] S R I3 J := by
        intro I3 s3 hh
        refine x_if_eq (tgt := 68) C0 (by decide) dX12_sets_50 (fun hkk => absurd hkk (by decide)) (fun _ => ?_)
        refine x_iinc (v := nI (seN fl (sDq fl lw) x td T N V s + 1)) (L' := [_, _, _, _, _, _]) C0 hN rfl (by decide) (nI_inc _) rfl dX12_sets_53 ?_
        refine x_iload_n C0 rfl dX12_sets_56 ?_
        refine x_iload C0 rfl dX12_sets_57 ?_
        refine x_iand C0 dX12_sets_59 ?_
        refine x_istore_n (L' := [_, _, _, _, _, _]) C0 hN (by decide) rfl dX12_sets_60 ?_
        refine x_iload C0 rfl dX12_sets_61 ?_
        refine x_iload C0 rfl dX12_sets_63 ?_
        refine x_ior C0 dX12_sets_65 ?_
        refine x_istore (L' := [_, _, _, _, _, _]) C0 hN (by decide) rfl dX12_sets_66 ?_
        refine x_iinc (v := nI (s + 1)) (L' := [_, _, _, _, _, _]) C0 hN rfl (by decide) (nI_inc s) rfl dX12_sets_68 ?_
        refine x_goto (tgt := 33) C0 (by decide) dX12_sets_71 ?_
        have := ih (s + 1) I3 (by omega) (s1.trans s3)
        have e := se_yes (l0 := nI (2 ^ N - 1)) hh
        rw [e.1, e.2.1, e.2.2] at this
        exact this
      have hno : ∀ I3, MQs I2 I3 → ¬ sHit fl (sDq fl lw) x td T N V s → XX G 0 0 50 [some (.ref 135), some (.int c), some (.int (nI (seN fl (sDq fl lw) x td T N V s))), some (.int (seL fl (sDq fl lw) x td T N V (nI (2 ^ N - 1)) s)), some (.int (seO fl (sDq fl lw) x td T N V s)), some (.int (nI s))] [.int 0] S R I3 J := by
        intro I3 s3 hh
        refine x_if_eq (tgt := 68) C0 (by decide) dX12_sets_50 (fun _ => ?_) (fun hkk => absurd (by decide) hkk)
        refine x_iinc (v := nI (s + 1)) (L' := [_, _, _, _, _, _]) C0 hN rfl (by decide) (nI_inc s) rfl dX12_sets_68 ?_
        refine x_goto (tgt := 33) C0 (by decide) dX12_sets_71 ?_
        have := ih (s + 1) I3 (by omega) (s1.trans s3)
        have e := se_no (l0 := nI (2 ^ N - 1)) hh
        rw [e.1, e.2.1, e.2.2] at this
        exact this
      refine x_iload C0 rfl dX12_sets_33 ?_
      refine x_iconst (v := 1) C0 rfl dX12_sets_35 ?_
      refine x_aload_n C0 rfl dX12_sets_36 ?_
      refine x_callV [] C0 hN rfl (xRf_of hR (by decide) (Nat.zero_le _) (Nat.zero_le _)) mv_X12_scenes wm_X12_285 dX12_sets_37 (isModel.k0 hM) rfl rfl (Nat.le_of_ble_eq_true rfl) (c_X12_scenes hM ?_)
      refine x_topi eN2 ?_
      refine x_ishl C0 dX12_sets_40 ?_
      refine x_topi (pow_shl N hN8) ?_
      refine x_icmp_ge (tgt := 74) C0 (by decide) dX12_sets_41 (fun hkk => absurd hkk (nI_ge (by omega) (by omega))) (fun _ => ?_)
      refine x_aload_n C0 rfl dX12_sets_44 ?_
      refine x_iload C0 rfl dX12_sets_45 ?_
      refine x_callV [_] C0 hN rfl (xRf_of hR (by decide) (Nat.zero_le _) (Nat.zero_le _)) mv_X12_isTold wm_X12_393 dX12_sets_47 (isModel.k0 hM) rfl rfl (Nat.le_of_ble_eq_true rfl) (c_X12_isTold hM CC (tM.mq s1) (by omega) (fun I3 s3 _ r3 hh => ?_) (fun I3 s3 _ hh => ?_))
      · exact hyes I3 s3 hh
      · exact hno I3 s3 hh
  refine x_iload_n C0 rfl dX12_sets_5 ?_
  refine x_iconst (v := 0) C0 rfl dX12_sets_6 ?_
  refine x_iconst (v := 2) C0 rfl dX12_sets_7 ?_
  refine x_callS [_, _, _] C0 (xRf_of hR (by decide) (Nat.zero_le _) (Nat.zero_le _)) ms_X12_within wm_X12_207 dX12_sets_8 rfl rfl (Nat.le_of_ble_eq_true rfl) (c_X12_within  (fun g8 => ?_) (fun g8 => ?_))
  · refine x_if_ne (tgt := 16) C0 (by decide) dX12_sets_11 (fun _ => ?_) (fun hkk => absurd hkk (by decide))
    refine x_iconst (v := nI 0) C0 rfl dX12_sets_16 ?_
    refine x_istore_n (L' := [_, _, _, _, _, _]) C0 hN (by decide) rfl dX12_sets_17 ?_
    refine x_iconst (v := 1) C0 rfl dX12_sets_18 ?_
    refine x_aload_n C0 rfl dX12_sets_19 ?_
    refine x_callV [] C0 hN rfl (xRf_of hR (by decide) (Nat.zero_le _) (Nat.zero_le _)) mv_X12_scenes wm_X12_285 dX12_sets_20 (isModel.k0 hM) rfl rfl (Nat.le_of_ble_eq_true rfl) (c_X12_scenes hM ?_)
    refine x_topi eN ?_
    refine x_ishl C0 dX12_sets_23 ?_
    refine x_topi (pow_shl N hN8) ?_
    refine x_iconst (v := nI 1) C0 rfl dX12_sets_24 ?_
    refine x_isub C0 dX12_sets_25 ?_
    refine x_topi (show nI (2 ^ N) - nI 1 = nI (2 ^ N - 1) from nI_subn (Nat.two_pow_pos N)) ?_
    refine x_istore_n (L' := [_, _, _, _, _, _]) C0 hN (by decide) rfl dX12_sets_26 ?_
    refine x_iconst (v := nI 0) C0 rfl dX12_sets_27 ?_
    refine x_istore (L' := [_, _, _, _, _, _]) C0 hN (by decide) rfl dX12_sets_28 ?_
    refine x_iconst (v := nI 0) C0 rfl dX12_sets_30 ?_
    refine x_istore (L' := [_, _, _, _, _, _]) C0 hN (by decide) rfl dX12_sets_31 ?_
    exact h33 g8 (2 ^ N) 0 I1 (by omega) MQs.rf
  · refine x_if_ne (tgt := 16) C0 (by decide) dX12_sets_11 (fun hkk => absurd (by decide) hkk) (fun _ => ?_)
    refine x_iconst (v := -1) C0 rfl dX12_sets_14 ?_
    refine x_iret C0 E (by decide) (by decide) dX12_sets_15 ?_
    rw [if_neg g8] at hp
    exact hp I1 q1
