/-! THE QUESTIONS: lone, wavers, quarrels -/
def aLone (fl x : xRow) (V T : Nat) (i : Int32) : Int32 := if 0 ≤ i ∧ i < fl 2 then sSet (fun t => ¬ x (20 + 6 * i.toNatClampNeg + t) = -1 ∧ sSet (fun w => xbit (x 2) w ∧ x (20 + 6 * w + t) = x (20 + 6 * i.toNatClampNeg + t)) V &&& (((1 : Int32) <<< (i &&& 31)) ^^^ (-1)) = 0) T else -1
theorem c_X11_lone {S : xTS} {R : xTR} {I : xTI} {J : xTJ} {post : xPost} {f T N V : Nat} {fl x : xRow} {lw : Option (List (Nat × Nat))} (hS : fixd S R) (hf : R 0 2 = some f) (C : FCore I f fl lw T N V x) {i : Int32} (hp : ∀ I', FQ I I' → post (some (.int (aLone fl x V T i))) S R I' J) : xSpec 3 yX11_lone cX11_lone 5 (some .int) 0 0 [.ref 0, .int i] S R I J post := by
  refine xSpec_of mt_X11_lone (Nat.le_of_ble_eq_true rfl) (fun G C0 hN hR E hI hZ => ?_)
  change XX G 0 0 0 [some (.ref 0), some (.int i), none, none, none] [] S R I J
  obtain ⟨hfm, wl, rF, rH, wx⟩ := id C
  have hF := hS.film hfm
  have hH := hS.hall (q := 33) (by decide)
  have hT6 := wl.2.1
  have hN8 := wl.2.2.2.1
  have hV6 := wl.2.2.2.2.2.1
  have eT : I f 0 = nI T := rF.1.trans wl.1
  have eN : I f 1 = nI N := rF.2.1.trans wl.2.2.1
  have eV : I f 2 = nI V := rF.2.2.1.trans wl.2.2.2.2.1
  have hfh : ∀ i j, i < 9 → j < 4 → f + i ≠ 33 + j := fun i j hi hj => hf_apart 33 (by decide) f hfm i hi j hj
  obtain ⟨fs0, fs1, fs2, fs3, fs4, fs5, fs6, fs7, fs8, fr4, fr5, fr6, fr7, fr8, fr9, fr10, fr11⟩ := id hF
  obtain ⟨hs0, hs1, hs2, hs3, hr4, hr5, hr6⟩ := id hH
  unfold aLone at hp
  rw [← rF.2.2.1] at hp
  have h17 : ∀ a, a < V → i = nI a → (∀ I', FQ I I' → post (some (.int (sSet (fun t => ¬ x (20 + 6 * a + t) = -1 ∧ sSet (fun w => xbit (x 2) w ∧ x (20 + 6 * w + t) = x (20 + 6 * a + t)) V &&& (((1 : Int32) <<< (nI a &&& 31)) ^^^ (-1)) = 0) T))) S R I' J) → XX G 0 0 17 [some (.ref 0), some (.int (nI a)), some (.int 0), some (.int 0), none] [] S R I J := by
    intro a ha ea hp
    have hloop : ∀ n t v4, t + n = T → XX G 0 0 17 [some (.ref 0), some (.int (nI a)), some (.int (sSet (fun t => ¬ x (20 + 6 * a + t) = -1 ∧ sSet (fun w => xbit (x 2) w ∧ x (20 + 6 * w + t) = x (20 + 6 * a + t)) V &&& (((1 : Int32) <<< (nI a &&& 31)) ^^^ (-1)) = 0) t)), some (.int (nI t)), v4] [] S R I J := by
      intro n
      induction n with
      | zero =>
        intro t v4 hn9
        have hn8 : t = T := by omega
        refine x_iload_n C0 rfl dX11_lone_17 ?_
        refine x_aload_n C0 rfl dX11_lone_18 ?_
        refine x_getR C0 wf_X11_26 (fixd.k0 hS) rfl rfl hf dX11_lone_19 ?_
        refine x_getI C0 wf_X11_280 (by assumption) rfl dX11_lone_22 ?_
        refine x_topi eT ?_
        refine x_icmp_ge (tgt := 73) C0 (by decide) dX11_lone_25 (fun _ => ?_) (fun hkk => absurd ((by rw [hn8]; exact Int32.le_refl _)) hkk)
        refine x_iload_n C0 rfl dX11_lone_73 ?_
        refine x_iret C0 E (by decide) (by decide) dX11_lone_74 ?_
        subst hn8
        exact hp I FQ.rf
      | succ n ih =>
        intro t v4 hn9
        refine x_iload_n C0 rfl dX11_lone_17 ?_
        refine x_aload_n C0 rfl dX11_lone_18 ?_
        refine x_getR C0 wf_X11_26 (fixd.k0 hS) rfl rfl hf dX11_lone_19 ?_
        refine x_getI C0 wf_X11_280 (by assumption) rfl dX11_lone_22 ?_
        refine x_topi eT ?_
        refine x_icmp_ge (tgt := 73) C0 (by decide) dX11_lone_25 (fun hkk => absurd hkk (nI_ge (by omega) (by omega))) (fun _ => ?_)
        refine x_aload_n C0 rfl dX11_lone_28 ?_
        refine x_getR C0 wf_X11_46 (fixd.k0 hS) rfl rfl (fixd.now hS) dX11_lone_29 ?_
        refine x_iload_n C0 rfl dX11_lone_32 ?_
        refine x_iload_n C0 rfl dX11_lone_33 ?_
        refine x_callV [_, _] C0 hN rfl (xRf_of hR (by decide) (Nat.zero_le _) (Nat.zero_le _)) mv_X3_thought wm_X11_172 dX11_lone_34 (by assumption) rfl rfl (Nat.le_of_ble_eq_true rfl) (c_X3_thought hH (by omega) (by omega) ?_)
        refine x_topi (th_at rH (by omega) (by omega)) ?_
        refine x_istore (L' := [_, _, _, _, _]) C0 hN (by decide) rfl dX11_lone_37 ?_
        refine x_iload C0 rfl dX11_lone_39 ?_
        refine x_iconst (v := -1) C0 rfl dX11_lone_41 ?_
        refine x_icmp_eq (tgt := 67) C0 (by decide) dX11_lone_42 (fun g42 => ?_) (fun g42 => ?_)
        · refine x_iinc (v := nI (t + 1)) (L' := [_, _, _, _, _]) C0 hN rfl (by decide) (nI_inc t) rfl dX11_lone_67 ?_
          refine x_goto (tgt := 17) C0 (by decide) dX11_lone_70 ?_
          have := fun v5 => ih (t + 1) v5 (by omega)
          rw [sSet_no (fun q => q.1 g42)] at this
          exact this _
        · refine x_aload_n C0 rfl dX11_lone_45 ?_
          refine x_iload_n C0 rfl dX11_lone_46 ?_
          refine x_iload C0 rfl dX11_lone_47 ?_
          refine x_callV [_, _] C0 hN rfl (xRf_of hR (by decide) (Nat.zero_le _) (Nat.zero_le _)) mv_X11_thinkers wm_X11_328 dX11_lone_49 (fixd.k0 hS) rfl rfl (Nat.le_of_ble_eq_true rfl) (c_X11_thinkers hS hf C (by omega) ?_)
          refine x_iconst (v := 1) C0 rfl dX11_lone_52 ?_
          refine x_iload_n C0 rfl dX11_lone_53 ?_
          refine x_ishl C0 dX11_lone_54 ?_
          refine x_iconst (v := -1) C0 rfl dX11_lone_55 ?_
          refine x_ixor C0 dX11_lone_56 ?_
          refine x_iand C0 dX11_lone_57 ?_
          refine x_if_ne (tgt := 67) C0 (by decide) dX11_lone_58 (fun g58 => ?_) (fun g58 => ?_)
          · refine x_iinc (v := nI (t + 1)) (L' := [_, _, _, _, _]) C0 hN rfl (by decide) (nI_inc t) rfl dX11_lone_67 ?_
            refine x_goto (tgt := 17) C0 (by decide) dX11_lone_70 ?_
            have := fun v5 => ih (t + 1) v5 (by omega)
            rw [sSet_no (fun q => g58 q.2)] at this
            exact this _
          · refine x_iload_n C0 rfl dX11_lone_61 ?_
            refine x_iconst (v := 1) C0 rfl dX11_lone_62 ?_
            refine x_iload_n C0 rfl dX11_lone_63 ?_
            refine x_ishl C0 dX11_lone_64 ?_
            refine x_ior C0 dX11_lone_65 ?_
            refine x_istore_n (L' := [_, _, _, _, _]) C0 hN (by decide) rfl dX11_lone_66 ?_
            refine x_iinc (v := nI (t + 1)) (L' := [_, _, _, _, _]) C0 hN rfl (by decide) (nI_inc t) rfl dX11_lone_67 ?_
            refine x_goto (tgt := 17) C0 (by decide) dX11_lone_70 ?_
            have := fun v5 => ih (t + 1) v5 (by omega)
            rw [sSet_yes (And.intro g42 g58)] at this
            exact this _
    exact hloop T 0 none (by omega)
  refine x_aload_n C0 rfl dX11_lone_0 ?_
  refine x_getR C0 wf_X11_26 (fixd.k0 hS) rfl rfl hf dX11_lone_1 ?_
  refine x_iload_n C0 rfl dX11_lone_4 ?_
  refine x_callV [_] C0 hN rfl (xRf_of hR (by decide) (Nat.zero_le _) (Nat.zero_le _)) mv_X2_hasWatcher wm_X11_144 dX11_lone_5 (by assumption) rfl rfl (Nat.le_of_ble_eq_true rfl) (c_X2_hasWatcher (by assumption) (fun g0 => ?_) (fun g0 => ?_))
  · refine x_if_ne (tgt := 13) C0 (by decide) dX11_lone_8 (fun _ => ?_) (fun hkk => absurd hkk (by decide))
    refine x_iconst (v := 0) C0 rfl dX11_lone_13 ?_
    refine x_istore_n (L' := [_, _, _, _, _]) C0 hN (by decide) rfl dX11_lone_14 ?_
    refine x_iconst (v := 0) C0 rfl dX11_lone_15 ?_
    refine x_istore_n (L' := [_, _, _, _, _]) C0 hN (by decide) rfl dX11_lone_16 ?_
    obtain ⟨a, ha, ea⟩ := nI_ofi' eV (by omega) g0
    rw [if_pos g0] at hp
    subst ea
    rw [nI_clamp (by omega)] at hp
    exact h17 a ha rfl hp
  · refine x_if_ne (tgt := 13) C0 (by decide) dX11_lone_8 (fun hkk => absurd (by decide) hkk) (fun _ => ?_)
    refine x_iconst (v := -1) C0 rfl dX11_lone_11 ?_
    refine x_iret C0 E (by decide) (by decide) dX11_lone_12 ?_
    rw [if_neg g0] at hp
    exact hp I FQ.rf
theorem c_X12_lone {S : xTS} {R : xTR} {I : xTI} {J : xTJ} {post : xPost} {T N V : Nat} {fl x : xRow} {lw : Option (List (Nat × Nat))} (hM : isModel S R) (C : MCore I fl lw T N V x) {i : Int32} (hp : ∀ I', MQs I I' → post (some (.int (aLone fl x V T i))) S R I' J) : xSpec 3 yX12_lone cX12_lone 6 (some .int) 0 0 [.ref 135, .int i] S R I J post := by
  refine xSpec_of mt_X12_lone (Nat.le_of_ble_eq_true rfl) (fun G C0 hN hR E hI hZ => ?_)
  change XX G 0 0 0 [some (.ref 135), some (.int i), none, none, none, none] [] S R I J
  refine x_aload_n C0 rfl dX12_lone_0 ?_
  refine x_iconst (v := nI 0) C0 rfl dX12_lone_1 ?_
  refine x_putI C0 wf_X12_1 (isModel.k0 hM) rfl dX12_lone_2 ?_
  have q1 := MQs.thrown (I := I) (v := nI 0)
  have C := C.mq q1
  generalize u2 I 135 0 (nI 0) = I1 at q1 C ⊢
  obtain ⟨wl, mF, mL, mH, wx⟩ := id C
  have hT6 := wl.2.1
  have hN8 := wl.2.2.2.1
  have hV6 := wl.2.2.2.2.2.1
  have eT : I1 141 0 = nI T := (mF 0 (by decide)).trans wl.1
  have eN : I1 141 1 = nI N := (mF 1 (by decide)).trans wl.2.2.1
  have eV : I1 141 2 = nI V := (mF 2 (by decide)).trans wl.2.2.2.2.1
  have hb0 : 0 ≤ 2192 := by decide
  unfold aLone at hp
  rw [← mF 2 (by decide)] at hp
  have h19 : ∀ a, a < V → i = nI a → (∀ I', MQs I I' → post (some (.int (sSet (fun t => ¬ x (20 + 6 * a + t) = -1 ∧ sSet (fun w => xbit (x 2) w ∧ x (20 + 6 * w + t) = x (20 + 6 * a + t)) V &&& (((1 : Int32) <<< (nI a &&& 31)) ^^^ (-1)) = 0) T))) S R I' J) → XX G 0 0 19 [some (.ref 135), some (.int (nI a)), some (.int (nI 0)), some (.int (nI 0)), none, none] [] S R I1 J := by
    intro a ha ea hp
    have hloop : ∀ n t v4 v5, t + n = T → XX G 0 0 19 [some (.ref 135), some (.int (nI a)), some (.int (sSet (fun t => ¬ x (20 + 6 * a + t) = -1 ∧ sSet (fun w => xbit (x 2) w ∧ x (20 + 6 * w + t) = x (20 + 6 * a + t)) V &&& (((1 : Int32) <<< (nI a &&& 31)) ^^^ (-1)) = 0) t)), some (.int (nI t)), v4, v5] [] S R I1 J := by
      intro n
      induction n with
      | zero =>
        intro t v4 v5 hn9
        have hn8 : t = T := by omega
        refine x_iload_n C0 rfl dX12_lone_19 ?_
        refine x_aload_n C0 rfl dX12_lone_20 ?_
        refine x_callV [] C0 hN rfl (xRf_of hR (by decide) (Nat.zero_le _) (Nat.zero_le _)) mv_X12_things wm_X12_297 dX12_lone_21 (isModel.k0 hM) rfl rfl (Nat.le_of_ble_eq_true rfl) (c_X12_things hM ?_)
        refine x_topi eT ?_
        refine x_icmp_ge (tgt := 129) C0 (by decide) dX12_lone_24 (fun _ => ?_) (fun hkk => absurd ((by rw [hn8]; exact Int32.le_refl _)) hkk)
        refine x_iload_n C0 rfl dX12_lone_129 ?_
        refine x_iret C0 E (by decide) (by decide) dX12_lone_130 ?_
        subst hn8
        exact hp I1 q1
      | succ n ih =>
        intro t v4 v5 hn9
        have hin : ∀ m w v, w + m = V → ((v = nI 1 ∧ ¬ x (20 + 6 * a + t) = -1 ∧ ∀ u, u < w → u ≠ a → ¬ (xbit (x 2) u ∧ x (20 + 6 * u + t) = x (20 + 6 * a + t))) ∨ (v = nI 0 ∧ ¬ (¬ x (20 + 6 * a + t) = -1 ∧ ∀ u, u < w → u ≠ a → ¬ (xbit (x 2) u ∧ x (20 + 6 * u + t) = x (20 + 6 * a + t))))) → XX G 0 0 47 [some (.ref 135), some (.int (nI a)), some (.int (sSet (fun t => ¬ x (20 + 6 * a + t) = -1 ∧ sSet (fun w => xbit (x 2) w ∧ x (20 + 6 * w + t) = x (20 + 6 * a + t)) V &&& (((1 : Int32) <<< (nI a &&& 31)) ^^^ (-1)) = 0) t)), some (.int (nI t)), some (.int v), some (.int (nI w))] [] S R I1 J := by
          intro m
          induction m with
          | zero =>
            intro w v hw hv
            have hw8 : w = V := by omega
            have key := lone_iff (p := (fun w => xbit (x 2) w ∧ x (20 + 6 * w + t) = x (20 + 6 * a + t))) (i := a) (by omega) V (by omega)
            subst hw8
            rcases hv with ⟨rfl, q⟩ | ⟨rfl, q⟩
            · refine x_iload C0 rfl dX12_lone_47 ?_
              refine x_aload_n C0 rfl dX12_lone_49 ?_
              refine x_callV [] C0 hN rfl (xRf_of hR (by decide) (Nat.zero_le _) (Nat.zero_le _)) mv_X12_watchers wm_X12_282 dX12_lone_50 (isModel.k0 hM) rfl rfl (Nat.le_of_ble_eq_true rfl) (c_X12_watchers hM ?_)
              refine x_topi eV ?_
              refine x_icmp_ge (tgt := 108) C0 (by decide) dX12_lone_53 (fun _ => ?_) (fun hkk => absurd ((Int32.le_refl _)) hkk)
              refine x_iload_n C0 rfl dX12_lone_108 ?_
              refine x_iload C0 rfl dX12_lone_109 ?_
              refine x_if_eq (tgt := 120) C0 (by decide) dX12_lone_111 (fun hkk => absurd hkk (by decide)) (fun _ => ?_)
              refine x_iconst (v := 1) C0 rfl dX12_lone_114 ?_
              refine x_iload_n C0 rfl dX12_lone_115 ?_
              refine x_ishl C0 dX12_lone_116 ?_
              refine x_goto (tgt := 121) C0 (by decide) dX12_lone_117 ?_
              refine x_ior C0 dX12_lone_121 ?_
              refine x_istore_n (L' := [_, _, _, _, _, _]) C0 hN (by decide) rfl dX12_lone_122 ?_
              refine x_iinc (v := nI (t + 1)) (L' := [_, _, _, _, _, _]) C0 hN rfl (by decide) (nI_inc t) rfl dX12_lone_123 ?_
              refine x_goto (tgt := 19) C0 (by decide) dX12_lone_126 ?_
              have := ih (t + 1) (some (.int (nI 1))) (some (.int (nI w))) (by omega)
              rw [sSet_yes (And.intro q.1 (key.mpr q.2))] at this
              exact this
            · refine x_iload C0 rfl dX12_lone_47 ?_
              refine x_aload_n C0 rfl dX12_lone_49 ?_
              refine x_callV [] C0 hN rfl (xRf_of hR (by decide) (Nat.zero_le _) (Nat.zero_le _)) mv_X12_watchers wm_X12_282 dX12_lone_50 (isModel.k0 hM) rfl rfl (Nat.le_of_ble_eq_true rfl) (c_X12_watchers hM ?_)
              refine x_topi eV ?_
              refine x_icmp_ge (tgt := 108) C0 (by decide) dX12_lone_53 (fun _ => ?_) (fun hkk => absurd ((Int32.le_refl _)) hkk)
              refine x_iload_n C0 rfl dX12_lone_108 ?_
              refine x_iload C0 rfl dX12_lone_109 ?_
              refine x_if_eq (tgt := 120) C0 (by decide) dX12_lone_111 (fun _ => ?_) (fun hkk => absurd (by decide) hkk)
              refine x_iconst (v := 0) C0 rfl dX12_lone_120 ?_
              refine x_ior C0 dX12_lone_121 ?_
              refine x_istore_n (L' := [_, _, _, _, _, _]) C0 hN (by decide) rfl dX12_lone_122 ?_
              refine x_iinc (v := nI (t + 1)) (L' := [_, _, _, _, _, _]) C0 hN rfl (by decide) (nI_inc t) rfl dX12_lone_123 ?_
              refine x_goto (tgt := 19) C0 (by decide) dX12_lone_126 ?_
              have := ih (t + 1) (some (.int (nI 0))) (some (.int (nI w))) (by omega)
              rw [sSet_no (fun z => q ⟨z.1, key.mp z.2⟩)] at this
              rw [Int32.or_zero]
              exact this
          | succ m ihm =>
            intro w v hw hv
            rcases hv with ⟨rfl, q⟩ | ⟨rfl, q⟩
            · refine x_iload C0 rfl dX12_lone_47 ?_
              refine x_aload_n C0 rfl dX12_lone_49 ?_
              refine x_callV [] C0 hN rfl (xRf_of hR (by decide) (Nat.zero_le _) (Nat.zero_le _)) mv_X12_watchers wm_X12_282 dX12_lone_50 (isModel.k0 hM) rfl rfl (Nat.le_of_ble_eq_true rfl) (c_X12_watchers hM ?_)
              refine x_topi eV ?_
              refine x_icmp_ge (tgt := 108) C0 (by decide) dX12_lone_53 (fun hkk => absurd hkk (nI_ge (by omega) (by omega))) (fun _ => ?_)
              refine x_iload C0 rfl dX12_lone_56 ?_
              refine x_if_eq (tgt := 99) C0 (by decide) dX12_lone_58 (fun hkk => absurd hkk (by decide)) (fun _ => ?_)
              refine x_iload C0 rfl dX12_lone_61 ?_
              refine x_iload_n C0 rfl dX12_lone_63 ?_
              refine x_icmp_eq (tgt := 95) C0 (by decide) dX12_lone_64 (fun g64 => ?_) (fun g64 => ?_)
              · refine x_iconst (v := nI 1) C0 rfl dX12_lone_95 ?_
                refine x_goto (tgt := 100) C0 (by decide) dX12_lone_96 ?_
                refine x_istore (L' := [_, _, _, _, _, _]) C0 hN (by decide) rfl dX12_lone_100 ?_
                refine x_iinc (v := nI (w + 1)) (L' := [_, _, _, _, _, _]) C0 hN rfl (by decide) (nI_inc w) rfl dX12_lone_102 ?_
                refine x_goto (tgt := 47) C0 (by decide) dX12_lone_105 ?_
                exact ihm (w + 1) _ (by omega) (Or.inl ⟨rfl, q.1, fun u hu hn z => by
                  rcases Nat.lt_or_ge u w with g | g
                  · exact q.2 u g hn z
                  · have eu : u = w := by omega
                    subst eu
                    exact hn (nI_inj8 (by omega) (by omega) |>.mp g64)⟩)
              · refine x_aload_n C0 rfl dX12_lone_67 ?_
                refine x_iconst (v := nI 0) C0 rfl dX12_lone_68 ?_
                refine x_iload C0 rfl dX12_lone_69 ?_
                refine x_callV [_, _] C0 hN rfl (xRf_of hR (by decide) (Nat.zero_le _) (Nat.zero_le _)) mv_X12_isIn wm_X12_319 dX12_lone_71 (isModel.k0 hM) rfl rfl (Nat.le_of_ble_eq_true rfl) (c_X12_isIn hM hb0 (fun g71 => ?_) (fun g71 => ?_))
                · refine x_if_eq (tgt := 95) C0 (by decide) dX12_lone_74 (fun hkk => absurd hkk (by decide)) (fun _ => ?_)
                  refine x_aload_n C0 rfl dX12_lone_77 ?_
                  refine x_iconst (v := nI 0) C0 rfl dX12_lone_78 ?_
                  refine x_iload C0 rfl dX12_lone_79 ?_
                  refine x_iload_n C0 rfl dX12_lone_81 ?_
                  refine x_callV [_, _, _] C0 hN rfl (xRf_of hR (by decide) (Nat.zero_le _) (Nat.zero_le _)) mv_X12_thoughtOf wm_X12_325 dX12_lone_82 (isModel.k0 hM) rfl rfl (Nat.le_of_ble_eq_true rfl) (c_X12_thoughtOf hM hb0 (by omega) (by omega) ?_)
                  refine x_topi (mth_at mH (by omega) (by omega)) ?_
                  refine x_aload_n C0 rfl dX12_lone_85 ?_
                  refine x_iconst (v := nI 0) C0 rfl dX12_lone_86 ?_
                  refine x_iload_n C0 rfl dX12_lone_87 ?_
                  refine x_iload_n C0 rfl dX12_lone_88 ?_
                  refine x_callV [_, _, _] C0 hN rfl (xRf_of hR (by decide) (Nat.zero_le _) (Nat.zero_le _)) mv_X12_thoughtOf wm_X12_325 dX12_lone_89 (isModel.k0 hM) rfl rfl (Nat.le_of_ble_eq_true rfl) (c_X12_thoughtOf hM hb0 (by omega) (by omega) ?_)
                  refine x_topi (mth_at mH (by omega) (by omega)) ?_
                  refine x_icmp_eq (tgt := 99) C0 (by decide) dX12_lone_92 (fun g92 => ?_) (fun g92 => ?_)
                  · refine x_iconst (v := nI 0) C0 rfl dX12_lone_99 ?_
                    refine x_istore (L' := [_, _, _, _, _, _]) C0 hN (by decide) rfl dX12_lone_100 ?_
                    refine x_iinc (v := nI (w + 1)) (L' := [_, _, _, _, _, _]) C0 hN rfl (by decide) (nI_inc w) rfl dX12_lone_102 ?_
                    refine x_goto (tgt := 47) C0 (by decide) dX12_lone_105 ?_
                    exact ihm (w + 1) _ (by omega) (Or.inr ⟨rfl, fun z => z.2 w (by omega) (fun e => g64 (by rw [e])) ⟨by rw [← mH 2 (by decide)]; exact g71, by first | exact g92 | exact Classical.not_not.mp g92⟩⟩)
                  · refine x_iconst (v := nI 1) C0 rfl dX12_lone_95 ?_
                    refine x_goto (tgt := 100) C0 (by decide) dX12_lone_96 ?_
                    refine x_istore (L' := [_, _, _, _, _, _]) C0 hN (by decide) rfl dX12_lone_100 ?_
                    refine x_iinc (v := nI (w + 1)) (L' := [_, _, _, _, _, _]) C0 hN rfl (by decide) (nI_inc w) rfl dX12_lone_102 ?_
                    refine x_goto (tgt := 47) C0 (by decide) dX12_lone_105 ?_
                    exact ihm (w + 1) _ (by omega) (Or.inl ⟨rfl, q.1, fun u hu hn z => by
                      rcases Nat.lt_or_ge u w with g | g
                      · exact q.2 u g hn z
                      · have eu : u = w := by omega
                        subst eu
                        exact g92 z.2⟩)
                · refine x_if_eq (tgt := 95) C0 (by decide) dX12_lone_74 (fun _ => ?_) (fun hkk => absurd (by decide) hkk)
                  refine x_iconst (v := nI 1) C0 rfl dX12_lone_95 ?_
                  refine x_goto (tgt := 100) C0 (by decide) dX12_lone_96 ?_
                  refine x_istore (L' := [_, _, _, _, _, _]) C0 hN (by decide) rfl dX12_lone_100 ?_
                  refine x_iinc (v := nI (w + 1)) (L' := [_, _, _, _, _, _]) C0 hN rfl (by decide) (nI_inc w) rfl dX12_lone_102 ?_
                  refine x_goto (tgt := 47) C0 (by decide) dX12_lone_105 ?_
                  exact ihm (w + 1) _ (by omega) (Or.inl ⟨rfl, q.1, fun u hu hn z => by
                    rcases Nat.lt_or_ge u w with g | g
                    · exact q.2 u g hn z
                    · have eu : u = w := by omega
                      subst eu
                      exact g71 (by rw [mH 2 (by decide)]; exact z.1)⟩)
            · refine x_iload C0 rfl dX12_lone_47 ?_
              refine x_aload_n C0 rfl dX12_lone_49 ?_
              refine x_callV [] C0 hN rfl (xRf_of hR (by decide) (Nat.zero_le _) (Nat.zero_le _)) mv_X12_watchers wm_X12_282 dX12_lone_50 (isModel.k0 hM) rfl rfl (Nat.le_of_ble_eq_true rfl) (c_X12_watchers hM ?_)
              refine x_topi eV ?_
              refine x_icmp_ge (tgt := 108) C0 (by decide) dX12_lone_53 (fun hkk => absurd hkk (nI_ge (by omega) (by omega))) (fun _ => ?_)
              refine x_iload C0 rfl dX12_lone_56 ?_
              refine x_if_eq (tgt := 99) C0 (by decide) dX12_lone_58 (fun _ => ?_) (fun hkk => absurd (by decide) hkk)
              refine x_iconst (v := nI 0) C0 rfl dX12_lone_99 ?_
              refine x_istore (L' := [_, _, _, _, _, _]) C0 hN (by decide) rfl dX12_lone_100 ?_
              refine x_iinc (v := nI (w + 1)) (L' := [_, _, _, _, _, _]) C0 hN rfl (by decide) (nI_inc w) rfl dX12_lone_102 ?_
              refine x_goto (tgt := 47) C0 (by decide) dX12_lone_105 ?_
              exact ihm (w + 1) _ (by omega) (Or.inr ⟨rfl, fun z => q ⟨z.1, fun u hu => z.2 u (by omega)⟩⟩)
        refine x_iload_n C0 rfl dX12_lone_19 ?_
        refine x_aload_n C0 rfl dX12_lone_20 ?_
        refine x_callV [] C0 hN rfl (xRf_of hR (by decide) (Nat.zero_le _) (Nat.zero_le _)) mv_X12_things wm_X12_297 dX12_lone_21 (isModel.k0 hM) rfl rfl (Nat.le_of_ble_eq_true rfl) (c_X12_things hM ?_)
        refine x_topi eT ?_
        refine x_icmp_ge (tgt := 129) C0 (by decide) dX12_lone_24 (fun hkk => absurd hkk (nI_ge (by omega) (by omega))) (fun _ => ?_)
        refine x_aload_n C0 rfl dX12_lone_27 ?_
        refine x_iconst (v := nI 0) C0 rfl dX12_lone_28 ?_
        refine x_iload_n C0 rfl dX12_lone_29 ?_
        refine x_iload_n C0 rfl dX12_lone_30 ?_
        refine x_callV [_, _, _] C0 hN rfl (xRf_of hR (by decide) (Nat.zero_le _) (Nat.zero_le _)) mv_X12_thoughtOf wm_X12_325 dX12_lone_31 (isModel.k0 hM) rfl rfl (Nat.le_of_ble_eq_true rfl) (c_X12_thoughtOf hM hb0 (by omega) (by omega) ?_)
        refine x_topi (mth_at mH (by omega) (by omega)) ?_
        refine x_if_lt (tgt := 41) C0 (by decide) dX12_lone_34 (fun g34 => ?_) (fun g34 => ?_)
        · refine x_iconst (v := nI 0) C0 rfl dX12_lone_41 ?_
          refine x_istore (L' := [_, _, _, _, _, _]) C0 hN (by decide) rfl dX12_lone_42 ?_
          refine x_iconst (v := nI 0) C0 rfl dX12_lone_44 ?_
          refine x_istore (L' := [_, _, _, _, _, _]) C0 hN (by decide) rfl dX12_lone_45 ?_
          exact hin V 0 _ (by omega) (Or.inr ⟨rfl, fun z => z.1 ((three_lt (th_three wx (w := a) (t := t) (by omega) (by omega))).mp g34)⟩)
        · refine x_iconst (v := nI 1) C0 rfl dX12_lone_37 ?_
          refine x_goto (tgt := 42) C0 (by decide) dX12_lone_38 ?_
          refine x_istore (L' := [_, _, _, _, _, _]) C0 hN (by decide) rfl dX12_lone_42 ?_
          refine x_iconst (v := nI 0) C0 rfl dX12_lone_44 ?_
          refine x_istore (L' := [_, _, _, _, _, _]) C0 hN (by decide) rfl dX12_lone_45 ?_
          exact hin V 0 _ (by omega) (Or.inl ⟨rfl, fun z => absurd ((three_lt (th_three wx (w := a) (t := t) (by omega) (by omega))).mpr z) (i_nlt.mpr (i_nlt.mp g34)), fun u hu => absurd hu (by omega)⟩)
    exact hloop T 0 none none (by omega)
  refine x_aload_n C0 rfl dX12_lone_5 ?_
  refine x_iload_n C0 rfl dX12_lone_6 ?_
  refine x_callV [_] C0 hN rfl (xRf_of hR (by decide) (Nat.zero_le _) (Nat.zero_le _)) mv_X12_isWatcher wm_X12_344 dX12_lone_7 (isModel.k0 hM) rfl rfl (Nat.le_of_ble_eq_true rfl) (c_X12_isWatcher hM (fun g0 => ?_) (fun g0 => ?_))
  · refine x_if_ne (tgt := 15) C0 (by decide) dX12_lone_10 (fun _ => ?_) (fun hkk => absurd hkk (by decide))
    refine x_iconst (v := nI 0) C0 rfl dX12_lone_15 ?_
    refine x_istore_n (L' := [_, _, _, _, _, _]) C0 hN (by decide) rfl dX12_lone_16 ?_
    refine x_iconst (v := nI 0) C0 rfl dX12_lone_17 ?_
    refine x_istore_n (L' := [_, _, _, _, _, _]) C0 hN (by decide) rfl dX12_lone_18 ?_
    obtain ⟨a, ha, ea⟩ := nI_ofi' eV (by omega) g0
    rw [if_pos g0] at hp
    subst ea
    rw [nI_clamp (by omega)] at hp
    exact h19 a ha rfl hp
  · refine x_if_ne (tgt := 15) C0 (by decide) dX12_lone_10 (fun hkk => absurd (by decide) hkk) (fun _ => ?_)
    refine x_iconst (v := -1) C0 rfl dX12_lone_13 ?_
    refine x_iret C0 E (by decide) (by decide) dX12_lone_14 ?_
    rw [if_neg g0] at hp
    exact hp I1 q1
def aWavers (fl : xRow) (dq : xDq) (x : xRow) (V N : Nat) (i : Int32) : Int32 := if 0 ≤ i ∧ i < fl 2 then sWvE fl dq V i.toNatClampNeg (N - (x 0).toNatClampNeg) (x 0).toNatClampNeg x 0 else -1
theorem ucp_hall {I : xTI} {b : Nat} {x : xRow} (h : MHall I 0 x) (n : Nat) (hn : 62 ≤ n) : MHall (ucp I 0 b n) b x := by
  intro i hi
  unfold ucp
  rw [if_pos ⟨rfl, by omega, by omega⟩, show 0 + (b + i - b) = 0 + i by omega]
  exact h i hi
theorem c_X12_wavers {S : xTS} {R : xTR} {I : xTI} {J : xTJ} {post : xPost} {T N V : Nat} {fl x : xRow} {lw : Option (List (Nat × Nat))} (hM : isModel S R) (C : MCore I fl lw T N V x) {i : Int32} (hp : ∀ I', MQs I I' → post (some (.int (aWavers fl (sDq fl lw) x V N i))) S R I' J) : xSpec 7 yX12_wavers cX12_wavers 2 (some .int) 0 0 [.ref 135, .int i] S R I J post := by
  refine xSpec_of mt_X12_wavers (Nat.le_of_ble_eq_true rfl) (fun G C0 hN hR E hI hZ => ?_)
  change XX G 0 0 0 [some (.ref 135), some (.int i)] [] S R I J
  refine x_aload_n C0 rfl dX12_wavers_0 ?_
  refine x_iconst (v := nI 0) C0 rfl dX12_wavers_1 ?_
  refine x_putI C0 wf_X12_1 (isModel.k0 hM) rfl dX12_wavers_2 ?_
  have q1 := MQs.thrown (I := I) (v := nI 0)
  have C := C.mq q1
  generalize u2 I 135 0 (nI 0) = I1 at q1 C ⊢
  obtain ⟨wl, mF, mL, mH, wx⟩ := id C
  have hT6 := wl.2.1
  have hN8 := wl.2.2.2.1
  have hV6 := wl.2.2.2.2.2.1
  have eT : I1 141 0 = nI T := (mF 0 (by decide)).trans wl.1
  have eN : I1 141 1 = nI N := (mF 1 (by decide)).trans wl.2.2.1
  have eV : I1 141 2 = nI V := (mF 2 (by decide)).trans wl.2.2.2.2.1
  have hb0 : 0 ≤ 2192 := by decide
  unfold aWavers at hp
  rw [← mF 2 (by decide)] at hp
  refine x_aload_n C0 rfl dX12_wavers_5 ?_
  refine x_iload_n C0 rfl dX12_wavers_6 ?_
  refine x_callV [_] C0 hN rfl (xRf_of hR (by decide) (Nat.zero_le _) (Nat.zero_le _)) mv_X12_isWatcher wm_X12_344 dX12_wavers_7 (isModel.k0 hM) rfl rfl (Nat.le_of_ble_eq_true rfl) (c_X12_isWatcher hM (fun g0 => ?_) (fun g0 => ?_))
  · refine x_if_ne (tgt := 15) C0 (by decide) dX12_wavers_10 (fun _ => ?_) (fun hkk => absurd hkk (by decide))
    obtain ⟨a, ha, ea⟩ := nI_ofi' eV (by omega) g0
    rw [if_pos g0] at hp
    subst ea
    rw [nI_clamp (by omega)] at hp
    refine x_aload_n C0 rfl dX12_wavers_15 ?_
    refine x_iconst (v := nI 0) C0 rfl dX12_wavers_16 ?_
    refine x_sipush (v := nI 2058) C0 rfl dX12_wavers_17 ?_
    refine x_bipush (v := nI 62) C0 rfl dX12_wavers_20 ?_
    refine x_callV [_, _, _] C0 hN rfl (xRf_of hR (by decide) (Nat.zero_le _) (Nat.zero_le _)) mv_X12_copies wm_X12_294 dX12_wavers_22 (isModel.k0 hM) rfl rfl (Nat.le_of_ble_eq_true rfl) (c_X12_copies hM (Or.inl (by omega)) (by omega) (by omega) ?_)
    have q2 : MQs I1 (ucp I1 0 2058 62) := MQs.copy (by decide)
    obtain ⟨-, mF2, mL2, -, -⟩ := C.mq q2
    refine x_aload_n C0 rfl dX12_wavers_25 ?_
    refine x_sipush (v := nI 2058) C0 rfl dX12_wavers_26 ?_
    refine x_callV [_] C0 hN rfl (xRf_of hR (by decide) (Nat.zero_le _) (Nat.zero_le _)) mv_X12_ends wm_X12_372 dX12_wavers_29 (isModel.k0 hM) rfl rfl (Nat.le_of_ble_eq_true rfl) (c_X12_ends hM (by decide) wl wx mF2 mL2 (ucp_hall mH 62 (by decide)) (fun k I2 hkN hx0 s2 r2 v2 => ?_))
    refine x_aload_n C0 rfl dX12_wavers_32 ?_
    refine x_getR C0 wf_X12_126 (isModel.k0 hM) rfl rfl (isModel.r27 hM) dX12_wavers_33 ?_
    refine x_iload_n C0 rfl dX12_wavers_36 ?_
    refine x_ialoadN C0 (isModel.s27 hM) (by omega) (by omega) dX12_wavers_37 ?_
    refine x_iret C0 E (by decide) (by decide) dX12_wavers_38 ?_
    rw [hx0, nI_clamp (by omega)] at hp
    rw [v2 a (by omega)]
    exact hp I2 ((q1.trans q2).trans (MQs.same s2 (by decide)))
  · refine x_if_ne (tgt := 15) C0 (by decide) dX12_wavers_10 (fun hkk => absurd (by decide) hkk) (fun _ => ?_)
    refine x_iconst (v := -1) C0 rfl dX12_wavers_13 ?_
    refine x_iret C0 E (by decide) (by decide) dX12_wavers_14 ?_
    rw [if_neg g0] at hp
    exact hp I1 q1
theorem c_X11_wavers {S : xTS} {R : xTR} {I : xTI} {J : xTJ} {post : xPost} {f T N V : Nat} {fl x : xRow} {lw : Option (List (Nat × Nat))} (hS : fixd S R) (hf : R 0 2 = some f) (C : FCore I f fl lw T N V x) {i : Int32} (hp : ∀ I', FQ I I' → post (some (.int (aWavers fl (sDq fl lw) x V N i))) S R I' J) : xSpec 5 yX11_wavers cX11_wavers 5 (some .int) 0 0 [.ref 0, .int i] S R I J post := by
  refine xSpec_of mt_X11_wavers (Nat.le_of_ble_eq_true rfl) (fun G C0 hN hR E hI hZ => ?_)
  change XX G 0 0 0 [some (.ref 0), some (.int i), none, none, none] [] S R I J
  obtain ⟨hfm, wl, rF, rH, wx⟩ := id C
  have hF := hS.film hfm
  have hH := hS.hall (q := 33) (by decide)
  have hT6 := wl.2.1
  have hN8 := wl.2.2.2.1
  have hV6 := wl.2.2.2.2.2.1
  have eT : I f 0 = nI T := rF.1.trans wl.1
  have eN : I f 1 = nI N := rF.2.1.trans wl.2.2.1
  have eV : I f 2 = nI V := rF.2.2.1.trans wl.2.2.2.2.1
  have hfh : ∀ i j, i < 9 → j < 4 → f + i ≠ 33 + j := fun i j hi hj => hf_apart 33 (by decide) f hfm i hi j hj
  obtain ⟨fs0, fs1, fs2, fs3, fs4, fs5, fs6, fs7, fs8, fr4, fr5, fr6, fr7, fr8, fr9, fr10, fr11⟩ := id hF
  obtain ⟨hs0, hs1, hs2, hs3, hr4, hr5, hr6⟩ := id hH
  unfold aWavers at hp
  rw [← rF.2.2.1] at hp
  have hT := hS.hall (q := 37) (by decide)
  obtain ⟨hq0, hq1, hq2, hq3, -⟩ := id hT
  have hf37 : ∀ i j, i < 9 → j < 4 → f + i ≠ 37 + j := fun i j hi hj => hf_apart 37 (by decide) f hfm i hi j hj
  obtain ⟨k, hkN, hx0⟩ := wx.1
  rw [hx0, nI_clamp (by omega)] at hp
  have h34 : ∀ a, a < V → i = nI a → (∀ I', FQ I I' → post (some (.int (sWvE fl (sDq fl lw) V a (N - k) k x 0))) S R I' J) → ∀ n j I1 y v v4, j + n = N → y 0 = nI j → WFx y T N V → FQ I I1 → RHall I1 37 y N → sWvE fl (sDq fl lw) V a n j y v = sWvE fl (sDq fl lw) V a (N - k) k x 0 → XX G 0 0 34 [some (.ref 0), some (.int (nI a)), some (.int v), some (.int (nI j)), v4] [] S R I1 J := by
    intro a ha ea hp n
    induction n with
    | zero =>
      intro j I1 y v v4 hj hy0 wy s1 r1 he
      have eN1 : I1 f 1 = nI j := by rw [(C.fq s1).2.2.1.2.1, wl.2.2.1, show N = j by omega]
      refine x_iload_n C0 rfl dX11_wavers_34 ?_
      refine x_aload_n C0 rfl dX11_wavers_35 ?_
      refine x_getR C0 wf_X11_26 (fixd.k0 hS) rfl rfl hf dX11_wavers_36 ?_
      refine x_getI C0 wf_X11_239 (by assumption) rfl dX11_wavers_39 ?_
      refine x_topi eN1 ?_
      refine x_icmp_ge (tgt := 117) C0 (by decide) dX11_wavers_42 (fun _ => ?_) (fun hkk => absurd ((Int32.le_refl _)) hkk)
      refine x_iload_n C0 rfl dX11_wavers_117 ?_
      refine x_iret C0 E (by decide) (by decide) dX11_wavers_118 ?_
      have e9 : sWvE fl (sDq fl lw) V a 0 j y v = v := rfl
      rw [← he, e9] at hp
      exact hp I1 s1
    | succ n ih =>
      intro j I1 y v v4 hj hy0 wy s1 r1 he
      have rF1 := (C.fq s1).2.2.1
      have eN1 : I1 f 1 = nI N := by rw [rF1.2.1, wl.2.2.1]
      have hC : ∀ v4, XX G 0 0 99 [some (.ref 0), some (.int (nI a)), some (.int (v + sWv fl y V j a)), some (.int (nI j)), v4] [] S R I1 J := by
        intro v4
        refine x_aload_n C0 rfl dX11_wavers_99 ?_
        refine x_getR C0 wf_X11_26 (fixd.k0 hS) rfl rfl hf dX11_wavers_100 ?_
        refine x_aload_n C0 rfl dX11_wavers_103 ?_
        refine x_getR C0 wf_X11_50 (fixd.k0 hS) rfl rfl (fixd.trial hS) dX11_wavers_104 ?_
        refine x_callV [_] C0 hN rfl (xRf_of hR (by decide) (Nat.zero_le _) (Nat.zero_le _)) mv_X2_screen wm_X11_179 dX11_wavers_107 (by assumption) rfl rfl (Nat.le_of_ble_eq_true rfl) (c_X2_screen hF hT hf37 wl wy rF1 r1 (fun q => absurd ((nI_eq (by omega) (by omega)).mp (hy0.symm.trans q)) (by omega)) (fun k2 I2 hk2 e2 s2 r2 => ?_))
        have hkk : k2 = j := (nI_eq (by omega) (by omega)).mp (e2.symm.trans hy0)
        subst hkk
        refine x_pop C0 rfl dX11_wavers_110 ?_
        refine x_iinc (v := nI (k2 + 1)) (L' := [_, _, _, _, _]) C0 hN rfl (by decide) (nI_inc k2) rfl dX11_wavers_111 ?_
        refine x_goto (tgt := 34) C0 (by decide) dX11_wavers_114 ?_
        exact ih (k2 + 1) I2 _ _ _ (by omega) sShowK_0 (sShowK_WFx wl wy hk2) (s1.trans (FQ.hall s2)) r2 he
      have hT6' : T ≤ 6 := wl.2.1
      have nin : ¬ xbit (y 2) a → sWv fl y V j a = 0 := fun g => by unfold sWv; rw [if_neg (fun q => g q.2)]
      have isin : xbit (y 2) a → sWv fl y V j a = nI (sOddN fl y a j) := fun g => by unfold sWv; rw [if_pos ⟨ha, g⟩]
      have hA : ∀ t b, sTakes fl y a j → t < T → b < 2 → sT fl y a j = nI t → sB fl y a j = nI b → XX G 0 0 73 [some (.ref 0), some (.int (nI a)), some (.int v), some (.int (nI j)), v4] [.int (nI (2 * t + b))] S R I1 J := by
        intro t b htk ht hb e1 e2
        have hod := odd_spec wy hT6' (by omega) ht htk e1 e2
        refine x_istore (L' := [_, _, _, _, _]) C0 hN (by decide) rfl dX11_wavers_73 ?_
        refine x_aload_n C0 rfl dX11_wavers_75 ?_
        refine x_getR C0 wf_X11_50 (fixd.k0 hS) rfl rfl (fixd.trial hS) dX11_wavers_76 ?_
        refine x_iload_n C0 rfl dX11_wavers_79 ?_
        refine x_callV [_] C0 hN rfl (xRf_of hR (by decide) (Nat.zero_le _) (Nat.zero_le _)) mv_X3_isIn wm_X11_165 dX11_wavers_80 (by assumption) rfl rfl (Nat.le_of_ble_eq_true rfl) (c_X3_isIn hT (fun g80 => ?_) (fun g80 => ?_))
        · refine x_if_eq (tgt := 99) C0 (by decide) dX11_wavers_83 (fun hkk => absurd hkk (by decide)) (fun _ => ?_)
          refine x_iload_n C0 rfl dX11_wavers_86 ?_
          refine x_aload_n C0 rfl dX11_wavers_87 ?_
          refine x_getR C0 wf_X11_50 (fixd.k0 hS) rfl rfl (fixd.trial hS) dX11_wavers_88 ?_
          refine x_iload_n C0 rfl dX11_wavers_91 ?_
          refine x_iload C0 rfl dX11_wavers_92 ?_
          refine x_callS [_, _, _] C0 (xRf_of hR (by decide) (Nat.zero_le _) (Nat.zero_le _)) ms_X2_odd wm_X11_325 dX11_wavers_94 rfl rfl (Nat.le_of_ble_eq_true rfl) (c_X2_odd_some hT (by omega) (by omega) hb ?_)
          refine x_topi (show cOdd (I1 (37 + 2) (6 * a + t)) (nI b) = nI (sOddN fl y a j) by rw [th_at r1 (by omega) (by omega)]; exact hod) ?_
          refine x_iadd C0 dX11_wavers_97 ?_
          refine x_istore_n (L' := [_, _, _, _, _]) C0 hN (by decide) rfl dX11_wavers_98 ?_
          have := hC (some (.int (nI (2 * t + b))))
          rw [isin (by rw [← r1.2.2.1]; exact g80)] at this
          exact this
        · refine x_if_eq (tgt := 99) C0 (by decide) dX11_wavers_83 (fun _ => ?_) (fun hkk => absurd (by decide) hkk)
          have := hC (some (.int (nI (2 * t + b))))
          rw [nin (by rw [← r1.2.2.1]; exact g80), Int32.add_zero] at this
          exact this
      have hB : ¬ sTakes fl y a j → XX G 0 0 73 [some (.ref 0), some (.int (nI a)), some (.int v), some (.int (nI j)), v4] [.int (-1)] S R I1 J := by
        intro htk
        have hod : sOddN fl y a j = 0 := by unfold sOddN; rw [if_neg (fun q => htk q.1)]
        refine x_istore (L' := [_, _, _, _, _]) C0 hN (by decide) rfl dX11_wavers_73 ?_
        refine x_aload_n C0 rfl dX11_wavers_75 ?_
        refine x_getR C0 wf_X11_50 (fixd.k0 hS) rfl rfl (fixd.trial hS) dX11_wavers_76 ?_
        refine x_iload_n C0 rfl dX11_wavers_79 ?_
        refine x_callV [_] C0 hN rfl (xRf_of hR (by decide) (Nat.zero_le _) (Nat.zero_le _)) mv_X3_isIn wm_X11_165 dX11_wavers_80 (by assumption) rfl rfl (Nat.le_of_ble_eq_true rfl) (c_X3_isIn hT (fun g80 => ?_) (fun g80 => ?_))
        · refine x_if_eq (tgt := 99) C0 (by decide) dX11_wavers_83 (fun hkk => absurd hkk (by decide)) (fun _ => ?_)
          refine x_iload_n C0 rfl dX11_wavers_86 ?_
          refine x_aload_n C0 rfl dX11_wavers_87 ?_
          refine x_getR C0 wf_X11_50 (fixd.k0 hS) rfl rfl (fixd.trial hS) dX11_wavers_88 ?_
          refine x_iload_n C0 rfl dX11_wavers_91 ?_
          refine x_iload C0 rfl dX11_wavers_92 ?_
          refine x_callS [_, _, _] C0 (xRf_of hR (by decide) (Nat.zero_le _) (Nat.zero_le _)) ms_X2_odd wm_X11_325 dX11_wavers_94 rfl rfl (Nat.le_of_ble_eq_true rfl) (c_X2_odd_none hT ?_)
          refine x_iadd C0 dX11_wavers_97 ?_
          refine x_istore_n (L' := [_, _, _, _, _]) C0 hN (by decide) rfl dX11_wavers_98 ?_
          have := hC (some (.int (-1)))
          rw [isin (by rw [← r1.2.2.1]; exact g80), hod] at this
          exact this
        · refine x_if_eq (tgt := 99) C0 (by decide) dX11_wavers_83 (fun _ => ?_) (fun hkk => absurd (by decide) hkk)
          have := hC (some (.int (-1)))
          rw [nin (by rw [← r1.2.2.1]; exact g80), Int32.add_zero] at this
          exact this
      refine x_iload_n C0 rfl dX11_wavers_34 ?_
      refine x_aload_n C0 rfl dX11_wavers_35 ?_
      refine x_getR C0 wf_X11_26 (fixd.k0 hS) rfl rfl hf dX11_wavers_36 ?_
      refine x_getI C0 wf_X11_239 (by assumption) rfl dX11_wavers_39 ?_
      refine x_topi eN1 ?_
      refine x_icmp_ge (tgt := 117) C0 (by decide) dX11_wavers_42 (fun hkk => absurd hkk (nI_ge (by omega) (by omega))) (fun _ => ?_)
      refine x_aload_n C0 rfl dX11_wavers_45 ?_
      refine x_getR C0 wf_X11_26 (fixd.k0 hS) rfl rfl hf dX11_wavers_46 ?_
      refine x_iload_n C0 rfl dX11_wavers_49 ?_
      refine x_aload_n C0 rfl dX11_wavers_50 ?_
      refine x_getR C0 wf_X11_26 (fixd.k0 hS) rfl rfl hf dX11_wavers_51 ?_
      refine x_aload_n C0 rfl dX11_wavers_54 ?_
      refine x_getR C0 wf_X11_50 (fixd.k0 hS) rfl rfl (fixd.trial hS) dX11_wavers_55 ?_
      refine x_iload_n C0 rfl dX11_wavers_58 ?_
      refine x_callV [_, _] C0 hN rfl (xRf_of hR (by decide) (Nat.zero_le _) (Nat.zero_le _)) mv_X2_saying wm_X11_124 dX11_wavers_59 (by assumption) rfl rfl (Nat.le_of_ble_eq_true rfl) (c_sayV hF hT wl wy rF1 r1 (by omega) ?_)
      refine x_aload_n C0 rfl dX11_wavers_62 ?_
      refine x_getR C0 wf_X11_50 (fixd.k0 hS) rfl rfl (fixd.trial hS) dX11_wavers_63 ?_
      refine x_iload_n C0 rfl dX11_wavers_66 ?_
      refine x_callV [_] C0 hN rfl (xRf_of hR (by decide) (Nat.zero_le _) (Nat.zero_le _)) mv_X3_writing wm_X11_135 dX11_wavers_67 (by assumption) rfl rfl (Nat.le_of_ble_eq_true rfl) (c_X3_writing hT (by omega) ?_)
      refine x_callV [_, _, _] C0 hN rfl (xRf_of hR (by decide) (Nat.zero_le _) (Nat.zero_le _)) mv_X2_taken wm_X11_276 dX11_wavers_70 (by assumption) rfl rfl (Nat.le_of_ble_eq_true rfl) (c_takenV hF wl wy rF1 (by omega) ha (r1.2.2.2.2.1 j (by omega)) (fun t b hk ht hb e1 e2 => ?_) (fun hk => ?_))
      · exact hA t b hk ht hb e1 e2
      · exact hB hk
  refine x_aload_n C0 rfl dX11_wavers_0 ?_
  refine x_getR C0 wf_X11_26 (fixd.k0 hS) rfl rfl hf dX11_wavers_1 ?_
  refine x_iload_n C0 rfl dX11_wavers_4 ?_
  refine x_callV [_] C0 hN rfl (xRf_of hR (by decide) (Nat.zero_le _) (Nat.zero_le _)) mv_X2_hasWatcher wm_X11_144 dX11_wavers_5 (by assumption) rfl rfl (Nat.le_of_ble_eq_true rfl) (c_X2_hasWatcher (by assumption) (fun g0 => ?_) (fun g0 => ?_))
  · refine x_if_ne (tgt := 13) C0 (by decide) dX11_wavers_8 (fun _ => ?_) (fun hkk => absurd hkk (by decide))
    obtain ⟨a, ha, ea⟩ := nI_ofi' eV (by omega) g0
    rw [if_pos g0] at hp
    subst ea
    rw [nI_clamp (by omega)] at hp
    refine x_aload_n C0 rfl dX11_wavers_13 ?_
    refine x_getR C0 wf_X11_50 (fixd.k0 hS) rfl rfl (fixd.trial hS) dX11_wavers_14 ?_
    refine x_aload_n C0 rfl dX11_wavers_17 ?_
    refine x_getR C0 wf_X11_46 (fixd.k0 hS) rfl rfl (fixd.now hS) dX11_wavers_18 ?_
    refine x_callV [_] C0 hN rfl (xRf_of hR (by decide) (Nat.zero_le _) (Nat.zero_le _)) mv_X3_copy wm_X11_176 dX11_wavers_21 (by assumption) rfl rfl (Nat.le_of_ble_eq_true rfl) (c_X3_copy hT hH (fun i j hi hj => hh_apart 37 (by decide) 33 (by decide) (by decide) i hi j hj) ?_)
    refine x_iconst (v := 0) C0 rfl dX11_wavers_24 ?_
    refine x_istore_n (L' := [_, _, _, _, _]) C0 hN (by decide) rfl dX11_wavers_25 ?_
    refine x_aload_n C0 rfl dX11_wavers_26 ?_
    refine x_getR C0 wf_X11_46 (fixd.k0 hS) rfl rfl (fixd.now hS) dX11_wavers_27 ?_
    refine x_getI C0 wf_X11_141 (by assumption) rfl dX11_wavers_30 ?_
    refine x_topi (show uhall I 37 33 33 0 = nI k by rw [uhall_row I (by decide) (by decide) (by decide) (by decide), rH.1, hx0]) ?_
    refine x_istore_n (L' := [_, _, _, _, _]) C0 hN (by decide) rfl dX11_wavers_33 ?_
    exact h34 a ha rfl hp (N - k) k _ x 0 none (by omega) hx0 wx FQ.copy (uhall_hall (fun i j hi hj => hh_apart 37 (by decide) 33 (by decide) (by decide) i hi j hj) hN8 rH) rfl
  · refine x_if_ne (tgt := 13) C0 (by decide) dX11_wavers_8 (fun hkk => absurd (by decide) hkk) (fun _ => ?_)
    refine x_iconst (v := -1) C0 rfl dX11_wavers_11 ?_
    refine x_iret C0 E (by decide) (by decide) dX11_wavers_12 ?_
    rw [if_neg g0] at hp
    exact hp I FQ.rf
