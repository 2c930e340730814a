/-! CHANCE: sums over sets -/
def tot (f : Nat → Nat) : Nat → Nat
  | 0 => 0
  | s + 1 => tot f s + f s
theorem tot_add (f : Nat → Nat) (m : Nat) : ∀ p, tot f (m + p) = tot f m + tot (fun r => f (m + r)) p
  | 0 => rfl
  | p + 1 => by
    rw [← Nat.add_assoc]
    show tot f (m + p) + f (m + p) = _
    rw [tot_add f m p, Nat.add_assoc]
    rfl
theorem tot_congr {f g : Nat → Nat} : ∀ p, (∀ r, r < p → f r = g r) → tot f p = tot g p
  | 0, _ => rfl
  | p + 1, h => by
    show tot f p + f p = tot g p + g p
    rw [tot_congr p (fun r hr => h r (by omega)), h p (by omega)]
theorem tot_mul (f : Nat → Nat) (c : Nat) : ∀ p, tot (fun r => c * f r) p = c * tot f p
  | 0 => rfl
  | p + 1 => by
    show tot (fun r => c * f r) p + c * f p = c * (tot f p + f p)
    rw [tot_mul f c p, Nat.mul_add]
theorem tot_zero : ∀ p, tot (fun _ => 0) p = 0
  | 0 => rfl
  | p + 1 => by
    show tot (fun _ => 0) p + 0 = 0
    rw [tot_zero p]
/-- s lies within op -/
abbrev sb (s op : Nat) : Prop := s &&& op = s
theorem sb_iff {s op : Nat} : sb s op ↔ ∀ k, s.testBit k = true → op.testBit k = true := by
  constructor
  · intro h k hk
    have := congrArg (fun z => Nat.testBit z k) h
    simp only [Nat.testBit_and, hk, Bool.true_and] at this
    exact this
  · intro h
    refine Nat.eq_of_testBit_eq (fun k => ?_)
    rw [Nat.testBit_and]
    cases hk : s.testBit k
    · rfl
    · rw [h k hk]; rfl
theorem tb_hi {r n k : Nat} (h : r < 2 ^ n) (hk : n ≤ k) : r.testBit k = false := Nat.testBit_lt_two_pow (Nat.lt_of_lt_of_le h (Nat.pow_le_pow_right (by decide) hk))
theorem tb_n {r n : Nat} (h : r < 2 ^ n) : (2 ^ n + r).testBit n = true := by rw [Nat.testBit_two_pow_add_eq, tb_hi h (Nat.le_refl n)]; rfl
theorem tb_lo {r n k : Nat} (hk : k < n) : (2 ^ n + r).testBit k = r.testBit k := Nat.testBit_two_pow_add_gt hk r
theorem tb_up {r n k : Nat} (h : r < 2 ^ n) (hk : n < k) : (2 ^ n + r).testBit k = false := tb_hi (n := n + 1) (by rw [Nat.pow_succ]; omega) hk
theorem sb_up {r n op : Nat} (h : r < 2 ^ n) : sb (2 ^ n + r) op ↔ op.testBit n = true ∧ sb r op := by
  rw [sb_iff, sb_iff]
  constructor
  · intro g
    refine ⟨g n (tb_n h), fun k hk => ?_⟩
    have : k < n := Nat.lt_of_not_le (fun z => by rw [tb_hi h z] at hk; cases hk)
    exact g k (by rw [tb_lo this]; exact hk)
  · rintro ⟨g1, g2⟩ k hk
    rcases Nat.lt_trichotomy k n with z | z | z
    · rw [tb_lo z] at hk; exact g2 k hk
    · subst z; exact g1
    · rw [tb_up h z] at hk; cases hk
/-- the weight of set s among the scenes below n of op -/
def chW (o op s : Nat) : Nat → Nat
  | 0 => 1
  | n + 1 => chW o op s n * (if op.testBit n = true then (if s.testBit n = true then o else 10 - o) else 1)
theorem chW_congr {o op s r : Nat} : ∀ n, (∀ k, k < n → s.testBit k = r.testBit k) → chW o op s n = chW o op r n
  | 0, _ => rfl
  | n + 1, h => by
    unfold chW
    rw [chW_congr n (fun k hk => h k (by omega)), h n (by omega)]
def chD (o op : Nat) (h : Nat → Nat) : Nat → Nat → Nat
  | 0, a => h a
  | n + 1, a => if op.testBit n = true then (10 - o) * chD o op h n a + o * chD o op h n (a ||| 2 ^ n) else chD o op h n a
theorem chD_up {o op : Nat} {h : Nat → Nat} {n a : Nat} : chD o op h (n + 1) a = if op.testBit n = true then (10 - o) * chD o op h n a + o * chD o op h n (a ||| 2 ^ n) else chD o op h n a := rfl
def chF (o op : Nat) (g : Nat → Nat) (n s : Nat) : Nat := if sb s op then chW o op s n * g s else 0
theorem chF_lo {o op : Nat} {g : Nat → Nat} {n r : Nat} (h : r < 2 ^ n) : chF o op g (n + 1) r = (if op.testBit n = true then 10 - o else 1) * chF o op g n r := by
  unfold chF
  split
  · show chW o op r n * _ * g r = _
    rw [tb_hi h (Nat.le_refl n)]
    split
    · rw [if_neg (by decide), Nat.mul_comm (chW o op r n), Nat.mul_assoc]
    · rw [Nat.mul_one, Nat.one_mul]
  · rw [Nat.mul_zero]
theorem chF_hi {o op : Nat} {g : Nat → Nat} {n r : Nat} (h : r < 2 ^ n) : chF o op g (n + 1) (2 ^ n + r) = if op.testBit n = true then o * chF o op (fun s => g (2 ^ n + s)) n r else 0 := by
  unfold chF
  by_cases hb : op.testBit n = true
  · rw [if_pos hb]
    by_cases hs : sb r op
    · rw [if_pos ((sb_up h).mpr ⟨hb, hs⟩), if_pos hs]
      show chW o op (2 ^ n + r) n * _ * g (2 ^ n + r) = _
      rw [if_pos hb, if_pos (tb_n h), chW_congr (r := r) n (fun k hk => tb_lo hk), Nat.mul_comm _ o, Nat.mul_assoc]
    · rw [if_neg (fun z => hs ((sb_up h).mp z).2), if_neg hs, Nat.mul_zero]
  · rw [if_neg (fun z => hb ((sb_up h).mp z).1), if_neg hb]
theorem or_add {a r n : Nat} (h : r < 2 ^ n) : a ||| (2 ^ n + r) = (a ||| 2 ^ n) ||| r := by
  have := Nat.two_pow_add_eq_or_of_lt h 1
  rw [Nat.mul_one] at this
  rw [this, Nat.or_assoc]
theorem chD_tot (o op : Nat) (h : Nat → Nat) : ∀ n a, tot (chF o op (fun s => h (a ||| s)) n) (2 ^ n) = chD o op h n a
  | 0, a => by
    show 0 + chF o op (fun s => h (a ||| s)) 0 0 = h a
    unfold chF
    rw [if_pos (show sb 0 op from Nat.zero_and op)]
    show 0 + 1 * h (a ||| 0) = h a
    rw [Nat.or_zero, Nat.zero_add, Nat.one_mul]
  | n + 1, a => by
    rw [show 2 ^ (n + 1) = 2 ^ n + 2 ^ n by rw [Nat.pow_succ]; omega, tot_add, tot_congr (2 ^ n) (fun r hr => chF_lo (o := o) (op := op) (g := fun s => h (a ||| s)) hr), tot_mul, chD_tot o op h n a, tot_congr (2 ^ n) (fun r hr => chF_hi (o := o) (op := op) (g := fun s => h (a ||| s)) hr)]
    rw [chD_up]
    by_cases hb : op.testBit n = true
    · rw [if_pos hb, if_pos hb]
      simp only [if_pos hb]
      rw [tot_mul, ← chD_tot o op h n (a ||| 2 ^ n)]
      congr 2
      refine tot_congr _ (fun r hr => ?_)
      unfold chF
      dsimp only
      rw [or_add hr]
    · rw [if_neg hb, if_neg hb]
      simp only [if_neg hb]
      rw [tot_zero, Nat.one_mul, Nat.add_zero]
def chC (m : Nat) : Nat → Nat
  | 0 => 0
  | n + 1 => chC m n + (if m.testBit n = true then 1 else 0)
theorem chC_le (m : Nat) : ∀ n, chC m n ≤ n
  | 0 => Nat.le_refl 0
  | n + 1 => by
    have := chC_le m n
    unfold chC
    split <;> omega
theorem ch_one {o op : Nat} (ho : o ≤ 10) : ∀ n a, chD o op (fun _ => 1) n a = 10 ^ chC op n
  | 0, _ => rfl
  | n + 1, a => by
    unfold chD chC
    rw [ch_one ho n a, ch_one ho n (a ||| 2 ^ n)]
    split
    · rw [← Nat.add_mul, Nat.sub_add_cancel ho, Nat.pow_succ, Nat.mul_comm]
    · rfl
theorem ch_le {o op : Nat} {h : Nat → Nat} (ho : o ≤ 10) (hh : ∀ a, h a ≤ 1) : ∀ n a, chD o op h n a ≤ 10 ^ chC op n
  | 0, a => hh a
  | n + 1, a => by
    have h1 := ch_le (op := op) ho hh n a
    have h2 := ch_le (op := op) ho hh n (a ||| 2 ^ n)
    unfold chD chC
    split
    · rw [Nat.pow_succ]
      have a1 := Nat.mul_le_mul_left (10 - o) h1
      have a2 := Nat.mul_le_mul_left o h2
      have a3 : (10 - o) * 10 ^ chC op n + o * 10 ^ chC op n = 10 ^ chC op n * 10 := by rw [← Nat.add_mul, Nat.sub_add_cancel ho, Nat.mul_comm]
      omega
    · exact h1
theorem ch_ext {o op : Nat} {h : Nat → Nat} {N : Nat} (hop : op < 2 ^ N) : ∀ p a, chD o op h (N + p) a = chD o op h N a
  | 0, _ => rfl
  | p + 1, a => by
    rw [← Nat.add_assoc]
    unfold chD
    rw [tb_hi hop (by omega), if_neg (by decide)]
    cases N <;> exact ch_ext hop p a
theorem chC_ext {op N : Nat} (hop : op < 2 ^ N) : ∀ p, chC op (N + p) = chC op N
  | 0 => rfl
  | p + 1 => by
    rw [← Nat.add_assoc]
    conv => lhs; unfold chC
    rw [tb_hi hop (by omega), if_neg (by decide)]
    exact chC_ext hop p
/-- scenes that are cut already don't count -/
theorem ch_cut {o op ct may : Nat} {h : Nat → Nat} (ho : o ≤ 10) (hm : ∀ k, may.testBit k = (op.testBit k && !ct.testBit k)) : ∀ n a, (∀ k, ct.testBit k = true → a.testBit k = true) → ∃ q, chC op n = q + chC may n ∧ chD o op h n a = 10 ^ q * chD o may h n a ∧ ∀ b, (∀ k, ct.testBit k = true → b.testBit k = true) → chD o op h n b = 10 ^ q * chD o may h n b
  | 0, a, _ => ⟨0, rfl, by rw [Nat.pow_zero, Nat.one_mul]; rfl, fun b _ => by rw [Nat.pow_zero, Nat.one_mul]; rfl⟩
  | n + 1, a, ha => by
    obtain ⟨q, e1, -, e3⟩ := ch_cut (h := h) ho hm n a ha
    have hup : ∀ b : Nat, (∀ k, ct.testBit k = true → b.testBit k = true) → ∀ k, ct.testBit k = true → (b ||| 2 ^ n).testBit k = true := fun b hb k hk => by rw [Nat.testBit_or, hb k hk]; rfl
    have hmn := hm n
    have key : ∃ q, chC op (n + 1) = q + chC may (n + 1) ∧ ∀ b, (∀ k, ct.testBit k = true → b.testBit k = true) → chD o op h (n + 1) b = 10 ^ q * chD o may h (n + 1) b := by
      cases hop : op.testBit n
      · rw [hop, Bool.false_and] at hmn
        refine ⟨q, ?_, fun b hb => ?_⟩
        · unfold chC
          rw [hop, hmn, e1]; rfl
        · unfold chD
          rw [hop, hmn, if_neg (by decide), if_neg (by decide)]
          exact e3 b hb
      · cases hct : ct.testBit n
        · rw [hop, hct, Bool.not_false, Bool.true_and] at hmn
          refine ⟨q, ?_, fun b hb => ?_⟩
          · unfold chC
            rw [hop, hmn, e1, if_pos rfl]; omega
          · unfold chD
            rw [hop, hmn, if_pos rfl, if_pos rfl, e3 b hb, e3 _ (hup b hb), Nat.mul_add, Nat.mul_left_comm, Nat.mul_left_comm o]
        · rw [hop, hct, Bool.not_true, Bool.true_and] at hmn
          refine ⟨q + 1, ?_, fun b hb => ?_⟩
          · unfold chC
            rw [hop, hmn, e1, if_pos rfl, if_neg (by decide)]; omega
          · have eb : b ||| 2 ^ n = b := by
              refine Nat.eq_of_testBit_eq (fun k => ?_)
              rw [Nat.testBit_or, Nat.testBit_two_pow]
              by_cases z : n = k
              · subst z; rw [hb n hct]; rfl
              · simp [z]
            unfold chD
            rw [hop, hmn, if_pos rfl, if_neg (by decide), eb, ← Nat.add_mul, Nat.sub_add_cancel ho, e3 b hb, Nat.pow_succ, Nat.mul_comm (10 ^ q) 10, Nat.mul_assoc]
    obtain ⟨q2, k1, k2⟩ := key
    exact ⟨q2, k1, k2 a ha, k2⟩
theorem xb_1 : ∀ m, m < 256 → ∀ k, k < 8 → (nI m >>> (nI k &&& 31) &&& 1 = 1 ↔ m.testBit k = true) := by decide +kernel
theorem xb_0 : ∀ m, m < 256 → ∀ k, k < 8 → (nI m >>> (nI k &&& 31) &&& 1 = 0 ↔ m.testBit k = false) := by decide +kernel
theorem bits_C : ∀ m, m < 256 → sBits (nI m) 30 = nI (chC m 8) := by decide +kernel
theorem chW_no {o op s k : Nat} (h : op.testBit k = false) : chW o op s (k + 1) = chW o op s k := by conv => lhs; unfold chW; rw [h, if_neg (by decide), Nat.mul_one]
theorem chW_set {o op s k : Nat} (h : op.testBit k = true) (g : s.testBit k = true) : chW o op s (k + 1) = chW o op s k * o := by conv => lhs; unfold chW; rw [if_pos h, if_pos g]
theorem chW_let {o op s k : Nat} (h : op.testBit k = true) (g : s.testBit k = false) : chW o op s (k + 1) = chW o op s k * (10 - o) := by conv => lhs; unfold chW; rw [if_pos h, g, if_neg (by decide)]
theorem nI_bv (m : Nat) (h : m < 2 ^ 31) : (nI m).toBitVec.toNat = m := nI_tn h
/-- what the code tests of sets -/
theorem sb_code {s c : Nat} (hs : s < 2 ^ 31) (hc : c < 2 ^ 31) : nI s &&& (nI c ^^^ (-1)) = 0 ↔ sb s c := by
  constructor
  · intro h
    have h1 : (nI s).toBitVec &&& ((nI c).toBitVec ^^^ (-1 : Int32).toBitVec) = 0#32 := by
      rw [← Int32.toBitVec_xor, ← Int32.toBitVec_and, h]; rfl
    have h2 : (nI s).toBitVec &&& (nI c).toBitVec = (nI s).toBitVec := by
      rw [show (-1 : Int32).toBitVec = BitVec.allOnes 32 from rfl, BitVec.xor_allOnes] at h1
      ext i hi
      have := congrArg (fun z : BitVec 32 => z[i]) h1
      simp at this ⊢
      cases h3 : (nI s).toBitVec[i] <;> simp_all
    have h4 := congrArg BitVec.toNat h2
    rw [BitVec.toNat_and, nI_tn hs, nI_tn hc] at h4
    exact h4
  · intro h
    have h2 : (nI s).toBitVec &&& (nI c).toBitVec = (nI s).toBitVec := by
      apply BitVec.eq_of_toNat_eq
      rw [BitVec.toNat_and, nI_tn hs, nI_tn hc]
      exact h
    apply Int32.toBitVec_inj.mp
    rw [Int32.toBitVec_and, Int32.toBitVec_xor, show (-1 : Int32).toBitVec = BitVec.allOnes 32 from rfl, BitVec.xor_allOnes]
    show _ = 0#32
    ext i hi
    have := congrArg (fun z : BitVec 32 => z[i]) h2
    simp at this ⊢
    cases h3 : (nI s).toBitVec[i] <;> simp_all
theorem i_or_nI {a b : Nat} (ha : a < 256) (hb : b < 256) : nI a ||| nI b = nI (a ||| b) := by
  apply Int32.toBitVec_inj.mp
  apply BitVec.eq_of_toNat_eq
  rw [Int32.toBitVec_or, BitVec.toNat_or, nI_tn (by omega), nI_tn (by omega), nI_tn]
  have : a ||| b < 2 ^ 8 := Nat.or_lt_two_pow ha hb
  omega
/-- what is to come and not cut, by bits -/
theorem may_bits {N op ct may : Nat} (hN : N ≤ 8) (h1 : op < 2 ^ N) (h2 : ct < 2 ^ N) (h3 : may < 2 ^ N) (h : nI op &&& (nI ct ^^^ (-1)) = nI may) : ∀ k, may.testBit k = (op.testBit k && !ct.testBit k) := by
  have h256 := shl_le hN
  have e := congrArg Int32.toBitVec h
  rw [Int32.toBitVec_and, Int32.toBitVec_xor, show (-1 : Int32).toBitVec = BitVec.allOnes 32 from rfl, BitVec.xor_allOnes] at e
  intro k
  by_cases hk : k < 32
  · have z := congrArg (fun z : BitVec 32 => z.getLsbD k) e
    simp only [BitVec.getLsbD_and, BitVec.getLsbD_not, hk, decide_true, Bool.true_and] at z
    rw [← BitVec.testBit_toNat, ← BitVec.testBit_toNat, ← BitVec.testBit_toNat, nI_tn (by omega), nI_tn (by omega), nI_tn (by omega)] at z
    exact z.symm
  · rw [tb_hi h3 (by omega), tb_hi h1 (by omega)]; rfl
/-- 1 where he thinks so at the end, these scenes being cut -/
def chH (fl : xRow) (dq : xDq) (x : xRow) (V N w t a : Nat) : Nat := if sEnd fl dq V (N - (x 0).toNatClampNeg) (x 0).toNatClampNeg (upd x 3 (nI a)) (20 + 6 * w + t) = 1 then 1 else 0
def aChance (fl : xRow) (dq : xDq) (x : xRow) (V N : Nat) (i j c : Int32) : Int32 :=
  if (0 ≤ i ∧ i < fl 2) ∧ (0 ≤ j ∧ j < fl 0) ∧ (0 ≤ c ∧ c ≤ 10) then nI (chD c.toNatClampNeg (sCuttable x N).toNatClampNeg (chH fl dq x V N i.toNatClampNeg j.toNatClampNeg) N (x 3).toNatClampNeg * 1000000 / 10 ^ chC (sCuttable x N).toNatClampNeg N) else -1
theorem chH_le {fl : xRow} {dq : xDq} {x : xRow} {V N w t : Nat} (a : Nat) : chH fl dq x V N w t a ≤ 1 := by unfold chH; split <;> omega
theorem chH_cut {fl : xRow} {dq : xDq} {x : xRow} {V N w t ct s : Nat} (e : x 3 = nI ct) (h1 : ct < 256) (h2 : s < 256) : chH fl dq x V N w t (ct ||| s) = if sEndCut fl dq x V N s (20 + 6 * w + t) = 1 then 1 else 0 := by
  unfold chH sEndCut sCutX
  rw [e, i_or_nI h1 h2]
theorem ch_same {o op ct may N : Nat} {h : Nat → Nat} (ho : o ≤ 10) (hop : op < 2 ^ N) (hm : may < 2 ^ N) (hN : N ≤ 8) (hb : ∀ k, may.testBit k = (op.testBit k && !ct.testBit k)) : chD o op h 8 ct * 1000000 / 10 ^ chC op 8 = chD o may h N ct * 1000000 / 10 ^ chC may N := by
  obtain ⟨q, e1, e2, -⟩ := ch_cut (h := h) ho hb N ct (fun _ z => z)
  have a1 := ch_ext (o := o) (h := h) hop (8 - N) ct
  have a2 := chC_ext hop (8 - N)
  rw [show N + (8 - N) = 8 by omega] at a1 a2
  rw [a1, a2, e1, e2, Nat.pow_add, Nat.mul_assoc]
  exact Nat.mul_div_mul_left _ _ (Nat.pow_pos (by decide))
