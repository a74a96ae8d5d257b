/-! a quotient of two numbers, the second not 0, is a number: so no NaN's bits are drawn -/
theorem fp_rr (f : Jvm.FP.Core.Fmt) (hp : 1 ≤ f.p) (s : Bool) (n d : Nat) (e : Int) (hq : f.qmin ≤ f.qmax) : Jvm.FP.Core.roundRatio f s n d e = .inf s ∨ ∃ (c : Nat) (q : Int), Jvm.FP.Core.roundRatio f s n d e = .fin s c q ∧ c < 2 ^ f.p ∧ f.qmin ≤ q ∧ q ≤ f.qmax := by
  have hpp : 2 ^ (f.p - 1) < 2 ^ f.p := Nat.pow_lt_pow_right (by decide) (by omega)
  have B : ∀ (c : Nat) (q : Int), c < 2 ^ f.p → f.qmin ≤ q → (Jvm.FP.Core.bound f s c q = .inf s ∨ ∃ (c' : Nat) (q' : Int), Jvm.FP.Core.bound f s c q = .fin s c' q' ∧ c' < 2 ^ f.p ∧ f.qmin ≤ q' ∧ q' ≤ f.qmax) := by
    intro c q hc hq
    unfold Jvm.FP.Core.bound
    by_cases h : q ≤ f.qmax
    · rw [if_pos h]; exact Or.inr ⟨c, q, rfl, hc, hq, h⟩
    · rw [if_neg h]; exact Or.inl rfl
  unfold Jvm.FP.Core.roundRatio
  by_cases h : n = 0
  · rw [if_pos h]
    exact Or.inr ⟨0, f.qmin, rfl, Nat.two_pow_pos _, Int.le_refl _, hq⟩
  · rw [if_neg h]
    have hqu : f.qmin ≤ Jvm.FP.Core.quantum f n d e := by
      unfold Jvm.FP.Core.quantum
      omega
    unfold Jvm.FP.Core.roundAt Jvm.FP.Core.settle
    split
    · rename_i hc; exact B _ _ hc hqu
    · exact B _ _ hpp (by omega)
/-- what is encoded: below the NaNs -/
theorem fp_e64 (D : Jvm.FP.Core.Datum) (s : Bool) (h : D = .inf s ∨ ∃ (c : Nat) (q : Int), D = .fin s c q ∧ c < 2 ^ 53 ∧ -1074 ≤ q ∧ q ≤ 971) : Jvm.FP.Core.encode Jvm.FP.Core.b64 D < 2 ^ 64 ∧ Jvm.FP.Core.encode Jvm.FP.Core.b64 D % 2 ^ 63 ≤ 9218868437227405312 := by
  have et : Jvm.FP.Core.b64.tails = 4503599627370496 := by decide
  have ee : Jvm.FP.Core.b64.exps = 2048 := by decide
  have eq : Jvm.FP.Core.b64.qmin = -1074 := by decide
  have hs : s.toNat = 0 ∨ s.toNat = 1 := by cases s <;> decide
  rcases h with rfl | ⟨c, q, rfl, h1, h2, h3⟩
  · simp only [Jvm.FP.Core.encode, Jvm.FP.Core.assemble, et, ee]
    rcases hs with hs | hs <;> rw [hs] <;> omega
  · simp only [Jvm.FP.Core.encode, Jvm.FP.Core.assemble, et, ee, eq]
    by_cases hc : c < 4503599627370496
    · rw [if_pos hc]
      rcases hs with hs | hs <;> rw [hs] <;> omega
    · rw [if_neg hc]
      have : (q - -1074).toNat ≤ 2045 := by omega
      generalize (q - -1074).toNat = E at *
      rcases hs with hs | hs <;> rw [hs] <;> omega
theorem fp_e32 (D : Jvm.FP.Core.Datum) (s : Bool) (h : D = .inf s ∨ ∃ (c : Nat) (q : Int), D = .fin s c q ∧ c < 2 ^ 24 ∧ -149 ≤ q ∧ q ≤ 104) : Jvm.FP.Core.encode Jvm.FP.Core.b32 D < 2 ^ 32 ∧ Jvm.FP.Core.encode Jvm.FP.Core.b32 D % 2 ^ 31 ≤ 2139095040 := by
  have et : Jvm.FP.Core.b32.tails = 8388608 := by decide
  have ee : Jvm.FP.Core.b32.exps = 256 := by decide
  have eq : Jvm.FP.Core.b32.qmin = -149 := by decide
  have hs : s.toNat = 0 ∨ s.toNat = 1 := by cases s <;> decide
  rcases h with rfl | ⟨c, q, rfl, h1, h2, h3⟩
  · simp only [Jvm.FP.Core.encode, Jvm.FP.Core.assemble, et, ee]
    rcases hs with hs | hs <;> rw [hs] <;> omega
  · simp only [Jvm.FP.Core.encode, Jvm.FP.Core.assemble, et, ee, eq]
    by_cases hc : c < 8388608
    · rw [if_pos hc]
      rcases hs with hs | hs <;> rw [hs] <;> omega
    · rw [if_neg hc]
      have : (q - -149).toNat ≤ 253 := by omega
      generalize (q - -149).toNat = E at *
      rcases hs with hs | hs <;> rw [hs] <;> omega
/-- what decodes to a NaN lies above the infinity -/
theorem fp_d64 (n : Nat) (hn : n % 2 ^ 63 ≤ 9218868437227405312) : Jvm.FP.Core.decode Jvm.FP.Core.b64 n ≠ .nan := by
  have et : Jvm.FP.Core.b64.tails = 4503599627370496 := by decide
  have ee : Jvm.FP.Core.b64.exps = 2048 := by decide
  unfold Jvm.FP.Core.decode Jvm.FP.Core.fieldE Jvm.FP.Core.fieldT
  rw [et, ee]
  by_cases h1 : n / 4503599627370496 % 2048 = 2048 - 1
  · have h2 : n % 4503599627370496 = 0 := by omega
    rw [if_pos h1, if_pos h2]
    intro h; cases h
  · rw [if_neg h1]
    split
    · intro h; cases h
    · intro h; cases h
theorem fp_d32 (n : Nat) (hn : n % 2 ^ 31 ≤ 2139095040) : Jvm.FP.Core.decode Jvm.FP.Core.b32 n ≠ .nan := by
  have et : Jvm.FP.Core.b32.tails = 8388608 := by decide
  have ee : Jvm.FP.Core.b32.exps = 256 := by decide
  unfold Jvm.FP.Core.decode Jvm.FP.Core.fieldE Jvm.FP.Core.fieldT
  rw [et, ee]
  by_cases h1 : n / 8388608 % 256 = 256 - 1
  · have h2 : n % 8388608 = 0 := by omega
    rw [if_pos h1, if_pos h2]
    intro h; cases h
  · rw [if_neg h1]
    split
    · intro h; cases h
    · intro h; cases h
theorem fp_r64 (s : Bool) (n d : Nat) (e : Int) : Jvm.FP.Core.encode Jvm.FP.Core.b64 (Jvm.FP.Core.roundRatio Jvm.FP.Core.b64 s n d e) < 2 ^ 64 ∧ Jvm.FP.Core.encode Jvm.FP.Core.b64 (Jvm.FP.Core.roundRatio Jvm.FP.Core.b64 s n d e) % 2 ^ 63 ≤ 9218868437227405312 := fp_e64 (Jvm.FP.Core.roundRatio Jvm.FP.Core.b64 s n d e) s (fp_rr Jvm.FP.Core.b64 (by decide) s n d e (by decide))
theorem fp_r32 (s : Bool) (n d : Nat) (e : Int) : Jvm.FP.Core.encode Jvm.FP.Core.b32 (Jvm.FP.Core.roundRatio Jvm.FP.Core.b32 s n d e) < 2 ^ 32 ∧ Jvm.FP.Core.encode Jvm.FP.Core.b32 (Jvm.FP.Core.roundRatio Jvm.FP.Core.b32 s n d e) % 2 ^ 31 ≤ 2139095040 := fp_e32 (Jvm.FP.Core.roundRatio Jvm.FP.Core.b32 s n d e) s (fp_rr Jvm.FP.Core.b32 (by decide) s n d e (by decide))
theorem fp_i2d (x : Int32) : (FP.i2d x).toNat % 2 ^ 63 ≤ 9218868437227405312 := by
  obtain ⟨h1, h2⟩ := fp_r64 (decide (x.toInt < 0)) x.toInt.natAbs 1 0
  show (UInt64.ofNat (Jvm.FP.Core.encode Jvm.FP.Core.b64 (Jvm.FP.Core.roundRatio Jvm.FP.Core.b64 (decide (x.toInt < 0)) x.toInt.natAbs 1 0))).toNat % 2 ^ 63 ≤ _
  rw [UInt64.toNat_ofNat', Nat.mod_eq_of_lt h1]
  exact h2
theorem fp_i2f (x : Int32) : (FP.i2f x).toNat % 2 ^ 31 ≤ 2139095040 := by
  obtain ⟨h1, h2⟩ := fp_r32 (decide (x.toInt < 0)) x.toInt.natAbs 1 0
  show (UInt32.ofNat (Jvm.FP.Core.encode Jvm.FP.Core.b32 (Jvm.FP.Core.roundRatio Jvm.FP.Core.b32 (decide (x.toInt < 0)) x.toInt.natAbs 1 0))).toNat % 2 ^ 31 ≤ _
  rw [UInt32.toNat_ofNat', Nat.mod_eq_of_lt h1]
  exact h2
theorem fp_q64 (x y : UInt64) (hx : x.toNat % 2 ^ 63 ≤ 9218868437227405312) {t : Bool} {d : Nat} {r : Int} (hy : Jvm.FP.Core.decode Jvm.FP.Core.b64 y.toNat = .fin t d r) (hd : d ≠ 0) : vf_n64 (FP.ddiv x y) := by
  have hm : ∀ n : Nat, n < 2 ^ 64 → n % 2 ^ 63 ≤ 9218868437227405312 → vf_n64 (UInt64.ofNat n) := by
    intro n h1 h2
    show UInt64.ofNat n &&& 0x7fffffffffffffff ≤ 0x7ff0000000000000
    rw [UInt64.le_iff_toNat_le, UInt64.toNat_and, show (0x7fffffffffffffff : UInt64).toNat = 2 ^ 63 - 1 from rfl, Nat.and_two_pow_sub_one_eq_mod, UInt64.toNat_ofNat', Nat.mod_eq_of_lt h1]
    exact h2
  have hne := fp_d64 _ hx
  show vf_n64 (UInt64.ofNat (Jvm.FP.Core.encode Jvm.FP.Core.b64 (Jvm.FP.Core.quotient Jvm.FP.Core.b64 (Jvm.FP.Core.decode Jvm.FP.Core.b64 x.toNat) (Jvm.FP.Core.decode Jvm.FP.Core.b64 y.toNat))))
  rw [hy]
  cases hz : Jvm.FP.Core.decode Jvm.FP.Core.b64 x.toNat with
  | nan => exact absurd hz hne
  | inf s =>
    obtain ⟨h1, h2⟩ := fp_e64 (.inf (s != t)) (s != t) (Or.inl rfl)
    exact hm _ h1 h2
  | fin s c q =>
    show vf_n64 (UInt64.ofNat (Jvm.FP.Core.encode Jvm.FP.Core.b64 (if d = 0 then (if c = 0 then Jvm.FP.Core.Datum.nan else .inf (s != t)) else Jvm.FP.Core.roundRatio Jvm.FP.Core.b64 (s != t) c d (q - r))))
    rw [if_neg hd]
    obtain ⟨h1, h2⟩ := fp_r64 (s != t) c d (q - r)
    exact hm _ h1 h2
theorem fp_q32 (x y : UInt32) (hx : x.toNat % 2 ^ 31 ≤ 2139095040) {t : Bool} {d : Nat} {r : Int} (hy : Jvm.FP.Core.decode Jvm.FP.Core.b32 y.toNat = .fin t d r) (hd : d ≠ 0) : vf_n32 (FP.fdiv x y) := by
  have hm : ∀ n : Nat, n < 2 ^ 32 → n % 2 ^ 31 ≤ 2139095040 → vf_n32 (UInt32.ofNat n) := by
    intro n h1 h2
    show UInt32.ofNat n &&& 0x7fffffff ≤ 0x7f800000
    rw [UInt32.le_iff_toNat_le, UInt32.toNat_and, show (0x7fffffff : UInt32).toNat = 2 ^ 31 - 1 from rfl, Nat.and_two_pow_sub_one_eq_mod, UInt32.toNat_ofNat', Nat.mod_eq_of_lt h1]
    exact h2
  have hne := fp_d32 _ hx
  show vf_n32 (UInt32.ofNat (Jvm.FP.Core.encode Jvm.FP.Core.b32 (Jvm.FP.Core.quotient Jvm.FP.Core.b32 (Jvm.FP.Core.decode Jvm.FP.Core.b32 x.toNat) (Jvm.FP.Core.decode Jvm.FP.Core.b32 y.toNat))))
  rw [hy]
  cases hz : Jvm.FP.Core.decode Jvm.FP.Core.b32 x.toNat with
  | nan => exact absurd hz hne
  | inf s =>
    obtain ⟨h1, h2⟩ := fp_e32 (.inf (s != t)) (s != t) (Or.inl rfl)
    exact hm _ h1 h2
  | fin s c q =>
    show vf_n32 (UInt32.ofNat (Jvm.FP.Core.encode Jvm.FP.Core.b32 (if d = 0 then (if c = 0 then Jvm.FP.Core.Datum.nan else .inf (s != t)) else Jvm.FP.Core.roundRatio Jvm.FP.Core.b32 (s != t) c d (q - r))))
    rw [if_neg hd]
    obtain ⟨h1, h2⟩ := fp_r32 (s != t) c d (q - r)
    exact hm _ h1 h2
/-- players: 1 to 4 -/
theorem fp_mean (x : Int32) {n : Nat} (h1 : 1 ≤ n) (h4 : n ≤ 4) : vf_n64 (FP.ddiv (FP.i2d x) (FP.i2d (nI n))) := by
  obtain rfl | rfl | rfl | rfl : n = 1 ∨ n = 2 ∨ n = 3 ∨ n = 4 := by omega
  · exact fp_q64 _ _ (fp_i2d x) (t := false) (d := 4503599627370496) (r := -52) (by decide +kernel) (by decide)
  · exact fp_q64 _ _ (fp_i2d x) (t := false) (d := 4503599627370496) (r := -51) (by decide +kernel) (by decide)
  · exact fp_q64 _ _ (fp_i2d x) (t := false) (d := 6755399441055744) (r := -51) (by decide +kernel) (by decide)
  · exact fp_q64 _ _ (fp_i2d x) (t := false) (d := 4503599627370496) (r := -50) (by decide +kernel) (by decide)
/-- a count: 1 to 2^24 - 1, exact as a float -/
theorem fp_cnt {n : Nat} (h1 : 1 ≤ n) (h2 : n < 2 ^ 24) : ∃ (d : Nat) (r : Int), Jvm.FP.Core.decode Jvm.FP.Core.b32 (FP.i2f (nI n)).toNat = .fin false d r ∧ d ≠ 0 := by
  have et : Jvm.FP.Core.b32.tails = 8388608 := by decide
  have ee : Jvm.FP.Core.b32.exps = 256 := by decide
  have eq : Jvm.FP.Core.b32.qmin = -149 := by decide
  have eM : Jvm.FP.Core.b32.qmax = 104 := by decide
  have ep : Jvm.FP.Core.b32.p = 24 := rfl
  have hn0 : n ≠ 0 := by omega
  have hl : 2 ^ n.log2 ≤ n := Nat.log2_self_le hn0
  have hu : n < 2 ^ (n.log2 + 1) := Nat.lt_log2_self
  have hl24 : n.log2 ≤ 23 := by
    have : n.log2 < 24 := (Nat.log2_lt hn0).mpr h2
    omega
  obtain ⟨c, hcd⟩ : ∃ c, c = n * 2 ^ (23 - n.log2) := ⟨_, rfl⟩
  have hti : (nI n).toInt = (n : Int) := nI_toInt (by omega)
  have lead : Jvm.FP.Core.leading n 1 = (n.log2 : Int) := by
    unfold Jvm.FP.Core.leading
    have k : ((n.log2 : Int) - ((1 : Nat).log2 : Int)) = (n.log2 : Int) := by
      have : (1 : Nat).log2 = 0 := by decide
      rw [this]; simp
    simp only [k]
    have z : (-(n.log2 : Int)).toNat = 0 := by omega
    rw [z, Int.toNat_natCast, Nat.one_mul, Nat.pow_zero, Nat.mul_one, if_pos hl]
  have quan : Jvm.FP.Core.quantum Jvm.FP.Core.b32 n 1 0 = (n.log2 : Int) - 23 := by
    unfold Jvm.FP.Core.quantum
    rw [lead, eq, ep]
    omega
  have un : Jvm.FP.Core.unitsNum n 0 ((n.log2 : Int) - 23) = c := by
    unfold Jvm.FP.Core.unitsNum
    rw [hcd]
    congr 2; omega
  have ud : Jvm.FP.Core.unitsDen 1 0 ((n.log2 : Int) - 23) = 1 := by
    unfold Jvm.FP.Core.unitsDen
    have z : ((n.log2 : Int) - 23 - 0).toNat = 0 := by omega
    rw [z]
  have ne : ∀ m : Nat, Jvm.FP.Core.nearest m 1 = m := by
    intro m
    unfold Jvm.FP.Core.nearest
    rw [Nat.mod_one, if_pos (by decide), Nat.div_one]
  have hc1 : 8388608 ≤ c := by
    rw [hcd]
    have := Nat.mul_le_mul_right (2 ^ (23 - n.log2)) hl
    rw [← Nat.pow_add, show n.log2 + (23 - n.log2) = 23 from by omega] at this
    exact this
  have hc2 : c < 16777216 := by
    rw [hcd]
    have := Nat.mul_lt_mul_of_pos_right hu (Nat.two_pow_pos (23 - n.log2))
    rw [← Nat.pow_add, show n.log2 + 1 + (23 - n.log2) = 24 from by omega] at this
    exact this
  have rr : Jvm.FP.Core.roundRatio Jvm.FP.Core.b32 false n 1 0 = .fin false c ((n.log2 : Int) - 23) := by
    unfold Jvm.FP.Core.roundRatio
    rw [if_neg hn0, quan]
    unfold Jvm.FP.Core.roundAt
    rw [un, ud, ne]
    unfold Jvm.FP.Core.settle
    rw [ep, if_pos (show c < 2 ^ 24 from hc2)]
    unfold Jvm.FP.Core.bound
    rw [eM, if_pos (by omega)]
  have val : (FP.i2f (nI n)).toNat = (0 * 256 + (((n.log2 : Int) - 23 - -149).toNat + 1)) * 8388608 + (c - 8388608) := by
    obtain ⟨q1, -⟩ := fp_r32 false n 1 0
    show (UInt32.ofNat (Jvm.FP.Core.encode Jvm.FP.Core.b32 (Jvm.FP.Core.roundRatio Jvm.FP.Core.b32 (decide ((nI n).toInt < 0)) (nI n).toInt.natAbs 1 0))).toNat = _
    rw [hti, show decide ((n : Int) < 0) = false from decide_eq_false (by omega), Int.natAbs_natCast, UInt32.toNat_ofNat', Nat.mod_eq_of_lt q1, rr]
    simp only [Jvm.FP.Core.encode, Jvm.FP.Core.assemble, et, ee, eq]
    rw [if_neg (by omega)]
    simp only [Bool.toNat_false]
  rw [val]
  have hE : ((n.log2 : Int) - 23 - -149).toNat ≤ 149 := by omega
  revert hE
  generalize ((n.log2 : Int) - 23 - -149).toNat = E
  intro hE
  refine ⟨c, -149 + (((E + 1 : Nat) : Int) - 1), ?_, by omega⟩
  unfold Jvm.FP.Core.decode Jvm.FP.Core.fieldE Jvm.FP.Core.fieldT Jvm.FP.Core.fieldS
  rw [et, ee, eq]
  have e1 : ((0 * 256 + (E + 1)) * 8388608 + (c - 8388608)) / 8388608 % 256 = E + 1 := by omega
  have e2 : ((0 * 256 + (E + 1)) * 8388608 + (c - 8388608)) % 8388608 = c - 8388608 := by omega
  have e3 : ((0 * 256 + (E + 1)) * 8388608 + (c - 8388608)) / 8388608 / 256 % 2 = 0 := by omega
  rw [e1, e2, e3, if_neg (by omega), if_neg (by omega)]
  have e4 : 8388608 + (c - 8388608) = c := by omega
  rw [e4]
  simp
theorem fp_rate {m n : Nat} (h1 : 1 ≤ n) (h2 : n < 2 ^ 24) : vf_n32 (FP.fdiv (FP.i2f (nI m)) (FP.i2f (nI n))) := by
  obtain ⟨d, r, e1, e2⟩ := fp_cnt h1 h2
  exact fp_q32 _ _ (fp_i2f _) e1 e2
