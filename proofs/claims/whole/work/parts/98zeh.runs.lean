/-! the commands are run one after another -/
theorem p_run {b K : Nat} {fi : Nat → Option Nat} {fg gk gn : Nat → Int32} (hA : zGr K fi fg gk gn) (hK : K ≤ 31) (hb : b + K ≤ 20000) (v2 v3 v4 z1 z2 z3 z4 : Int32) (gh : Nat → Int32) (o1 : Int32 × (Nat → Int32)) : ∀ (n N i : Nat) (a : Nat → Nat), n < N → i + n = K → zInv (b + i) a → n_X9_runScript_L1 v2 v3 v4 gh o1 (z1, z2, z3, nI K, z4, gk, gn) N (zF a) i = if (zRun fi fg n a i).1 = K then ((n_X9_commit v2 o1.2 gh (nI K)).1, o1.1, (n_X9_commit v2 o1.2 gh (nI K)).2.1, v3, v4, z1, z2, z3, nI K, z4, zF (zRun fi fg n a i).2, o1.2, (n_X9_commit v2 o1.2 gh (nI K)).2.2, gk, gn) else (0, 2, v2, v3, nI (zRun fi fg n a i).1, z1, z2, z3, nI K, z4, n_X9_copy o1.2 (zF (zRun fi fg n a i).2) 0 0, o1.2, gh, gk, gn) := by
  intro n
  induction n with
  | zero =>
    intro N i a h1 h2 hI
    obtain ⟨N, rfl⟩ : ∃ M, N = M + 1 := ⟨N - 1, by omega⟩
    obtain rfl : i = K := by omega
    rw [n_X9_runScript_L1, zRun, if_pos rfl]
    dsimp only
    rw [if_pos ((nI_leI (by omega) (by omega)).mpr (Nat.le_refl i))]
  | succ n ih =>
    intro N i a h1 h2 hI
    obtain ⟨N, rfl⟩ : ∃ M, N = M + 1 := ⟨N - 1, by omega⟩
    obtain ⟨x, hx, e1, e2, e3⟩ := hA i (by omega)
    have hz : zRun fi fg (n + 1) a i = if zAl a x (fg i) = 0 then (i, a) else zRun fi fg n (zOp a x (fg i)) (i + 1) := by rw [zRun, e1]; rfl
    have hb9 : b + i + 1 ≤ 20000 := by omega
    have hc := p_can (b := b + i) hI hb9 (i := x) (gk := gk) (gn := gn) (k := i) (by rw [e2]; exact zKd_m x hx)
    rw [e3] at hc
    rw [n_X9_runScript_L1, hz]
    dsimp only
    rw [if_neg (show ¬ nI K ≤ nI i from fun z => by have := (nI_leI (by omega) (by omega)).mp z; omega), hc]
    by_cases c : zAl a x (fg i) = 0
    · rw [if_pos c, if_pos c]
      dsimp only
      rw [if_neg (show ¬ (1 : Int32) = 0 by decide), if_neg (show ¬ i = K by omega)]
      rfl
    · rw [if_neg c, if_neg c]
      dsimp only
      rw [if_pos (show (0 : Int32) = 0 from rfl)]
      exact ih N (i + 1) (zOp a x (fg i)) (by omega) (by omega) (in_op hI (by omega) hx c)
theorem p_J {b : Nat} (hb : b + 32 ≤ 20000) : (∀ (k : Nat) (f : Nat → Int32), (∃ a', f = zF a' ∧ k ≤ 31 ∧ zInv (b + k) a') → zSafe f) ∧ ∀ (k : Nat) (f x y : Nat → Int32), k < 31 → (∃ a', f = zF a' ∧ k ≤ 31 ∧ zInv (b + k) a') → ∃ a', (n_X9_cannot f x y k).2 = zF a' ∧ k + 1 ≤ 31 ∧ zInv (b + (k + 1)) a' := by
  constructor
  · rintro k f ⟨a, rfl, hk, hI⟩
    have hB := hI.1
    unfold zBd at hB
    refine ⟨zle_I (show a 2 ≤ 4 by omega) (by omega), zle_I (show a 3 ≤ 3 by omega) (by omega), zle_I (show a 13 ≤ 5 by omega) (by omega), fun hz => ?_⟩
    have h0 : a 0 = 1 := by
      have h9 : nI (a 0) = nI 1 := hz
      exact (nI_eq (by omega) (by omega)).mp h9
    show 1 ≤ zn (nI (a 2))
    rw [zn_I (by omega)]
    omega
  · rintro k f x y hk ⟨a, rfl, hk', hI⟩
    obtain ⟨i, hi, hz⟩ := zKd_ex (x k)
    have hb9 : b + k + 1 ≤ 20000 := by omega
    rw [p_can (b := b + k) hI hb9 hz]
    by_cases c : zAl a i (y k) = 0
    · rw [if_pos c]
      exact ⟨a, rfl, by omega, in_up hI (by omega) (by omega)⟩
    · rw [if_neg c]
      exact ⟨zOp a i (y k), rfl, by omega, in_op hI (by omega) hi c⟩
