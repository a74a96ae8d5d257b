/-! a number's letters -/
def wnum (go : Nat → Int32) (n w : Nat) : Nat → Int32 := fun j => if n ≤ j ∧ j < n + sb_dg w then nI (sb_dec w (j - n)) else go j
theorem pow10 {e : Nat} (h : e ≤ 9) : 1 ≤ 10 ^ e ∧ 10 ^ e < 2 ^ 31 := by
  have : e = 0 ∨ e = 1 ∨ e = 2 ∨ e = 3 ∨ e = 4 ∨ e = 5 ∨ e = 6 ∨ e = 7 ∨ e = 8 ∨ e = 9 := by omega
  rcases this with rfl | rfl | rfl | rfl | rfl | rfl | rfl | rfl | rfl | rfl <;> decide
theorem dg_pow {w e : Nat} (h1 : 10 ^ e ≤ w ∨ e = 0) (h2 : w < 10 ^ (e + 1)) (h : e ≤ 9) : sb_dg w = e + 1 := by
  have : e = 0 ∨ e = 1 ∨ e = 2 ∨ e = 3 ∨ e = 4 ∨ e = 5 ∨ e = 6 ∨ e = 7 ∨ e = 8 ∨ e = 9 := by omega
  unfold sb_dg
  rcases this with rfl | rfl | rfl | rfl | rfl | rfl | rfl | rfl | rfl | rfl <;> simp only [Nat.reduceAdd, Nat.reducePow] at h1 h2 ⊢ <;> (repeat' split) <;> omega
theorem wn2 (w : Nat) : ∀ (e : Nat), e ≤ 9 → ∀ (n m : Nat) (f : Nat → Int32), e + 2 ≤ n → n_X9_writeNumber_L2 w n f m (10 ^ e) = (nI (m + e + 1), fun j => if m ≤ j ∧ j < m + e + 1 then nI (48 + w / 10 ^ (e - (j - m)) % 10) else f j) := by
  intro e
  induction e with
  | zero =>
    intro he n m f hn
    obtain ⟨k, rfl⟩ : ∃ k, n = k + 1 + 1 := ⟨n - 2, by omega⟩
    simp only [n_X9_writeNumber_L2, Nat.pow_zero]
    rw [if_neg (by decide), if_pos (by decide)]
    refine Prod.ext rfl (funext fun j => ?_)
    dsimp only
    by_cases hj : j = m
    · subst hj
      rw [pk_us, if_pos ⟨Nat.le_refl _, by omega⟩]
      simp
    · rw [pk_un hj, if_neg (by omega)]
  | succ e ih =>
    intro he n m f hn
    obtain ⟨k, rfl⟩ : ∃ k, n = k + 1 := ⟨n - 1, by omega⟩
    have hp := pow10 he
    have hd : 10 ^ (e + 1) / 10 = 10 ^ e := by rw [Nat.pow_succ]; exact Nat.mul_div_cancel _ (by decide)
    simp only [n_X9_writeNumber_L2]
    have hk : e + 2 ≤ k := by omega
    rw [if_neg (nI_nle hp.1 hp.2), hd, ih (by omega) k (m + 1) _ hk]
    refine Prod.ext (by show nI _ = nI _; congr 1; omega) (funext fun j => ?_)
    dsimp only
    by_cases hj : j = m
    · subst hj
      rw [if_neg (by omega), pk_us, if_pos ⟨Nat.le_refl _, by omega⟩]
      simp
    · by_cases h2 : m + 1 ≤ j ∧ j < m + 1 + e + 1
      · rw [if_pos h2, if_pos ⟨by omega, by omega⟩]
        have : e - (j - (m + 1)) = e + 1 - (j - m) := by omega
        rw [this]
      · rw [if_neg h2, pk_un hj, if_neg (by omega)]
theorem wn1 (v6 : Int32) (go : Nat → Int32) (w n : Nat) (hw : w < 2 ^ 31) : ∀ (N e : Nat), e ≤ 9 → (10 ^ e ≤ w ∨ e = 0) → w + 1 - 10 ^ e < N → n_X9_writeNumber_L1 v6 go w n N (10 ^ e) = n_X9_writeNumber_L2 w (w + 2) go n (10 ^ (sb_dg w - 1)) := by
  intro N
  induction N with
  | zero => intro e h1 h2 h3; omega
  | succ N ih =>
    intro e h1 h2 h3
    have hp := pow10 h1
    have hdl : w / 10 ^ e ≤ w := Nat.div_le_self _ _
    have hc : nI (w / 10 ^ e) ≤ 9 ↔ w / 10 ^ e ≤ 9 := nI_leI (a := w / 10 ^ e) (b := 9) (by omega) (by decide)
    simp only [n_X9_writeNumber_L1]
    by_cases h : w / 10 ^ e ≤ 9
    · rw [if_pos (hc.mpr h)]
      have h5 : w < 10 ^ (e + 1) := by
        have : w / 10 ^ e < 10 := by omega
        rw [Nat.pow_succ, Nat.mul_comm]
        exact (Nat.div_lt_iff_lt_mul hp.1).mp this
      rw [dg_pow h2 h5 h1]
      rfl
    · rw [if_neg (fun z => h (hc.mp z))]
      have h6 := dv10 hp.1 h
      have h7 : 10 ^ e * 10 = 10 ^ (e + 1) := (Nat.pow_succ ..).symm
      rw [h7] at h6 ⊢
      have h8 : e + 1 ≤ 9 := by
        apply Nat.le_of_not_lt
        intro z
        have : e = 9 := by omega
        subst this
        simp only [Nat.reduceAdd, Nat.reducePow] at h6
        omega
      exact ih (e + 1) h8 (Or.inl h6) (by omega)
theorem wnum_eq (v6 : Int32) (go : Nat → Int32) (w n : Nat) (hw : w < 2 ^ 31) : n_X9_writeNumber v6 go w n = (nI (n + sb_dg w), wnum go n w) := by
  have hdg := sb_dg_in w
  have e0 := wn1 v6 go w n hw (w + 2) 0 (by decide) (Or.inr rfl) (by omega)
  unfold n_X9_writeNumber
  rw [Nat.pow_zero] at e0
  have hsz : sb_dg w - 1 + 2 ≤ w + 2 := by
    unfold sb_dg
    repeat' split
    all_goals omega
  rw [e0, wn2 w (sb_dg w - 1) (by omega) (w + 2) n go hsz]
  refine Prod.ext (by show nI _ = nI _; congr 1; omega) (funext fun j => ?_)
  unfold wnum sb_dec
  have : n + (sb_dg w - 1) + 1 = n + sb_dg w := by omega
  rw [this]
theorem wn_n (v6 : Int32) (go : Nat → Int32) (w n : Nat) (hw : w < 2 ^ 31) : zi (n_X9_writeNumber v6 go w n).1 (n + sb_dg w) := by rw [wnum_eq v6 go w n hw]; exact zi_i _
