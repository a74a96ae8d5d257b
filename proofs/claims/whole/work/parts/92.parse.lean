theorem zrw_sp (ft : Nat → Int32) (L i : Nat) : ∀ (f j p : Nat), j ≤ zln i → zln i - j ≤ f → p ≤ L → (zrw ft L i f j p).1 = 1 → (zrw ft L i f j p).2 = p + (zln i - j) ∧ (zrw ft L i f j p).2 ≤ L
  | 0, j, p, hj, hf, hp, _ => by
    unfold zrw
    exact ⟨by show p = p + (zln i - j); omega, hp⟩
  | f + 1, j, p, hj, hf, hp, h => by
    unfold zrw at h ⊢
    by_cases e : zln i ≤ j
    · rw [if_pos e]
      exact ⟨by show p = p + (zln i - j); omega, hp⟩
    · rw [if_neg e] at h ⊢
      by_cases c : p < L ∧ ft p = zch i j
      · rw [if_pos c] at h ⊢
        obtain ⟨h1, h2⟩ := zrw_sp ft L i f (j + 1) (p + 1) (by omega) (by omega) (by omega) h
        exact ⟨by omega, h2⟩
      · rw [if_neg c] at h
        exact absurd (show (0 : Int32) = 1 from h) (by decide)
theorem zrcm_sp {ft : Nat → Int32} {L p : Nat} (hp : p ≤ L) (h : ¬ (zrcm ft L p).1 = 0) : p + 4 ≤ (zrcm ft L p).2.1 ∧ (zrcm ft L p).2.1 ≤ L ∧ (zrcm ft L p).2.2.1 < 8 := by
  unfold zrcm at h ⊢
  cases hz : zca ft L p with
  | none => rw [hz] at h; exact absurd rfl h
  | some i =>
    rw [hz] at h
    have hi := (zca_lt hz).1
    have hl := zln_le i hi
    have h01 := zrw_01 ft L i 8 0 p
    dsimp only at h ⊢
    by_cases c : (zrw ft L i 8 0 p).1 = 0
    · rw [if_pos c] at h; exact absurd rfl h
    · rw [if_neg c] at h ⊢
      obtain ⟨h1, h2⟩ := zrw_sp ft L i 8 0 p (by omega) (by omega) hp (h01.resolve_left c)
      by_cases c2 : 2 ≤ i ∧ i < 6
      · rw [if_pos c2] at h ⊢
        by_cases c3 : zda ft L (zrw ft L i 8 0 p).2 = 0
        · rw [if_pos c3] at h; exact absurd rfl h
        · rw [if_neg c3]
          have hd : (zrw ft L i 8 0 p).2 < L := by
            unfold zda at c3
            by_cases q : (zrw ft L i 8 0 p).2 < L ∧ 48 ≤ ft (zrw ft L i 8 0 p).2 ∧ ft (zrw ft L i 8 0 p).2 ≤ 57
            · exact q.1
            · rw [if_neg q] at c3; exact absurd rfl c3
          exact ⟨by dsimp only; omega, by dsimp only; omega, hi⟩
      · rw [if_neg c2]
        exact ⟨by dsimp only; omega, by dsimp only; omega, hi⟩
def zPk (L : Nat) (x : zPs) : Prop := (x.1 = 0 ∨ x.1 = 1) ∧ x.2.1 ≤ L ∧ (∀ j, j < x.2.2.1 → ∃ i, i < 8 ∧ x.2.2.2.1 j = some i) ∧ 5 * x.2.2.1 ≤ x.2.1 + 1
theorem zrcm_le {ft : Nat → Int32} {L p : Nat} (hp : p ≤ L) : (zrcm ft L p).2.1 ≤ L := by
  by_cases h : (zrcm ft L p).1 = 0
  · unfold zrcm at h ⊢
    cases hz : zca ft L p with
    | none => exact hp
    | some i =>
      rw [hz] at h
      have hi := (zca_lt hz).1
      have hl := zln_le i hi
      have W : ∀ (f j q : Nat), q ≤ L → (zrw ft L i f j q).2 ≤ L := by
        intro f
        induction f with
        | zero => intro j q hq; exact hq
        | succ f ih =>
          intro j q hq
          unfold zrw
          split
          · exact hq
          · split
            · rename_i c; exact ih (j + 1) (q + 1) (by omega)
            · exact hq
      have w := W 8 0 p hp
      dsimp only at h ⊢
      by_cases c : (zrw ft L i 8 0 p).1 = 0
      · rw [if_pos c]; exact w
      · rw [if_neg c] at h ⊢
        by_cases c2 : 2 ≤ i ∧ i < 6
        · rw [if_pos c2] at h ⊢
          by_cases c3 : zda ft L (zrw ft L i 8 0 p).2 = 0
          · rw [if_pos c3]; exact w
          · rw [if_neg c3] at h; exact absurd (show (1 : Int32) = 0 from h) (by decide)
        · rw [if_neg c2] at h; exact absurd (show (1 : Int32) = 0 from h) (by decide)
  · exact (zrcm_sp hp h).2.1
theorem zst_k {ft : Nat → Int32} {L p k : Nat} {fi : Nat → Option Nat} {fg : Nat → Int32} (hL : L ≤ 60) (hp : p ≤ L) (hf : ∀ j, j < k → ∃ i, i < 8 ∧ fi j = some i) (hk : 5 * k ≤ p) : zPk L (zst ft L p k fi fg) := by
  unfold zst
  by_cases c : (zrcm ft L p).1 = 0
  · rw [if_pos c]
    exact ⟨Or.inl rfl, zrcm_le hp, hf, by
      have : p ≤ (zrcm ft L p).2.1 := (zrcm_p ft L p hL (by omega)).1
      show 5 * k ≤ (zrcm ft L p).2.1 + 1
      omega⟩
  · rw [if_neg c]
    obtain ⟨h1, h2, h3⟩ := zrcm_sp hp c
    refine ⟨Or.inr rfl, h2, fun j hj => ?_, by show 5 * (k + 1) ≤ (zrcm ft L p).2.1 + 1; omega⟩
    show ∃ i, i < 8 ∧ va_up fi k (some (zrcm ft L p).2.2.1) j = some i
    by_cases e : j = k
    · subst e
      exact ⟨_, h3, if_pos rfl⟩
    · obtain ⟨i, hi, ei⟩ := hf j (by have : j < k + 1 := hj; omega)
      exact ⟨i, hi, by rw [← ei]; exact if_neg e⟩
theorem zpl_k {ft : Nat → Int32} {L : Nat} (hL : L ≤ 60) : ∀ (f : Nat) (x : zPs), zPk L x → zPk L (zpl ft L f x)
  | 0, x, h => h
  | f + 1, x, h => by
    unfold zpl
    split
    · exact h
    · split
      · exact h
      · split
        · exact h
        · obtain ⟨h1, h2, h3, h4⟩ := h
          by_cases c : (zrd ft L x.2.1 59).1 = 0
          · rw [if_pos c]
            refine ⟨Or.inl rfl, ?_, h3, ?_⟩
            · show (zrd ft L x.2.1 59).2 ≤ L
              unfold zrd; split
              · rename_i q; exact q.1
              · exact h2
            · show 5 * x.2.2.1 ≤ (zrd ft L x.2.1 59).2 + 1
              unfold zrd; split
              · show 5 * x.2.2.1 ≤ x.2.1 + 1 + 1; omega
              · exact h4
          · rw [if_neg c]
            have e : (zrd ft L x.2.1 59).2 = x.2.1 + 1 ∧ x.2.1 < L := by
              unfold zrd at c ⊢
              by_cases q : x.2.1 < L ∧ ft x.2.1 = 59
              · rw [if_pos q]; exact ⟨rfl, q.1⟩
              · rw [if_neg q] at c; exact absurd rfl c
            exact zpl_k hL f _ (zst_k hL (by rw [e.1]; exact e.2) h3 (by rw [e.1]; exact h4))
theorem zparse_k (ft : Nat → Int32) (L : Nat) (hL : L ≤ 60) (fi : Nat → Option Nat) (fg : Nat → Int32) : zPk L (zparse ft L fi fg) :=
  zpl_k hL 61 _ (zst_k hL (Nat.zero_le L) (fun j hj => absurd hj (Nat.not_lt_zero j)) (Nat.le_refl 0))
