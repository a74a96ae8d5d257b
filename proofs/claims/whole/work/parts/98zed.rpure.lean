/-! the texts: what the class appends is what the reference writes -/
theorem wnum_z {f t : Nat → Int32} {q w : Nat} (h : ∀ j, j < q → f j = t j) : ∀ j, j < q + sb_dg w → wnum f q w j = zdec t q w j := by
  intro j hj
  unfold wnum zdec sb_dec
  by_cases c : q ≤ j
  · rw [if_pos ⟨c, hj⟩, if_pos c, show sb_dg w - 1 - (j - q) = q + sb_dg w - 1 - j by omega]
  · rw [if_neg (fun z => c z.1), if_neg c]
    exact h j (by omega)
theorem updA {f t : Nat → Int32} {q : Nat} {v : Int32} (h : ∀ j, j < q → f j = t j) : ∀ j, j < q + 1 → upd f q v j = upd t q v j := by
  intro j hj
  unfold upd
  split
  · rfl
  · exact h j (by omega)
def zDs (o : Int32 × Int32 × Int32 × (Nat → Int32)) (d : (Nat → Int32) × Nat) (N : Nat) : Prop := o.1 = nI d.2 ∧ o.2.1 = 0 ∧ o.2.2.1 = nI d.2 ∧ (∀ j, j < d.2 → o.2.2.2 j = d.1 j) ∧ d.2 ≤ N
theorem zDs.mono {o : Int32 × Int32 × Int32 × (Nat → Int32)} {d : (Nat → Int32) × Nat} {M N : Nat} (h : zDs o d M) (hm : M ≤ N) : zDs o d N := ⟨h.1, h.2.1, h.2.2.1, h.2.2.2.1, Nat.le_trans h.2.2.2.2 hm⟩
theorem d_L3 {a : Nat → Nat} (h9 : a 9 ≤ 3) (h11 : a 11 ≤ 1) : ∀ (n k q : Nat) (f t : Nat → Int32), k + n = 4 → k ≤ a 9 → (∀ j, j < q → f j = t j) → zDs (n_X9_renderBall_ok_L3 (zF a) n f q k) (n_X1_describe_L3 (nI (a 9)) (nI (a 11)) n k q t) (q + n) := by
  intro n
  induction n with
  | zero => intro k q f t h1 h2 _; omega
  | succ n ih =>
    intro k q f t h1 h2 hf
    rw [n_X9_renderBall_ok_L3, n_X1_describe_L3]
    have e9 : zF a 9 = nI (a 9) := rfl
    rw [e9]
    by_cases c : nI (a 9) ≤ nI k
    · rw [if_pos c, if_pos c]
      rcases (show a 11 = 0 ∨ a 11 = 1 by omega) with e | e
      · have e1 : n_X9_isTilt (zF a) = 0 := by
          unfold n_X9_isTilt
          rw [show zF a 11 = nI (a 11) from rfl, e]
          rfl
        dsimp only
        rw [if_pos e1, if_pos (show nI (a 11) = 0 by rw [e]; rfl)]
        exact ⟨rfl, rfl, rfl, hf, Nat.le_add_right _ _⟩
      · have e1 : ¬ n_X9_isTilt (zF a) = 0 := by
          unfold n_X9_isTilt
          rw [show zF a 11 = nI (a 11) from rfl, e]
          decide
        dsimp only
        rw [if_neg e1, if_neg (show ¬ nI (a 11) = 0 by rw [e]; decide)]
        exact ⟨rfl, rfl, rfl, updA hf, show q + 1 ≤ q + (n + 1) by omega⟩
    · rw [if_neg c, if_neg c]
      have c' : ¬ a 9 ≤ k := fun z => c ((nI_leI (by omega) (by omega)).mpr z)
      exact (ih (k + 1) (q + 1) _ _ (by omega) (by omega) (updA hf)).mono (by omega)
theorem d_L2 {a : Nat → Nat} (h9 : a 9 ≤ 3) (h11 : a 11 ≤ 1) (hd : ∀ i, i < 5 → a (24 + i) ≤ 1) : ∀ (n k q : Nat) (f t : Nat → Int32), k + n = 6 → k ≤ 5 → (∀ j, j < q → f j = t j) → zDs (n_X9_renderBall_ok_L2 (zF a) n f q k) (n_X1_describe_L2 (nI (a 9)) (nI (a 11)) (fun j => nI (a (24 + j))) n k q t) (q + n + 4) := by
  intro n
  induction n with
  | zero => intro k q f t h1 h2 _; omega
  | succ n ih =>
    intro k q f t h1 h2 hf
    rw [n_X9_renderBall_ok_L2, n_X1_describe_L2]
    by_cases c : 5 ≤ nI k
    · rw [if_pos c, if_pos c]
      exact (d_L3 h9 h11 4 0 q _ _ (by omega) (by omega) hf).mono (by omega)
    · rw [if_neg c, if_neg c]
      have c' : ¬ 5 ≤ k := fun z => c ((nI_leI (a := 5) (by omega) (by omega)).mpr z)
      have h24 := hd k (by omega)
      rw [show zF a (24 + k) = nI (a (24 + k)) from rfl]
      rcases (show a (24 + k) = 0 ∨ a (24 + k) = 1 by omega) with e | e
      · rw [e, if_neg (by decide), if_pos (by decide)]
        exact (ih (k + 1) (q + 1) _ _ (by omega) (by omega) (updA hf)).mono (by omega)
      · rw [e, if_pos (by decide), if_neg (by decide)]
        exact (ih (k + 1) (q + 1) _ _ (by omega) (by omega) (updA hf)).mono (by omega)
theorem d_L1 {a : Nat → Nat} (h9 : a 9 ≤ 3) (h11 : a 11 ≤ 1) (hd : ∀ i, i < 5 → a (24 + i) ≤ 1) (hli : ∀ i, i < 4 → a (16 + i) ≤ 1) : ∀ (n k q : Nat) (f t : Nat → Int32), k + n = 5 → k ≤ 4 → (∀ j, j < q → f j = t j) → zDs (n_X9_renderBall_ok_L1 (zF a) n f q k) (n_X1_describe_L1 (nI (a 9)) (nI (a 11)) (fun j => nI (a (16 + j))) (fun j => nI (a (24 + j))) n k q t) (q + n + 10) := by
  intro n
  induction n with
  | zero => intro k q f t h1 h2 _; omega
  | succ n ih =>
    intro k q f t h1 h2 hf
    rw [n_X9_renderBall_ok_L1, n_X1_describe_L1]
    by_cases c : 4 ≤ nI k
    · rw [if_pos c, if_pos c]
      exact (d_L2 h9 h11 hd 6 0 (q + 1) _ _ (by omega) (by omega) (updA hf)).mono (by omega)
    · rw [if_neg c, if_neg c]
      have c' : ¬ 4 ≤ k := fun z => c ((nI_leI (a := 4) (by omega) (by omega)).mpr z)
      have h24 := hli k (by omega)
      rw [show zF a (16 + k) = nI (a (16 + k)) from rfl]
      rcases (show a (16 + k) = 0 ∨ a (16 + k) = 1 by omega) with e | e
      · rw [e, if_neg (by decide), if_pos (by decide)]
        exact (ih (k + 1) (q + 1) _ _ (by omega) (by omega) (updA hf)).mono (by omega)
      · rw [e, if_pos (by decide), if_neg (by decide)]
        exact (ih (k + 1) (q + 1) _ _ (by omega) (by omega) (updA hf)).mono (by omega)
theorem d_ball {b : Nat} {a : Nat → Nat} (hB : zBd b a) (hr : a 0 = 1) (go : Nat → Int32) : zDs (n_X9_renderBall_ok (zF a) go) (n_X1_describe (nI (mU a)) (nI (a 9)) (nI (a 11)) (fun j => nI (a (16 + j))) (fun j => nI (a (24 + j)))) 40 := by
  have hB' := hB
  unfold zBd at hB'
  have h5 : mU a = a 5 := by unfold mU; rw [if_neg (by omega)]
  rw [h5]
  unfold n_X9_renderBall_ok n_X1_describe
  dsimp only
  have e5 : zF a 5 = nI (a 5) := rfl
  have ez : zn (nI (a 5)) = a 5 := zn_I (by omega)
  rw [e5, ez, wnum_eq _ _ _ _ (by omega)]
  have hdg := sb_dg_in (a 5)
  refine (d_L1 (by omega) (by omega) hB'.2.2.2.2.2.2.2.2.2.2.2.2.2.2.2.2.2.2.1 hB'.2.2.2.2.2.2.2.2.2.2.2.2.2.2.2.2.1 5 0 _ _ _ (by omega) (by omega) (updA (wnum_z (updA (q := 0) (fun j hj => absurd hj (by omega)))))).mono (by omega)
theorem d_rec1 {a : Nat → Nat} (h13 : a 13 ≤ 5) (hrs : ∀ k, k < a 13 → a (46 + 3 * k) ≤ 99999999 ∧ a (46 + 3 * k + 1) ≤ 3 ∧ a (46 + 3 * k + 2) ≤ 99999999) : ∀ (n k q : Nat) (f t : Nat → Int32), k + n = 6 → k ≤ a 13 → (∀ j, j < q → f j = t j) → zDs (n_X9_renderRecords_L1 (zF a) n f q k) (n_X4_describe_L1 (nI (a 13)) (fun j => nI (a (46 + 3 * j))) (fun j => nI (a (46 + 3 * j + 1))) (fun j => nI (a (46 + 3 * j + 2))) n k q t) (q + 20 * n) := by
  intro n
  induction n with
  | zero => intro k q f t h1 h2 _; omega
  | succ n ih =>
    intro k q f t h1 h2 hf
    rw [n_X9_renderRecords_L1, n_X4_describe_L1]
    dsimp only
    rw [show zF a 13 = nI (a 13) from rfl, show zF a (46 + 3 * k) = nI (a (46 + 3 * k)) from rfl, show zF a (46 + 3 * k + 1) = nI (a (46 + 3 * k + 1)) from rfl, show zF a (46 + 3 * k + 2) = nI (a (46 + 3 * k + 2)) from rfl]
    by_cases c : nI (a 13) ≤ nI k
    · rw [if_pos c, if_pos c]
      exact ⟨rfl, rfl, rfl, hf, Nat.le_add_right _ _⟩
    · have c' : ¬ a 13 ≤ k := fun z => c ((nI_leI (by omega) (by omega)).mpr z)
      obtain ⟨k1, k2, k3⟩ := hrs k (by omega)
      rw [if_neg c, if_neg c, zn_I (show a (46 + 3 * k) < 2 ^ 31 by omega), zn_I (show a (46 + 3 * k + 1) < 2 ^ 31 by omega), zn_I (show a (46 + 3 * k + 2) < 2 ^ 31 by omega)]
      have d1 := dg8 k1
      have d2 := dg1 k2
      have d3 := dg8 k3
      have w1 : a (46 + 3 * k) < 2 ^ 31 := by omega
      have w2 : a (46 + 3 * k + 1) < 2 ^ 31 := by omega
      have w3 : a (46 + 3 * k + 2) < 2 ^ 31 := by omega
      by_cases c0 : nI k ≤ 0
      · rw [if_pos c0, if_pos c0]
        simp only [wnum_eq _ _ _ _ w1, wnum_eq _ _ _ _ w2, wnum_eq _ _ _ _ w3]
        exact (ih (k + 1) _ _ _ (by omega) (by omega) (wnum_z (updA (wnum_z (updA (wnum_z hf)))))).mono (by omega)
      · rw [if_neg c0, if_neg c0]
        simp only [wnum_eq _ _ _ _ w1, wnum_eq _ _ _ _ w2, wnum_eq _ _ _ _ w3]
        exact (ih (k + 1) _ _ _ (by omega) (by omega) (wnum_z (updA (wnum_z (updA (wnum_z (updA hf))))))).mono (by omega)
theorem d_rec {a : Nat → Nat} (h13 : a 13 ≤ 5) (hrs : ∀ k, k < a 13 → a (46 + 3 * k) ≤ 99999999 ∧ a (46 + 3 * k + 1) ≤ 3 ∧ a (46 + 3 * k + 2) ≤ 99999999) (go : Nat → Int32) : zDs (n_X9_renderRecords (zF a) go) (n_X4_describe (nI (a 13)) (fun j => nI (a (46 + 3 * j))) (fun j => nI (a (46 + 3 * j + 1))) (fun j => nI (a (46 + 3 * j + 2)))) 120 := by
  unfold n_X9_renderRecords n_X4_describe
  exact d_rec1 h13 hrs 6 0 0 _ _ (by omega) (by omega) (fun j hj => absurd hj (by omega))
