/-! the script: the reference's parse is the class's -/
def mkd (i : Nat) : Nat := [4, 5, 0, 1, 2, 3, 6, 7].getD i 7
def mln (a : Nat) : Nat := [4, 6, 6, 5, 6, 5, 5, 4].getD a 0
def mlt (a k : Nat) : Int32 := n_X9_letter (nI a) (nI k)
theorem mlt_p : ∀ a, a < 8 → ∀ k, k < 7 → (k < mln a → ¬ mlt a k ≤ 0 ∧ ¬ mlt a k = 0) ∧ (k = mln a → mlt a k = 0) := by decide +kernel
theorem mlt_z : ∀ i, i < 8 → ∀ j, j < 7 → j < mln (mkd i) → zch i j = mlt (mkd i) j := by decide +kernel
theorem mln_z : ∀ i, i < 8 → zln i = mln (mkd i) + (if 2 ≤ i ∧ i < 6 then 1 else 0) ∧ ((2 ≤ i ∧ i < 6) → zch i (mln (mkd i)) = 32) ∧ mkd i < 8 ∧ (4 ≤ mkd i ↔ ¬ (2 ≤ i ∧ i < 6)) := by decide +kernel
theorem mln_b : ∀ a, a < 8 → 4 ≤ mln a ∧ mln a ≤ 6 := by decide +kernel
theorem mkd_d : ∀ i, i < 8 → ∀ a, a < 8 → mlt (mkd i) 0 = mlt a 0 → a = mkd i := by decide +kernel
theorem mkd_ex : ∀ a, a < 8 → ∃ i, i < 8 ∧ mkd i = a := by
  intro a ha
  obtain rfl | rfl | rfl | rfl | rfl | rfl | rfl | rfl : a = 0 ∨ a = 1 ∨ a = 2 ∨ a = 3 ∨ a = 4 ∨ a = 5 ∨ a = 6 ∨ a = 7 := by omega
  · exact ⟨2, by omega, rfl⟩
  · exact ⟨3, by omega, rfl⟩
  · exact ⟨4, by omega, rfl⟩
  · exact ⟨5, by omega, rfl⟩
  · exact ⟨0, by omega, rfl⟩
  · exact ⟨1, by omega, rfl⟩
  · exact ⟨6, by omega, rfl⟩
  · exact ⟨7, by omega, rfl⟩
section PS
variable {ft gi : Nat → Int32} {L p : Nat}
def zmt (ft : Nat → Int32) (L p a : Nat) : Nat → Nat → Nat
  | 0, k => k
  | f + 1, k => if mln a ≤ k then k else if p + k < L ∧ ft (p + k) = mlt a k then zmt ft L p a f (k + 1) else k
theorem zmt_le (a : Nat) : ∀ f k, k ≤ zmt ft L p a f k ∧ zmt ft L p a f k ≤ k + f ∧ (k ≤ mln a → zmt ft L p a f k ≤ mln a) ∧ (p + k ≤ L → p + zmt ft L p a f k ≤ L) := by
  intro f
  induction f with
  | zero => intro k; exact ⟨Nat.le_refl k, Nat.le_refl k, fun h => h, fun h => h⟩
  | succ f ih =>
    intro k
    rw [zmt]
    split
    · exact ⟨Nat.le_refl k, by omega, fun h => h, fun h => h⟩
    · split
      · rename_i c1 c2
        obtain ⟨i1, i2, i3, i4⟩ := ih (k + 1)
        exact ⟨by omega, by omega, fun h => i3 (by omega), fun h => i4 (by omega)⟩
      · exact ⟨Nat.le_refl k, by omega, fun h => h, fun h => h⟩
theorem zmt_0 {a : Nat} (ha : a < 8) (h : ¬ (p < L ∧ ft p = mlt a 0)) : zmt ft L p a 7 0 = 0 := by
  have := mln_b a ha
  rw [zmt, if_neg (by omega), if_neg (by rw [Nat.add_zero]; exact h)]
theorem w_L2 (hL : L ≤ 60) (hp : p ≤ L) (hg : ∀ j, j < L → gi j = ft j) {a w : Nat} (ha : a < 8) (hw : w ≤ 60) (k0 : Nat → Nat → Int32 × Int32 × Int32) : ∀ f k N, k ≤ mln a → mln a ≤ k + f → f < N → n_X9_word_L2 (nI L) (nI p) gi w a k0 N k = if zmt ft L p a f k = mln a then (nI a, nI (p + mln a), 0) else if zmt ft L p a f k ≤ w then k0 w (a + 1) else k0 (zmt ft L p a f k) (a + 1) := by
  have hb := mln_b a ha
  have zp : zn (nI p) = p := zn_I (by omega)
  have full : ∀ (N : Nat), n_X9_word_L2 (nI L) (nI p) gi w a k0 (N + 1) (mln a) = (nI a, nI (p + mln a), 0) := by
    intro N
    have e0 : n_X9_letter (nI a) (nI (mln a)) = 0 := (mlt_p a ha (mln a) (by omega)).2 rfl
    rw [n_X9_word_L2]
    rw [e0, if_pos (by decide), if_pos rfl, zp]
  intro f
  induction f with
  | zero =>
    intro k N h1 h2 h3
    obtain ⟨N, rfl⟩ : ∃ M, N = M + 1 := ⟨N - 1, by omega⟩
    obtain rfl : k = mln a := by omega
    rw [full N, zmt, if_pos rfl]
  | succ f ih =>
    intro k N h1 h2 h3
    obtain ⟨N, rfl⟩ : ∃ M, N = M + 1 := ⟨N - 1, by omega⟩
    by_cases c : mln a ≤ k
    · obtain rfl : k = mln a := by omega
      rw [full N, zmt, if_pos (Nat.le_refl _), if_pos rfl]
    · obtain ⟨l1, l2⟩ := (mlt_p a ha k (by omega)).1 (by omega)
      have el : n_X9_letter (nI a) (nI k) = mlt a k := rfl
      have ew : (nI k ≤ nI w) ↔ k ≤ w := nI_leI (by omega) (by omega)
      have eL : (nI L ≤ nI (p + k)) ↔ L ≤ p + k := nI_leI (by omega) (by omega)
      rw [n_X9_word_L2, zmt, if_neg c]
      rw [el, zp, if_neg l1]
      by_cases d : L ≤ p + k
      · rw [if_pos (eL.mpr d), if_neg l2, if_neg (show ¬ (p + k < L ∧ ft (p + k) = mlt a k) from fun z => by omega), if_neg (show ¬ k = mln a by omega)]
        by_cases e : k ≤ w
        · rw [if_pos (ew.mpr e), if_pos e]
        · rw [if_neg (fun z => e (ew.mp z)), if_neg e]
      · rw [if_neg (fun z => d (eL.mp z)), hg (p + k) (by omega)]
        by_cases g : ft (p + k) = mlt a k
        · rw [if_pos g, if_pos (show p + k < L ∧ ft (p + k) = mlt a k from ⟨by omega, g⟩)]
          exact ih (k + 1) N (by omega) (by omega) (by omega)
        · rw [if_neg g, if_neg l2, if_neg (show ¬ (p + k < L ∧ ft (p + k) = mlt a k) from fun z => g z.2), if_neg (show ¬ k = mln a by omega)]
          by_cases e : k ≤ w
          · rw [if_pos (ew.mpr e), if_pos e]
          · rw [if_neg (fun z => e (ew.mp z)), if_neg e]
theorem w_none (hL : L ≤ 60) (hp : p ≤ L) (hg : ∀ j, j < L → gi j = ft j) : ∀ n a w, a + n = 9 → a ≤ 8 → w ≤ 60 → (∀ a', a ≤ a' → a' < 8 → zmt ft L p a' 7 0 = 0) → n_X9_word_L1 (nI L) (nI p) gi n w a = (0, nI (p + w), 1) := by
  have zp : zn (nI p) = p := zn_I (by omega)
  intro n
  induction n with
  | zero => intro a w h1 h2; omega
  | succ n ih =>
    intro a w h1 h2 hw hz
    rw [n_X9_word_L1]
    by_cases c : a = 8
    · subst c
      rw [if_pos (by decide), zp]
    · have hb := mln_b a (by omega)
      rw [if_neg (show ¬ 8 ≤ nI a from fun z => by have := (nI_leI (a := 8) (by omega) (by omega)).mp z; omega), w_L2 hL hp hg (by omega) hw _ 7 0 61 (by omega) (by omega) (by omega), hz a (Nat.le_refl a) (by omega), if_neg (by omega), if_pos (Nat.zero_le w)]
      exact ih (a + 1) w (by omega) (by omega) hw (fun a' h3 h4 => hz a' (by omega) h4)
theorem w_some (hL : L ≤ 60) (hp : p ≤ L) (hg : ∀ j, j < L → gi j = ft j) {a0 : Nat} (h0 : a0 < 8) (hz : ∀ a', a' < 8 → a' ≠ a0 → zmt ft L p a' 7 0 = 0) : ∀ n a, a + n = 9 → a ≤ a0 → n_X9_word_L1 (nI L) (nI p) gi n 0 a = if zmt ft L p a0 7 0 = mln a0 then (nI a0, nI (p + mln a0), 0) else (0, nI (p + zmt ft L p a0 7 0), 1) := by
  intro n
  induction n with
  | zero => intro a h1 h2; omega
  | succ n ih =>
    intro a h1 h2
    have hb := mln_b a (by omega)
    rw [n_X9_word_L1, if_neg (show ¬ 8 ≤ nI a from fun z => by have := (nI_leI (a := 8) (by omega) (by omega)).mp z; omega), w_L2 hL hp hg (by omega) (Nat.zero_le _) _ 7 0 61 (by omega) (by omega) (by omega)]
    by_cases c : a = a0
    · subst c
      by_cases d : zmt ft L p a 7 0 = mln a
      · rw [if_pos d, if_pos d]
      · rw [if_neg d, if_neg d]
        have hle := (zmt_le (ft := ft) (L := L) (p := p) a 7 0).2.1
        by_cases e : zmt ft L p a 7 0 ≤ 0
        · rw [if_pos e, w_none hL hp hg n (a + 1) 0 (by omega) (by omega) (by omega) (fun a' h3 h4 => hz a' h4 (by omega)), show zmt ft L p a 7 0 = 0 by omega]
        · rw [if_neg e, w_none hL hp hg n (a + 1) _ (by omega) (by omega) (by omega) (fun a' h3 h4 => hz a' h4 (by omega))]
    · rw [hz a (by omega) c, if_neg (by omega), if_pos (Nat.le_refl 0)]
      exact ih (a + 1) (by omega) (by omega)
theorem c_rw {i : Nat} (hi : i < 8) : ∀ f j, j ≤ mln (mkd i) → mln (mkd i) ≤ j + f → zrw ft L i (f + 1) j (p + j) = if zmt ft L p (mkd i) f j < mln (mkd i) then (0, p + zmt ft L p (mkd i) f j) else if 2 ≤ i ∧ i < 6 then (if p + mln (mkd i) < L ∧ ft (p + mln (mkd i)) = 32 then (1, p + mln (mkd i) + 1) else (0, p + mln (mkd i))) else (1, p + mln (mkd i)) := by
  obtain ⟨z1, z2, z3, z4⟩ := mln_z i hi
  have hb := mln_b (mkd i) z3
  have tail : ∀ (F : Nat), zrw ft L i (F + 1) (mln (mkd i)) (p + mln (mkd i)) = if 2 ≤ i ∧ i < 6 then (if p + mln (mkd i) < L ∧ ft (p + mln (mkd i)) = 32 then (1, p + mln (mkd i) + 1) else (0, p + mln (mkd i))) else (1, p + mln (mkd i)) := by
    intro F
    rw [zrw]
    by_cases c : 2 ≤ i ∧ i < 6
    · rw [if_pos c] at z1
      rw [if_neg (by omega), if_pos c, z2 c]
      by_cases d : p + mln (mkd i) < L ∧ ft (p + mln (mkd i)) = 32
      · rw [if_pos d, if_pos d]
        cases F with
        | zero => rw [zrw]
        | succ F => rw [zrw, if_pos (by omega)]
      · rw [if_neg d, if_neg d]
    · rw [if_neg c] at z1
      rw [if_pos (by omega), if_neg c]
  intro f
  induction f with
  | zero =>
    intro j h1 h2
    obtain rfl : j = mln (mkd i) := by omega
    rw [tail 0, zmt, if_neg (Nat.lt_irrefl _)]
  | succ f ih =>
    intro j h1 h2
    by_cases c : mln (mkd i) ≤ j
    · obtain rfl : j = mln (mkd i) := by omega
      rw [tail (f + 1), zmt, if_pos (Nat.le_refl _), if_neg (Nat.lt_irrefl _)]
    · have ez := mlt_z i hi j (by omega) (by omega)
      rw [zrw, if_neg (by split at z1 <;> omega), zmt, if_neg c, ez]
      by_cases d : p + j < L ∧ ft (p + j) = mlt (mkd i) j
      · rw [if_pos d, if_pos d]
        exact ih (j + 1) (by omega) (by omega)
      · rw [if_neg d, if_neg d, if_pos (by omega)]
theorem zcf_n : ∀ f j, zcf ft p f j = none → ∀ i, j ≤ i → i < j + f → ¬ zch i 0 = ft p := by
  intro f
  induction f with
  | zero => intro j _ i h1 h2; omega
  | succ f ih =>
    intro j h i h1 h2
    rw [zcf] at h
    by_cases c : zch j 0 = ft p
    · rw [if_pos c] at h; cases h
    · rw [if_neg c] at h
      by_cases e : i = j
      · rw [e]; exact c
      · exact ih (j + 1) h i (by omega) (by omega)
theorem zcf_s : ∀ f j i, zcf ft p f j = some i → zch i 0 = ft p := by
  intro f
  induction f with
  | zero => intro j i h; cases h
  | succ f ih =>
    intro j i h
    rw [zcf] at h
    by_cases c : zch j 0 = ft p
    · rw [if_pos c] at h; cases h; exact c
    · rw [if_neg c] at h; exact ih (j + 1) i h
theorem p_mark (hL : L ≤ 60) (hg : ∀ j, j < L → gi j = ft j) {q : Nat} (hq : q ≤ 100) : n_X9_mark_0 (nI L) (nI q) gi = if q < L then ft q else -1 := by
  unfold n_X9_mark_0
  rw [zn_I (by omega)]
  have e : (nI L ≤ nI q) ↔ L ≤ q := nI_leI (by omega) (by omega)
  by_cases c : q < L
  · rw [if_neg (fun z => by have := e.mp z; omega), if_pos c, hg q c]
  · rw [if_pos (e.mpr (by omega)), if_neg c]
theorem p_in (x : Int32) : n_X9_in x 48 57 = if 48 ≤ x ∧ x ≤ 57 then 1 else 0 := by
  unfold n_X9_in
  by_cases c : x < 48
  · rw [if_pos c, if_neg (fun z => by
      have h1 := z.1
      rw [Int32.le_iff_toInt_le] at h1
      rw [Int32.lt_iff_toInt_lt] at c
      omega)]
  · rw [if_neg c]
    have c1 : 48 ≤ x := by
      rw [Int32.le_iff_toInt_le]
      rw [Int32.lt_iff_toInt_lt] at c
      omega
    by_cases d : 57 < x
    · rw [if_pos d, if_neg (fun z => by
        have h1 := z.2
        rw [Int32.le_iff_toInt_le] at h1
        rw [Int32.lt_iff_toInt_lt] at d
        omega)]
    · have d1 : x ≤ 57 := by
        rw [Int32.le_iff_toInt_le]
        rw [Int32.lt_iff_toInt_lt] at d
        omega
      rw [if_neg d, if_pos ⟨c1, d1⟩]
theorem p_zda (hL : L ≤ 60) (hg : ∀ j, j < L → gi j = ft j) {q : Nat} (hq : q ≤ 100) : n_X9_in (n_X9_mark_0 (nI L) (nI q) gi) 48 57 = zda ft L q := by
  rw [p_mark hL hg hq, p_in]
  unfold zda
  by_cases c : q < L
  · rw [if_pos c]
    by_cases d : 48 ≤ ft q ∧ ft q ≤ 57
    · rw [if_pos d, if_pos ⟨c, d⟩]
    · rw [if_neg d, if_neg (fun z => d z.2)]
  · rw [if_neg c, if_neg (show ¬ ((48 : Int32) ≤ -1 ∧ (-1 : Int32) ≤ 57) by decide), if_neg (show ¬ (q < L ∧ 48 ≤ ft q ∧ ft q ≤ 57) from fun z => c z.1)]
theorem p_digit (hL : L ≤ 60) (hg : ∀ j, j < L → gi j = ft j) {q : Nat} (hq : q ≤ 80) : n_X9_digit_0 (nI L) (nI q) gi = if q < L ∧ ft q = 32 then (if zda ft L (q + 1) = 0 then (0, nI (q + 1), 1) else (gi (q + 1) - 48, nI (q + 2), 0)) else (0, nI q, 1) := by
  unfold n_X9_digit_0
  dsimp only
  rw [zn_I (show q < 2 ^ 31 by omega), p_zda hL hg (show q + 1 ≤ 100 by omega), p_mark hL hg (show q ≤ 100 by omega)]
  by_cases c : q < L
  · rw [if_pos c]
    by_cases d : ft q = 32
    · rw [if_pos d, if_pos (show q < L ∧ ft q = 32 from ⟨c, d⟩)]
      rfl
    · rw [if_neg d, if_neg (show ¬ (q < L ∧ ft q = 32) from fun z => d z.2)]
      exact ite_self _
  · rw [if_neg c, if_neg (show ¬ (-1 : Int32) = 32 by decide), if_neg (show ¬ (q < L ∧ ft q = 32) from fun z => c z.1)]
    exact ite_self _
theorem p_d1 {q : Nat} (hq : q ≤ 100) : n_X9_digit_1 (nI q) = nI q := by
  unfold n_X9_digit_1
  dsimp only
  rw [zn_I (show q < 2 ^ 31 by omega)]
  split <;> rfl
theorem p_cmd (hL : L ≤ 60) (hp : p ≤ L) (hg : ∀ j, j < L → gi j = ft j) {c : Nat} (hc : c ≤ 31) (gk gn : Nat → Int32) : n_X9_command (nI L) (nI p) (nI c) gi gk gn = if (zrcm ft L p).1 = 0 then (nI (zrcm ft L p).2.1, nI c, 1, gk, gn) else (nI (zrcm ft L p).2.1, nI (c + 1), 0, upd gk c (nI (mkd (zrcm ft L p).2.2.1)), upd gn c (zrcm ft L p).2.2.2) := by
  have zc : zn (nI c) = c := zn_I (by omega)
  unfold n_X9_command n_X9_word zrcm
  cases hz : zca ft L p with
  | none =>
    have hn : ∀ a', a' < 8 → zmt ft L p a' 7 0 = 0 := by
      intro a' ha'
      refine zmt_0 ha' (fun z => ?_)
      obtain ⟨i, hi, ei⟩ := mkd_ex a' ha'
      unfold zca at hz
      rw [if_pos z.1] at hz
      have hb := mln_b (mkd i) (by omega)
      refine zcf_n 8 0 hz i (Nat.zero_le i) (by omega) ?_
      rw [mlt_z i hi 0 (by omega) (by omega), ei]
      exact z.2.symm
    rw [w_none hL hp hg 9 0 0 rfl (by omega) (by omega) (fun a' _ h => hn a' h)]
    dsimp only
    rw [if_neg (by decide), if_neg (by decide), Nat.add_zero, p_d1 (by omega), if_pos rfl]
  | some i =>
    obtain ⟨hi, hpL⟩ := zca_lt hz
    have hs : zch i 0 = ft p := by
      unfold zca at hz
      rw [if_pos hpL] at hz
      exact zcf_s 8 0 i hz
    obtain ⟨z1, z2, z3, z4⟩ := mln_z i hi
    have hb := mln_b (mkd i) z3
    have hn : ∀ a', a' < 8 → a' ≠ mkd i → zmt ft L p a' 7 0 = 0 := by
      intro a' ha' hne
      refine zmt_0 ha' (fun z => hne (mkd_d i hi a' ha' ?_))
      rw [← mlt_z i hi 0 (by omega) (by omega), hs]
      exact z.2
    have hc9 := c_rw (ft := ft) (L := L) (p := p) hi 7 0 (Nat.zero_le _) (by omega)
    obtain ⟨m1, m2, m3, m4⟩ := zmt_le (ft := ft) (L := L) (p := p) (mkd i) 7 0
    have m3 := m3 (Nat.zero_le _)
    have m4 := m4 hp
    have hw := w_some hL hp hg z3 hn 9 0 rfl (Nat.zero_le _)
    rw [Nat.add_zero] at hc9
    change zrw ft L i 8 0 p = _ at hc9
    by_cases d : zmt ft L p (mkd i) 7 0 = mln (mkd i)
    · rw [if_pos d] at hw
      rw [d, if_neg (Nat.lt_irrefl _)] at hc9
      rw [d] at m4
      have e4 : (4 ≤ nI (mkd i)) ↔ 4 ≤ mkd i := nI_leI (a := 4) (by omega) (by omega)
      rw [hw]
      dsimp only
      rw [if_pos (show (0 : Int32) = 0 from rfl)]
      by_cases g : 2 ≤ i ∧ i < 6
      · rw [if_pos g] at hc9
        rw [if_neg (fun z => (z4.mp (e4.mp z)) g), p_digit hL hg (by omega)]
        by_cases k : p + mln (mkd i) < L ∧ ft (p + mln (mkd i)) = 32
        · rw [if_pos k] at hc9
          by_cases v : zda ft L (p + mln (mkd i) + 1) = 0
          · simp [hc9, k, v, g]
          · have hv : p + mln (mkd i) + 1 < L := by
              unfold zda at v
              by_cases q : p + mln (mkd i) + 1 < L ∧ 48 ≤ ft (p + mln (mkd i) + 1) ∧ ft (p + mln (mkd i) + 1) ≤ 57
              · exact q.1
              · rw [if_neg q] at v; exact absurd rfl v
            simp [hc9, k, v, g, zc, hg _ hv]
        · rw [if_neg k] at hc9
          simp only [hc9, if_neg k]
          simp
      · rw [if_neg g] at hc9
        rw [if_pos (e4.mpr (z4.mpr g))]
        simp only [hc9]
        rw [if_neg (show ¬ (1 : Int32) = 0 by decide), if_neg g]
        dsimp only
        rw [if_neg (show ¬ (1 : Int32) = 0 by decide), zc]
    · rw [if_neg d] at hw
      rw [if_pos (show zmt ft L p (mkd i) 7 0 < mln (mkd i) by omega)] at hc9
      rw [hw]
      dsimp only
      rw [if_neg (show ¬ (1 : Int32) = 0 by decide), if_neg (by decide), p_d1 (by omega)]
      simp only [hc9, if_true]
end PS
