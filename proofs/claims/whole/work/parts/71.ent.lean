theorem e_put (f : Nat → Nat) (i j : Nat) (h : i ≠ j) : n_X9_putsRecord (zF f) i j = zF (mPut f i j) := by
  unfold n_X9_putsRecord mPut
  simp (disch := omega) only [Nat.add_zero, zF_at, zF_up, um_n]
theorem e_loop {g : Nat → Int32} {x : Int32} {i p s pl gm : Nat} (hs : g (30 + i) = nI s) (hx : x = nI pl) (hp : p ≤ 5) : ∀ (n : Nat) (f : Nat → Nat) (k : Nat), k ≤ 5 → f 1 = gm → n_X9_enters_L5 g x i p n (zF f) k = zF (mLoop s pl gm p n f k)
  | 0, f, k, _, _ => rfl
  | n + 1, f, k, hk, hf => by
    unfold n_X9_enters_L5 mLoop
    by_cases h : k ≤ p
    · rw [if_pos h, if_pos ((nI_leI (by omega) (by omega)).mpr h), hs, hx, zF_at, hf, zF_up, zF_up, zF_up]
    · rw [if_neg h, if_neg (fun q => h ((nI_leI (by omega) (by omega)).mp q)), e_put f (k - 1) k (by omega)]
      refine e_loop hs hx hp n _ (k - 1) (by omega) ?_
      unfold mPut
      rw [um_n (by omega), um_n (by omega), um_n (by omega), hf]
theorem um_id {f : Nat → Nat} {k x : Nat} (h : f k = x) : um f k x = f := by
  funext j
  unfold um
  split
  · rename_i e; rw [e, h]
  · rfl
theorem e_ent1 {a : Nat → Nat} {k : Nat} (h13 : a 13 ≤ 5) (hk : k ≤ 3) (hs : a (30 + k) < 2 ^ 31) (hr : ∀ i, i < a 13 → a (46 + 3 * i) < 2 ^ 31) : ∀ (n p : Nat), p < n → p ≤ a 13 → n_X9_enters_L1 (zF a) (nI k) k n p = if mPos a (a (30 + k)) n p = 5 then zF a else zF (mLoop (a (30 + k)) k (a 1) (mPos a (a (30 + k)) n p) 5 (um a 13 (min (a 13 + 1) 5)) (min (a 13 + 1) 5 - 1))
  | 0, p, h, _ => by omega
  | n + 1, p, h, hp => by
    have Z : zn (zF a 13) = a 13 := zn_I (by omega)
    have fin : ∀ q, q ≤ 5 → (if nI q = 5 then zF a else if 5 ≤ zF a 13 then n_X9_enters_L5 (zF a) (nI k) k q 5 (zF a) ((zn (zF a 13)) - 1) else n_X9_enters_L5 (zF a) (nI k) k q 5 (upd (zF a) 13 (nI ((zn (zF a 13)) + 1))) (((zn (zF a 13)) + 1) - 1)) = if q = 5 then zF a else zF (mLoop (a (30 + k)) k (a 1) q 5 (um a 13 (min (a 13 + 1) 5)) (min (a 13 + 1) 5 - 1)) := by
      intro q hq
      by_cases e : q = 5
      · rw [if_pos e, if_pos (by rw [e]; rfl)]
      · rw [if_neg e, if_neg (by rw [lI5]; exact fun z => e ((nI_eq (by omega) (by omega)).mp z)), Z]
        by_cases e5 : 5 ≤ a 13
        · have m5 : min (a 13 + 1) 5 = a 13 := by omega
          rw [m5, um_id rfl, if_pos (by rw [lI5, zF_at]; exact (nI_leI (by omega) (by omega)).mpr e5)]
          exact e_loop (g := zF a) (i := k) (s := a (30 + k)) (pl := k) (gm := a 1) rfl rfl hq 5 a (a 13 - 1) (by omega) rfl
        · have m5 : min (a 13 + 1) 5 = a 13 + 1 := by omega
          rw [m5, if_neg (by rw [lI5, zF_at]; exact fun z => e5 ((nI_leI (by omega) (by omega)).mp z)), zF_up]
          exact e_loop (g := zF a) (i := k) (s := a (30 + k)) (pl := k) (gm := a 1) rfl rfl hq 5 (um a 13 (a 13 + 1)) (a 13 + 1 - 1) (by omega) (um_n (by omega))
    unfold n_X9_enters_L1 mPos
    by_cases h0 : p = 0
    · rw [if_pos h0, if_pos (by rw [h0]; decide), fin p (by omega), h0]
    · rw [if_neg h0, if_neg (by rw [lI0]; exact fun z => h0 (by have := (nI_leI (by omega) (by omega)).mp z; omega))]
      have e46 : 46 + 3 * p - 3 = 46 + 3 * (p - 1) := by omega
      have hc : zF a (30 + k) ≤ zF a (46 + 3 * p - 3) ↔ a (30 + k) ≤ a (46 + 3 * (p - 1)) := by
        rw [e46]; exact nI_leI hs (hr (p - 1) (by omega))
      by_cases h1 : a (30 + k) ≤ a (46 + 3 * (p - 1))
      · rw [if_pos (hc.mpr h1), if_pos h1, fin p (by omega)]
      · rw [if_neg (fun z => h1 (hc.mp z)), if_neg h1]
        exact e_ent1 h13 hk hs hr n (p - 1) (by omega) (by omega)
theorem e_enter {a : Nat → Nat} {k : Nat} (h13 : a 13 ≤ 5) (hk : k ≤ 3) (hs : a (30 + k) < 2 ^ 31) (hr : ∀ i, i < a 13 → a (46 + 3 * i) < 2 ^ 31) : n_X9_enters (zF a) (nI k) k = zF (mEnter a k) := by
  have Z : zn (zF a 13) = a 13 := zn_I (by omega)
  unfold n_X9_enters mEnter
  rw [Z, e_ent1 h13 hk hs hr 6 (a 13) (by omega) (by omega)]
  split
  all_goals rfl
/-! the class's records -/
def zRw (f : Nat → Nat) (x y z : Nat → Int32) : Prop := ∀ j, j < 5 → x j = nI (f (46 + 3 * j)) ∧ y j = nI (f (46 + 3 * j + 1)) ∧ z j = nI (f (46 + 3 * j + 2))
theorem zRw_up {f : Nat → Nat} {x y z : Nat → Int32} {i s pl gm : Nat} (h : zRw f x y z) : zRw (um (um (um f (46 + 3 * i) s) (46 + 3 * i + 1) pl) (46 + 3 * i + 2) gm) (upd x i (nI s)) (upd y i (nI pl)) (upd z i (nI gm)) := by
  intro j hj
  obtain ⟨h1, h2, h3⟩ := h j hj
  by_cases e : j = i
  · subst e
    simp (disch := omega) only [pk_us, um_n, um_s, and_true]
  · simp (disch := omega) only [pk_un, um_n]
    exact ⟨h1, h2, h3⟩
theorem c_loop {r1 : Int32} {s pl gm p N : Nat} (hr : r1 = nI N) (hN : N ≤ 5) (hp : p ≤ 4) : ∀ (n : Nat) (f : Nat → Nat) (x y z : Nat → Int32) (k : Nat), k ≤ 4 → zRw f x y z → (n_X4_enter_L3 r1 (nI s) (nI pl) (nI gm) p n x y z k).1 = nI (min (N + 1) 5) ∧ zRw (mLoop s pl gm p n f k) (n_X4_enter_L3 r1 (nI s) (nI pl) (nI gm) p n x y z k).2.1 (n_X4_enter_L3 r1 (nI s) (nI pl) (nI gm) p n x y z k).2.2.1 (n_X4_enter_L3 r1 (nI s) (nI pl) (nI gm) p n x y z k).2.2.2 := by
  have hc : (if 5 < (nI ((zn r1) + 1)) then 5 else nI ((zn r1) + 1)) = nI (min (N + 1) 5) := by
    rw [hr, zn_I (by omega), lI5]
    by_cases q : 5 < N + 1
    · rw [if_pos ((nI_ltI (by omega) (by omega)).mpr q)]
      congr 1; omega
    · rw [if_neg (fun r => q ((nI_ltI (by omega) (by omega)).mp r))]
      congr 1; omega
  intro n
  induction n with
  | zero => exact fun f x y z k _ h => ⟨hc, h⟩
  | succ n ih =>
    intro f x y z k hk h
    unfold n_X4_enter_L3 mLoop
    by_cases e : k ≤ p
    · simp only [if_pos e, if_pos ((nI_leI (by omega) (by omega)).mpr e : nI k ≤ nI p)]
      exact ⟨hc, zRw_up h⟩
    · have e' : ¬ nI k ≤ nI p := fun q => e ((nI_leI (by omega) (by omega)).mp q)
      simp only [if_neg e, if_neg e']
      refine ih _ _ _ _ (k - 1) (by omega) ?_
      obtain ⟨h1, h2, h3⟩ := h (k - 1) (by omega)
      rw [h1, h2, h3]
      exact zRw_up h
theorem c_ent1 {a : Nat → Nat} {k : Nat} {x y z : Nat → Int32} (h13 : a 13 ≤ 5) (hk : k ≤ 3) (hs : a (30 + k) < 2 ^ 31) (hr : ∀ i, i < a 13 → a (46 + 3 * i) < 2 ^ 31) (hR : zRw a x y z) : ∀ (n p : Nat), p < n → p ≤ a 13 → n_X4_enter_L1 (nI (a 13)) x y z (nI (a (30 + k))) (nI k) (nI (a 1)) n p = if mPos a (a (30 + k)) n p = 5 then (nI (a 13), x, y, z) else n_X4_enter_L3 (nI (a 13)) (nI (a (30 + k))) (nI k) (nI (a 1)) (mPos a (a (30 + k)) n p) 5 x y z (min (a 13 + 1) 5 - 1)
  | 0, p, h, _ => by omega
  | n + 1, p, h, hp => by
    have Z : zn (nI (a 13)) = a 13 := zn_I (by omega)
    have fin : ∀ q, q ≤ 5 → (if nI q < 5 then n_X4_enter_L3 (nI (a 13)) (nI (a (30 + k))) (nI k) (nI (a 1)) q 5 x y z ((min ((zn (nI (a 13))) + 1) 5) - 1) else (nI (a 13), x, y, z)) = if q = 5 then (nI (a 13), x, y, z) else n_X4_enter_L3 (nI (a 13)) (nI (a (30 + k))) (nI k) (nI (a 1)) q 5 x y z (min (a 13 + 1) 5 - 1) := by
      intro q hq
      rw [Z]
      by_cases e : q = 5
      · rw [if_pos e, if_neg (by rw [e]; decide)]
      · rw [if_neg e, if_pos (by rw [lI5]; exact (nI_ltI (by omega) (by omega)).mpr (by omega))]
    unfold n_X4_enter_L1 mPos
    by_cases h0 : p = 0
    · rw [if_pos h0, if_pos (by rw [h0]; decide), fin p (by omega), h0]
    · rw [if_neg h0, if_neg (by rw [lI0]; exact fun z => h0 (by have := (nI_leI (by omega) (by omega)).mp z; omega)), (hR (p - 1) (by omega)).1]
      have hc : nI (a (30 + k)) ≤ nI (a (46 + 3 * (p - 1))) ↔ a (30 + k) ≤ a (46 + 3 * (p - 1)) := nI_leI hs (hr (p - 1) (by omega))
      by_cases h1 : a (30 + k) ≤ a (46 + 3 * (p - 1))
      · rw [if_pos (hc.mpr h1), if_pos h1, fin p (by omega)]
      · rw [if_neg (fun z => h1 (hc.mp z)), if_neg h1]
        exact c_ent1 h13 hk hs hr hR n (p - 1) (by omega) (by omega)
theorem c_enter {a : Nat → Nat} {k : Nat} {x y z : Nat → Int32} (h13 : a 13 ≤ 5) (hk : k ≤ 3) (hs : a (30 + k) < 2 ^ 31) (hr : ∀ i, i < a 13 → a (46 + 3 * i) < 2 ^ 31) (hR : zRw a x y z) : (n_X4_enter (nI (a 13)) x y z (nI (a (30 + k))) (nI k) (nI (a 1))).1 = nI (mEnter a k 13) ∧ zRw (mEnter a k) (n_X4_enter (nI (a 13)) x y z (nI (a (30 + k))) (nI k) (nI (a 1))).2.1 (n_X4_enter (nI (a 13)) x y z (nI (a (30 + k))) (nI k) (nI (a 1))).2.2.1 (n_X4_enter (nI (a 13)) x y z (nI (a (30 + k))) (nI k) (nI (a 1))).2.2.2 := by
  have Z : zn (nI (a 13)) = a 13 := zn_I (by omega)
  unfold n_X4_enter
  rw [Z, c_ent1 h13 hk hs hr hR 6 (a 13) (by omega) (by omega)]
  by_cases h5 : mPos a (a (30 + k)) 6 (a 13) = 5
  · simp only [if_pos h5]
    have e : mEnter a k = a := if_pos h5
    rw [e]
    exact ⟨rfl, hR⟩
  · have hle := mPos_le a (a (30 + k)) 6 (a 13)
    simp only [if_neg h5]
    have hR' : zRw (um a 13 (min (a 13 + 1) 5)) x y z := fun j hj => by
      rw [um_n (by omega), um_n (by omega), um_n (by omega)]; exact hR j hj
    obtain ⟨c1, c2⟩ := c_loop (r1 := nI (a 13)) (s := a (30 + k)) (pl := k) (gm := a 1) (p := mPos a (a (30 + k)) 6 (a 13)) (N := a 13) rfl h13 (by omega) 5 _ x y z (min (a 13 + 1) 5 - 1) (by omega) hR'
    have e : mEnter a k = mLoop (a (30 + k)) k (a 1) (mPos a (a (30 + k)) 6 (a 13)) 5 (um a 13 (min (a 13 + 1) 5)) (min (a 13 + 1) 5 - 1) := if_neg h5
    rw [c1, e]
    refine ⟨?_, c2⟩
    rw [mLoop_at _ _ _ _ _ _ _ (by omega) (by omega), if_neg (by omega), if_neg (by omega), if_neg (by omega), if_neg (by omega), um_s]
