section RD
variable {b : Nat} {a : Nat → Nat} {p1 p2 p3 p4 p5 : Int32} {fs fx : Nat → Int32} {u1 u2 u3 u4 u5 u6 u7 u8 : Int32} {fl fb fd : Nat → Int32} {r1 : Int32} {fr0 fr1 fr2 : Nat → Int32} {w1 w2 w3 : Int32} {fp : Nat → Int32}
/-! lanes -/
def mLanes (a : Nat → Nat) : Nat := if a 11 = 1 then 0 else 100 * ((1 - a 16) + (1 - a 17) + (1 - a 18) + (1 - a 19)) * a 5
theorem one_sub {x : Nat} (h : x ≤ 1) : (1 : Int32) - nI x = nI (1 - x) := by rw [lI1]; exact pk_sub h
theorem e_lanes (hB : zBd b a) : n_X9_lanes (zF a) = nI (mLanes a) := by
  obtain ⟨g0, g1, g2, g3, g4, g5, g6, g7, g8, g9, g10, g11, g12, g13, g14, g15, gl, gb, gd, gr, gp, gz⟩ := hB
  have l0 := gl 0 (by omega)
  have l1 := gl 1 (by omega)
  have l2 := gl 2 (by omega)
  have l3 := gl 3 (by omega)
  simp only [Nat.reduceAdd] at l0 l1 l2 l3
  unfold n_X9_lanes n_X9_isTilt mLanes
  by_cases ht : a 11 = 1
  · have t1 : zF a 11 = 1 := by rw [zF_at, ht]; rfl
    have h10 : ¬ (1 : Int32) = 0 := by decide
    simp only [if_pos t1, if_pos ht, if_neg h10]
    rfl
  · have t1 : ¬ zF a 11 = 1 := by rw [zF_at, lI1]; exact fun z => ht ((nI_eq (by omega) (by omega)).mp z)
    simp only [if_neg t1, if_neg ht, if_true]
    simp only [zF_at, one_sub l0, one_sub l1, one_sub l2, one_sub l3]
    have z0 : ∀ n, (0 : Int32) + nI n = nI n := fun n => by rw [lI0, nI_add, Nat.zero_add]
    rw [z0, nI_add, nI_add, nI_add, lI100, pk_mul, pk_mul]
theorem c_lanes (h : zAg a p1 p2 p3 p4 p5 fs fx u1 u2 u3 u4 u5 u6 u7 u8 fl fb fd r1 fr0 fr1 fr2 w1 w2 w3 fp) (hB : zBd b a) (hr : a 0 = 1) : n_X1_countedLanes u1 u7 fl = nI (mLanes a) := by
  obtain ⟨e1, e2, e3, e4, e5, hfs, hfx, eu1, eu2, eu3, eu4, eu5, eu6, eu7, eu8, hfl, hfb, hfd, er, hR, ew1, ew2, ew3, hfp⟩ := h
  obtain ⟨g0, g1, g2, g3, g4, g5, g6, g7, g8, g9, g10, g11, g12, g13, g14, g15, gl, gb, gd, gr, gp, gz⟩ := hB
  obtain ⟨r1', r2', r3', r4', r5', r6'⟩ := gr hr
  have eu1' : u1 = nI (a 5) := by rw [eu1, if_neg (by omega)]
  have l0 := gl 0 (by omega)
  have l1 := gl 1 (by omega)
  have l2 := gl 2 (by omega)
  have l3 := gl 3 (by omega)
  simp only [Nat.reduceAdd] at l0 l1 l2 l3
  have z : ∀ j, j < 4 → (fl j = 0 ↔ a (16 + j) = 0) := fun j hj => by
    have := gl j hj
    rw [hfl j hj, lI0]; exact nI_eq (by omega) (by omega)
  have z0 := z 0 (by omega)
  have z1 := z 1 (by omega)
  have z2 := z 2 (by omega)
  have z3 := z 3 (by omega)
  simp only [Nat.reduceAdd] at z0 z1 z2 z3
  have t0 : u7 = 0 ↔ a 11 = 0 := by rw [eu7, lI0]; exact nI_eq (by omega) (by omega)
  unfold n_X1_countedLanes mLanes
  by_cases ht : a 11 = 1
  · rw [if_neg (fun z => by have := t0.mp z; omega), if_pos ht]; rfl
  · rw [if_pos (t0.mpr (by omega)), if_neg ht, eu1']
    simp only [z0, z1, z2, z3]
    repeat' split
    all_goals simp only [lI400, lI300, lI200, lI100, lI0, pk_mul]
    all_goals congr 2
    all_goals omega
/-! bumpers -/
def bS : Nat → Nat → Nat
  | _, 0 => 0
  | v, n + 1 => v + bS (if 200 ≤ v then v else v + 10) n
theorem bS_le : ∀ (n v : Nat), v ≤ 200 → v % 10 = 0 → bS v n ≤ 200 * n
  | 0, v, _, _ => Nat.le_refl 0
  | n + 1, v, h, h2 => by
    unfold bS
    have := bS_le n (if 200 ≤ v then v else v + 10) (by split <;> omega) (by split <;> omega)
    omega
theorem bS_form : ∀ (v y : Fin 51), v.val ≤ 20 → min ((200 - 10 * v.val) / 10) y.val * (10 * v.val) + 10 * (min ((200 - 10 * v.val) / 10) y.val * (min ((200 - 10 * v.val) / 10) y.val - 1) / 2) + (y.val - min ((200 - 10 * v.val) / 10) y.val) * 200 = bS (10 * v.val) y.val := by decide +kernel
def mBumps (a : Nat → Nat) (i y : Nat) : Nat := if a 11 = 1 then 0 else bS (a (20 + i)) y * a 5
theorem e_bumpL {g : Nat → Int32} {m y : Nat} (hm : g 5 = nI m) (hy : y ≤ 50) : ∀ (n v s k : Nat), v ≤ 200 → v % 10 = 0 → k ≤ y → y - k < n → n_X9_bumpers_ok_L1 g (nI y) n (nI v) (nI s) k = (nI ((s + bS v (y - k)) * m), 0)
  | 0, v, s, k, _, _, _, h => by omega
  | n + 1, v, s, k, hv, hv2, hk, hn => by
    unfold n_X9_bumpers_ok_L1
    by_cases e : y ≤ k
    · have c : nI y ≤ nI k := (nI_leI (by omega) (by omega)).mpr e
      rw [if_pos c, hm, pk_mul, show y - k = 0 from by omega]; rfl
    · have c : ¬ nI y ≤ nI k := fun z => e ((nI_leI (by omega) (by omega)).mp z)
      rw [if_neg c]
      have e2 : y - k = (y - (k + 1)) + 1 := by omega
      rw [e2]
      unfold bS
      by_cases q : 200 ≤ v
      · have c2 : 200 ≤ nI v := by rw [lI200]; exact (nI_leI (by omega) (by omega)).mpr q
        have ev : nI v + 0 = nI v := nI_add v 0
        rw [if_pos c2, if_pos q, ev, nI_add, e_bumpL hm hy n v (s + v) (k + 1) hv hv2 (by omega) (by omega), Nat.add_assoc]
      · have c2 : ¬ 200 ≤ nI v := by rw [lI200]; exact fun z => q ((nI_leI (by omega) (by omega)).mp z)
        have ev : nI v + 10 = nI (v + 10) := nI_add v 10
        rw [if_neg c2, if_neg q, ev, nI_add, e_bumpL hm hy n (v + 10) (s + v) (k + 1) (by omega) (by omega) (by omega) (by omega), Nat.add_assoc]
theorem e_bumps (hB : zBd b a) {i y : Nat} (hi : i < 3) (hy : y ≤ 50) : n_X9_bumpers_ok (zF a) i (nI y) = (nI (mBumps a i y), 0) := by
  obtain ⟨g0, g1, g2, g3, g4, g5, g6, g7, g8, g9, g10, g11, g12, g13, g14, g15, gl, gb, gd, gr, gp, gz⟩ := hB
  have bi := gb i hi
  unfold n_X9_bumpers_ok n_X9_isTilt mBumps
  by_cases ht : a 11 = 1
  · have t1 : zF a 11 = 1 := by rw [zF_at, ht]; rfl
    have h10 : ¬ (1 : Int32) = 0 := by decide
    simp only [if_pos t1, if_pos ht, if_neg h10]
    rfl
  · have t1 : ¬ zF a 11 = 1 := by rw [zF_at, lI1]; exact fun z => ht ((nI_eq (by omega) (by omega)).mp z)
    simp only [if_neg t1, if_neg ht, if_true]
    have := e_bumpL (g := zF a) (m := a 5) (y := y) rfl hy 51 (a (20 + i)) 0 0 bi.1 bi.2 (by omega) (by omega)
    rw [Nat.zero_add, Nat.sub_zero] at this
    exact this
theorem c_series (h : zAg a p1 p2 p3 p4 p5 fs fx u1 u2 u3 u4 u5 u6 u7 u8 fl fb fd r1 fr0 fr1 fr2 w1 w2 w3 fp) (hB : zBd b a) (hr : a 0 = 1) {i y : Nat} (hi : i < 3) (hy : y ≤ 50) : n_X1_bumperSeries u1 u7 fb (nI y) i = nI (mBumps a i y) := by
  obtain ⟨e1, e2, e3, e4, e5, hfs, hfx, eu1, eu2, eu3, eu4, eu5, eu6, eu7, eu8, hfl, hfb, hfd, er, hR, ew1, ew2, ew3, hfp⟩ := h
  obtain ⟨g0, g1, g2, g3, g4, g5, g6, g7, g8, g9, g10, g11, g12, g13, g14, g15, gl, gb, gd, gr, gp, gz⟩ := hB
  obtain ⟨r1', r2', r3', r4', r5', r6'⟩ := gr hr
  have eu1' : u1 = nI (a 5) := by rw [eu1, if_neg (by omega)]
  have bi := gb i hi
  have b6 := r6' i hi
  have t0 : u7 = 0 ↔ a 11 = 0 := by rw [eu7, lI0]; exact nI_eq (by omega) (by omega)
  have hv : fb i = nI (a (20 + i)) := hfb i hi
  unfold n_X1_bumperSeries mBumps
  by_cases ht : a 11 = 1
  · rw [if_neg (fun z => by have := t0.mp z; omega), if_pos ht]; rfl
  · rw [if_pos (t0.mpr (by omega)), if_neg ht, eu1', hv]
    have F := bS_form ⟨a (20 + i) / 10, by omega⟩ ⟨y, by omega⟩ (by show a (20 + i) / 10 ≤ 20; omega)
    simp only [show 10 * (a (20 + i) / 10) = a (20 + i) from by omega] at F
    rw [← F]
    generalize a (20 + i) = v at *
    have er : (if ((200 : Int32) - nI v) / 10 < nI y then ((200 : Int32) - nI v) / 10 else nI y) = nI (min ((200 - v) / 10) y) := by
      have e1 : ((200 : Int32) - nI v) / 10 = nI ((200 - v) / 10) := by
        rw [lI200, pk_sub (by omega), lI10, pk_div (by omega) (by omega) (by omega)]
      rw [e1]
      by_cases q : (200 - v) / 10 < y
      · rw [if_pos ((nI_ltI (by omega) (by omega)).mpr q)]
        congr 1; omega
      · rw [if_neg (fun z => q ((nI_ltI (by omega) (by omega)).mp z))]
        congr 1; omega
    rw [er]
    have hr20 : min ((200 - v) / 10) y ≤ 20 := by omega
    have hry : min ((200 - v) / 10) y ≤ y := by omega
    generalize min ((200 - v) / 10) y = r at *
    have e2 : nI r * (nI r - 1) / 2 = nI (r * (r - 1) / 2) := by
      by_cases q : r = 0
      · subst q; decide
      · have hm : r * (r - 1) ≤ 20 * 20 := Nat.mul_le_mul hr20 (by omega)
        rw [lI1, pk_sub (by omega), pk_mul, lI2, pk_div (by omega) (by omega) (by omega)]
    rw [e2, lI10, lI200, pk_mul, pk_mul, nI_add, pk_sub hry, pk_mul, nI_add, pk_mul]
end RD
