set_option maxHeartbeats 4000000 in
set_option maxRecDepth 100000 in
theorem t_X8_playerAtRank (l : Launch) {E : zEn} (hE : zEok E) (D : zG) (cy : Nat → ClassId) (o0 y0 n0 b0 g0 c0 : Nat) (t : Nat → Nat) (e1 e2 e3 e4 e5 : Int32) {b : Nat} (a : Nat → Nat) (hI : zInv b a) (x : Int32) (hd : (n_X9_playerAtRank (zF a) x).2 = 0) (sz : Nat) : Met l yX8_playerAtRank (zws yX8_playerAtRank cX8_playerAtRank 3 (some .int)) { frames := 3, cells := 0, slots := 0, locals := 67 } (zPre E D cy [.ref o0, .int x] (zObj o0 (t 0) y0 n0 b0 g0 c0 e1 e2 e3 e4 e5 ++ zTab cy t a) sz) (zQi D (zObj o0 (t 0) y0 n0 b0 g0 c0 e1 e2 e3 e4 e5 ++ zTab cy t a) (va_A (zObj o0 (t 0) y0 n0 b0 g0 c0 e1 e2 e3 e4 e5 ++ zTab cy t a) sz) (n_X9_playerAtRank (zF a) x).1) 0 0 (va_A (zObj o0 (t 0) y0 n0 b0 g0 c0 e1 e2 e3 e4 e5 ++ zTab cy t a) sz) := by
  have h2 : a 2 ≤ 4 := by have := hI.1; unfold zBd at this; omega
  have h3 : a 3 ≤ 3 := by have := hI.1; unfold zBd at this; omega
  have e := r_rank (zAg_self a) hI.1 x
  have hk : ¬ n_X6_playerRanked (nI (a 2)) (fun j => nI (a (30 + j))) (fun j => nI (a (34 + j))) x = -1 := by
    intro c
    rw [if_pos c] at e
    rw [e] at hd
    exact absurd hd (by decide)
  rw [if_neg hk] at e
  exact z_wkI (c_X8_playerAtRank l hE D cy o0 y0 n0 b0 g0 c0 (t 0) (t 1) (t 2) (t 3) (t 4) (t 5) (t 6) (t 7) (t 8) (t 9) (t 10) (t 11) (t 12) e1 e2 e3 e4 e5 (nI (a 2)) (nI (a 0)) (nI (a 1)) (nI (a 3)) (nI (a 4)) (fun j => nI (a (30 + j))) (fun j => nI (a (34 + j))) (nI (mU a)) (nI (a 6)) (nI (a 7)) (nI (a 8)) (nI (a 9)) (nI (a 10)) (nI (a 11)) (nI (a 12)) (fun j => nI (a (16 + j))) (fun j => nI (a (20 + j))) (fun j => nI (a (24 + j))) (nI (a 13)) (fun j => nI (a (46 + 3 * j))) (fun j => nI (a (46 + 3 * j + 1))) (fun j => nI (a (46 + 3 * j + 2))) (nI (a 42 + a 43 + a 44 + a 45)) (nI (a 14)) (nI (a 15)) (fun j => nI (a (42 + j))) x (zle_I h2 (by omega)) hk sz) (zSm_rf (zObj o0 (t 0) y0 n0 b0 g0 c0 e1 e2 e3 e4 e5 ++ zTab cy t a)) (by rw [e]; rfl)
set_option maxHeartbeats 4000000 in
set_option maxRecDepth 100000 in
theorem t_X8_nextPlayer (l : Launch) {E : zEn} (hE : zEok E) (D : zG) (cy : Nat → ClassId) (o0 y0 n0 b0 g0 c0 : Nat) (t : Nat → Nat) (e1 e2 e3 e4 e5 : Int32) {b : Nat} (a : Nat → Nat) (hI : zInv b a) (hr : a 0 = 1) (hd : (mDrain a).2 0 = 1) (hd3 : (mDrain a).2 3 ≤ 3) (sz : Nat) : Met l yX8_nextPlayer (zws yX8_nextPlayer cX8_nextPlayer 2 (some .int)) { frames := 2, cells := 0, slots := 0, locals := 42 } (zPre E D cy [.ref o0] (zObj o0 (t 0) y0 n0 b0 g0 c0 e1 e2 e3 e4 e5 ++ zTab cy t a) sz) (zQi D (zObj o0 (t 0) y0 n0 b0 g0 c0 e1 e2 e3 e4 e5 ++ zTab cy t a) (va_A (zObj o0 (t 0) y0 n0 b0 g0 c0 e1 e2 e3 e4 e5 ++ zTab cy t a) sz) (nI ((mDrain a).2 3))) 0 0 (va_A (zObj o0 (t 0) y0 n0 b0 g0 c0 e1 e2 e3 e4 e5 ++ zTab cy t a) sz) := by
  have h2 : a 2 ≤ 4 := by have := hI.1; unfold zBd at this; omega
  have h3 : a 3 ≤ 3 := by have := hI.1; unfold zBd at this; omega
  have e := c_after (zAg_self a) hI hr
  rw [if_pos hd] at e
  have hk : ¬ nI ((mDrain a).2 3) = -1 := by
    obtain c | c | c | c : (mDrain a).2 3 = 0 ∨ (mDrain a).2 3 = 1 ∨ (mDrain a).2 3 = 2 ∨ (mDrain a).2 3 = 3 := by omega
    all_goals (rw [c]; decide)
  rw [← e] at hk
  exact z_wkI (c_X8_nextPlayer l hE D cy o0 y0 n0 b0 g0 c0 (t 0) (t 1) (t 2) (t 3) (t 4) (t 5) (t 6) (t 7) (t 8) (t 9) (t 10) (t 11) (t 12) e1 e2 e3 e4 e5 (nI (a 2)) (nI (a 0)) (nI (a 1)) (nI (a 3)) (nI (a 4)) (fun j => nI (a (30 + j))) (fun j => nI (a (34 + j))) (nI (mU a)) (nI (a 6)) (nI (a 7)) (nI (a 8)) (nI (a 9)) (nI (a 10)) (nI (a 11)) (nI (a 12)) (fun j => nI (a (16 + j))) (fun j => nI (a (20 + j))) (fun j => nI (a (24 + j))) (nI (a 13)) (fun j => nI (a (46 + 3 * j))) (fun j => nI (a (46 + 3 * j + 1))) (fun j => nI (a (46 + 3 * j + 2))) (nI (a 42 + a 43 + a 44 + a 45)) (nI (a 14)) (nI (a 15)) (fun j => nI (a (42 + j))) (zle_I h3 (by omega)) (by rw [hr]; decide) hk sz) (zSm_rf (zObj o0 (t 0) y0 n0 b0 g0 c0 e1 e2 e3 e4 e5 ++ zTab cy t a)) (by rw [← e]; rfl)