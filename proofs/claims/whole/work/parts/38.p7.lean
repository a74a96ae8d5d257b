theorem dv10 {w q : Nat} (hq : 0 < q) (h : ¬ w / q ≤ 9) : q * 10 ≤ w := by
  have h1 : 10 ≤ w / q := by omega
  have := (Nat.le_div_iff_mul_le hq).mp h1
  omega
theorem dgst {q : Nat} (h : 0 < q) (hb : q < 2 ^ 31) : q / 10 = 0 ∨ sb_dg (q / 10) + 1 = sb_dg q := by
  by_cases h1 : q < 10
  · exact Or.inl (by omega)
  · refine Or.inr ?_
    unfold sb_dg
    repeat' split
    all_goals omega
