theorem zT0 (cy : Nat → ClassId) (q : Nat) (a : Nat → Nat) : q_X6_init cy q a = zTab cy (zCn q a) (fun _ => 0) := rfl
def zUp (a : Nat → Nat) : Nat → Option Nat := va_up (va_up (va_up (va_up (va_up (va_up (va_up (va_up (va_up (fun _ => none) 0 (some (a 1))) 1 (some (a 14))) 2 (some (a 27))) 3 (some (a 40))) 4 (some (a 53))) 5 (some (a 66))) 6 (some (a 79))) 7 (some (a 92))) 8 (some (a 105))
theorem zUp_at (a : Nat → Nat) : ∀ k, k < 9 → zUp a k = some (a (1 + 13 * k)) := fun k hk => match k, hk with
  | 0, _ => rfl | 1, _ => rfl | 2, _ => rfl | 3, _ => rfl | 4, _ => rfl | 5, _ => rfl | 6, _ => rfl | 7, _ => rfl | 8, _ => rfl
set_option maxRecDepth 100000 in
theorem zH0 (cy : Nat → ClassId) (q : Nat) (a : Nat → Nat) : q_X3_init cy q a = zHis cy q (a 0) 0 0 (zUp a) ++ zWl (fun k => zTab cy (fun i => a (1 + 13 * k + i)) (fun _ => 0)) (List.range 9) := rfl
theorem zS0 (cy : Nat → ClassId) (ad : Nat → Nat) (q : Nat) (a : Nat → Nat) : q_X5_init cy q a = zScw cy ad q (a 0) (a 1) (a 2) 0 0 0 (fun _ => 0) (fun _ => none) (fun _ => 0) := rfl
theorem zX8i_eq (cy : Nat → ClassId) (ad : Nat → Nat) (o0 : Nat) (a : Nat → Nat) : zX8i cy o0 a = zObj o0 (a 0) (a 13) (a 132) (a 145) (a 149) (a 151) 0 0 0 0 0 ++ zTab cy (zCn (a 0) (fun i => a (i + 1))) (fun _ => 0) ++ (zHis cy (a 13) (a 14) 0 0 (zUp (fun i => a (i + 14))) ++ zWl (fun k => zTab cy (fun i => a (1 + 13 * k + i + 14)) (fun _ => 0)) (List.range 9)) ++ zTab cy (zCn (a 132) (fun i => a (i + 133))) (fun _ => 0) ++ q_X1_init cy (a 145) (fun i => a (i + 146)) ++ zSBi cy (a 149) (fun i => a (i + 150)) ++ zScw cy ad (a 151) (a 152) (a 153) (a 154) 0 0 0 (fun _ => 0) (fun _ => none) (fun _ => 0) := by
  unfold zX8i
  rw [zT0, zH0, zT0, zS0 cy ad]
