theorem zi_lt_iff {x y : Int32} {a b : Nat} (hx : zi x a) (hy : zi y b) (ha : a < 2 ^ 31) (hb : b < 2 ^ 31) : x < y ↔ a < b := by unfold zi at *; rw [hx, hy]; exact nI_ltI ha hb
theorem zi_le_iff {x y : Int32} {a b : Nat} (hx : zi x a) (hy : zi y b) (ha : a < 2 ^ 31) (hb : b < 2 ^ 31) : x ≤ y ↔ a ≤ b := by unfold zi at *; rw [hx, hy]; exact nI_leI ha hb
theorem zi_eq_iff {x y : Int32} {a b : Nat} (hx : zi x a) (hy : zi y b) (ha : a < 2 ^ 31) (hb : b < 2 ^ 31) : x = y ↔ a = b := by unfold zi at *; rw [hx, hy]; exact nI_eq ha hb
theorem zi_div {x y : Int32} {a b : Nat} (hx : zi x a) (hy : zi y b) (ha : a < 2 ^ 31) (h0 : 0 < b) (hb : b < 2 ^ 31) : zi (x / y) (a / b) := by unfold zi at *; rw [hx, hy]; exact pk_div ha h0 hb
theorem zi_rem {x y : Int32} {a b : Nat} (hx : zi x a) (hy : zi y b) (ha : a < 2 ^ 31) (h0 : 0 < b) (hb : b < 2 ^ 31) : zi (x - x / y * y) (a % b) := by unfold zi at *; rw [hx, hy]; exact pk_rem ha h0 hb
theorem zi_i (n : Nat) : zi (nI n) n := rfl
theorem zby (c : Prop) [inst : Decidable c] {G : Prop} (h1 : c → G) (h2 : ¬ c → G) : G := if h : c then h1 h else h2 h
theorem zb01 {x : Int32} (h : x = 0 ∨ x = 1) : narrow .boolean (.int x) = .int x := by rcases h with rfl | rfl <;> rfl
theorem zfitb {x : Int32} (h : x = 0 ∨ x = 1) : fits .boolean (.int x) = true := by rcases h with rfl | rfl <;> rfl
theorem znar {x : Int32} (h : x = 0 ∨ x = 1) : vp_nar .boolean x = x := by rcases h with rfl | rfl <;> rfl
theorem zi_dec (n : Nat) : nI (n + 1) + Int32.ofInt (-1) = nI n := pk_m1 n
def zSiteI (own : String) (idx : Nat) (y : MethodName) (cb : ByteArray) (nb : Nat) (n : Nat) : Prop := GoodIn zw (zws y cb nb none) ∧ Cond.initialized y.cls ∈ zw ∧ Cond.methodLink own idx y ∈ zw ∧ Cond.instanceMethod y ∈ zw ∧ (y.name = "<init>" ∧ y.cls ≠ "java/lang/invoke/MethodHandle" ∧ y.cls ≠ "java/lang/invoke/VarHandle" ∧ (parseMethodDescriptor y.desc).map (fun d => d.parameters.length) = some n)
theorem zi_tr {x y : Int32} {n : Nat} (e : x = y) (h : zi y n) : zi x n := e.trans h
def zn (x : Int32) : Nat := x.toNatClampNeg
def zle (x : Int32) (b : Nat) : Prop := zi x (zn x) ∧ zn x ≤ b
theorem zle_of {x : Int32} {k b : Nat} (h : zi x k) (hk : k ≤ b) (hb : b < 2 ^ 31) : zle x b := by
  have e : zn x = k := by unfold zi at h; unfold zn; rw [h]; exact nI_clamp (by omega)
  exact ⟨by rw [e]; exact h, by rw [e]; exact hk⟩
theorem zle_up {x : Int32} {a b : Nat} (h : zle x a) (hab : a ≤ b) : zle x b := ⟨h.1, Nat.le_trans h.2 hab⟩
theorem zi_dec2 {x : Int32} {n : Nat} (h : zi x n) (h0 : 0 < n) : x + Int32.ofInt (-1) = nI (n - 1) := by
  obtain ⟨k, rfl⟩ : ∃ k, n = k + 1 := ⟨n - 1, by omega⟩
  rw [h]
  exact pk_m1 k
theorem zge_of {x : Int32} {k a : Nat} (h : zi x k) (hk : a ≤ k) (hb : k < 2 ^ 31) : a ≤ zn x := by
  have e : zn x = k := by unfold zi at h; unfold zn; rw [h]; exact nI_clamp hb
  rw [e]; exact hk
theorem zn_of {x : Int32} {n : Nat} (h : zi x n) (hb : n < 2 ^ 31) : zn x = n := by unfold zi at h; unfold zn; rw [h]; exact nI_clamp hb
theorem zn_le {x y : Int32} {a b : Nat} (hx : zi x a) (hy : zi y b) (h : a ≤ b) (hb : b < 2 ^ 31) : zn x ≤ zn y := by rw [zn_of hx (by omega), zn_of hy hb]; exact h
theorem zlit (n : Nat) : zi (Int32.ofNat n) n := rfl
