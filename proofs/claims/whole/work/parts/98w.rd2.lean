/-! indices; calls that never throw; quotients -/
theorem ix_c (x : Int32) {N : Nat} (hN : N ≤ 200) : (∃ i, i < N ∧ x = nI i) ∨ (n_X8_isIndex x (nI N) = 0 ∧ n_X9_in x 0 (nI N - 1) = 0) := by
  by_cases hx : x < 0
  · exact Or.inr ⟨by unfold n_X8_isIndex; rw [if_pos hx], by unfold n_X9_in; rw [if_pos hx]⟩
  · obtain ⟨k, hk, rfl⟩ := nI_of hx
    by_cases c : k < N
    · exact Or.inl ⟨k, c, rfl⟩
    · refine Or.inr ⟨by unfold n_X8_isIndex; rw [if_neg hx, if_pos ((nI_leI (by omega) hk).mpr (by omega))], ?_⟩
      have h9 : nI N - 1 < nI k := by
        cases N with
        | zero =>
          rw [Int32.lt_iff_toInt_lt] at hx ⊢
          have e1 : (nI 0 - 1).toInt = -1 := by decide
          have e2 : (0 : Int32).toInt = 0 := by decide
          omega
        | succ M =>
          rw [lI1, pk_sub (by omega)]
          exact (nI_ltI (by omega) hk).mpr (by omega)
      unfold n_X9_in
      rw [if_neg hx, if_pos h9]
theorem iy_c (y : Int32) : (∃ j, j ≤ 50 ∧ y = nI j) ∨ (n_X9_in y 0 50 = 0 ∧ (y < 0 ∨ (¬ y < 0 ∧ ¬ y ≤ 50))) := by
  by_cases hx : y < 0
  · exact Or.inr ⟨by unfold n_X9_in; rw [if_pos hx], Or.inl hx⟩
  · obtain ⟨k, hk, rfl⟩ := nI_of hx
    by_cases c : k ≤ 50
    · exact Or.inl ⟨k, c, rfl⟩
    · refine Or.inr ⟨?_, Or.inr ⟨hx, fun h => c ((nI_leI hk (by omega)).mp h)⟩⟩
      have h9 : (50 : Int32) < nI k := (nI_ltI (a := 50) (by omega) hk).mpr (by omega)
      unfold n_X9_in
      rw [if_neg hx, if_pos h9]
theorem if_c (x : Int32) : (∃ j, 1 ≤ j ∧ j ≤ 3 ∧ x = nI j) ∨ (n_X8_isForce x = 0 ∧ n_X9_in x 1 3 = 0) := by
  by_cases hx : x < 1
  · exact Or.inr ⟨by unfold n_X8_isForce; rw [if_pos hx], by unfold n_X9_in; rw [if_pos hx]⟩
  · have hx0 : ¬ x < 0 := by
      rw [Int32.lt_iff_toInt_lt] at hx ⊢
      have e1 : (1 : Int32).toInt = 1 := by decide
      have e2 : (0 : Int32).toInt = 0 := by decide
      omega
    obtain ⟨k, hk, rfl⟩ := nI_of hx0
    have h1 : 1 ≤ k := Nat.le_of_not_lt (fun h => hx ((nI_ltI (b := 1) hk (by omega)).mpr h))
    by_cases c : k ≤ 3
    · exact Or.inl ⟨k, h1, c, rfl⟩
    · have h9 : (3 : Int32) < nI k := (nI_ltI (a := 3) (by omega) hk).mpr (by omega)
      exact Or.inr ⟨by unfold n_X8_isForce; rw [if_neg hx, if_pos h9], by unfold n_X9_in; rw [if_neg hx, if_pos h9]⟩
section RP
variable {l : Launch} {E : zEn} {D : zG} {cy : Nat → ClassId} {ad w t q : Nat → Nat} {s : Nat → Nat → Nat} {b : Nat} {f : Nat → va_W} {a : Nat → Nat} {n nn L : Nat} {e1 e2 e3 e4 e5 v1 v3 v4 v8 v9 v10 v11 : Int32} {F : Nat → Int64} {F' : Nat → UInt64}
theorem rp_of {y1 y2 : MethodName} {c1 c2 : ByteArray} {n1 n2 : Nat} {r1 r2 : Option FieldType} {k r : Int32} {rf1 rl1 mc1 ms1 rf2 rl2 mc2 ms2 : Nat} (hE : zEok E) (hb : b + 12 ≤ 20000) (h0 : f 0 = zOb w t q e1 e2 e3 e4 e5) (h20 : f 20 = zMo w v1 (nI n) v3 v4 e1 (nI nn) (nI L) v8 v9 v10 v11) (hx1 : zRx e2 e3 v3) (hx2 : zRx e4 e5 v4) (h1 : zR1 cy w t b f a) (h2 : zR2 cy w s b f n) (h3 : zR3 cy w q b f e1) (h4 : zR4 cy w f) (h5 : zR5 cy w f nn) (h6 : zR6 cy ad w f L) (h7 : zR7 cy w f) (hF : f 30 = zOl cy (w 30) F) (hF' : f 31 = zOd cy (w 31) F') (hbd : rf1 ≤ 100 ∧ rl1 ≤ 8000 ∧ rf2 ≤ 100 ∧ rl2 ≤ 8000 ∧ mc1 + mc2 ≤ 1000 ∧ ms1 + ms2 ≤ 14000)
    (hc : ∀ sz, Met l y1 (zws y1 c1 n1 r1) { frames := rf1, cells := mc1, slots := ms1, locals := rl1 } (zPre E D cy [.ref (w 0)] (zObj (w 0) (t 0) (w 1) (q 0) (w 3) (w 7) (w 8) e1 e2 e3 e4 e5 ++ zTab cy t a) sz) (zQi D (zObj (w 0) (t 0) (w 1) (q 0) (w 3) (w 7) (w 8) e1 e2 e3 e4 e5 ++ zTab cy t a) (va_A (zObj (w 0) (t 0) (w 1) (q 0) (w 3) (w 7) (w 8) e1 e2 e3 e4 e5 ++ zTab cy t a) sz) r) mc1 ms1 (va_A (zObj (w 0) (t 0) (w 1) (q 0) (w 3) (w 7) (w 8) e1 e2 e3 e4 e5 ++ zTab cy t a) sz))
    (hm : ∀ sz, Met l y2 (zws y2 c2 n2 r2) { frames := rf2, cells := mc2, slots := ms2, locals := rl2 } (zPre E D cy [.ref (w 20)] (zMo w v1 (nI n) v3 v4 e1 (nI nn) (nI L) v8 v9 v10 v11 ++ zAr cy (w 21) 64 (zF a)) sz) (zQi D (zMo w k (nI n) v3 v4 e1 (nI nn) (nI L) v8 v9 v10 v11 ++ zAr cy (w 21) 64 (zF a)) (va_A (zMo w v1 (nI n) v3 v4 e1 (nI nn) (nI L) v8 v9 v10 v11 ++ zAr cy (w 21) 64 (zF a)) sz) r) mc2 ms2 (va_A (zMo w v1 (nI n) v3 v4 e1 (nI nn) (nI L) v8 v9 v10 v11 ++ zAr cy (w 21) 64 (zF a)) sz)) :
    zKP l E D cy y1 c1 n1 r1 y2 c2 n2 r2 (w 0) (w 20) (zWl f zLs) (zPo cy ad w t q s (b + 12)) := by
  refine ⟨r, zWl f zLs, zWl (cu f 20 (zMo w k (nI n) v3 v4 e1 (nI nn) (nI L) v8 v9 v10 v11)) zLs, [.ref (t 0), .ref (w 1), .ref (q 0), .int e1, .ref (w 3), .ref (w 7), .ref (w 8), .int e2, .int e3, .int e4, .int e5], zMv w v1 (nI n) v3 v4 e1 (nI nn) (nI L) v8 v9 v10 v11, rf1, rl1, mc1, ms1, rf2, rl2, mc2, ms2, hbd, ?_, ?_, L_i (ins := [0, 1]) hE hc zLs_nd (by decide) (by decide) (by rw [zWl2, h0, h1.1]; rfl) (by rw [zWl2, h0, h1.1]; rfl) (fun _ _ _ => rfl), rm_i (ins := [20, 21]) hE hm (by decide) (by decide) (by decide) (by rw [zWl2, h20, h1.2.1]) (by rw [zWl2, cu_s]; show _ ++ f 21 = _; rw [h1.2.1]), ⟨_, rfl, a, n, nn, L, e1, k, ⟨e2, e3, e4, e5, v3, v4, v8, v9, v10, v11, h0, cu_s, hx1, hx2⟩, h1.go (by omega) hb ⟨rfl, rfl⟩, h2.go (by omega) hb ⟨rfl, rfl, fun j hj => cu_n (by omega)⟩, h3.go (by omega) hb ⟨rfl, rfl⟩, h4.go rfl, h5.go ⟨rfl, rfl⟩, h6.go ⟨rfl, rfl, rfl, rfl⟩, h7.go ⟨rfl, rfl⟩, ⟨F, hF⟩, ⟨F', hF'⟩⟩⟩
  · show (f 30 ++ (f 31 ++ (f 0 ++ _)))[2]? = _
    rw [hF, hF', h0]
    rfl
  · show (f 30 ++ (f 31 ++ (f 0 ++ (f 20 ++ _))))[3]? = _
    rw [hF, hF', h0, h20]
    rfl
abbrev zT2 : List Nat := 30 :: [0, 20, 1, 2, 3, 4, 5, 6, 10, 11, 12, 13, 14, 15, 16, 17, 18, 21, 22, 23, 24, 25, 26, 27, 28, 29]
theorem zT2_p (f : Nat → va_W) : (zWl f zLs).Perm (zWl f (31 :: zT2)) := zWl_perm f (List.Perm.swap _ _ _)
theorem zT2_w (hF : f 30 = zOl cy (w 30) F) (h0 : f 0 = zOb w t q e1 e2 e3 e4 e5) : (zWl f zT2)[1]? = some (w 0, .inr (10, [.ref (t 0), .ref (w 1), .ref (q 0), .int e1, .ref (w 3), .ref (w 7), .ref (w 8), .int e2, .int e3, .int e4, .int e5])) := by
  show (f 30 ++ (f 0 ++ _))[1]? = _
  rw [hF, h0]
  rfl
/-- the wrappers of the quotients, in the law's order of cells -/
theorem zT2_k {yw : MethodName} {wsl : List Cond} {rmm : Room} {av : List Value} {k : Int32} {mc ms : Nat} {F1' : Nat → UInt64} (hE : zEok E) (hF' : f 31 = zOd cy (w 31) F') (h : ∀ sz, Met l yw wsl rmm (zPre E D cy av (zOd cy (w 31) F' ++ zWl f zT2) sz) (zQi D (zOd cy (w 31) F1' ++ zWl f zT2) (va_A (zOd cy (w 31) F' ++ zWl f zT2) sz) k) mc ms (va_A (zOd cy (w 31) F' ++ zWl f zT2) sz)) (sz : Nat) : Met l yw wsl rmm (zPre E D cy av (zWl f zLs) sz) (zQi D (zWl (cu f 31 (zOd cy (w 31) F1')) zLs) (va_A (zWl f zLs) sz) k) mc ms (va_A (zWl f zLs) sz) := by
  have e1 : zWl f (31 :: zT2) = zOd cy (w 31) F' ++ zWl f zT2 := by
    show f 31 ++ _ = _
    rw [hF']
  have ez : ∀ (r : List Nat), 31 ∉ r → zWl (cu f 31 (zOd cy (w 31) F1')) r = zWl f r := by
    intro r
    induction r with
    | nil => intro _; rfl
    | cons a r ih =>
      intro h
      show cu f 31 _ a ++ zWl _ r = f a ++ zWl f r
      rw [ih (fun z => h (List.mem_cons_of_mem _ z)), cu_n (fun z => h (by rw [← z]; exact List.mem_cons_self))]
  have e2 : zWl (cu f 31 (zOd cy (w 31) F1')) (31 :: zT2) = zOd cy (w 31) F1' ++ zWl f zT2 := by
    show cu f 31 _ 31 ++ zWl _ zT2 = _
    rw [ez zT2 (by decide), cu_s]
  refine l_i (F := []) hE (h sz) ?_ ?_
  · rw [← e1]; exact zT2_p f
  · rw [← e2]; exact zT2_p _
end RP
