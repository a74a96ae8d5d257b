/-! the operations: class and reference take the same step, both remember the table -/
theorem kf_mem {kf : Nat} (h : kf ≤ 8) : 10 + kf ∈ zTl := by
  obtain rfl | rfl | rfl | rfl | rfl | rfl | rfl | rfl | rfl : kf = 0 ∨ kf = 1 ∨ kf = 2 ∨ kf = 3 ∨ kf = 4 ∨ kf = 5 ∨ kf = 6 ∨ kf = 7 ∨ kf = 8 := by omega
  all_goals decide
set_option maxRecDepth 100000 in
theorem mo_ok {n : Nat} (hn : n ≤ 8) {hs : Nat → Nat → Nat} {gh : Nat → Int32} (h : zHg n hs gh) (a a' : Nat → Nat) (gb : Nat → Int32) (r : Nat) {o3 : Int32 × (Nat → Int32)} (e3 : o3 = (nI r, zF a')) : ∃ gb' gh', ((n_X9_commit (nI n) (n_X9_begin (zF a) gb).2 gh o3.1).1, (n_X9_begin (zF a) gb).1, (n_X9_commit (nI n) (n_X9_begin (zF a) gb).2 gh o3.1).2.1, o3.2, (n_X9_begin (zF a) gb).2, (n_X9_commit (nI n) (n_X9_begin (zF a) gb).2 gh o3.1).2.2) = (nI r, (0 : Int32), nI (min (n + 1) 8), zF a', gb', gh') ∧ zHg (min (n + 1) 8) (zHn n a hs) gh' := by
  have hb : ∀ j, j < 64 → (n_X9_begin (zF a) gb).2 j = nI (a j) := fun j hj => by
    show n_X9_copy (zF a) gb 0 0 j = _
    rw [hcp, if_pos ⟨Nat.zero_le _, by omega⟩]
    rfl
  obtain ⟨c1, c2, c3⟩ := h_commit hn hb h (nI r)
  subst e3
  refine ⟨(n_X9_begin (zF a) gb).2, (n_X9_commit (nI n) (n_X9_begin (zF a) gb).2 gh (nI r)).2.2, ?_, c3⟩
  show ((n_X9_commit (nI n) (n_X9_begin (zF a) gb).2 gh (nI r)).1, (n_X9_begin (zF a) gb).1, (n_X9_commit (nI n) (n_X9_begin (zF a) gb).2 gh (nI r)).2.1, zF a', _, _) = _
  rw [c1, c2]
  rfl
section OP
variable {l : Launch} {E : zEn} {D : zG} {cy : Nat → ClassId} {ad w t q : Nat → Nat} {s : Nat → Nat → Nat} {b : Nat} {f : Nat → va_W} {a a' : Nat → Nat} {n nn L kf : Nat} {e1 e2 e3 e4 e5 v1 v3 v4 v8 v9 v10 v11 : Int32} {F : Nat → Int64} {F' : Nat → UInt64}
variable {y : MethodName} {ws : List Cond} {rm : Room} {av : List Value} {mc ms : Nat} {T1 T2 T3 T4 S1 S2 S3 : va_W}
theorem oc_i {r : Int32} {T0 T0' : va_W} (hE : zEok E) (hkf : kf ≤ 8) (h0 : f 0 = T0) (h1 : f 1 = S1) (h2 : f 2 = S2) (h3 : f (10 + kf) = S3) (hM : ∀ sz, Met l y ws rm (zPre E D cy av (T0 ++ S1 ++ S2 ++ S3) sz) (zQi D (T0' ++ T1 ++ T2 ++ T3) (va_A (T0 ++ S1 ++ S2 ++ S3) sz) r) mc ms (va_A (T0 ++ S1 ++ S2 ++ S3) sz)) (hT : T0' = T0) (sz : Nat) : Met l y ws rm (zPre E D cy av (zWl f zTl) sz) (zQi D (zWl (cu (cu (cu f (10 + kf) T3) 2 T2) 1 T1) zTl) (va_A (zWl f zTl) sz) r) mc ms (va_A (zWl f zTl) sz) := by
  subst hT
  refine L_i (ins := [0, 1, 2, 10 + kf]) hE hM zTl_nd ?_ ?_ (by rw [zWl4, h0, h1, h2, h3]) ?_ ?_ sz
  · simp only [List.nodup_cons, List.mem_cons, List.not_mem_nil, or_false, not_or, List.nodup_nil, and_true, not_false_eq_true]
    omega
  · intro k hk
    simp only [List.mem_cons, List.not_mem_nil, or_false] at hk
    rcases hk with rfl | rfl | rfl | rfl
    · decide
    · decide
    · decide
    · exact kf_mem hkf
  · rw [zWl4, cu_n (show 0 ≠ 1 by omega), cu_n (show 0 ≠ 2 by omega), cu_n (show 0 ≠ 10 + kf by omega), h0, cu_s, cu_n (show 2 ≠ 1 by omega), cu_s, cu_n (show 10 + kf ≠ 1 by omega), cu_n (show 10 + kf ≠ 2 by omega), cu_s]
  · intro k _ hk
    simp only [List.mem_cons, List.not_mem_nil, or_false, not_or] at hk
    rw [cu_n hk.2.1, cu_n hk.2.2.1, cu_n hk.2.2.2]
theorem op_of {yw ym : MethodName} {cw cm : ByteArray} {nw nm : Nat} {hw : List (Nat × Nat × Nat × Nat)} {rt : Option FieldType} {ax : List Value} {r : Nat} {rf1 rl1 mc1 ms1 rf2 rl2 mc2 ms2 : Nat} {cs hs : Nat → Nat → Nat} {sa : Nat → Option Nat} {gh gb ga gb' gh' : Nat → Int32} (hE : zEok E) (hb : b + 12 ≤ 20000) (h0 : f 0 = zOb w t q e1 e2 e3 e4 e5) (h20 : f 20 = zMo w v1 (nI n) v3 v4 e1 (nI nn) (nI L) v8 v9 v10 v11) (hx1 : zRx e2 e3 v3) (hx2 : zRx e4 e5 v4) (h1 : zR1 cy w t b f a)
    (hkf : kf ≤ 8) (hn : n ≤ 8) (g2 : f 2 = zHis cy (w 1) (w 2) (nI kf) (nI n) sa) (g3 : ∀ k, k < 9 → sa k = some (s k 0)) (g4 : ∀ k, k < 9 → f (10 + k) = zTab cy (s k) (cs k)) (g5 : f 25 = zAr cy (w 25) 512 gh) (g7 : zRg kf n hs cs) (g8 : ∀ i, i < n → zInv b (hs i))
    (h3 : zR3 cy w q b f e1) (h4 : zR4 cy w f) (h5 : zR5 cy w f nn) (h6 : zR6 cy ad w f L) (k22 : f 22 = zAr cy (w 22) 64 gb) (k23 : f 23 = zAr cy (w 23) 64 ga) (hF : f 30 = zOl cy (w 30) F) (hF' : f 31 = zOd cy (w 31) F') (hbd : rf1 ≤ 100 ∧ rl1 ≤ 8000 ∧ rf2 ≤ 100 ∧ rl2 ≤ 8000 ∧ mc1 + mc2 ≤ 1000 ∧ ms1 + ms2 ≤ 14000)
    (hI' : zInv (b + 12) a')
    (hk : ∀ sz, Met l yw (zwsH yw cw nw hw) { frames := rf1, cells := mc1, slots := ms1, locals := rl1 } (zPre E D cy (.ref (w 0) :: (ax ++ [.ref (w 30)])) (zOl cy (w 30) F ++ zWl f zTl) sz) (zQi D (zOl cy (w 30) (vp_updL F 0 (nI r).toInt64) ++ zWl (cu (cu (cu f (10 + kf) (zTab cy (s kf) a)) 2 (zHis cy (w 1) (w 2) (nI ((kf + 1) % 9)) (nI (min (n + 1) 8)) sa)) 1 (zTab cy t a')) zTl) (va_A (zOl cy (w 30) F ++ zWl f zTl) sz) 0) mc1 ms1 (va_A (zOl cy (w 30) F ++ zWl f zTl) sz))
    (hm : ∀ sz, Met l ym (zws ym cm nm rt) { frames := rf2, cells := mc2, slots := ms2, locals := rl2 } (zPre E D cy (.ref (w 20) :: ax) (zMo w v1 (nI n) v3 v4 e1 (nI nn) (nI L) v8 v9 v10 v11 ++ zAr cy (w 21) 64 (zF a) ++ zAr cy (w 22) 64 gb ++ zAr cy (w 25) 512 gh) sz) (zQi D (zMo w 0 (nI (min (n + 1) 8)) v3 v4 e1 (nI nn) (nI L) v8 v9 v10 v11 ++ zAr cy (w 21) 64 (zF a') ++ zAr cy (w 22) 64 gb' ++ zAr cy (w 25) 512 gh') (va_A (zMo w v1 (nI n) v3 v4 e1 (nI nn) (nI L) v8 v9 v10 v11 ++ zAr cy (w 21) 64 (zF a) ++ zAr cy (w 22) 64 gb ++ zAr cy (w 25) 512 gh) sz) (nI r)) mc2 ms2 (va_A (zMo w v1 (nI n) v3 v4 e1 (nI nn) (nI L) v8 v9 v10 v11 ++ zAr cy (w 21) 64 (zF a) ++ zAr cy (w 22) 64 gb ++ zAr cy (w 25) 512 gh) sz))
    (hg : zHg (min (n + 1) 8) (zHn n a hs) gh') : zKI l E D cy yw cw nw hw ym cm nm rt Int32.toInt64 ax (w 0) (w 20) (w 30) (zWl f zLs) (zPo cy ad w t q s (b + 12)) := by
  generalize hf1 : cu (cu (cu f (10 + kf) (zTab cy (s kf) a)) 2 (zHis cy (w 1) (w 2) (nI ((kf + 1) % 9)) (nI (min (n + 1) 8)) sa)) 1 (zTab cy t a') = f1 at hk
  have o1 : ∀ j, j ≠ 1 → j ≠ 2 → j ≠ 10 + kf → f1 j = f j := fun j c1 c2 c3 => by rw [← hf1, cu_n c1, cu_n c2, cu_n c3]
  have p1 : f1 1 = zTab cy t a' := by rw [← hf1, cu_s]
  have p2 : f1 2 = zHis cy (w 1) (w 2) (nI ((kf + 1) % 9)) (nI (min (n + 1) 8)) sa := by rw [← hf1, cu_n (show 2 ≠ 1 by omega), cu_s]
  have p3 : f1 (10 + kf) = zTab cy (s kf) a := by rw [← hf1, cu_n (show 10 + kf ≠ 1 by omega), cu_n (show 10 + kf ≠ 2 by omega), cu_s]
  generalize hf3 : cu (cu (cu (cu (cu f1 30 (zOl cy (w 30) (vp_updL F 0 (nI r).toInt64))) 25 (zAr cy (w 25) 512 gh')) 22 (zAr cy (w 22) 64 gb')) 21 (zAr cy (w 21) 64 (zF a'))) 20 (zMo w 0 (nI (min (n + 1) 8)) v3 v4 e1 (nI nn) (nI L) v8 v9 v10 v11) = f3
  have o3 : ∀ j, j ≠ 20 → j ≠ 21 → j ≠ 22 → j ≠ 25 → j ≠ 30 → f3 j = f1 j := fun j c1 c2 c3 c4 c5 => by rw [← hf3, cu_n c1, cu_n c2, cu_n c3, cu_n c4, cu_n c5]
  have q20 : f3 20 = zMo w 0 (nI (min (n + 1) 8)) v3 v4 e1 (nI nn) (nI L) v8 v9 v10 v11 := by rw [← hf3, cu_s]
  have q21 : f3 21 = zAr cy (w 21) 64 (zF a') := by rw [← hf3, cu_n (by omega), cu_s]
  have q22 : f3 22 = zAr cy (w 22) 64 gb' := by rw [← hf3, cu_n (by omega), cu_n (by omega), cu_s]
  have q25 : f3 25 = zAr cy (w 25) 512 gh' := by rw [← hf3, cu_n (by omega), cu_n (by omega), cu_n (by omega), cu_s]
  have q30 : f3 30 = zOl cy (w 30) (vp_updL F 0 (nI r).toInt64) := by rw [← hf3, cu_n (by omega), cu_n (by omega), cu_n (by omega), cu_n (by omega), cu_s]
  have of : ∀ j, j ≠ 1 → j ≠ 2 → j ≠ 10 + kf → j ≠ 20 → j ≠ 21 → j ≠ 22 → j ≠ 25 → j ≠ 30 → f3 j = f j := fun j c1 c2 c3 d1 d2 d3 d4 d5 => (o3 j d1 d2 d3 d4 d5).trans (o1 j c1 c2 c3)
  have z0 : f3 0 = zOb w t q e1 e2 e3 e4 e5 := (of 0 (by omega) (by omega) (by omega) (by omega) (by omega) (by omega) (by omega) (by omega)).trans h0
  have z31 : f3 31 = zOd cy (w 31) F' := (of 31 (by omega) (by omega) (by omega) (by omega) (by omega) (by omega) (by omega) (by omega)).trans hF'
  refine zKI_of (f1 := f1) (f2 := cu f1 30 (zOl cy (w 30) (vp_updL F 0 (nI r).toInt64))) (f3 := f3) (k := 0) (r := nI r) hE hF hbd hk rfl ((o1 20 (by omega) (by omega) (by omega)).trans h20) ?_ q20 q30 ⟨F', z31⟩ ⟨_, _, _, _, _, _, _, z0⟩ ⟨F', (o1 31 (by omega) (by omega) (by omega)).trans hF'⟩ ⟨_, _, _, _, _, _, _, (o1 0 (by omega) (by omega) (by omega)).trans h0⟩ (fun _ => rfl) ?_
  · refine L_i (ins := [20, 21, 22, 25]) hE hm zLs_nd (by decide) (by decide) ?_ ?_ ?_
    · rw [zWl4, cu_n (by omega), cu_n (by omega), cu_n (by omega), cu_n (by omega), o1 20 (by omega) (by omega) (by omega), o1 21 (by omega) (by omega) (by omega), o1 22 (by omega) (by omega) (by omega), o1 25 (by omega) (by omega) (by omega), h20, h1.2.1, k22, g5]
    · rw [zWl4, q20, q21, q22, q25]
    · intro k _ hk
      simp only [List.mem_cons, List.not_mem_nil, or_false, not_or] at hk
      by_cases c : k = 30
      · rw [c, q30, cu_s]
      · rw [cu_n c]
        exact o3 k hk.1 hk.2.1 hk.2.2.1 hk.2.2.2 c
  · refine ⟨f3, rfl, a', min (n + 1) 8, nn, L, e1, 0, ⟨e2, e3, e4, e5, v3, v4, v8, v9, v10, v11, z0, q20, hx1, hx2⟩, ⟨(o3 1 (by omega) (by omega) (by omega) (by omega) (by omega)).trans p1, q21, hI'⟩, ⟨(kf + 1) % 9, zCs kf a cs, zHn n a hs, sa, gh', by omega, by omega, (o3 2 (by omega) (by omega) (by omega) (by omega) (by omega)).trans p2, g3, ?_, q25, hg, r_commit hkf hn a g7, ?_⟩, h3.go (by omega) hb ⟨of 3 (by omega) (by omega) (by omega) (by omega) (by omega) (by omega) (by omega) (by omega), of 24 (by omega) (by omega) (by omega) (by omega) (by omega) (by omega) (by omega) (by omega)⟩, h4.go (of 4 (by omega) (by omega) (by omega) (by omega) (by omega) (by omega) (by omega) (by omega)), h5.go ⟨of 5 (by omega) (by omega) (by omega) (by omega) (by omega) (by omega) (by omega) (by omega), of 26 (by omega) (by omega) (by omega) (by omega) (by omega) (by omega) (by omega) (by omega)⟩, h6.go ⟨of 6 (by omega) (by omega) (by omega) (by omega) (by omega) (by omega) (by omega) (by omega), of 27 (by omega) (by omega) (by omega) (by omega) (by omega) (by omega) (by omega) (by omega), of 28 (by omega) (by omega) (by omega) (by omega) (by omega) (by omega) (by omega) (by omega), of 29 (by omega) (by omega) (by omega) (by omega) (by omega) (by omega) (by omega) (by omega)⟩, ⟨gb', ga, q22, (of 23 (by omega) (by omega) (by omega) (by omega) (by omega) (by omega) (by omega) (by omega)).trans k23⟩, ⟨_, q30⟩, ⟨F', z31⟩⟩
    · intro k hk
      by_cases c : k = kf
      · subst c
        rw [o3 (10 + k) (by omega) (by omega) (by omega) (by omega) (by omega), p3]
        unfold zCs
        rw [if_pos rfl]
      · rw [of (10 + k) (by omega) (by omega) (by omega) (by omega) (by omega) (by omega) (by omega) (by omega), g4 k hk]
        unfold zCs
        rw [if_neg c]
    · intro i hi
      unfold zHn
      by_cases c : n = 8
      · rw [if_pos c]
        by_cases d : i < 7
        · rw [if_pos d]; exact in_up (g8 (i + 1) (by omega)) (by omega) hb
        · rw [if_neg d]; exact in_up h1.2.2 (by omega) hb
      · rw [if_neg c]
        by_cases d : i = n
        · rw [if_pos d]; exact in_up h1.2.2 (by omega) hb
        · rw [if_neg d]; exact in_up (g8 i (by omega)) (by omega) hb
theorem opx_of {yw ym : MethodName} {cw cm : ByteArray} {nw nm : Nat} {hw : List (Nat × Nat × Nat × Nat)} {rt : Option FieldType} {val : Int32 → Int64} {ax : List Value} {k r : Int32} {rf1 rl1 mc1 ms1 rf2 rl2 mc2 ms2 : Nat} {gb ga gb' gh : Nat → Int32} (hE : zEok E) (hb : b + 12 ≤ 20000) (h0 : f 0 = zOb w t q e1 e2 e3 e4 e5) (h20 : f 20 = zMo w v1 (nI n) v3 v4 e1 (nI nn) (nI L) v8 v9 v10 v11) (hx1 : zRx e2 e3 v3) (hx2 : zRx e4 e5 v4) (h1 : zR1 cy w t b f a) (h2 : zR2 cy w s b f n) (g5 : f 25 = zAr cy (w 25) 512 gh) (h3 : zR3 cy w q b f e1) (h4 : zR4 cy w f) (h5 : zR5 cy w f nn) (h6 : zR6 cy ad w f L) (k22 : f 22 = zAr cy (w 22) 64 gb) (k23 : f 23 = zAr cy (w 23) 64 ga) (hF : f 30 = zOl cy (w 30) F) (hF' : f 31 = zOd cy (w 31) F') (hbd : rf1 ≤ 100 ∧ rl1 ≤ 8000 ∧ rf2 ≤ 100 ∧ rl2 ≤ 8000 ∧ mc1 + mc2 ≤ 1000 ∧ ms1 + ms2 ≤ 14000)
    (hk : ∀ sz, Met l yw (zwsH yw cw nw hw) { frames := rf1, cells := mc1, slots := ms1, locals := rl1 } (zPre E D cy (.ref (w 0) :: (ax ++ [.ref (w 30)])) (zOl cy (w 30) F ++ zWl f zTl) sz) (zQi D (zOl cy (w 30) F ++ zWl f zTl) (va_A (zOl cy (w 30) F ++ zWl f zTl) sz) k) mc1 ms1 (va_A (zOl cy (w 30) F ++ zWl f zTl) sz))
    (hm : ∀ sz, Met l ym (zws ym cm nm rt) { frames := rf2, cells := mc2, slots := ms2, locals := rl2 } (zPre E D cy (.ref (w 20) :: ax) (zMo w v1 (nI n) v3 v4 e1 (nI nn) (nI L) v8 v9 v10 v11 ++ zAr cy (w 21) 64 (zF a) ++ zAr cy (w 22) 64 gb ++ zAr cy (w 25) 512 gh) sz) (zQi D (zMo w k (nI n) v3 v4 e1 (nI nn) (nI L) v8 v9 v10 v11 ++ zAr cy (w 21) 64 (zF a) ++ zAr cy (w 22) 64 gb' ++ zAr cy (w 25) 512 gh) (va_A (zMo w v1 (nI n) v3 v4 e1 (nI nn) (nI L) v8 v9 v10 v11 ++ zAr cy (w 21) 64 (zF a) ++ zAr cy (w 22) 64 gb ++ zAr cy (w 25) 512 gh) sz) r) mc2 ms2 (va_A (zMo w v1 (nI n) v3 v4 e1 (nI nn) (nI L) v8 v9 v10 v11 ++ zAr cy (w 21) 64 (zF a) ++ zAr cy (w 22) 64 gb ++ zAr cy (w 25) 512 gh) sz))
    (hk0 : ¬ k = 0) : zKI l E D cy yw cw nw hw ym cm nm rt val ax (w 0) (w 20) (w 30) (zWl f zLs) (zPo cy ad w t q s (b + 12)) := by
  refine zKI_of (F1 := F) (f1 := f) (f2 := cu f 30 (zOl cy (w 30) F)) (f3 := cu (cu (cu f 30 (zOl cy (w 30) F)) 22 (zAr cy (w 22) 64 gb')) 20 (zMo w k (nI n) v3 v4 e1 (nI nn) (nI L) v8 v9 v10 v11)) hE hF hbd hk rfl h20 (L_i (ins := [20, 21, 22, 25]) hE hm zLs_nd (by decide) (by decide) ?_ ?_ ?_) cu_s rfl ⟨F', hF'⟩ ⟨_, _, _, _, _, _, _, h0⟩ ⟨F', hF'⟩ ⟨_, _, _, _, _, _, _, h0⟩ (fun c => absurd c hk0) ⟨_, rfl, a, n, nn, L, e1, k, ⟨e2, e3, e4, e5, v3, v4, v8, v9, v10, v11, h0, cu_s, hx1, hx2⟩, h1.go (by omega) hb ⟨rfl, rfl⟩, h2.go (by omega) hb ⟨rfl, rfl, fun j hj => ?_⟩, h3.go (by omega) hb ⟨rfl, rfl⟩, h4.go rfl, h5.go ⟨rfl, rfl⟩, h6.go ⟨rfl, rfl, rfl, rfl⟩, ⟨gb', ga, rfl, k23⟩, ⟨F, rfl⟩, ⟨F', hF'⟩⟩
  · rw [zWl4]
    show f 20 ++ f 21 ++ f 22 ++ f 25 = _
    rw [h20, h1.2.1, k22, g5]
  · rw [zWl4]
    show _ ++ f 21 ++ _ ++ f 25 = _
    rw [h1.2.1, g5]
    rfl
  · intro k _ hk
    simp only [List.mem_cons, List.not_mem_nil, or_false, not_or] at hk
    rw [cu_n hk.1, cu_n hk.2.2.1]
  · rw [cu_n (by omega), cu_n (by omega), cu_n (by omega)]
end OP
