/-! a script is run: one call of the law -/
theorem zWl7 (f : Nat → va_W) (i j k m n r v : Nat) : zWl f [i, j, k, m, n, r, v] = f i ++ f j ++ f k ++ f m ++ f n ++ f r ++ f v := by simp [zWl]
theorem zHn_in {b n : Nat} {a : Nat → Nat} {hs : Nat → Nat → Nat} (hn : n ≤ 8) (g8 : ∀ i, i < n → zInv b (hs i)) (hI : zInv b a) (hb : b + 12 ≤ 20000) : ∀ i, i < min (n + 1) 8 → zInv (b + 12) (zHn n a hs i) := by
  intro i hi
  unfold zHn
  by_cases c : n = 8
  · rw [if_pos c]
    by_cases d : i < 7
    · rw [if_pos d]; exact in_up (g8 (i + 1) (by omega)) (by omega) hb
    · rw [if_neg d]; exact in_up hI (by omega) hb
  · rw [if_neg c]
    by_cases d : i = n
    · rw [if_pos d]; exact in_up hI (by omega) hb
    · rw [if_neg d]; exact in_up (g8 i (by omega)) (by omega) hb
section RS
variable {l : Launch} {E : zEn} {D : zG} {cy : Nat → ClassId} {ad w t q : Nat → Nat} {s : Nat → Nat → Nat} {b : Nat} {f : Nat → va_W} {a a' : Nat → Nat} {n nn L kf : Nat} {e1 e2 e3 e4 e5 v1 v3 v4 v8 v9 v10 v11 : Int32} {F : Nat → Int64} {F' : Nat → UInt64}
variable {y : MethodName} {ws : List Cond} {rm : Room} {av : List Value} {mc ms : Nat} {T1 T2 T3 S1 S2 S3 : va_W}
theorem rs_c {r : Int32} {T0 T0' T4 S4 : va_W} (hE : zEok E) (hkf : kf ≤ 8) (h0 : f 0 = T0) (h1 : f 1 = S1) (h2 : f 2 = S2) (h3 : f (10 + kf) = S3) (h6 : f 6 = S4) (hM : ∀ sz, Met l y ws rm (zPre E D cy av (T0 ++ S1 ++ S2 ++ S3 ++ S4) sz) (zQi D (T0' ++ T1 ++ T2 ++ T3 ++ T4) (va_A (T0 ++ S1 ++ S2 ++ S3 ++ S4) sz) r) mc ms (va_A (T0 ++ S1 ++ S2 ++ S3 ++ S4) sz)) (sz : Nat) : Met l y ws rm (zPre E D cy av (zWl f zTl) sz) (zQi D (zWl (cu (cu (cu (cu (cu f 6 T4) (10 + kf) T3) 2 T2) 1 T1) 0 T0') zTl) (va_A (zWl f zTl) sz) r) mc ms (va_A (zWl f zTl) sz) := by
  refine L_i (ins := [0, 1, 2, 10 + kf, 6]) hE hM zTl_nd ?_ ?_ (by rw [zWl5, h0, h1, h2, h3, h6]) ?_ ?_ sz
  · simp only [List.nodup_cons, List.mem_cons, List.not_mem_nil, or_false, not_or, List.nodup_nil, and_true, not_false_eq_true]
    omega
  · intro k hk
    simp only [List.mem_cons, List.not_mem_nil, or_false] at hk
    rcases hk with rfl | rfl | rfl | rfl | rfl
    · decide
    · decide
    · decide
    · exact kf_mem hkf
    · decide
  · rw [zWl5, cu_s, cu_n (show 1 ≠ 0 by omega), cu_s, cu_n (show 2 ≠ 0 by omega), cu_n (show 2 ≠ 1 by omega), cu_s, cu_n (show 10 + kf ≠ 0 by omega), cu_n (show 10 + kf ≠ 1 by omega), cu_n (show 10 + kf ≠ 2 by omega), cu_s, cu_n (show 6 ≠ 0 by omega), cu_n (show 6 ≠ 1 by omega), cu_n (show 6 ≠ 2 by omega), cu_n (show 6 ≠ 10 + kf by omega), cu_s]
  · intro k _ hk
    simp only [List.mem_cons, List.not_mem_nil, or_false, not_or] at hk
    rw [cu_n hk.1, cu_n hk.2.1, cu_n hk.2.2.1, cu_n hk.2.2.2.1, cu_n hk.2.2.2.2]
theorem rs_x {E0 : String} {T0 T0' T4 S4 : va_W} (hE : zEok E) (hkf : kf ≤ 8) (h0 : f 0 = T0) (h1 : f 1 = S1) (h2 : f 2 = S2) (h3 : f (10 + kf) = S3) (h6 : f 6 = S4) (hM : ∀ sz, vx_Met l y ws rm (zPre E D cy av (T0 ++ S1 ++ S2 ++ S3 ++ S4) sz) zNo (zX D (T0' ++ T1 ++ T2 ++ T3 ++ T4) (va_A (T0 ++ S1 ++ S2 ++ S3 ++ S4) sz) E0) mc ms (va_A (T0 ++ S1 ++ S2 ++ S3 ++ S4) sz)) (sz : Nat) : vx_Met l y ws rm (zPre E D cy av (zWl f zTl) sz) zNo (zX D (zWl (cu (cu (cu (cu (cu f 6 T4) (10 + kf) T3) 2 T2) 1 T1) 0 T0') zTl) (va_A (zWl f zTl) sz) E0) mc ms (va_A (zWl f zTl) sz) := by
  refine L_x (ins := [0, 1, 2, 10 + kf, 6]) hE hM zTl_nd ?_ ?_ (by rw [zWl5, h0, h1, h2, h3, h6]) ?_ ?_ sz
  · simp only [List.nodup_cons, List.mem_cons, List.not_mem_nil, or_false, not_or, List.nodup_nil, and_true, not_false_eq_true]
    omega
  · intro k hk
    simp only [List.mem_cons, List.not_mem_nil, or_false] at hk
    rcases hk with rfl | rfl | rfl | rfl | rfl
    · decide
    · decide
    · decide
    · exact kf_mem hkf
    · decide
  · rw [zWl5, cu_s, cu_n (show 1 ≠ 0 by omega), cu_s, cu_n (show 2 ≠ 0 by omega), cu_n (show 2 ≠ 1 by omega), cu_s, cu_n (show 10 + kf ≠ 0 by omega), cu_n (show 10 + kf ≠ 1 by omega), cu_n (show 10 + kf ≠ 2 by omega), cu_s, cu_n (show 6 ≠ 0 by omega), cu_n (show 6 ≠ 1 by omega), cu_n (show 6 ≠ 2 by omega), cu_n (show 6 ≠ 10 + kf by omega), cu_s]
  · intro k _ hk
    simp only [List.mem_cons, List.not_mem_nil, or_false, not_or] at hk
    rw [cu_n hk.1, cu_n hk.2.1, cu_n hk.2.2.1, cu_n hk.2.2.2.1, cu_n hk.2.2.2.2]
set_option maxRecDepth 100000 in
theorem rs_of {r k : Int32} {rf1 rl1 mc1 ms1 rf2 rl2 mc2 ms2 : Nat} {F1 : Nat → Int64} {cs cs' hs' : Nat → Nat → Nat} {c0 : Nat → Nat} {sa : Nat → Option Nat} {gh gb ga gi gk gn gb' gh' gk' gn' ft : Nat → Int32} {kf' n' p' K' : Nat} {fi' : Nat → Option Nat} {fg' : Nat → Int32} {x1 x2 y1 y2 u3 u4 z8 z9 z10 z11 : Int32} (hE : zEok E) (hb : b + 12 ≤ 20000) (h20 : f 20 = zMo w v1 (nI n) v3 v4 e1 (nI nn) (nI L) v8 v9 v10 v11) (hx1 : zRx x1 x2 u3) (hx2 : zRx y1 y2 u4) (h21 : f 21 = zAr cy (w 21) 64 (zF a)) (hkf : kf ≤ 8) (hkf' : kf' ≤ 8) (hn' : n' ≤ 8) (g3 : ∀ k, k < 9 → sa k = some (s k 0)) (g4 : ∀ k, k < 9 → f (10 + k) = zTab cy (s k) (cs k)) (g5 : f 25 = zAr cy (w 25) 512 gh)
    (hcs : ∀ k, cs' k = if k = kf then c0 else cs k) (hrg : zRg kf' n' hs' cs') (hgg : zHg n' hs' gh') (hin : ∀ i, i < n' → zInv (b + 12) (hs' i))
    (h3 : zR3 cy w q b f e1) (h4 : zR4 cy w f) (h5 : zR5 cy w f nn) (k22 : f 22 = zAr cy (w 22) 64 gb) (k23 : f 23 = zAr cy (w 23) 64 ga) (k27 : f 27 = zAr cy (w 27) 60 gi) (k28 : f 28 = zAr cy (w 28) 32 gk) (k29 : f 29 = zAr cy (w 29) 32 gn) (hF : f 30 = zOl cy (w 30) F) (hF' : f 31 = zOd cy (w 31) F') (hbd : rf1 ≤ 100 ∧ rl1 ≤ 8000 ∧ rf2 ≤ 100 ∧ rl2 ≤ 8000 ∧ mc1 + mc2 ≤ 1000 ∧ ms1 + ms2 ≤ 14000)
    (hI' : zInv (b + 12) a')
    (hk : ∀ sz, Met l yL_runScript (zwsH yL_runScript cL_runScript 3 [(0, 8, 11, 35), (0, 8, 14, 13)]) { frames := rf1, cells := mc1, slots := ms1, locals := rl1 } (zPre E D cy [.ref (w 0), .ref (w 30)] (zOl cy (w 30) F ++ zWl f zTl) sz) (zQi D (zOl cy (w 30) F1 ++ zWl (cu (cu (cu (cu (cu f 6 (zScw cy ad (w 8) (w 9) (w 10) (w 11) 0 p' K' ft fi' fg')) (10 + kf) (zTab cy (s kf) c0)) 2 (zHis cy (w 1) (w 2) (nI kf') (nI n') sa)) 1 (zTab cy t a')) 0 (zOb w t q e1 x1 x2 y1 y2)) zTl) (va_A (zOl cy (w 30) F ++ zWl f zTl) sz) k) mc1 ms1 (va_A (zOl cy (w 30) F ++ zWl f zTl) sz))
    (hm : ∀ sz, Met l yX9_runScript (zws yX9_runScript cX9_runScript 2 (some .int)) { frames := rf2, cells := mc2, slots := ms2, locals := rl2 } (zPre E D cy [.ref (w 20)] (zMo w v1 (nI n) v3 v4 e1 (nI nn) (nI L) v8 v9 v10 v11 ++ zAr cy (w 21) 64 (zF a) ++ zAr cy (w 22) 64 gb ++ zAr cy (w 25) 512 gh ++ zAr cy (w 27) 60 gi ++ zAr cy (w 28) 32 gk ++ zAr cy (w 29) 32 gn) sz) (zQi D (zMo w k (nI n') u3 u4 e1 (nI nn) 0 z8 z9 z10 z11 ++ zAr cy (w 21) 64 (zF a') ++ zAr cy (w 22) 64 gb' ++ zAr cy (w 25) 512 gh' ++ zAr cy (w 27) 60 gi ++ zAr cy (w 28) 32 gk' ++ zAr cy (w 29) 32 gn') (va_A (zMo w v1 (nI n) v3 v4 e1 (nI nn) (nI L) v8 v9 v10 v11 ++ zAr cy (w 21) 64 (zF a) ++ zAr cy (w 22) 64 gb ++ zAr cy (w 25) 512 gh ++ zAr cy (w 27) 60 gi ++ zAr cy (w 28) 32 gk ++ zAr cy (w 29) 32 gn) sz) r) mc2 ms2 (va_A (zMo w v1 (nI n) v3 v4 e1 (nI nn) (nI L) v8 v9 v10 v11 ++ zAr cy (w 21) 64 (zF a) ++ zAr cy (w 22) 64 gb ++ zAr cy (w 25) 512 gh ++ zAr cy (w 27) 60 gi ++ zAr cy (w 28) 32 gk ++ zAr cy (w 29) 32 gn) sz))
    (ho : k = 0 → F1 0 = r.toInt64) : zKI l E D cy yL_runScript cL_runScript 3 [(0, 8, 11, 35), (0, 8, 14, 13)] yX9_runScript cX9_runScript 2 (some .int) Int32.toInt64 [] (w 0) (w 20) (w 30) (zWl f zLs) (zPo cy ad w t q s (b + 12)) := by
  generalize hf1 : (cu (cu (cu (cu (cu f 6 (zScw cy ad (w 8) (w 9) (w 10) (w 11) 0 p' K' ft fi' fg')) (10 + kf) (zTab cy (s kf) c0)) 2 (zHis cy (w 1) (w 2) (nI kf') (nI n') sa)) 1 (zTab cy t a')) 0 (zOb w t q e1 x1 x2 y1 y2)) = f1 at hk
  have o1 : ∀ j, j ≠ 0 → j ≠ 1 → j ≠ 2 → j ≠ 10 + kf → j ≠ 6 → f1 j = f j := fun j c0 c1 c2 c3 c4 => by rw [← hf1, cu_n c0, cu_n c1, cu_n c2, cu_n c3, cu_n c4]
  have p0 : f1 0 = zOb w t q e1 x1 x2 y1 y2 := by rw [← hf1, cu_s]
  have p1 : f1 1 = zTab cy t a' := by rw [← hf1, cu_n (show 1 ≠ 0 by omega), cu_s]
  have p2 : f1 2 = zHis cy (w 1) (w 2) (nI kf') (nI n') sa := by rw [← hf1, cu_n (show 2 ≠ 0 by omega), cu_n (show 2 ≠ 1 by omega), cu_s]
  have p3 : f1 (10 + kf) = zTab cy (s kf) c0 := by rw [← hf1, cu_n (show 10 + kf ≠ 0 by omega), cu_n (show 10 + kf ≠ 1 by omega), cu_n (show 10 + kf ≠ 2 by omega), cu_s]
  have p6 : f1 6 = zScw cy ad (w 8) (w 9) (w 10) (w 11) 0 p' K' ft fi' fg' := by rw [← hf1, cu_n (show 6 ≠ 0 by omega), cu_n (show 6 ≠ 1 by omega), cu_n (show 6 ≠ 2 by omega), cu_n (show 6 ≠ 10 + kf by omega), cu_s]
  have w1 : ∀ j, 20 ≤ j → f1 j = f j := fun j hj => o1 j (by omega) (by omega) (by omega) (by omega) (by omega)
  generalize hf3 : cu (cu (cu (cu (cu (cu (cu f1 30 (zOl cy (w 30) F1)) 29 (zAr cy (w 29) 32 gn')) 28 (zAr cy (w 28) 32 gk')) 25 (zAr cy (w 25) 512 gh')) 22 (zAr cy (w 22) 64 gb')) 21 (zAr cy (w 21) 64 (zF a'))) 20 (zMo w k (nI n') u3 u4 e1 (nI nn) 0 z8 z9 z10 z11) = f3
  have o3 : ∀ j, j ≠ 20 → j ≠ 21 → j ≠ 22 → j ≠ 25 → j ≠ 28 → j ≠ 29 → j ≠ 30 → f3 j = f1 j := fun j c1 c2 c3 c4 c5 c6 c7 => by rw [← hf3, cu_n c1, cu_n c2, cu_n c3, cu_n c4, cu_n c5, cu_n c6, cu_n c7]
  have q20 : f3 20 = zMo w k (nI n') u3 u4 e1 (nI nn) 0 z8 z9 z10 z11 := by rw [← hf3, cu_s]
  have q21 : f3 21 = zAr cy (w 21) 64 (zF a') := by rw [← hf3, cu_n (by omega), cu_s]
  have q22 : f3 22 = zAr cy (w 22) 64 gb' := by rw [← hf3, cu_n (by omega), cu_n (by omega), cu_s]
  have q25 : f3 25 = zAr cy (w 25) 512 gh' := by rw [← hf3, cu_n (by omega), cu_n (by omega), cu_n (by omega), cu_s]
  have q28 : f3 28 = zAr cy (w 28) 32 gk' := by rw [← hf3, cu_n (by omega), cu_n (by omega), cu_n (by omega), cu_n (by omega), cu_s]
  have q29 : f3 29 = zAr cy (w 29) 32 gn' := by rw [← hf3, cu_n (by omega), cu_n (by omega), cu_n (by omega), cu_n (by omega), cu_n (by omega), cu_s]
  have q30 : f3 30 = zOl cy (w 30) F1 := by rw [← hf3, cu_n (by omega), cu_n (by omega), cu_n (by omega), cu_n (by omega), cu_n (by omega), cu_n (by omega), cu_s]
  have lo : ∀ j, j < 20 → f3 j = f1 j := fun j hj => o3 j (by omega) (by omega) (by omega) (by omega) (by omega) (by omega) (by omega)
  have z0 : f3 0 = zOb w t q e1 x1 x2 y1 y2 := (lo 0 (by omega)).trans p0
  have hi : ∀ j, 20 ≤ j → j ≠ 20 → j ≠ 21 → j ≠ 22 → j ≠ 25 → j ≠ 28 → j ≠ 29 → j ≠ 30 → f3 j = f j := fun j h0 c1 c2 c3 c4 c5 c6 c7 => (o3 j c1 c2 c3 c4 c5 c6 c7).trans (w1 j h0)
  have md : ∀ j, j < 20 → j ≠ 0 → j ≠ 1 → j ≠ 2 → j ≠ 10 + kf → j ≠ 6 → f3 j = f j := fun j h0 c1 c2 c3 c4 c5 => (lo j h0).trans (o1 j c1 c2 c3 c4 c5)
  have z31 : f3 31 = zOd cy (w 31) F' := (hi 31 (by omega) (by omega) (by omega) (by omega) (by omega) (by omega) (by omega) (by omega)).trans hF'
  refine zKI_of (f1 := f1) (f2 := cu f1 30 (zOl cy (w 30) F1)) (f3 := f3) (k := k) (r := r) hE hF hbd hk rfl ((w1 20 (by omega)).trans h20) ?_ q20 q30 ⟨F', z31⟩ ⟨_, _, _, _, _, _, _, z0⟩ ⟨F', (w1 31 (by omega)).trans hF'⟩ ⟨_, _, _, _, _, _, _, p0⟩ ho ?_
  · refine L_i (ins := [20, 21, 22, 25, 27, 28, 29]) hE hm zLs_nd (by decide) (by decide) ?_ ?_ ?_
    · rw [zWl7, cu_n (by omega), cu_n (by omega), cu_n (by omega), cu_n (by omega), cu_n (by omega), cu_n (by omega), cu_n (by omega), w1 20 (by omega), w1 21 (by omega), w1 22 (by omega), w1 25 (by omega), w1 27 (by omega), w1 28 (by omega), w1 29 (by omega), h20, h21, k22, g5, k27, k28, k29]
    · rw [zWl7, q20, q21, q22, q25, q28, q29, hi 27 (by omega) (by omega) (by omega) (by omega) (by omega) (by omega) (by omega) (by omega), k27]
    · intro j _ hj
      simp only [List.mem_cons, List.not_mem_nil, or_false, not_or] at hj
      obtain ⟨c1, c2, c3, c4, c5, c6, c7⟩ := hj
      by_cases c : j = 30
      · rw [c, q30, cu_s]
      · rw [cu_n c]
        exact o3 j c1 c2 c3 c4 c6 c7 c
  · refine ⟨f3, rfl, a', n', nn, 0, e1, k, ⟨x1, x2, y1, y2, u3, u4, z8, z9, z10, z11, z0, q20, hx1, hx2⟩, ⟨(lo 1 (by omega)).trans p1, q21, hI'⟩, ⟨kf', cs', hs', sa, gh', hkf', hn', (lo 2 (by omega)).trans p2, g3, ?_, q25, hgg, hrg, hin⟩, h3.go (by omega) hb ⟨md 3 (by omega) (by omega) (by omega) (by omega) (by omega) (by omega), hi 24 (by omega) (by omega) (by omega) (by omega) (by omega) (by omega) (by omega) (by omega)⟩, h4.go (md 4 (by omega) (by omega) (by omega) (by omega) (by omega) (by omega)), h5.go ⟨md 5 (by omega) (by omega) (by omega) (by omega) (by omega) (by omega), hi 26 (by omega) (by omega) (by omega) (by omega) (by omega) (by omega) (by omega) (by omega)⟩, ⟨p', K', ft, fi', fg', gi, gk', gn', by omega, (lo 6 (by omega)).trans p6, (hi 27 (by omega) (by omega) (by omega) (by omega) (by omega) (by omega) (by omega) (by omega)).trans k27, q28, q29, fun j hj => absurd hj (Nat.not_lt_zero j)⟩, ⟨gb', ga, q22, (hi 23 (by omega) (by omega) (by omega) (by omega) (by omega) (by omega) (by omega) (by omega)).trans k23⟩, ⟨_, q30⟩, ⟨F', z31⟩⟩
    intro j hj
    rw [hcs j]
    by_cases c : j = kf
    · rw [if_pos c, c, lo (10 + kf) (by omega), p3]
    · rw [if_neg c, md (10 + j) (by omega) (by omega) (by omega) (by omega) (by omega) (by omega), g4 j hj]
end RS
section SEM
variable {l : Launch} {E : zEn} {D : zG} {cy : Nat → ClassId} {ad w t q : Nat → Nat} {s : Nat → Nat → Nat} {b : Nat} {f : Nat → va_W}
set_option maxHeartbeats 2000000 in
set_option maxRecDepth 100000 in
theorem s_runScript (hE : zEok E) (hL0 : l.stackTraces = false) (hX : zOutX E) (hN : zOutN E) (hO : zOut E) (hOB : zOutB E) {adK adV : Nat → Nat} (hOC : zOutC E ad adK adV) (hb32 : b + 32 ≤ 20000) (hb : b + 12 ≤ 20000) (h : zAll cy ad w t q s b f) : zKI l E D cy yL_runScript cL_runScript 3 [(0, 8, 11, 35), (0, 8, 14, 13)] yX9_runScript cX9_runScript 2 (some .int) Int32.toInt64 [] (w 0) (w 20) (w 30) (zWl f zLs) (zPo cy ad w t q s (b + 12)) := by
  obtain ⟨a, n, nn, L, e1, v1, ⟨e2, e3, e4, e5, v3, v4, v8, v9, v10, v11, h0, h20, hx1, hx2⟩, h1, h2, h3, h4, h5, h6, h7, ⟨F, hF⟩, ⟨F', hF'⟩⟩ := h
  have hB := h1.2.2.1
  have hI := h1.2.2
  have hW := hW_of h0 hF'
  obtain ⟨kf, cs, hs, sa, gh, hkf, hn, g2, g3, g4, g5, g6, g7, g8⟩ := id h2
  obtain ⟨gb, ga, k22, k23⟩ := h7
  obtain ⟨p, k6, ft, fi, fg, gi, gk, gn, hL, k06, k27, k28, k29, hgf⟩ := id h6
  have hft : ∀ j, j < L → zle (ft j) 127 := fun j hj => (hgf j hj).2
  have hg : ∀ j, j < L → gi j = ft j := fun j hj => (hgf j hj).1
  obtain ⟨x1, x2, x3, x4⟩ := zparse_k ft L hL fi fg
  obtain ⟨gk', gn', ep, hA⟩ := p_parse hL hg fi fg gk gn
  have h9 := fun sz : Nat => c_X9_runScript l hE D cy (w 20) (w 21) (w 22) (w 23) (w 24) (w 25) (w 26) (w 27) (w 28) (w 29) v1 (nI n) v3 v4 e1 (nI nn) (nI L) v8 v9 v10 v11 (zF a) gb gh gi gk gn (fun k f => ∃ a', f = zF a' ∧ k ≤ 31 ∧ zInv (b + k) a') (zle_I hn (by omega)) (zle_I hL (by omega)) ⟨a, rfl, by omega, hI⟩ (p_J hb32).1 (p_J hb32).2 sz
  have hb0 : ∀ j, j < 64 → (n_X9_begin (zF a) gb).2 j = nI (a j) := fun j hj => by
    show n_X9_copy (zF a) gb 0 0 j = _
    rw [cp_at hj]
    rfl
  have hK : (zparse ft L fi fg).2.2.1 ≤ 12 := by omega
  have hat : (zparse ft L fi fg).2.1 ≤ 60 := by omega
  by_cases c : (zparse ft L fi fg).1 = 0
  · have er : n_X9_runScript (nI n) v3 v4 (nI L) (zF a) gb gh gi gk gn = (0, 1, nI n, nI (zparse ft L fi fg).2.1, v4, 0, nI L, nI (zparse ft L fi fg).2.1, nI (zparse ft L fi fg).2.2.1, 1, zF a, (n_X9_begin (zF a) gb).2, gh, gk', gn') := by
      unfold n_X9_runScript
      dsimp only
      rw [ep, if_pos c]
      dsimp only
      rw [if_neg (show ¬ (1 : Int32) = 0 by decide)]
      rfl
    rw [er] at h9
    exact rs_of  hE hb h20 (Or.inr ⟨rfl, rfl, _, hat, rfl⟩) hx2 h1.2.1 hkf hkf hn g3 g4 g5 (fun k => by split <;> (first | (rename_i z; rw [z]) | rfl)) g7 g6 (fun i hi => in_up (g8 i hi) (by omega) hb) h3 h4 h5 k22 k23 k27 k28 k29 hF hF' ⟨by omega, by omega, by omega, by omega, by omega, by omega⟩ (in_up hI (by omega) hb) (k_runScript_e1 l hE D cy (w 0) (w 30) F hW hN hX (rs_x hE hkf h0 h1.1 g2 (g4 kf (by omega)) k06 (fun sz => c_X8_runScript_e1 l hE D cy hL0 hX hOB hO hOC (w 0) (w 1) (q 0) (w 3) (w 7) (w 2) (w 8) (w 9) (w 10) (w 11) t (s kf) e1 e2 e3 e4 e5 b a (cs kf) hI hb kf n hkf hn sa (g3 kf (by omega)) L p k6 ft fi fg hL hft c sz))) h9 (fun z => absurd z (by decide))
  · have c1 : (zparse ft L fi fg).1 = 1 := x1.resolve_left c
    have hR := p_run (b := b) hA (by omega) (by omega) (nI n) v3 v4 0 (nI L) (nI (zparse ft L fi fg).2.1) 0 gh (n_X9_begin (zF a) gb) (zparse ft L fi fg).2.2.1 32 0 a (by omega) (by omega) hI
    have hle := (zRun_le (zparse ft L fi fg).2.2.2.1 (zparse ft L fi fg).2.2.2.2 (zparse ft L fi fg).2.2.1 a 0).2
    have hin9 := zRun_in (fg := (zparse ft L fi fg).2.2.2.2) x3 (zparse ft L fi fg).2.2.1 a 0 b (by omega) (by omega) hI
    have e0 : n_X9_runScript (nI n) v3 v4 (nI L) (zF a) gb gh gi gk gn = n_X9_runScript_L1 (nI n) v3 v4 gh (n_X9_begin (zF a) gb) (0, nI L, nI (zparse ft L fi fg).2.1, nI (zparse ft L fi fg).2.2.1, 0, gk', gn') 32 (zF a) 0 := by
      unfold n_X9_runScript
      dsimp only
      rw [ep, if_neg c]
      dsimp only
      rw [if_pos (show (0 : Int32) = 0 from rfl)]
    rw [e0, hR] at h9
    by_cases d : (zRun (zparse ft L fi fg).2.2.2.1 (zparse ft L fi fg).2.2.2.2 (zparse ft L fi fg).2.2.1 a 0).1 = (zparse ft L fi fg).2.2.1
    · rw [if_pos d] at h9
      obtain ⟨m1, m2, m3⟩ := h_commit hn hb0 g6 (nI (zparse ft L fi fg).2.2.1)
      rw [m1, m2] at h9
      have hcl := fun sz : Nat => c_X8_runScript l hE D cy hOB hO hOC (w 0) (w 1) (q 0) (w 3) (w 7) (w 2) (w 8) (w 9) (w 10) (w 11) t (s kf) e1 e2 e3 e4 e5 b a (cs kf) hI hb kf n hkf hn sa (g3 kf (by omega)) L p k6 ft fi fg hL hft c1 d sz
      rw [d] at hcl
      exact rs_of  hE hb h20 hx1 hx2 h1.2.1 hkf (show (kf + 1) % 9 ≤ 8 by omega) (show min (n + 1) 8 ≤ 8 by omega) g3 g4 g5 (fun k => rfl) (r_commit hkf hn a g7) m3 (fun i hi => zHn_in hn g8 hI hb i hi) h3 h4 h5 k22 k23 k27 k28 k29 hF hF' ⟨by omega, by omega, by omega, by omega, by omega, by omega⟩ (in_up hin9 (by omega) hb) (k_runScript l hE D cy (w 0) (w 30) F hW (rs_c hE hkf h0 h1.1 g2 (g4 kf (by omega)) k06 hcl)) h9 (fun _ => rfl)
    · rw [if_neg d] at h9
      have hcl := fun sz : Nat => c_X8_runScript_e2 l hE D cy hL0 hX hOB hO hOC (w 0) (w 1) (q 0) (w 3) (w 7) (w 2) (w 8) (w 9) (w 10) (w 11) t (s kf) e1 e2 e3 e4 e5 b a (cs kf) hI hb kf n hkf hn sa (g3 kf (by omega)) L p k6 ft fi fg hL hft c1 (by omega) sz
      have hm : ∀ sz, Met l yX9_runScript _ _ _ (zQi D (zMo w 2 (nI n) v3 (nI (zRun (zparse ft L fi fg).2.2.2.1 (zparse ft L fi fg).2.2.2.2 (zparse ft L fi fg).2.2.1 a 0).1) e1 (nI nn) 0 (nI L) (nI (zparse ft L fi fg).2.1) (nI (zparse ft L fi fg).2.2.1) 0 ++ zAr cy (w 21) 64 (zF a) ++ zAr cy (w 22) 64 (n_X9_begin (zF a) gb).2 ++ zAr cy (w 25) 512 gh ++ zAr cy (w 27) 60 gi ++ zAr cy (w 28) 32 gk' ++ zAr cy (w 29) 32 gn') _ 0) _ _ _ := fun sz => z_wkI (h9 sz) (by
        show zSm (zMo w 2 (nI n) v3 (nI (zRun (zparse ft L fi fg).2.2.2.1 (zparse ft L fi fg).2.2.2.2 (zparse ft L fi fg).2.2.1 a 0).1) e1 (nI nn) 0 (nI L) (nI (zparse ft L fi fg).2.1) (nI (zparse ft L fi fg).2.2.1) 0 ++ zAr cy (w 21) 64 (n_X9_copy (n_X9_begin (zF a) gb).2 (zF (zRun (zparse ft L fi fg).2.2.2.1 (zparse ft L fi fg).2.2.2.2 (zparse ft L fi fg).2.2.1 a 0).2) 0 0) ++ zAr cy (w 22) 64 (n_X9_begin (zF a) gb).2 ++ zAr cy (w 25) 512 gh ++ zAr cy (w 27) 60 gi ++ zAr cy (w 28) 32 gk' ++ zAr cy (w 29) 32 gn') _
        exact zSm_app (zSm_app (zSm_app (zSm_app (zSm_app (zSm_app (zSm_rf _) (zAr_sm (fun j hj => by rw [cp_at hj, hb0 j hj]; rfl))) (zSm_rf _)) (zSm_rf _)) (zSm_rf _)) (zSm_rf _)) (zSm_rf _)) rfl
      exact rs_of  hE hb h20 hx1 (Or.inr ⟨rfl, rfl, _, (by omega), rfl⟩) h1.2.1 hkf hkf hn g3 g4 g5 (fun k => rfl) (r_hold hkf hn a g7) g6 (fun i hi => in_up (g8 i hi) (by omega) hb) h3 h4 h5 k22 k23 k27 k28 k29 hF hF' ⟨by omega, by omega, by omega, by omega, by omega, by omega⟩ (in_up hI (by omega) hb) (k_runScript_e2 l hE D cy (w 0) (w 30) F hW hN hX (rs_x hE hkf h0 h1.1 g2 (g4 kf (by omega)) k06 hcl)) hm (fun z => absurd z (by decide))
end SEM
