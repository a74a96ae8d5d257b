section LOOP
variable {p : Program} {l : Launch} {e : Env} {s0 : State} {m : MethodId} {below : List Frame} {meth : Method} {c : Code}
variable {E : zEn} {D : zG} {cy : Nat → ClassId} {ad adK adV w t q : Nat → Nat} {s : Nat → Nat → Nat} {bA L : Nat} {xs : Nat → Int32}
set_option maxHeartbeats 4000000 in
set_option maxRecDepth 100000 in
theorem law_loop (hE : zEok E) (hL0 : l.stackTraces = false) (hX : zOutX E) (hN : zOutN E) (hO : zOut E) (hOB : zOutB E) (hOC : zOutC E ad adK adV) (C : zC p s0 m #[.ref bA] meth c cL_law RL 9 D cy) (hret : meth.sig.returnType = ret) (hE0 : E (fun x : Nat => s0.heap.size ≤ x) s0 s0.heap) (hXs : va_X bA L xs s0 s0.heap) (hbl : bA < s0.heap.size) (hL : L ≤ 1536) :
    ∀ (k j : Nat) (G : va_W) (H : Heap) (locs : List Loc) (ls : Array Slot), j + k = 513 → 3 * j ≤ L + 2 → zPo cy ad w t q s (12 * j) G → va_P D vwCl G H → va_D (fun x : Nat => s0.heap.size ≤ x) G → va_S (fun x : Nat => s0.heap.size ≤ x) s0.heap H locs → lv_has ls 9 [(5, .int (nI (3 * j))), (0, .ref bA), (1, .ref (w 0)), (2, .ref (w 20)), (3, .ref (w 30)), (4, .ref (w 31))] →
      W p l e room_1 s0 m #[Value.ref bA] below meth c H locs (300 + 1000 * j) (4000 + 14000 * j) (lw_Z below #[Value.ref bA] s0) (F0 m 28 ls []) := by
  have hA : ∀ x : Nat, s0.heap.size ≤ x → (fun x : Nat => s0.heap.size ≤ x) x := fun _ h => h
  have hbA : ¬ (fun x : Nat => s0.heap.size ≤ x) bA := Nat.not_le.mpr hbl
  have hL31 : L < 2 ^ 31 := by omega
  have hR : 200 ≤ room_1.frames ∧ 20000 ≤ room_1.locals := ⟨Nat.le_of_ble_eq_true rfl, Nat.le_of_ble_eq_true rfl⟩
  have eL : nI 3 = 3 := rfl
  intro k
  induction k with
  | zero =>
    intro j G H locs ls hjk hj3
    omega
  | succ k ih =>
    intro j G H locs ls hjk hj3 hG hP hD hS hl
    refine lv_iload C.x C.b dL_law_28 (lv_at hl 0 rfl) ?_
    refine lv_aload_n C.x C.b dL_law_30 rfl (lv_at hl 1 rfl) ?_
    refine va_slen C.x C.b hXs hbl hbA hS dL_law_31 ?_
    refine lv_iconst (v := 3) C.x C.b dL_law_32 (by decide) ?_
    refine z_isub C (v := nI L - 3) dL_law_33 rfl ?_
    refine lv_icmp_gt (tgt := 2663) C.x C.b dL_law_34 (by decide) (fun _ => ?_) (fun hc => ?_)
    · refine lv_iconst (v := 1) C.x C.b dL_law_2663 (by decide) ?_
      refine va_forget (fun x hx => hS.2.2 x hx) ?_
      refine W.widen (show 300 + 1000 * j ≤ 605961 by omega) (show 4000 + 14000 * j ≤ 7194253 by omega) ?_
      exact lw_ret (d0 := s0.drawn) (Drawn.sameBut.refl s0.drawn lw_cs) C.x C.b hret C.lk dL_law_2664
    · have hn9 : 3 * j + 2 < L := by
        rcases Nat.lt_or_ge (3 * j + 2) L with h | h
        · exact h
        · exfalso
          apply hc
          rcases Nat.lt_or_ge L 3 with h3 | h3
          · rw [Int32.lt_iff_toInt_lt]
            have e2 : (nI (3 * j)).toInt = (3 * j : Nat) := nI_toInt (by omega)
            rw [e2]
            obtain rfl | rfl | rfl : L = 0 ∨ L = 1 ∨ L = 2 := by omega
            · have : (nI 0 - 3).toInt = -3 := by decide
              omega
            · have : (nI 1 - 3).toInt = -2 := by decide
              omega
            · have : (nI 2 - 3).toInt = -1 := by decide
              omega
          · rw [← eL, pk_sub h3]
            exact (nI_ltI (by omega) (by omega)).mpr (by omega)
      obtain ⟨f, rfl, hall⟩ := hG
      have hb : 12 * j + 12 ≤ 20000 := by omega
      have hf : 300 + 1000 * j + 1000 ≤ room_1.cells ∧ 4000 + 14000 * j + 14000 ≤ room_1.slots := ⟨show _ ≤ 605961 by omega, show _ ≤ 7194253 by omega⟩
      have kk : ∀ (G3 : va_W) (H1 : Heap) (locs1 : List Loc) (ls1 : Array Slot), zPo cy ad w t q s (12 * j + 12) G3 → va_P D vwCl G3 H1 → va_D (fun x : Nat => s0.heap.size ≤ x) G3 → va_S (fun x : Nat => s0.heap.size ≤ x) s0.heap H1 locs1 → lv_has ls1 9 [(5, .int (nI (3 * j))), (0, .ref bA), (1, .ref (w 0)), (2, .ref (w 20)), (3, .ref (w 30)), (4, .ref (w 31))] → W p l e room_1 s0 m #[Value.ref bA] below meth c H1 locs1 (300 + 1000 * j + 1000) (4000 + 14000 * j + 14000) (lw_Z below #[Value.ref bA] s0) (F0 m 2657 ls1 []) := by
        intro G3 H1 locs1 ls1 hG3 hP1 hD1 hS1 hl1
        refine lv_iinc (v := nI (3 * (j + 1))) C.x C.b dL_law_2657 hl1 (k := 0) rfl (by show nI (3 * j) + nI 3 = _; rw [nI_add]; rfl) (by decide) rfl (fun ls hl => ?_)
        refine lv_goto (tgt := 28) C.x C.b dL_law_2660 (by decide) ?_
        have := ih (j + 1) G3 H1 locs1 ls (by omega) (by omega) (by rw [Nat.mul_add]; exact hG3) hP1 hD1 hS1 hl
        rw [show 300 + 1000 * (j + 1) = 300 + 1000 * j + 1000 by omega, show 4000 + 14000 * (j + 1) = 4000 + 14000 * j + 14000 by omega] at this
        exact this
      refine lv_aload_n C.x C.b dL_law_37 rfl (lv_at hl 1 rfl) ?_
      refine lv_iload C.x C.b dL_law_38 (lv_at hl 0 rfl) ?_
      refine va_sld C.x C.b hXs hbl hbA hS (vp_in_nI (show 3 * j < L by omega) hL31) dL_law_40 ?_
      refine lv_bipush (v := 63) C.x C.b dL_law_41 (by decide) ?_
      refine z_iand C (v := xs (nI (3 * j)).toNatClampNeg &&& 63) dL_law_43 rfl ?_
      generalize xs (nI (3 * j)).toNatClampNeg &&& 63 = v
      by_cases hv : v.toInt < 0 ∨ 53 < v.toInt
      · refine lv_tableOut (tgt := 2657) C.x C.b dL_law_44 hv (by decide) ?_
        obtain ⟨a, n, nn, L', e1, v1, r0, r1, r2, r3, r4, r5, r6, r7, r8⟩ := hall
        exact W.widen (by omega) (by omega) (kk _ H locs ls ⟨f, rfl, a, n, nn, L', e1, v1, r0, r1.go (by omega) hb ⟨rfl, rfl⟩, r2.go (by omega) hb ⟨rfl, rfl, fun _ _ => rfl⟩, r3.go (by omega) hb ⟨rfl, rfl⟩, r4, r5, r6, r7, r8⟩ hP hD hS hl)
      · have h1 : ¬ v.toInt < 0 := fun h => hv (Or.inl h)
        have h2 : ¬ 53 < v.toInt := fun h => hv (Or.inr h)
        obtain ⟨vn, hvn⟩ : ∃ vn : Nat, v.toInt = (vn : Int) := ⟨v.toInt.toNat, by omega⟩
        have hvl : vn ≤ 53 := by omega
        have go : ∀ (tgt : Nat) (off : Int), (#[232, 276, 320, 376, 432, 488, 544, 588, 632, 645, 658, 671, 715, 759, 815, 871, 927, 971, 1034, 1090, 1153, 1197, 1241, 1285, 1329, 1380, 1424, 1475, 1519, 1563, 1631, 1699, 1743, 1787, 1800, 1856, 1912, 1968, 1981, 2039, 2052, 2065, 2130, 2196, 2209, 2253, 2266, 2322, 2380, 2424, 2468, 2512, 2556, 2569] : Array Int)[vn]? = some off → ((44 : Nat) : Int) + off = (tgt : Int) → W p l e room_1 s0 m #[Value.ref bA] below meth c H locs (300 + 1000 * j) (4000 + 14000 * j) (lw_Z below #[Value.ref bA] s0) (F0 m tgt ls []) → W p l e room_1 s0 m #[Value.ref bA] below meth c H locs (300 + 1000 * j) (4000 + 14000 * j) (lw_Z below #[Value.ref bA] s0) (F0 m 44 ls [.int v]) := by
          intro tgt off ho ht hk
          exact lv_tableIn C.x C.b dL_law_44 h1 h2 (by rw [hvn, show ((vn : Int) - 0).toNat = vn by omega]; exact ho) ht hk
        match vn, hvl with
        | 0, _ => exact go 276 232 rfl (by decide) (by exact j_addPlayer (s_addPlayer  hE hL0 hX hN hO hb hall) hE C hE0 hA hXs hbl hbA hn9 hL31 hR hf hP hD hS hl kk)
        | 1, _ => exact go 320 276 rfl (by decide) (by exact j_startGame (s_startGame  hE hL0 hX hN hO hb hall) hE C hE0 hA hXs hbl hbA hn9 hL31 hR hf hP hD hS hl kk)
        | 2, _ => exact go 364 320 rfl (by decide) (by exact j_hitLane (s_hitLane (xs (3 * j + 1)) hE hL0 hX hN hO hb hall) hE C hE0 hA hXs hbl hbA hn9 hL31 hR hf hP hD hS hl kk)
        | 3, _ => exact go 420 376 rfl (by decide) (by exact j_hitBumper (s_hitBumper (xs (3 * j + 1)) hE hL0 hX hN hO hb hall) hE C hE0 hA hXs hbl hbA hn9 hL31 hR hf hP hD hS hl kk)
        | 4, _ => exact go 476 432 rfl (by decide) (by exact j_hitTarget (s_hitTarget (xs (3 * j + 1)) hE hL0 hX hN hO hb hall) hE C hE0 hA hXs hbl hbA hn9 hL31 hR hf hP hD hS hl kk)
        | 5, _ => exact go 532 488 rfl (by decide) (by exact j_nudge (s_nudge (xs (3 * j + 1)) hE hL0 hX hN hO hb hall) hE C hE0 hA hXs hbl hbA hn9 hL31 hR hf hP hD hS hl kk)
        | 6, _ => exact go 588 544 rfl (by decide) (by exact j_drain (s_drain  hE hL0 hX hN hO hb hall) hE C hE0 hA hXs hbl hbA hn9 hL31 hR hf hP hD hS hl kk)
        | 7, _ => exact go 632 588 rfl (by decide) (by exact j_quitGame (s_quitGame  hE hL0 hX hN hO hb hall) hE C hE0 hA hXs hbl hbA hn9 hL31 hR hf hP hD hS hl kk)
        | 8, _ => exact go 676 632 rfl (by decide) (by exact j_isRunning (s_isRunning  hE hL0 hX hN hO hb hall) hE C hE0 hA hXs hbl hbA hn9 hL31 hR hf hP hD hS hl kk)
        | 9, _ => exact go 689 645 rfl (by decide) (by exact j_gameCount (s_gameCount  hE hL0 hX hN hO hb hall) hE C hE0 hA hXs hbl hbA hn9 hL31 hR hf hP hD hS hl kk)
        | 10, _ => exact go 702 658 rfl (by decide) (by exact j_playerCount (s_playerCount  hE hL0 hX hN hO hb hall) hE C hE0 hA hXs hbl hbA hn9 hL31 hR hf hP hD hS hl kk)
        | 11, _ => exact go 715 671 rfl (by decide) (by exact j_currentPlayer (s_currentPlayer  hE hL0 hX hN hO hb hall) hE C hE0 hA hXs hbl hbA hn9 hL31 hR hf hP hD hS hl kk)
        | 12, _ => exact go 759 715 rfl (by decide) (by exact j_ballNumber (s_ballNumber  hE hL0 hX hN hO hb hall) hE C hE0 hA hXs hbl hbA hn9 hL31 hR hf hP hD hS hl kk)
        | 13, _ => exact go 803 759 rfl (by decide) (by exact j_score (s_score (xs (3 * j + 1)) hE hL0 hX hN hO hb hall) hE C hE0 hA hXs hbl hbA hn9 hL31 hR hf hP hD hS hl kk)
        | 14, _ => exact go 859 815 rfl (by decide) (by exact j_extraBalls (s_extraBalls (xs (3 * j + 1)) hE hL0 hX hN hO hb hall) hE C hE0 hA hXs hbl hbA hn9 hL31 hR hf hP hD hS hl kk)
        | 15, _ => exact go 915 871 rfl (by decide) (by exact j_playerAtRank (s_playerAtRank (xs (3 * j + 1)) hE hL0 hX hN hO hb hall) hE C hE0 hA hXs hbl hbA hn9 hL31 hR hf hP hD hS hl kk)
        | 16, _ => exact go 971 927 rfl (by decide) (by exact j_multiplier (s_multiplier  hE hL0 hX hN hO hb hall) hE C hE0 hA hXs hbl hbA hn9 hL31 hR hf hP hD hS hl kk)
        | 17, _ => exact go 1015 971 rfl (by decide) (by exact j_isLit (s_isLit (xs (3 * j + 1)) hE hL0 hX hN hO hb hall) hE C hE0 hA hXs hbl hbA hn9 hL31 hR hf hP hD hS hl kk)
        | 18, _ => exact go 1078 1034 rfl (by decide) (by exact j_bumperValue (s_bumperValue (xs (3 * j + 1)) hE hL0 hX hN hO hb hall) hE C hE0 hA hXs hbl hbA hn9 hL31 hR hf hP hD hS hl kk)
        | 19, _ => exact go 1134 1090 rfl (by decide) (by exact j_isDown (s_isDown (xs (3 * j + 1)) hE hL0 hX hN hO hb hall) hE C hE0 hA hXs hbl hbA hn9 hL31 hR hf hP hD hS hl kk)
        | 20, _ => exact go 1197 1153 rfl (by decide) (by exact j_completedBanks (s_completedBanks  hE hL0 hX hN hO hb hall) hE C hE0 hA hXs hbl hbA hn9 hL31 hR hf hP hD hS hl kk)
        | 21, _ => exact go 1241 1197 rfl (by decide) (by exact j_bonusUnits (s_bonusUnits  hE hL0 hX hN hO hb hall) hE C hE0 hA hXs hbl hbA hn9 hL31 hR hf hP hD hS hl kk)
        | 22, _ => exact go 1285 1241 rfl (by decide) (by exact j_tiltMeter (s_tiltMeter  hE hL0 hX hN hO hb hall) hE C hE0 hA hXs hbl hbA hn9 hL31 hR hf hP hD hS hl kk)
        | 23, _ => exact go 1329 1285 rfl (by decide) (by exact j_warnings (s_warnings  hE hL0 hX hN hO hb hall) hE C hE0 hA hXs hbl hbA hn9 hL31 hR hf hP hD hS hl kk)
        | 24, _ => exact go 1373 1329 rfl (by decide) (by exact j_isTilted (s_isTilted  hE hL0 hX hN hO hb hall) hE C hE0 hA hXs hbl hbA hn9 hL31 hR hf hP hD hS hl kk)
        | 25, _ => exact go 1424 1380 rfl (by decide) (by exact j_hits (s_hits  hE hL0 hX hN hO hb hall) hE C hE0 hA hXs hbl hbA hn9 hL31 hR hf hP hD hS hl kk)
        | 26, _ => exact go 1468 1424 rfl (by decide) (by exact j_wouldBeSaved (s_wouldBeSaved  hE hL0 hX hN hO hb hall) hE C hE0 hA hXs hbl hbA hn9 hL31 hR hf hP hD hS hl kk)
        | 27, _ => exact go 1519 1475 rfl (by decide) (by exact j_laneRun (s_laneRun  hE hL0 hX hN hO hb hall) hE C hE0 hA hXs hbl hbA hn9 hL31 hR hf hP hD hS hl kk)
        | 28, _ => exact go 1563 1519 rfl (by decide) (by exact j_laneRunByCounting (s_laneRunByCounting  hE hL0 hX hN hO hb hall) hE C hE0 hA hXs hbl hbA hn9 hL31 hR hf hP hD hS hl kk)
        | 29, _ => exact go 1607 1563 rfl (by decide) (by exact j_bumperRun (s_bumperRun (xs (3 * j + 1)) (xs (3 * j + 2)) hE hL0 hX hN hO hb hall) hE C hE0 hA hXs hbl hbA hn9 hL31 hR hf hP hD hS hl kk)
        | 30, _ => exact go 1675 1631 rfl (by decide) (by exact j_bumperRunBySeries (s_bumperRunBySeries (xs (3 * j + 1)) (xs (3 * j + 2)) hE hL0 hX hN hO hb hall) hE C hE0 hA hXs hbl hbA hn9 hL31 hR hf hP hD hS hl kk)
        | 31, _ => exact go 1743 1699 rfl (by decide) (by exact j_bonusIfDrained (s_bonusIfDrained  hE hL0 hX hN hO hb hall) hE C hE0 hA hXs hbl hbA hn9 hL31 hR hf hP hD hS hl kk)
        | 32, _ => exact go 1787 1743 rfl (by decide) (by exact j_nextPlayer (s_nextPlayer  hE hL0 hX hN hO hb hall) hE C hE0 hA hXs hbl hbA hn9 hL31 hR hf hP hD hS hl kk)
        | 33, _ => exact go 1831 1787 rfl (by decide) (by exact j_recordCount (s_recordCount  hE hL0 hX hN hO hb hall) hE C hE0 hA hXs hbl hbA hn9 hL31 hR hf hP hD hS hl kk)
        | 34, _ => exact go 1844 1800 rfl (by decide) (by exact j_recordScore (s_recordScore (xs (3 * j + 1)) hE hL0 hX hN hO hb hall) hE C hE0 hA hXs hbl hbA hn9 hL31 hR hf hP hD hS hl kk)
        | 35, _ => exact go 1900 1856 rfl (by decide) (by exact j_recordPlayer (s_recordPlayer (xs (3 * j + 1)) hE hL0 hX hN hO hb hall) hE C hE0 hA hXs hbl hbA hn9 hL31 hR hf hP hD hS hl kk)
        | 36, _ => exact go 1956 1912 rfl (by decide) (by exact j_recordGame (s_recordGame (xs (3 * j + 1)) hE hL0 hX hN hO hb hall) hE C hE0 hA hXs hbl hbA hn9 hL31 hR hf hP hD hS hl kk)
        | 37, _ => exact go 2012 1968 rfl (by decide) (by exact j_pointsTotal (s_pointsTotal  hE hL0 hX hN hO hb hall) hE C hE0 hA hXs hbl hbA hn9 hL31 hR hf hP hD hS hl kk)
        | 38, _ => exact go 2025 1981 rfl (by decide) (by exact j_pointsOf (s_pointsOf (((xs (3 * j + 1)).toUInt32 % 65536).toInt32) hE hL0 hX hN hO hb hall) hE C hE0 hA hXs hbl hbA hn9 hL31 hR hf hP hD hS hl kk)
        | 39, _ => exact go 2083 2039 rfl (by decide) (by exact j_drainedBalls (s_drainedBalls  hE hL0 hX hN hO hb hall) hE C hE0 hA hXs hbl hbA hn9 hL31 hR hf hP hD hS hl kk)
        | 40, _ => exact go 2096 2052 rfl (by decide) (by exact j_tiltedBalls (s_tiltedBalls  hE hL0 hX hN hO hb hall) hE C hE0 hA hXs hbl hbA hn9 hL31 hR hf hP hD hS hl kk)
        | 41, _ => exact go 2109 2065 rfl (by decide) (by exact j_meanScore (s_meanScore  hE hL0 hX hN hO hb hall) hE C hE0 hA hXs hbl hbA hn9 hL31 hR hf hP hD hS hl kk)
        | 42, _ => exact go 2174 2130 rfl (by decide) (by exact j_tiltRate (s_tiltRate  hE hL0 hX hN hO hb hall) hE C hE0 hA hXs hbl hbA hn9 hL31 hR hf hP hD hS hl kk)
        | 43, _ => exact go 2240 2196 rfl (by decide) (by exact j_isConsistent (s_isConsistent  hE hL0 hX hN hO hb hall) hE C hE0 hA hXs hbl hbA hn9 hL31 hR hf hP hD hS hl kk)
        | 44, _ => exact go 2253 2209 rfl (by decide) (by exact (s_renderBall hE hL0 hX hN hO hOB hOC hb hall).elim (fun h => j_renderBall h hE C hE0 hA hXs hbl hbA hn9 hL31 hR hf hP hD hS hl kk) (fun h => j_renderBallr h hE C hE0 hA hXs hbl hbA hn9 hL31 hR hf hP hD hS hl kk))
        | 45, _ => exact go 2297 2253 rfl (by decide) (by exact j_renderRecordsr (s_renderRecords  hE hL0 hX hN hO hOB hOC hb hall) hE C hE0 hA hXs hbl hbA hn9 hL31 hR hf hP hD hS hl kk)
        | 46, _ => exact go 2310 2266 rfl (by decide) (by exact j_outputAt (s_outputAt (xs (3 * j + 1)) hE hL0 hX hN hO hOB hOC hb hall) hE C hE0 hA hXs hbl hbA hn9 hL31 hR hf hP hD hS hl kk)
        | 47, _ => exact go 2366 2322 rfl (by decide) (by exact j_type (s_type (((xs (3 * j + 1)).toUInt32 % 65536).toInt32) hE hL0 hX hN hO hb hall) hE C hE0 hA hXs hbl hbA hn9 hL31 hR hf hP hD hS hl kk)
        | 48, _ => exact go 2424 2380 rfl (by decide) (by exact j_runScript (s_runScript  hE hL0 hX hN hO hOB hOC (by omega) hb hall) hE C hE0 hA hXs hbl hbA hn9 hL31 hR hf hP hD hS hl kk)
        | 49, _ => exact go 2468 2424 rfl (by decide) (by exact j_errorPosition (s_errorPosition  hE hL0 hX hN hO hb hall) hE C hE0 hA hXs hbl hbA hn9 hL31 hR hf hP hD hS hl kk)
        | 50, _ => exact go 2512 2468 rfl (by decide) (by exact j_failedCommand (s_failedCommand  hE hL0 hX hN hO hb hall) hE C hE0 hA hXs hbl hbA hn9 hL31 hR hf hP hD hS hl kk)
        | 51, _ => exact go 2556 2512 rfl (by decide) (by exact j_undo (s_undo  hE hL0 hX hN hO hb hall) hE C hE0 hA hXs hbl hbA hn9 hL31 hR hf hP hD hS hl kk)
        | 52, _ => exact go 2600 2556 rfl (by decide) (by exact j_save (s_save  hE hL0 hX hN hO hb hall) hE C hE0 hA hXs hbl hbA hn9 hL31 hR hf hP hD hS hl kk)
        | 53, _ => exact go 2613 2569 rfl (by decide) (by exact j_restore (s_restore  hE hL0 hX hN hO hb hall) hE C hE0 hA hXs hbl hbA hn9 hL31 hR hf hP hD hS hl kk)
        | vn + 54, h => omega
end LOOP
