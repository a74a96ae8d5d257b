section M6
def n_X9_pick (k : Int32) (a : Int32) (b : Int32) (c : Int32) (d : Int32) (e : Int32) (f : Int32) : Int32 :=
  if k = 0 then
    a
  else
    if k = 1 then
      b
    else
      if k = 2 then
        c
      else
        if k = 3 then
          d
        else
          if k = 4 then
            e
          else
            if k = 5 then
              f
            else
              0
def q_X9_pick   (o : Int32) : va_W := []
set_option maxHeartbeats 4000000 in
set_option maxRecDepth 100000 in
theorem c_X9_pick (l : Launch) {E : zEn} (hE : zEok E) (D : zG) (cy : Nat → ClassId) (k : Int32) (a : Int32) (b : Int32) (c : Int32) (d : Int32) (e : Int32) (f : Int32)  (sz : Nat) : Met l yX9_pick (zws yX9_pick cX9_pick 7 (some .int)) { frames := 0, cells := 0, slots := 0, locals := 0 } (zPre E D cy [.int k, .int a, .int b, .int c, .int d, .int e, .int f] [] sz) (zQi D ((q_X9_pick ) (n_X9_pick k a b c d e f)) (va_A [] sz) ((n_X9_pick k a b c d e f))) 0 0 (va_A [] sz) := by
  refine z_of (Qc := fun A => zQi D ((q_X9_pick ) (n_X9_pick k a b c d e f)) A ((n_X9_pick k a b c d e f))) (by decide +kernel) (Nat.le_of_ble_eq_true rfl) rfl ?_
  intro pG eN sT mI below meth cO A ls C hRT hnm hA hP hD hS hE0 hl
  have hX := C.x
  have hB := C.b
  refine lv_iload_n hX hB dX9_pick_0 rfl (lv_at hl 0 rfl) ?_
  refine zby (k = 0) (fun c_1 => ?_) (fun c_1 => ?_)
  · refine lv_tableIn (off := 39) (tgt := 40) hX hB dX9_pick_1 (by rw [c_1]; decide) (by rw [c_1]; decide) (by rw [c_1]; decide) (by decide) ?_
    refine lv_iload_n hX hB dX9_pick_40 rfl (lv_at hl 1 rfl) ?_
    exact z_iret' a (w' := q_X9_pick ) (r0 := (fun (o : Int32) => o)) (by simp only [n_X9_pick, if_pos c_1]) C hRT hP hD hS (Nat.le_of_ble_eq_true rfl) (Nat.le_of_ble_eq_true rfl) rfl rfl dX9_pick_41
  · refine zby (k = 1) (fun c_2 => ?_) (fun c_2 => ?_)
    · refine lv_tableIn (off := 41) (tgt := 42) hX hB dX9_pick_1 (by rw [c_2]; decide) (by rw [c_2]; decide) (by rw [c_2]; decide) (by decide) ?_
      refine lv_iload_n hX hB dX9_pick_42 rfl (lv_at hl 2 rfl) ?_
      exact z_iret' b (w' := q_X9_pick ) (r0 := (fun (o : Int32) => o)) (by simp only [n_X9_pick, if_neg c_1, if_pos c_2]) C hRT hP hD hS (Nat.le_of_ble_eq_true rfl) (Nat.le_of_ble_eq_true rfl) rfl rfl dX9_pick_43
    · refine zby (k = 2) (fun c_3 => ?_) (fun c_3 => ?_)
      · refine lv_tableIn (off := 43) (tgt := 44) hX hB dX9_pick_1 (by rw [c_3]; decide) (by rw [c_3]; decide) (by rw [c_3]; decide) (by decide) ?_
        refine lv_iload_n hX hB dX9_pick_44 rfl (lv_at hl 3 rfl) ?_
        exact z_iret' c (w' := q_X9_pick ) (r0 := (fun (o : Int32) => o)) (by simp only [n_X9_pick, if_neg c_1, if_neg c_2, if_pos c_3]) C hRT hP hD hS (Nat.le_of_ble_eq_true rfl) (Nat.le_of_ble_eq_true rfl) rfl rfl dX9_pick_45
      · refine zby (k = 3) (fun c_4 => ?_) (fun c_4 => ?_)
        · refine lv_tableIn (off := 45) (tgt := 46) hX hB dX9_pick_1 (by rw [c_4]; decide) (by rw [c_4]; decide) (by rw [c_4]; decide) (by decide) ?_
          refine lv_iload hX hB dX9_pick_46 (lv_at hl 4 rfl) ?_
          exact z_iret' d (w' := q_X9_pick ) (r0 := (fun (o : Int32) => o)) (by simp only [n_X9_pick, if_neg c_1, if_neg c_2, if_neg c_3, if_pos c_4]) C hRT hP hD hS (Nat.le_of_ble_eq_true rfl) (Nat.le_of_ble_eq_true rfl) rfl rfl dX9_pick_48
        · refine zby (k = 4) (fun c_5 => ?_) (fun c_5 => ?_)
          · refine lv_tableIn (off := 48) (tgt := 49) hX hB dX9_pick_1 (by rw [c_5]; decide) (by rw [c_5]; decide) (by rw [c_5]; decide) (by decide) ?_
            refine lv_iload hX hB dX9_pick_49 (lv_at hl 5 rfl) ?_
            exact z_iret' e (w' := q_X9_pick ) (r0 := (fun (o : Int32) => o)) (by simp only [n_X9_pick, if_neg c_1, if_neg c_2, if_neg c_3, if_neg c_4, if_pos c_5]) C hRT hP hD hS (Nat.le_of_ble_eq_true rfl) (Nat.le_of_ble_eq_true rfl) rfl rfl dX9_pick_51
          · refine zby (k = 5) (fun c_6 => ?_) (fun c_6 => ?_)
            · refine lv_tableIn (off := 51) (tgt := 52) hX hB dX9_pick_1 (by rw [c_6]; decide) (by rw [c_6]; decide) (by rw [c_6]; decide) (by decide) ?_
              refine lv_iload hX hB dX9_pick_52 (lv_at hl 6 rfl) ?_
              exact z_iret' f (w' := q_X9_pick ) (r0 := (fun (o : Int32) => o)) (by simp only [n_X9_pick, if_neg c_1, if_neg c_2, if_neg c_3, if_neg c_4, if_neg c_5, if_pos c_6]) C hRT hP hD hS (Nat.le_of_ble_eq_true rfl) (Nat.le_of_ble_eq_true rfl) rfl rfl dX9_pick_54
            · refine lv_tableOut (tgt := 55) hX hB dX9_pick_1 (by have e0 : ¬ k.toInt = 0 := fun h => c_1 (Int32.toInt_inj.mp (h.trans (by decide))); have e1 : ¬ k.toInt = 1 := fun h => c_2 (Int32.toInt_inj.mp (h.trans (by decide))); have e2 : ¬ k.toInt = 2 := fun h => c_3 (Int32.toInt_inj.mp (h.trans (by decide))); have e3 : ¬ k.toInt = 3 := fun h => c_4 (Int32.toInt_inj.mp (h.trans (by decide))); have e4 : ¬ k.toInt = 4 := fun h => c_5 (Int32.toInt_inj.mp (h.trans (by decide))); have e5 : ¬ k.toInt = 5 := fun h => c_6 (Int32.toInt_inj.mp (h.trans (by decide))); omega) (by decide) ?_
              refine lv_iconst (v := 0) hX hB dX9_pick_55 (by decide) ?_
              exact z_iret' 0 (w' := q_X9_pick ) (r0 := (fun (o : Int32) => o)) (by simp only [n_X9_pick, if_neg c_1, if_neg c_2, if_neg c_3, if_neg c_4, if_neg c_5, if_neg c_6]) C hRT hP hD hS (Nat.le_of_ble_eq_true rfl) (Nat.le_of_ble_eq_true rfl) rfl rfl dX9_pick_56

def n_X9_letter (x : Int32) (y : Int32) : Int32 :=
  if x = 0 then
    let o_2 := n_X9_pick y 108 97 110 101 0 0
    o_2
  else
    if x = 1 then
      let o_4 := n_X9_pick y 98 117 109 112 101 114
      o_4
    else
      if x = 2 then
        let o_6 := n_X9_pick y 116 97 114 103 101 116
        o_6
      else
        if x = 3 then
          let o_8 := n_X9_pick y 110 117 100 103 101 0
          o_8
        else
          if x = 4 then
            let o_10 := n_X9_pick y 112 108 97 121 101 114
            o_10
          else
            if x = 5 then
              let o_12 := n_X9_pick y 115 116 97 114 116 0
              o_12
            else
              if x = 6 then
                let o_14 := n_X9_pick y 100 114 97 105 110 0
                o_14
              else
                let o_15 := n_X9_pick y 113 117 105 116 0 0
                o_15
def q_X9_letter   (o : Int32) : va_W := []
set_option maxHeartbeats 4000000 in
set_option maxRecDepth 100000 in
theorem c_X9_letter (l : Launch) {E : zEn} (hE : zEok E) (D : zG) (cy : Nat → ClassId) (x : Int32) (y : Int32)  (sz : Nat) : Met l yX9_letter (zws yX9_letter cX9_letter 2 (some .int)) { frames := 1, cells := 0, slots := 0, locals := 26 } (zPre E D cy [.int x, .int y] [] sz) (zQi D ((q_X9_letter ) (n_X9_letter x y)) (va_A [] sz) ((n_X9_letter x y))) 0 0 (va_A [] sz) := by
  refine z_of (Qc := fun A => zQi D ((q_X9_letter ) (n_X9_letter x y)) A ((n_X9_letter x y))) (by decide +kernel) (Nat.le_of_ble_eq_true rfl) rfl ?_
  intro pG eN sT mI below meth cO A ls C hRT hnm hA hP hD hS hE0 hl
  have hX := C.x
  have hB := C.b
  refine lv_iload_n hX hB dX9_letter_0 rfl (lv_at hl 0 rfl) ?_
  refine zby (x = 0) (fun c_1 => ?_) (fun c_1 => ?_)
  · refine lv_tableIn (off := 43) (tgt := 44) hX hB dX9_letter_1 (by rw [c_1]; decide) (by rw [c_1]; decide) (by rw [c_1]; decide) (by decide) ?_
    refine lv_iload_n hX hB dX9_letter_44 rfl (lv_at hl 1 rfl) ?_
    refine lv_bipush (v := 108) hX hB dX9_letter_45 (by decide) ?_
    refine lv_bipush (v := 97) hX hB dX9_letter_47 (by decide) ?_
    refine lv_bipush (v := 110) hX hB dX9_letter_49 (by decide) ?_
    refine lv_bipush (v := 101) hX hB dX9_letter_51 (by decide) ?_
    refine lv_iconst (v := 0) hX hB dX9_letter_53 (by decide) ?_
    refine lv_iconst (v := 0) hX hB dX9_letter_54 (by decide) ?_
    refine z_callSi (isC := []) (isR := []) (isO := []) (n_X9_pick y 108 97 110 101 0 0) (q_X9_pick ) (fun o_2 => []) (fun o_2 => o_2) (c_X9_pick l hE D cy  y 108 97 110 101 0 0 ) hE C zs_X9_199 ⟨Nat.le_of_ble_eq_true rfl, Nat.le_of_ble_eq_true rfl⟩ hP hD hS hA hE0 ⟨rfl, rfl, rfl, by decide, rfl, rfl, rfl⟩ rfl hl.1 (Nat.le_of_ble_eq_true rfl) rfl dX9_letter_55 ⟨Nat.le_of_ble_eq_true rfl, Nat.le_of_ble_eq_true rfl⟩ (fun o_2 H locs eo_2 hP hD hS => ?_)
    exact z_iret' o_2 (w' := q_X9_letter ) (r0 := (fun (o : Int32) => o)) (by simp only [n_X9_letter, if_pos c_1, ← eo_2]) C hRT hP hD hS (Nat.le_of_ble_eq_true rfl) (Nat.le_of_ble_eq_true rfl) rfl rfl dX9_letter_58
  · refine zby (x = 1) (fun c_3 => ?_) (fun c_3 => ?_)
    · refine lv_tableIn (off := 58) (tgt := 59) hX hB dX9_letter_1 (by rw [c_3]; decide) (by rw [c_3]; decide) (by rw [c_3]; decide) (by decide) ?_
      refine lv_iload_n hX hB dX9_letter_59 rfl (lv_at hl 1 rfl) ?_
      refine lv_bipush (v := 98) hX hB dX9_letter_60 (by decide) ?_
      refine lv_bipush (v := 117) hX hB dX9_letter_62 (by decide) ?_
      refine lv_bipush (v := 109) hX hB dX9_letter_64 (by decide) ?_
      refine lv_bipush (v := 112) hX hB dX9_letter_66 (by decide) ?_
      refine lv_bipush (v := 101) hX hB dX9_letter_68 (by decide) ?_
      refine lv_bipush (v := 114) hX hB dX9_letter_70 (by decide) ?_
      refine z_callSi (isC := []) (isR := []) (isO := []) (n_X9_pick y 98 117 109 112 101 114) (q_X9_pick ) (fun o_4 => []) (fun o_4 => o_4) (c_X9_pick l hE D cy  y 98 117 109 112 101 114 ) hE C zs_X9_199 ⟨Nat.le_of_ble_eq_true rfl, Nat.le_of_ble_eq_true rfl⟩ hP hD hS hA hE0 ⟨rfl, rfl, rfl, by decide, rfl, rfl, rfl⟩ rfl hl.1 (Nat.le_of_ble_eq_true rfl) rfl dX9_letter_72 ⟨Nat.le_of_ble_eq_true rfl, Nat.le_of_ble_eq_true rfl⟩ (fun o_4 H locs eo_4 hP hD hS => ?_)
      exact z_iret' o_4 (w' := q_X9_letter ) (r0 := (fun (o : Int32) => o)) (by simp only [n_X9_letter, if_neg c_1, if_pos c_3, ← eo_4]) C hRT hP hD hS (Nat.le_of_ble_eq_true rfl) (Nat.le_of_ble_eq_true rfl) rfl rfl dX9_letter_75
    · refine zby (x = 2) (fun c_5 => ?_) (fun c_5 => ?_)
      · refine lv_tableIn (off := 75) (tgt := 76) hX hB dX9_letter_1 (by rw [c_5]; decide) (by rw [c_5]; decide) (by rw [c_5]; decide) (by decide) ?_
        refine lv_iload_n hX hB dX9_letter_76 rfl (lv_at hl 1 rfl) ?_
        refine lv_bipush (v := 116) hX hB dX9_letter_77 (by decide) ?_
        refine lv_bipush (v := 97) hX hB dX9_letter_79 (by decide) ?_
        refine lv_bipush (v := 114) hX hB dX9_letter_81 (by decide) ?_
        refine lv_bipush (v := 103) hX hB dX9_letter_83 (by decide) ?_
        refine lv_bipush (v := 101) hX hB dX9_letter_85 (by decide) ?_
        refine lv_bipush (v := 116) hX hB dX9_letter_87 (by decide) ?_
        refine z_callSi (isC := []) (isR := []) (isO := []) (n_X9_pick y 116 97 114 103 101 116) (q_X9_pick ) (fun o_6 => []) (fun o_6 => o_6) (c_X9_pick l hE D cy  y 116 97 114 103 101 116 ) hE C zs_X9_199 ⟨Nat.le_of_ble_eq_true rfl, Nat.le_of_ble_eq_true rfl⟩ hP hD hS hA hE0 ⟨rfl, rfl, rfl, by decide, rfl, rfl, rfl⟩ rfl hl.1 (Nat.le_of_ble_eq_true rfl) rfl dX9_letter_89 ⟨Nat.le_of_ble_eq_true rfl, Nat.le_of_ble_eq_true rfl⟩ (fun o_6 H locs eo_6 hP hD hS => ?_)
        exact z_iret' o_6 (w' := q_X9_letter ) (r0 := (fun (o : Int32) => o)) (by simp only [n_X9_letter, if_neg c_1, if_neg c_3, if_pos c_5, ← eo_6]) C hRT hP hD hS (Nat.le_of_ble_eq_true rfl) (Nat.le_of_ble_eq_true rfl) rfl rfl dX9_letter_92
      · refine zby (x = 3) (fun c_7 => ?_) (fun c_7 => ?_)
        · refine lv_tableIn (off := 92) (tgt := 93) hX hB dX9_letter_1 (by rw [c_7]; decide) (by rw [c_7]; decide) (by rw [c_7]; decide) (by decide) ?_
          refine lv_iload_n hX hB dX9_letter_93 rfl (lv_at hl 1 rfl) ?_
          refine lv_bipush (v := 110) hX hB dX9_letter_94 (by decide) ?_
          refine lv_bipush (v := 117) hX hB dX9_letter_96 (by decide) ?_
          refine lv_bipush (v := 100) hX hB dX9_letter_98 (by decide) ?_
          refine lv_bipush (v := 103) hX hB dX9_letter_100 (by decide) ?_
          refine lv_bipush (v := 101) hX hB dX9_letter_102 (by decide) ?_
          refine lv_iconst (v := 0) hX hB dX9_letter_104 (by decide) ?_
          refine z_callSi (isC := []) (isR := []) (isO := []) (n_X9_pick y 110 117 100 103 101 0) (q_X9_pick ) (fun o_8 => []) (fun o_8 => o_8) (c_X9_pick l hE D cy  y 110 117 100 103 101 0 ) hE C zs_X9_199 ⟨Nat.le_of_ble_eq_true rfl, Nat.le_of_ble_eq_true rfl⟩ hP hD hS hA hE0 ⟨rfl, rfl, rfl, by decide, rfl, rfl, rfl⟩ rfl hl.1 (Nat.le_of_ble_eq_true rfl) rfl dX9_letter_105 ⟨Nat.le_of_ble_eq_true rfl, Nat.le_of_ble_eq_true rfl⟩ (fun o_8 H locs eo_8 hP hD hS => ?_)
          exact z_iret' o_8 (w' := q_X9_letter ) (r0 := (fun (o : Int32) => o)) (by simp only [n_X9_letter, if_neg c_1, if_neg c_3, if_neg c_5, if_pos c_7, ← eo_8]) C hRT hP hD hS (Nat.le_of_ble_eq_true rfl) (Nat.le_of_ble_eq_true rfl) rfl rfl dX9_letter_108
        · refine zby (x = 4) (fun c_9 => ?_) (fun c_9 => ?_)
          · refine lv_tableIn (off := 108) (tgt := 109) hX hB dX9_letter_1 (by rw [c_9]; decide) (by rw [c_9]; decide) (by rw [c_9]; decide) (by decide) ?_
            refine lv_iload_n hX hB dX9_letter_109 rfl (lv_at hl 1 rfl) ?_
            refine lv_bipush (v := 112) hX hB dX9_letter_110 (by decide) ?_
            refine lv_bipush (v := 108) hX hB dX9_letter_112 (by decide) ?_
            refine lv_bipush (v := 97) hX hB dX9_letter_114 (by decide) ?_
            refine lv_bipush (v := 121) hX hB dX9_letter_116 (by decide) ?_
            refine lv_bipush (v := 101) hX hB dX9_letter_118 (by decide) ?_
            refine lv_bipush (v := 114) hX hB dX9_letter_120 (by decide) ?_
            refine z_callSi (isC := []) (isR := []) (isO := []) (n_X9_pick y 112 108 97 121 101 114) (q_X9_pick ) (fun o_10 => []) (fun o_10 => o_10) (c_X9_pick l hE D cy  y 112 108 97 121 101 114 ) hE C zs_X9_199 ⟨Nat.le_of_ble_eq_true rfl, Nat.le_of_ble_eq_true rfl⟩ hP hD hS hA hE0 ⟨rfl, rfl, rfl, by decide, rfl, rfl, rfl⟩ rfl hl.1 (Nat.le_of_ble_eq_true rfl) rfl dX9_letter_122 ⟨Nat.le_of_ble_eq_true rfl, Nat.le_of_ble_eq_true rfl⟩ (fun o_10 H locs eo_10 hP hD hS => ?_)
            exact z_iret' o_10 (w' := q_X9_letter ) (r0 := (fun (o : Int32) => o)) (by simp only [n_X9_letter, if_neg c_1, if_neg c_3, if_neg c_5, if_neg c_7, if_pos c_9, ← eo_10]) C hRT hP hD hS (Nat.le_of_ble_eq_true rfl) (Nat.le_of_ble_eq_true rfl) rfl rfl dX9_letter_125
          · refine zby (x = 5) (fun c_11 => ?_) (fun c_11 => ?_)
            · refine lv_tableIn (off := 125) (tgt := 126) hX hB dX9_letter_1 (by rw [c_11]; decide) (by rw [c_11]; decide) (by rw [c_11]; decide) (by decide) ?_
              refine lv_iload_n hX hB dX9_letter_126 rfl (lv_at hl 1 rfl) ?_
              refine lv_bipush (v := 115) hX hB dX9_letter_127 (by decide) ?_
              refine lv_bipush (v := 116) hX hB dX9_letter_129 (by decide) ?_
              refine lv_bipush (v := 97) hX hB dX9_letter_131 (by decide) ?_
              refine lv_bipush (v := 114) hX hB dX9_letter_133 (by decide) ?_
              refine lv_bipush (v := 116) hX hB dX9_letter_135 (by decide) ?_
              refine lv_iconst (v := 0) hX hB dX9_letter_137 (by decide) ?_
              refine z_callSi (isC := []) (isR := []) (isO := []) (n_X9_pick y 115 116 97 114 116 0) (q_X9_pick ) (fun o_12 => []) (fun o_12 => o_12) (c_X9_pick l hE D cy  y 115 116 97 114 116 0 ) hE C zs_X9_199 ⟨Nat.le_of_ble_eq_true rfl, Nat.le_of_ble_eq_true rfl⟩ hP hD hS hA hE0 ⟨rfl, rfl, rfl, by decide, rfl, rfl, rfl⟩ rfl hl.1 (Nat.le_of_ble_eq_true rfl) rfl dX9_letter_138 ⟨Nat.le_of_ble_eq_true rfl, Nat.le_of_ble_eq_true rfl⟩ (fun o_12 H locs eo_12 hP hD hS => ?_)
              exact z_iret' o_12 (w' := q_X9_letter ) (r0 := (fun (o : Int32) => o)) (by simp only [n_X9_letter, if_neg c_1, if_neg c_3, if_neg c_5, if_neg c_7, if_neg c_9, if_pos c_11, ← eo_12]) C hRT hP hD hS (Nat.le_of_ble_eq_true rfl) (Nat.le_of_ble_eq_true rfl) rfl rfl dX9_letter_141
            · refine zby (x = 6) (fun c_13 => ?_) (fun c_13 => ?_)
              · refine lv_tableIn (off := 141) (tgt := 142) hX hB dX9_letter_1 (by rw [c_13]; decide) (by rw [c_13]; decide) (by rw [c_13]; decide) (by decide) ?_
                refine lv_iload_n hX hB dX9_letter_142 rfl (lv_at hl 1 rfl) ?_
                refine lv_bipush (v := 100) hX hB dX9_letter_143 (by decide) ?_
                refine lv_bipush (v := 114) hX hB dX9_letter_145 (by decide) ?_
                refine lv_bipush (v := 97) hX hB dX9_letter_147 (by decide) ?_
                refine lv_bipush (v := 105) hX hB dX9_letter_149 (by decide) ?_
                refine lv_bipush (v := 110) hX hB dX9_letter_151 (by decide) ?_
                refine lv_iconst (v := 0) hX hB dX9_letter_153 (by decide) ?_
                refine z_callSi (isC := []) (isR := []) (isO := []) (n_X9_pick y 100 114 97 105 110 0) (q_X9_pick ) (fun o_14 => []) (fun o_14 => o_14) (c_X9_pick l hE D cy  y 100 114 97 105 110 0 ) hE C zs_X9_199 ⟨Nat.le_of_ble_eq_true rfl, Nat.le_of_ble_eq_true rfl⟩ hP hD hS hA hE0 ⟨rfl, rfl, rfl, by decide, rfl, rfl, rfl⟩ rfl hl.1 (Nat.le_of_ble_eq_true rfl) rfl dX9_letter_154 ⟨Nat.le_of_ble_eq_true rfl, Nat.le_of_ble_eq_true rfl⟩ (fun o_14 H locs eo_14 hP hD hS => ?_)
                exact z_iret' o_14 (w' := q_X9_letter ) (r0 := (fun (o : Int32) => o)) (by simp only [n_X9_letter, if_neg c_1, if_neg c_3, if_neg c_5, if_neg c_7, if_neg c_9, if_neg c_11, if_pos c_13, ← eo_14]) C hRT hP hD hS (Nat.le_of_ble_eq_true rfl) (Nat.le_of_ble_eq_true rfl) rfl rfl dX9_letter_157
              · refine lv_tableOut (tgt := 158) hX hB dX9_letter_1 (by have e0 : ¬ x.toInt = 0 := fun h => c_1 (Int32.toInt_inj.mp (h.trans (by decide))); have e1 : ¬ x.toInt = 1 := fun h => c_3 (Int32.toInt_inj.mp (h.trans (by decide))); have e2 : ¬ x.toInt = 2 := fun h => c_5 (Int32.toInt_inj.mp (h.trans (by decide))); have e3 : ¬ x.toInt = 3 := fun h => c_7 (Int32.toInt_inj.mp (h.trans (by decide))); have e4 : ¬ x.toInt = 4 := fun h => c_9 (Int32.toInt_inj.mp (h.trans (by decide))); have e5 : ¬ x.toInt = 5 := fun h => c_11 (Int32.toInt_inj.mp (h.trans (by decide))); have e6 : ¬ x.toInt = 6 := fun h => c_13 (Int32.toInt_inj.mp (h.trans (by decide))); omega) (by decide) ?_
                refine lv_iload_n hX hB dX9_letter_158 rfl (lv_at hl 1 rfl) ?_
                refine lv_bipush (v := 113) hX hB dX9_letter_159 (by decide) ?_
                refine lv_bipush (v := 117) hX hB dX9_letter_161 (by decide) ?_
                refine lv_bipush (v := 105) hX hB dX9_letter_163 (by decide) ?_
                refine lv_bipush (v := 116) hX hB dX9_letter_165 (by decide) ?_
                refine lv_iconst (v := 0) hX hB dX9_letter_167 (by decide) ?_
                refine lv_iconst (v := 0) hX hB dX9_letter_168 (by decide) ?_
                refine z_callSi (isC := []) (isR := []) (isO := []) (n_X9_pick y 113 117 105 116 0 0) (q_X9_pick ) (fun o_15 => []) (fun o_15 => o_15) (c_X9_pick l hE D cy  y 113 117 105 116 0 0 ) hE C zs_X9_199 ⟨Nat.le_of_ble_eq_true rfl, Nat.le_of_ble_eq_true rfl⟩ hP hD hS hA hE0 ⟨rfl, rfl, rfl, by decide, rfl, rfl, rfl⟩ rfl hl.1 (Nat.le_of_ble_eq_true rfl) rfl dX9_letter_169 ⟨Nat.le_of_ble_eq_true rfl, Nat.le_of_ble_eq_true rfl⟩ (fun o_15 H locs eo_15 hP hD hS => ?_)
                exact z_iret' o_15 (w' := q_X9_letter ) (r0 := (fun (o : Int32) => o)) (by simp only [n_X9_letter, if_neg c_1, if_neg c_3, if_neg c_5, if_neg c_7, if_neg c_9, if_neg c_11, if_neg c_13, ← eo_15]) C hRT hP hD hS (Nat.le_of_ble_eq_true rfl) (Nat.le_of_ble_eq_true rfl) rfl rfl dX9_letter_172

def q_X9_mark_1 (cy : Nat → ClassId) (h0 : Nat) (h1 : Nat) (h2 : Nat) (h3 : Nat) (h4 : Nat) (h5 : Nat) (h6 : Nat) (h7 : Nat) (h8 : Nat) (h9 : Nat) (v1 : Int32) (v2 : Int32) (v3 : Int32) (v4 : Int32) (v5 : Int32) (v6 : Int32) (v7 : Int32) (v8 : Int32) (v9 : Int32) (v10 : Int32) (gi : Nat → Int32) (o : Unit) : va_W := [(h0, .inr (11, [.ref h1, .ref h2, .ref h3, .ref h4, .ref h5, .int v1, .int v2, .int v3, .int v4, .int v5, .ref h6, .int v6, .ref h7, .ref h8, .ref h9, .int v7, .int v8, .int v9, .int v10, .int 1])), (h7, .inl (cy 0, 60, .inl (gi)))]
set_option maxHeartbeats 4000000 in
set_option maxRecDepth 100000 in
theorem c_X9_mark_1 (l : Launch) {E : zEn} (hE : zEok E) (D : zG) (cy : Nat → ClassId) (h0 h1 h2 h3 h4 h5 h6 h7 h8 h9 : Nat) (v1 : Int32) (v2 : Int32) (v3 : Int32) (v4 : Int32) (v5 : Int32) (v6 : Int32) (v7 : Int32) (v8 : Int32) (v9 : Int32) (v10 : Int32) (gi : Nat → Int32)  (sz : Nat) : Met l yX9_mark (zws yX9_mark cX9_mark 1 (some .int)) { frames := 0, cells := 0, slots := 0, locals := 0 } (zPre E D cy [.ref h0] [(h0, .inr (11, [.ref h1, .ref h2, .ref h3, .ref h4, .ref h5, .int v1, .int v2, .int v3, .int v4, .int v5, .ref h6, .int v6, .ref h7, .ref h8, .ref h9, .int v7, .int v8, .int v9, .int v10, .int 1])), (h7, .inl (cy 0, 60, .inl (gi)))] sz) (zQi D ((q_X9_mark_1 cy h0 h1 h2 h3 h4 h5 h6 h7 h8 h9 v1 v2 v3 v4 v5 v6 v7 v8 v9 v10 gi) ()) (va_A [(h0, .inr (11, [.ref h1, .ref h2, .ref h3, .ref h4, .ref h5, .int v1, .int v2, .int v3, .int v4, .int v5, .ref h6, .int v6, .ref h7, .ref h8, .ref h9, .int v7, .int v8, .int v9, .int v10, .int 1])), (h7, .inl (cy 0, 60, .inl (gi)))] sz) ((-1))) 0 0 (va_A [(h0, .inr (11, [.ref h1, .ref h2, .ref h3, .ref h4, .ref h5, .int v1, .int v2, .int v3, .int v4, .int v5, .ref h6, .int v6, .ref h7, .ref h8, .ref h9, .int v7, .int v8, .int v9, .int v10, .int 1])), (h7, .inl (cy 0, 60, .inl (gi)))] sz) := by
  refine z_of (Qc := fun A => zQi D ((q_X9_mark_1 cy h0 h1 h2 h3 h4 h5 h6 h7 h8 h9 v1 v2 v3 v4 v5 v6 v7 v8 v9 v10 gi) ()) A ((-1))) (by decide +kernel) (Nat.le_of_ble_eq_true rfl) rfl ?_
  intro pG eN sT mI below meth cO A ls C hRT hnm hA hP hD hS hE0 hl
  have hX := C.x
  have hB := C.b
  refine lv_aload_n hX hB dX9_mark_0 rfl (lv_at hl 0 rfl) ?_
  refine fg_X9_69 C hP 0 rfl rfl dX9_mark_1 ?_
  refine lv_if_ne (tgt := 30) hX hB dX9_mark_4 (by decide) (fun _ => ?_) (fun c => absurd c (by decide))
  refine lv_iconst (v := (-1)) hX hB dX9_mark_30 (by decide) ?_
  exact z_iret' () (w' := q_X9_mark_1 cy h0 h1 h2 h3 h4 h5 h6 h7 h8 h9 v1 v2 v3 v4 v5 v6 v7 v8 v9 v10 gi) (r0 := (fun (o : Unit) => (-1))) rfl C hRT hP hD hS (Nat.le_of_ble_eq_true rfl) (Nat.le_of_ble_eq_true rfl) rfl rfl dX9_mark_31

def n_X9_mark_0 (v8 : Int32) (v9 : Int32) (gi : Nat → Int32) : Int32 :=
  if v8 ≤ v9 then
    (-1)
  else
    gi (zn v9)
def q_X9_mark_0 (cy : Nat → ClassId) (h0 : Nat) (h1 : Nat) (h2 : Nat) (h3 : Nat) (h4 : Nat) (h5 : Nat) (h6 : Nat) (h7 : Nat) (h8 : Nat) (h9 : Nat) (v1 : Int32) (v2 : Int32) (v3 : Int32) (v4 : Int32) (v5 : Int32) (v6 : Int32) (v7 : Int32) (v8 : Int32) (v9 : Int32) (v10 : Int32) (gi : Nat → Int32) (o : Int32) : va_W := [(h0, .inr (11, [.ref h1, .ref h2, .ref h3, .ref h4, .ref h5, .int v1, .int v2, .int v3, .int v4, .int v5, .ref h6, .int v6, .ref h7, .ref h8, .ref h9, .int v7, .int v8, .int v9, .int v10, .int 0])), (h7, .inl (cy 0, 60, .inl (gi)))]
set_option maxHeartbeats 4000000 in
set_option maxRecDepth 100000 in
theorem c_X9_mark_0 (l : Launch) {E : zEn} (hE : zEok E) (D : zG) (cy : Nat → ClassId) (h0 h1 h2 h3 h4 h5 h6 h7 h8 h9 : Nat) (v1 : Int32) (v2 : Int32) (v3 : Int32) (v4 : Int32) (v5 : Int32) (v6 : Int32) (v7 : Int32) (v8 : Int32) (v9 : Int32) (v10 : Int32) (gi : Nat → Int32) (hat : zle v9 60) (hsl : zle v8 60) (sz : Nat) : Met l yX9_mark (zws yX9_mark cX9_mark 1 (some .int)) { frames := 0, cells := 0, slots := 0, locals := 0 } (zPre E D cy [.ref h0] [(h0, .inr (11, [.ref h1, .ref h2, .ref h3, .ref h4, .ref h5, .int v1, .int v2, .int v3, .int v4, .int v5, .ref h6, .int v6, .ref h7, .ref h8, .ref h9, .int v7, .int v8, .int v9, .int v10, .int 0])), (h7, .inl (cy 0, 60, .inl (gi)))] sz) (zQi D ((q_X9_mark_0 cy h0 h1 h2 h3 h4 h5 h6 h7 h8 h9 v1 v2 v3 v4 v5 v6 v7 v8 v9 v10 gi) (n_X9_mark_0 v8 v9 gi)) (va_A [(h0, .inr (11, [.ref h1, .ref h2, .ref h3, .ref h4, .ref h5, .int v1, .int v2, .int v3, .int v4, .int v5, .ref h6, .int v6, .ref h7, .ref h8, .ref h9, .int v7, .int v8, .int v9, .int v10, .int 0])), (h7, .inl (cy 0, 60, .inl (gi)))] sz) ((n_X9_mark_0 v8 v9 gi))) 0 0 (va_A [(h0, .inr (11, [.ref h1, .ref h2, .ref h3, .ref h4, .ref h5, .int v1, .int v2, .int v3, .int v4, .int v5, .ref h6, .int v6, .ref h7, .ref h8, .ref h9, .int v7, .int v8, .int v9, .int v10, .int 0])), (h7, .inl (cy 0, 60, .inl (gi)))] sz) := by
  refine z_of (Qc := fun A => zQi D ((q_X9_mark_0 cy h0 h1 h2 h3 h4 h5 h6 h7 h8 h9 v1 v2 v3 v4 v5 v6 v7 v8 v9 v10 gi) (n_X9_mark_0 v8 v9 gi)) A ((n_X9_mark_0 v8 v9 gi))) (by decide +kernel) (Nat.le_of_ble_eq_true rfl) rfl ?_
  intro pG eN sT mI below meth cO A ls C hRT hnm hA hP hD hS hE0 hl
  have hX := C.x
  have hB := C.b
  have hat_ := hat.2
  have hsl_ := hsl.2
  refine lv_aload_n hX hB dX9_mark_0 rfl (lv_at hl 0 rfl) ?_
  refine fg_X9_69 C hP 0 rfl rfl dX9_mark_1 ?_
  refine lv_if_ne (tgt := 30) hX hB dX9_mark_4 (by decide) (fun c => absurd (by decide) c) (fun _ => ?_)
  refine lv_aload_n hX hB dX9_mark_7 rfl (lv_at hl 0 rfl) ?_
  refine fg_X9_63 C hP 0 rfl rfl dX9_mark_8 ?_
  refine lv_aload_n hX hB dX9_mark_11 rfl (lv_at hl 0 rfl) ?_
  refine fg_X9_60 C hP 0 rfl rfl dX9_mark_12 ?_
  refine lv_icmp_ge (tgt := 30) hX hB dX9_mark_15 (by decide) (fun c_1 => ?_) (fun c_1 => ?_)
  · have c_1n : zn v8 ≤ zn v9 := (zi_le_iff hsl.1 hat.1 (by omega) (by omega)).mp c_1
    refine lv_iconst (v := (-1)) hX hB dX9_mark_30 (by decide) ?_
    exact z_iret' (-1) (w' := q_X9_mark_0 cy h0 h1 h2 h3 h4 h5 h6 h7 h8 h9 v1 v2 v3 v4 v5 v6 v7 v8 v9 v10 gi) (r0 := (fun (o : Int32) => o)) (by simp only [n_X9_mark_0, if_pos c_1]) C hRT hP hD hS (Nat.le_of_ble_eq_true rfl) (Nat.le_of_ble_eq_true rfl) rfl rfl dX9_mark_31
  · have c_1n : ¬ (zn v8 ≤ zn v9) := fun z => c_1 ((zi_le_iff hsl.1 hat.1 (by omega) (by omega)).mpr z)
    refine lv_aload_n hX hB dX9_mark_18 rfl (lv_at hl 0 rfl) ?_
    refine fg_X9_48 C hP 0 rfl rfl dX9_mark_19 ?_
    refine lv_aload_n hX hB dX9_mark_22 rfl (lv_at hl 0 rfl) ?_
    refine fg_X9_63 C hP 0 rfl rfl dX9_mark_23 ?_
    refine z_iald C hP 1 rfl (k := zn v9) hat.1 (by omega) (by decide) (v := gi (zn v9)) rfl dX9_mark_26 ?_
    refine lv_goto (tgt := 31) hX hB dX9_mark_27 (by decide) ?_
    exact z_iret' (gi (zn v9)) (w' := q_X9_mark_0 cy h0 h1 h2 h3 h4 h5 h6 h7 h8 h9 v1 v2 v3 v4 v5 v6 v7 v8 v9 v10 gi) (r0 := (fun (o : Int32) => o)) (by simp only [n_X9_mark_0, if_neg c_1]) C hRT hP hD hS (Nat.le_of_ble_eq_true rfl) (Nat.le_of_ble_eq_true rfl) rfl rfl dX9_mark_31

end M6
