section M10
def n_X9_cannot (g : Nat → Int32) (gk : Nat → Int32) (gn : Nat → Int32) (k : Nat) : Int32 × (Nat → Int32) :=
  if gk k = 0 then
    let o_2 := n_X9_cannotHit4 g (gn k)
    if o_2 ≤ 0 then
      let o_4 := n_X9_hitsLane g (zn (gn k))
      (0, o_4.2)
    else
      (1, g)
  else
    if gk k = 1 then
      let o_6 := n_X9_cannotHit3 g (gn k)
      if o_6 ≤ 0 then
        let o_8 := n_X9_hitsBumper g (zn (gn k))
        (0, o_8.2)
      else
        (1, g)
    else
      if gk k = 2 then
        let o_10 := n_X9_cannotHit5 g (gn k)
        if o_10 ≤ 0 then
          let o_12 := n_X9_hitsTarget g (zn (gn k))
          (0, o_12.2)
        else
          (1, g)
      else
        if gk k = 3 then
          let o_14 := n_X9_cannotNudge g (gn k)
          if o_14 ≤ 0 then
            let o_16 := n_X9_nudges g (gn k)
            (0, o_16.2)
          else
            (1, g)
        else
          if gk k = 4 then
            let o_18 := n_X9_cannotAdd g
            if o_18 ≤ 0 then
              let o_20 := n_X9_adds g
              (0, o_20.2)
            else
              (1, g)
          else
            if gk k = 5 then
              let o_22 := n_X9_cannotStart g
              if o_22 ≤ 0 then
                let o_24 := n_X9_starts g
                (0, o_24.2)
              else
                (1, g)
            else
              if gk k = 6 then
                let o_26 := n_X9_runs g
                if o_26 = 0 then
                  (1, g)
                else
                  let o_28 := n_X9_drains g
                  (0, o_28.2)
              else
                let o_29 := n_X9_runs g
                if o_29 = 0 then
                  (1, g)
                else
                  let o_31 := n_X9_quits g
                  (0, o_31.2)
def q_X9_cannot (cy : Nat → ClassId) (h0 : Nat) (h1 : Nat) (h2 : Nat) (h3 : Nat) (h4 : Nat) (h5 : Nat) (h6 : Nat) (h7 : Nat) (h8 : Nat) (h9 : Nat) (v1 : Int32) (v2 : Int32) (v3 : Int32) (v4 : Int32) (v5 : Int32) (v6 : Int32) (v7 : Int32) (v8 : Int32) (v9 : Int32) (v10 : Int32) (v11 : Int32) (gk : Nat → Int32) (gn : Nat → Int32) (o : Int32 × (Nat → Int32)) : va_W := [(h0, .inr (11, [.ref h1, .ref h2, .ref h3, .ref h4, .ref h5, .int v1, .int v2, .int v3, .int v4, .int v5, .ref h6, .int v6, .ref h7, .ref h8, .ref h9, .int v7, .int v8, .int v9, .int v10, .int v11])), (h1, .inl (cy 0, 64, .inl (o.2))), (h8, .inl (cy 0, 32, .inl (gk))), (h9, .inl (cy 0, 32, .inl (gn)))]
theorem b_X9_cannot (g : Nat → Int32) (gk : Nat → Int32) (gn : Nat → Int32) (k : Nat) : (n_X9_cannot g gk gn k).1 = 0 ∨ (n_X9_cannot g gk gn k).1 = 1 := by
  simp only [n_X9_cannot]
  repeat (any_goals split)
  all_goals (first | exact Or.inl rfl | exact Or.inr rfl)
set_option maxHeartbeats 4000000 in
set_option maxRecDepth 100000 in
theorem c_X9_cannot (l : Launch) {E : zEn} (hE : zEok E) (D : zG) (cy : Nat → ClassId) (h0 h1 h2 h3 h4 h5 h6 h7 h8 h9 : Nat) (v1 : Int32) (v2 : Int32) (v3 : Int32) (v4 : Int32) (v5 : Int32) (v6 : Int32) (v7 : Int32) (v8 : Int32) (v9 : Int32) (v10 : Int32) (v11 : Int32) (g : Nat → Int32) (gk : Nat → Int32) (gn : Nat → Int32) (x : Int32) (k : Nat) (hx : zi x k) (hxb : k ≤ 31) (hs : zSafe g) (sz : Nat) : Met l yX9_cannot (zws yX9_cannot cX9_cannot 4 (some .boolean)) { frames := 4, cells := 0, slots := 0, locals := 91 } (zPre E D cy [.ref h0, .int x] [(h0, .inr (11, [.ref h1, .ref h2, .ref h3, .ref h4, .ref h5, .int v1, .int v2, .int v3, .int v4, .int v5, .ref h6, .int v6, .ref h7, .ref h8, .ref h9, .int v7, .int v8, .int v9, .int v10, .int v11])), (h1, .inl (cy 0, 64, .inl (g))), (h8, .inl (cy 0, 32, .inl (gk))), (h9, .inl (cy 0, 32, .inl (gn)))] sz) (zQi D ((q_X9_cannot cy h0 h1 h2 h3 h4 h5 h6 h7 h8 h9 v1 v2 v3 v4 v5 v6 v7 v8 v9 v10 v11 gk gn) (n_X9_cannot g gk gn k)) (va_A [(h0, .inr (11, [.ref h1, .ref h2, .ref h3, .ref h4, .ref h5, .int v1, .int v2, .int v3, .int v4, .int v5, .ref h6, .int v6, .ref h7, .ref h8, .ref h9, .int v7, .int v8, .int v9, .int v10, .int v11])), (h1, .inl (cy 0, 64, .inl (g))), (h8, .inl (cy 0, 32, .inl (gk))), (h9, .inl (cy 0, 32, .inl (gn)))] sz) ((n_X9_cannot g gk gn k).1)) 0 0 (va_A [(h0, .inr (11, [.ref h1, .ref h2, .ref h3, .ref h4, .ref h5, .int v1, .int v2, .int v3, .int v4, .int v5, .ref h6, .int v6, .ref h7, .ref h8, .ref h9, .int v7, .int v8, .int v9, .int v10, .int v11])), (h1, .inl (cy 0, 64, .inl (g))), (h8, .inl (cy 0, 32, .inl (gk))), (h9, .inl (cy 0, 32, .inl (gn)))] sz) := by
  refine z_of (Qc := fun A => zQi D ((q_X9_cannot cy h0 h1 h2 h3 h4 h5 h6 h7 h8 h9 v1 v2 v3 v4 v5 v6 v7 v8 v9 v10 v11 gk gn) (n_X9_cannot g gk gn k)) A ((n_X9_cannot g gk gn k).1)) (by decide +kernel) (Nat.le_of_ble_eq_true rfl) rfl ?_
  intro pG eN sT mI below meth cO A ls C hRT hnm hA hP hD hS hE0 hl
  have hX := C.x
  have hB := C.b
  have hs1_ := hs.1.2
  have hs2_ := hs.2.1.2
  have hs3_ := hs.2.2.1.2
  refine lv_aload_n hX hB dX9_cannot_0 rfl (lv_at hl 0 rfl) ?_
  refine fg_X9_54 C hP 0 rfl rfl dX9_cannot_1 ?_
  refine lv_iload_n hX hB dX9_cannot_4 rfl (lv_at hl 1 rfl) ?_
  refine z_iald C hP 3 rfl (k := k) hx (by omega) (by decide) (v := gn k) rfl dX9_cannot_5 ?_
  refine lv_istore_n (lv' := [(2, .int (gn k)), (0, .ref h0), (1, .int x)]) hX hB dX9_cannot_6 rfl hl (by decide) rfl (fun ls hl => ?_)
  refine lv_iconst (v := 0) hX hB dX9_cannot_7 (by decide) ?_
  refine lv_istore_n (lv' := [(3, .int 0), (2, .int (gn k)), (0, .ref h0), (1, .int x)]) hX hB dX9_cannot_8 rfl hl (by decide) rfl (fun ls hl => ?_)
  refine lv_aload_n hX hB dX9_cannot_9 rfl (lv_at hl 2 rfl) ?_
  refine fg_X9_51 C hP 0 rfl rfl dX9_cannot_10 ?_
  refine lv_iload_n hX hB dX9_cannot_13 rfl (lv_at hl 3 rfl) ?_
  refine z_iald C hP 2 rfl (k := k) hx (by omega) (by decide) (v := gk k) rfl dX9_cannot_14 ?_
  refine zby (gk k = 0) (fun c_1 => ?_) (fun c_1 => ?_)
  · refine lv_tableIn (off := 41) (tgt := 56) hX hB dX9_cannot_15 (by rw [c_1]; decide) (by rw [c_1]; decide) (by rw [c_1]; decide) (by decide) ?_
    refine lv_aload_n hX hB dX9_cannot_56 rfl (lv_at hl 2 rfl) ?_
    refine lv_iload_n hX hB dX9_cannot_57 rfl (lv_at hl 1 rfl) ?_
    refine lv_iconst (v := 4) hX hB dX9_cannot_58 (by decide) ?_
    refine z_callVi (isC := [0, 1]) (isR := [2, 3]) (isO := [2, 3, 0, 1]) (n_X9_cannotHit4 g (gn k)) (q_X9_cannotHit4 cy h0 h1 h2 h3 h4 h5 h6 h7 h8 h9 v1 v2 v3 v4 v5 v6 v7 v8 v9 v10 v11 g) (fun o_2 => [(h0, .inr (11, [.ref h1, .ref h2, .ref h3, .ref h4, .ref h5, .int v1, .int v2, .int v3, .int v4, .int v5, .ref h6, .int v6, .ref h7, .ref h8, .ref h9, .int v7, .int v8, .int v9, .int v10, .int v11])), (h1, .inl (cy 0, 64, .inl (g))), (h8, .inl (cy 0, 32, .inl (gk))), (h9, .inl (cy 0, 32, .inl (gn)))]) (fun o_2 => o_2) (c_X9_cannotHit4 l hE D cy h0 h1 h2 h3 h4 h5 h6 h7 h8 h9 v1 v2 v3 v4 v5 v6 v7 v8 v9 v10 v11 g (gn k) ) hE C zs_X9_131 ⟨Nat.le_of_ble_eq_true rfl, Nat.le_of_ble_eq_true rfl⟩ hP hD hS hA hE0 ⟨rfl, rfl, rfl, by decide, rfl, rfl, rfl⟩ 0 rfl rfl rfl rfl hl.1 (Nat.le_of_ble_eq_true rfl) rfl dX9_cannot_59 ⟨Nat.le_of_ble_eq_true rfl, Nat.le_of_ble_eq_true rfl⟩ (fun o_2 H locs eo_2 hP hD hS => ?_)
    refine lv_if_le (tgt := 67) hX hB dX9_cannot_62 (by decide) (fun c_3 => ?_) (fun c_3 => ?_)
    · have hv := chit4_ok (by rw [← eo_2]; exact c_3)
      have hv2_ := hv.2.1
      refine lv_aload_n hX hB dX9_cannot_67 rfl (lv_at hl 2 rfl) ?_
      refine lv_iload_n hX hB dX9_cannot_68 rfl (lv_at hl 1 rfl) ?_
      refine z_callVi (isC := [0, 1]) (isR := [2, 3]) (isO := [2, 3, 0, 1]) (n_X9_hitsLane g (zn (gn k))) (q_X9_hitsLane cy h0 h1 h2 h3 h4 h5 h6 h7 h8 h9 v1 v2 v3 v4 v5 v6 v7 v8 v9 v10 v11) (fun o_4 => [(h0, .inr (11, [.ref h1, .ref h2, .ref h3, .ref h4, .ref h5, .int v1, .int v2, .int v3, .int v4, .int v5, .ref h6, .int v6, .ref h7, .ref h8, .ref h9, .int v7, .int v8, .int v9, .int v10, .int v11])), (h1, .inl (cy 0, 64, .inl (o_4.2))), (h8, .inl (cy 0, 32, .inl (gk))), (h9, .inl (cy 0, 32, .inl (gn)))]) (fun o_4 => o_4.1) (c_X9_hitsLane l hE D cy h0 h1 h2 h3 h4 h5 h6 h7 h8 h9 v1 v2 v3 v4 v5 v6 v7 v8 v9 v10 v11 g (gn k) (zn (gn k)) hv.1 (by omega) (zle_of (zi_tr rfl hs.2.1.1) (by omega) (by decide))) hE C zs_X9_134 ⟨Nat.le_of_ble_eq_true rfl, Nat.le_of_ble_eq_true rfl⟩ hP hD hS hA hE0 ⟨rfl, rfl, rfl, by decide, rfl, rfl, rfl⟩ 0 rfl rfl rfl rfl hl.1 (Nat.le_of_ble_eq_true rfl) rfl dX9_cannot_69 ⟨Nat.le_of_ble_eq_true rfl, Nat.le_of_ble_eq_true rfl⟩ (fun o_4 H locs eo_4 hP hD hS => ?_)
      refine lv_istore_n (lv' := [(3, .int o_4.1), (2, .int (gn k)), (0, .ref h0), (1, .int x)]) hX hB dX9_cannot_72 rfl hl (by decide) rfl (fun ls hl => ?_)
      refine lv_iconst (v := 0) hX hB dX9_cannot_73 (by decide) ?_
      exact z_zret' (0, o_4.2) (w' := q_X9_cannot cy h0 h1 h2 h3 h4 h5 h6 h7 h8 h9 v1 v2 v3 v4 v5 v6 v7 v8 v9 v10 v11 gk gn) (r0 := (fun (o : Int32 × (Nat → Int32)) => o.1)) (by simp only [n_X9_cannot, if_pos c_1, ← eo_2, if_pos c_3, ← eo_4]) C hRT (zb01 (Or.inl rfl)) hP hD hS (Nat.le_of_ble_eq_true rfl) (Nat.le_of_ble_eq_true rfl) rfl rfl dX9_cannot_74
    · refine lv_iconst (v := 1) hX hB dX9_cannot_65 (by decide) ?_
      exact z_zret' (1, g) (w' := q_X9_cannot cy h0 h1 h2 h3 h4 h5 h6 h7 h8 h9 v1 v2 v3 v4 v5 v6 v7 v8 v9 v10 v11 gk gn) (r0 := (fun (o : Int32 × (Nat → Int32)) => o.1)) (by simp only [n_X9_cannot, if_pos c_1, ← eo_2, if_neg c_3]) C hRT (zb01 (Or.inr rfl)) hP hD hS (Nat.le_of_ble_eq_true rfl) (Nat.le_of_ble_eq_true rfl) rfl rfl dX9_cannot_66
  · refine zby (gk k = 1) (fun c_5 => ?_) (fun c_5 => ?_)
    · refine lv_tableIn (off := 60) (tgt := 75) hX hB dX9_cannot_15 (by rw [c_5]; decide) (by rw [c_5]; decide) (by rw [c_5]; decide) (by decide) ?_
      refine lv_aload_n hX hB dX9_cannot_75 rfl (lv_at hl 2 rfl) ?_
      refine lv_iload_n hX hB dX9_cannot_76 rfl (lv_at hl 1 rfl) ?_
      refine lv_iconst (v := 3) hX hB dX9_cannot_77 (by decide) ?_
      refine z_callVi (isC := [0, 1]) (isR := [2, 3]) (isO := [2, 3, 0, 1]) (n_X9_cannotHit3 g (gn k)) (q_X9_cannotHit3 cy h0 h1 h2 h3 h4 h5 h6 h7 h8 h9 v1 v2 v3 v4 v5 v6 v7 v8 v9 v10 v11 g) (fun o_6 => [(h0, .inr (11, [.ref h1, .ref h2, .ref h3, .ref h4, .ref h5, .int v1, .int v2, .int v3, .int v4, .int v5, .ref h6, .int v6, .ref h7, .ref h8, .ref h9, .int v7, .int v8, .int v9, .int v10, .int v11])), (h1, .inl (cy 0, 64, .inl (g))), (h8, .inl (cy 0, 32, .inl (gk))), (h9, .inl (cy 0, 32, .inl (gn)))]) (fun o_6 => o_6) (c_X9_cannotHit3 l hE D cy h0 h1 h2 h3 h4 h5 h6 h7 h8 h9 v1 v2 v3 v4 v5 v6 v7 v8 v9 v10 v11 g (gn k) ) hE C zs_X9_131 ⟨Nat.le_of_ble_eq_true rfl, Nat.le_of_ble_eq_true rfl⟩ hP hD hS hA hE0 ⟨rfl, rfl, rfl, by decide, rfl, rfl, rfl⟩ 0 rfl rfl rfl rfl hl.1 (Nat.le_of_ble_eq_true rfl) rfl dX9_cannot_78 ⟨Nat.le_of_ble_eq_true rfl, Nat.le_of_ble_eq_true rfl⟩ (fun o_6 H locs eo_6 hP hD hS => ?_)
      refine lv_if_le (tgt := 86) hX hB dX9_cannot_81 (by decide) (fun c_7 => ?_) (fun c_7 => ?_)
      · have hv := chit3_ok (by rw [← eo_6]; exact c_7)
        have hv2_ := hv.2.1
        refine lv_aload_n hX hB dX9_cannot_86 rfl (lv_at hl 2 rfl) ?_
        refine lv_iload_n hX hB dX9_cannot_87 rfl (lv_at hl 1 rfl) ?_
        refine z_callVi (isC := [0, 1]) (isR := [2, 3]) (isO := [2, 3, 0, 1]) (n_X9_hitsBumper g (zn (gn k))) (q_X9_hitsBumper cy h0 h1 h2 h3 h4 h5 h6 h7 h8 h9 v1 v2 v3 v4 v5 v6 v7 v8 v9 v10 v11) (fun o_8 => [(h0, .inr (11, [.ref h1, .ref h2, .ref h3, .ref h4, .ref h5, .int v1, .int v2, .int v3, .int v4, .int v5, .ref h6, .int v6, .ref h7, .ref h8, .ref h9, .int v7, .int v8, .int v9, .int v10, .int v11])), (h1, .inl (cy 0, 64, .inl (o_8.2))), (h8, .inl (cy 0, 32, .inl (gk))), (h9, .inl (cy 0, 32, .inl (gn)))]) (fun o_8 => o_8.1) (c_X9_hitsBumper l hE D cy h0 h1 h2 h3 h4 h5 h6 h7 h8 h9 v1 v2 v3 v4 v5 v6 v7 v8 v9 v10 v11 g (gn k) (zn (gn k)) hv.1 (by omega) (zle_of (zi_tr rfl hs.2.1.1) (by omega) (by decide))) hE C zs_X9_137 ⟨Nat.le_of_ble_eq_true rfl, Nat.le_of_ble_eq_true rfl⟩ hP hD hS hA hE0 ⟨rfl, rfl, rfl, by decide, rfl, rfl, rfl⟩ 0 rfl rfl rfl rfl hl.1 (Nat.le_of_ble_eq_true rfl) rfl dX9_cannot_88 ⟨Nat.le_of_ble_eq_true rfl, Nat.le_of_ble_eq_true rfl⟩ (fun o_8 H locs eo_8 hP hD hS => ?_)
        refine lv_istore_n (lv' := [(3, .int o_8.1), (2, .int (gn k)), (0, .ref h0), (1, .int x)]) hX hB dX9_cannot_91 rfl hl (by decide) rfl (fun ls hl => ?_)
        refine lv_iconst (v := 0) hX hB dX9_cannot_92 (by decide) ?_
        exact z_zret' (0, o_8.2) (w' := q_X9_cannot cy h0 h1 h2 h3 h4 h5 h6 h7 h8 h9 v1 v2 v3 v4 v5 v6 v7 v8 v9 v10 v11 gk gn) (r0 := (fun (o : Int32 × (Nat → Int32)) => o.1)) (by simp only [n_X9_cannot, if_neg c_1, if_pos c_5, ← eo_6, if_pos c_7, ← eo_8]) C hRT (zb01 (Or.inl rfl)) hP hD hS (Nat.le_of_ble_eq_true rfl) (Nat.le_of_ble_eq_true rfl) rfl rfl dX9_cannot_93
      · refine lv_iconst (v := 1) hX hB dX9_cannot_84 (by decide) ?_
        exact z_zret' (1, g) (w' := q_X9_cannot cy h0 h1 h2 h3 h4 h5 h6 h7 h8 h9 v1 v2 v3 v4 v5 v6 v7 v8 v9 v10 v11 gk gn) (r0 := (fun (o : Int32 × (Nat → Int32)) => o.1)) (by simp only [n_X9_cannot, if_neg c_1, if_pos c_5, ← eo_6, if_neg c_7]) C hRT (zb01 (Or.inr rfl)) hP hD hS (Nat.le_of_ble_eq_true rfl) (Nat.le_of_ble_eq_true rfl) rfl rfl dX9_cannot_85
    · refine zby (gk k = 2) (fun c_9 => ?_) (fun c_9 => ?_)
      · refine lv_tableIn (off := 79) (tgt := 94) hX hB dX9_cannot_15 (by rw [c_9]; decide) (by rw [c_9]; decide) (by rw [c_9]; decide) (by decide) ?_
        refine lv_aload_n hX hB dX9_cannot_94 rfl (lv_at hl 2 rfl) ?_
        refine lv_iload_n hX hB dX9_cannot_95 rfl (lv_at hl 1 rfl) ?_
        refine lv_iconst (v := 5) hX hB dX9_cannot_96 (by decide) ?_
        refine z_callVi (isC := [0, 1]) (isR := [2, 3]) (isO := [2, 3, 0, 1]) (n_X9_cannotHit5 g (gn k)) (q_X9_cannotHit5 cy h0 h1 h2 h3 h4 h5 h6 h7 h8 h9 v1 v2 v3 v4 v5 v6 v7 v8 v9 v10 v11 g) (fun o_10 => [(h0, .inr (11, [.ref h1, .ref h2, .ref h3, .ref h4, .ref h5, .int v1, .int v2, .int v3, .int v4, .int v5, .ref h6, .int v6, .ref h7, .ref h8, .ref h9, .int v7, .int v8, .int v9, .int v10, .int v11])), (h1, .inl (cy 0, 64, .inl (g))), (h8, .inl (cy 0, 32, .inl (gk))), (h9, .inl (cy 0, 32, .inl (gn)))]) (fun o_10 => o_10) (c_X9_cannotHit5 l hE D cy h0 h1 h2 h3 h4 h5 h6 h7 h8 h9 v1 v2 v3 v4 v5 v6 v7 v8 v9 v10 v11 g (gn k) ) hE C zs_X9_131 ⟨Nat.le_of_ble_eq_true rfl, Nat.le_of_ble_eq_true rfl⟩ hP hD hS hA hE0 ⟨rfl, rfl, rfl, by decide, rfl, rfl, rfl⟩ 0 rfl rfl rfl rfl hl.1 (Nat.le_of_ble_eq_true rfl) rfl dX9_cannot_97 ⟨Nat.le_of_ble_eq_true rfl, Nat.le_of_ble_eq_true rfl⟩ (fun o_10 H locs eo_10 hP hD hS => ?_)
        refine lv_if_le (tgt := 105) hX hB dX9_cannot_100 (by decide) (fun c_11 => ?_) (fun c_11 => ?_)
        · have hv := chit5_ok (by rw [← eo_10]; exact c_11)
          have hv2_ := hv.2.1
          refine lv_aload_n hX hB dX9_cannot_105 rfl (lv_at hl 2 rfl) ?_
          refine lv_iload_n hX hB dX9_cannot_106 rfl (lv_at hl 1 rfl) ?_
          refine z_callVi (isC := [0, 1]) (isR := [2, 3]) (isO := [2, 3, 0, 1]) (n_X9_hitsTarget g (zn (gn k))) (q_X9_hitsTarget cy h0 h1 h2 h3 h4 h5 h6 h7 h8 h9 v1 v2 v3 v4 v5 v6 v7 v8 v9 v10 v11) (fun o_12 => [(h0, .inr (11, [.ref h1, .ref h2, .ref h3, .ref h4, .ref h5, .int v1, .int v2, .int v3, .int v4, .int v5, .ref h6, .int v6, .ref h7, .ref h8, .ref h9, .int v7, .int v8, .int v9, .int v10, .int v11])), (h1, .inl (cy 0, 64, .inl (o_12.2))), (h8, .inl (cy 0, 32, .inl (gk))), (h9, .inl (cy 0, 32, .inl (gn)))]) (fun o_12 => o_12.1) (c_X9_hitsTarget l hE D cy h0 h1 h2 h3 h4 h5 h6 h7 h8 h9 v1 v2 v3 v4 v5 v6 v7 v8 v9 v10 v11 g (gn k) (zn (gn k)) hv.1 (by omega) (zle_of (zi_tr rfl hs.2.1.1) (by omega) (by decide))) hE C zs_X9_140 ⟨Nat.le_of_ble_eq_true rfl, Nat.le_of_ble_eq_true rfl⟩ hP hD hS hA hE0 ⟨rfl, rfl, rfl, by decide, rfl, rfl, rfl⟩ 0 rfl rfl rfl rfl hl.1 (Nat.le_of_ble_eq_true rfl) rfl dX9_cannot_107 ⟨Nat.le_of_ble_eq_true rfl, Nat.le_of_ble_eq_true rfl⟩ (fun o_12 H locs eo_12 hP hD hS => ?_)
          refine lv_istore_n (lv' := [(3, .int o_12.1), (2, .int (gn k)), (0, .ref h0), (1, .int x)]) hX hB dX9_cannot_110 rfl hl (by decide) rfl (fun ls hl => ?_)
          refine lv_iconst (v := 0) hX hB dX9_cannot_111 (by decide) ?_
          exact z_zret' (0, o_12.2) (w' := q_X9_cannot cy h0 h1 h2 h3 h4 h5 h6 h7 h8 h9 v1 v2 v3 v4 v5 v6 v7 v8 v9 v10 v11 gk gn) (r0 := (fun (o : Int32 × (Nat → Int32)) => o.1)) (by simp only [n_X9_cannot, if_neg c_1, if_neg c_5, if_pos c_9, ← eo_10, if_pos c_11, ← eo_12]) C hRT (zb01 (Or.inl rfl)) hP hD hS (Nat.le_of_ble_eq_true rfl) (Nat.le_of_ble_eq_true rfl) rfl rfl dX9_cannot_112
        · refine lv_iconst (v := 1) hX hB dX9_cannot_103 (by decide) ?_
          exact z_zret' (1, g) (w' := q_X9_cannot cy h0 h1 h2 h3 h4 h5 h6 h7 h8 h9 v1 v2 v3 v4 v5 v6 v7 v8 v9 v10 v11 gk gn) (r0 := (fun (o : Int32 × (Nat → Int32)) => o.1)) (by simp only [n_X9_cannot, if_neg c_1, if_neg c_5, if_pos c_9, ← eo_10, if_neg c_11]) C hRT (zb01 (Or.inr rfl)) hP hD hS (Nat.le_of_ble_eq_true rfl) (Nat.le_of_ble_eq_true rfl) rfl rfl dX9_cannot_104
      · refine zby (gk k = 3) (fun c_13 => ?_) (fun c_13 => ?_)
        · refine lv_tableIn (off := 98) (tgt := 113) hX hB dX9_cannot_15 (by rw [c_13]; decide) (by rw [c_13]; decide) (by rw [c_13]; decide) (by decide) ?_
          refine lv_aload_n hX hB dX9_cannot_113 rfl (lv_at hl 2 rfl) ?_
          refine lv_iload_n hX hB dX9_cannot_114 rfl (lv_at hl 1 rfl) ?_
          refine z_callVi (isC := [0, 1]) (isR := [2, 3]) (isO := [2, 3, 0, 1]) (n_X9_cannotNudge g (gn k)) (q_X9_cannotNudge cy h0 h1 h2 h3 h4 h5 h6 h7 h8 h9 v1 v2 v3 v4 v5 v6 v7 v8 v9 v10 v11 g) (fun o_14 => [(h0, .inr (11, [.ref h1, .ref h2, .ref h3, .ref h4, .ref h5, .int v1, .int v2, .int v3, .int v4, .int v5, .ref h6, .int v6, .ref h7, .ref h8, .ref h9, .int v7, .int v8, .int v9, .int v10, .int v11])), (h1, .inl (cy 0, 64, .inl (g))), (h8, .inl (cy 0, 32, .inl (gk))), (h9, .inl (cy 0, 32, .inl (gn)))]) (fun o_14 => o_14) (c_X9_cannotNudge l hE D cy h0 h1 h2 h3 h4 h5 h6 h7 h8 h9 v1 v2 v3 v4 v5 v6 v7 v8 v9 v10 v11 g (gn k) ) hE C zs_X9_143 ⟨Nat.le_of_ble_eq_true rfl, Nat.le_of_ble_eq_true rfl⟩ hP hD hS hA hE0 ⟨rfl, rfl, rfl, by decide, rfl, rfl, rfl⟩ 0 rfl rfl rfl rfl hl.1 (Nat.le_of_ble_eq_true rfl) rfl dX9_cannot_115 ⟨Nat.le_of_ble_eq_true rfl, Nat.le_of_ble_eq_true rfl⟩ (fun o_14 H locs eo_14 hP hD hS => ?_)
          refine lv_if_le (tgt := 123) hX hB dX9_cannot_118 (by decide) (fun c_15 => ?_) (fun c_15 => ?_)
          · have hv := cnud_ok (by rw [← eo_14]; exact c_15)
            have hv2_ := hv.2.1
            have hv3_ := hv.2.2.1
            refine lv_aload_n hX hB dX9_cannot_123 rfl (lv_at hl 2 rfl) ?_
            refine lv_iload_n hX hB dX9_cannot_124 rfl (lv_at hl 1 rfl) ?_
            refine z_callVi (isC := [0, 1]) (isR := [2, 3]) (isO := [2, 3, 0, 1]) (n_X9_nudges g (gn k)) (q_X9_nudges cy h0 h1 h2 h3 h4 h5 h6 h7 h8 h9 v1 v2 v3 v4 v5 v6 v7 v8 v9 v10 v11) (fun o_16 => [(h0, .inr (11, [.ref h1, .ref h2, .ref h3, .ref h4, .ref h5, .int v1, .int v2, .int v3, .int v4, .int v5, .ref h6, .int v6, .ref h7, .ref h8, .ref h9, .int v7, .int v8, .int v9, .int v10, .int v11])), (h1, .inl (cy 0, 64, .inl (o_16.2))), (h8, .inl (cy 0, 32, .inl (gk))), (h9, .inl (cy 0, 32, .inl (gn)))]) (fun o_16 => o_16.1) (c_X9_nudges l hE D cy h0 h1 h2 h3 h4 h5 h6 h7 h8 h9 v1 v2 v3 v4 v5 v6 v7 v8 v9 v10 v11 g (gn k) ) hE C zs_X9_146 ⟨Nat.le_of_ble_eq_true rfl, Nat.le_of_ble_eq_true rfl⟩ hP hD hS hA hE0 ⟨rfl, rfl, rfl, by decide, rfl, rfl, rfl⟩ 0 rfl rfl rfl rfl hl.1 (Nat.le_of_ble_eq_true rfl) rfl dX9_cannot_125 ⟨Nat.le_of_ble_eq_true rfl, Nat.le_of_ble_eq_true rfl⟩ (fun o_16 H locs eo_16 hP hD hS => ?_)
            refine lv_istore_n (lv' := [(3, .int o_16.1), (2, .int (gn k)), (0, .ref h0), (1, .int x)]) hX hB dX9_cannot_128 rfl hl (by decide) rfl (fun ls hl => ?_)
            refine lv_iconst (v := 0) hX hB dX9_cannot_129 (by decide) ?_
            exact z_zret' (0, o_16.2) (w' := q_X9_cannot cy h0 h1 h2 h3 h4 h5 h6 h7 h8 h9 v1 v2 v3 v4 v5 v6 v7 v8 v9 v10 v11 gk gn) (r0 := (fun (o : Int32 × (Nat → Int32)) => o.1)) (by simp only [n_X9_cannot, if_neg c_1, if_neg c_5, if_neg c_9, if_pos c_13, ← eo_14, if_pos c_15, ← eo_16]) C hRT (zb01 (Or.inl rfl)) hP hD hS (Nat.le_of_ble_eq_true rfl) (Nat.le_of_ble_eq_true rfl) rfl rfl dX9_cannot_130
          · refine lv_iconst (v := 1) hX hB dX9_cannot_121 (by decide) ?_
            exact z_zret' (1, g) (w' := q_X9_cannot cy h0 h1 h2 h3 h4 h5 h6 h7 h8 h9 v1 v2 v3 v4 v5 v6 v7 v8 v9 v10 v11 gk gn) (r0 := (fun (o : Int32 × (Nat → Int32)) => o.1)) (by simp only [n_X9_cannot, if_neg c_1, if_neg c_5, if_neg c_9, if_pos c_13, ← eo_14, if_neg c_15]) C hRT (zb01 (Or.inr rfl)) hP hD hS (Nat.le_of_ble_eq_true rfl) (Nat.le_of_ble_eq_true rfl) rfl rfl dX9_cannot_122
        · refine zby (gk k = 4) (fun c_17 => ?_) (fun c_17 => ?_)
          · refine lv_tableIn (off := 116) (tgt := 131) hX hB dX9_cannot_15 (by rw [c_17]; decide) (by rw [c_17]; decide) (by rw [c_17]; decide) (by decide) ?_
            refine lv_aload_n hX hB dX9_cannot_131 rfl (lv_at hl 2 rfl) ?_
            refine z_callVi (isC := [0, 1]) (isR := [2, 3]) (isO := [2, 3, 0, 1]) (n_X9_cannotAdd g) (q_X9_cannotAdd cy h0 h1 h2 h3 h4 h5 h6 h7 h8 h9 v1 v2 v3 v4 v5 v6 v7 v8 v9 v10 v11 g) (fun o_18 => [(h0, .inr (11, [.ref h1, .ref h2, .ref h3, .ref h4, .ref h5, .int v1, .int v2, .int v3, .int v4, .int v5, .ref h6, .int v6, .ref h7, .ref h8, .ref h9, .int v7, .int v8, .int v9, .int v10, .int v11])), (h1, .inl (cy 0, 64, .inl (g))), (h8, .inl (cy 0, 32, .inl (gk))), (h9, .inl (cy 0, 32, .inl (gn)))]) (fun o_18 => o_18) (c_X9_cannotAdd l hE D cy h0 h1 h2 h3 h4 h5 h6 h7 h8 h9 v1 v2 v3 v4 v5 v6 v7 v8 v9 v10 v11 g ) hE C zs_X9_83 ⟨Nat.le_of_ble_eq_true rfl, Nat.le_of_ble_eq_true rfl⟩ hP hD hS hA hE0 ⟨rfl, rfl, rfl, by decide, rfl, rfl, rfl⟩ 0 rfl rfl rfl rfl hl.1 (Nat.le_of_ble_eq_true rfl) rfl dX9_cannot_132 ⟨Nat.le_of_ble_eq_true rfl, Nat.le_of_ble_eq_true rfl⟩ (fun o_18 H locs eo_18 hP hD hS => ?_)
            refine lv_if_le (tgt := 140) hX hB dX9_cannot_135 (by decide) (fun c_19 => ?_) (fun c_19 => ?_)
            · have hv := cadd_ok hs.1 (by rw [← eo_18]; exact c_19)
              have hv2_ := hv.2
              refine lv_aload_n hX hB dX9_cannot_140 rfl (lv_at hl 2 rfl) ?_
              refine z_callVi (isC := [0, 1]) (isR := [2, 3]) (isO := [2, 3, 0, 1]) (n_X9_adds g) (q_X9_adds cy h0 h1 h2 h3 h4 h5 h6 h7 h8 h9 v1 v2 v3 v4 v5 v6 v7 v8 v9 v10 v11) (fun o_20 => [(h0, .inr (11, [.ref h1, .ref h2, .ref h3, .ref h4, .ref h5, .int v1, .int v2, .int v3, .int v4, .int v5, .ref h6, .int v6, .ref h7, .ref h8, .ref h9, .int v7, .int v8, .int v9, .int v10, .int v11])), (h1, .inl (cy 0, 64, .inl (o_20.2))), (h8, .inl (cy 0, 32, .inl (gk))), (h9, .inl (cy 0, 32, .inl (gn)))]) (fun o_20 => o_20.1) (c_X9_adds l hE D cy h0 h1 h2 h3 h4 h5 h6 h7 h8 h9 v1 v2 v3 v4 v5 v6 v7 v8 v9 v10 v11 g (zle_of (zi_tr rfl hs.1.1) (by omega) (by decide))) hE C zs_X9_91 ⟨Nat.le_of_ble_eq_true rfl, Nat.le_of_ble_eq_true rfl⟩ hP hD hS hA hE0 ⟨rfl, rfl, rfl, by decide, rfl, rfl, rfl⟩ 0 rfl rfl rfl rfl hl.1 (Nat.le_of_ble_eq_true rfl) rfl dX9_cannot_141 ⟨Nat.le_of_ble_eq_true rfl, Nat.le_of_ble_eq_true rfl⟩ (fun o_20 H locs eo_20 hP hD hS => ?_)
              refine lv_istore_n (lv' := [(3, .int o_20.1), (2, .int (gn k)), (0, .ref h0), (1, .int x)]) hX hB dX9_cannot_144 rfl hl (by decide) rfl (fun ls hl => ?_)
              refine lv_iconst (v := 0) hX hB dX9_cannot_145 (by decide) ?_
              exact z_zret' (0, o_20.2) (w' := q_X9_cannot cy h0 h1 h2 h3 h4 h5 h6 h7 h8 h9 v1 v2 v3 v4 v5 v6 v7 v8 v9 v10 v11 gk gn) (r0 := (fun (o : Int32 × (Nat → Int32)) => o.1)) (by simp only [n_X9_cannot, if_neg c_1, if_neg c_5, if_neg c_9, if_neg c_13, if_pos c_17, ← eo_18, if_pos c_19, ← eo_20]) C hRT (zb01 (Or.inl rfl)) hP hD hS (Nat.le_of_ble_eq_true rfl) (Nat.le_of_ble_eq_true rfl) rfl rfl dX9_cannot_146
            · refine lv_iconst (v := 1) hX hB dX9_cannot_138 (by decide) ?_
              exact z_zret' (1, g) (w' := q_X9_cannot cy h0 h1 h2 h3 h4 h5 h6 h7 h8 h9 v1 v2 v3 v4 v5 v6 v7 v8 v9 v10 v11 gk gn) (r0 := (fun (o : Int32 × (Nat → Int32)) => o.1)) (by simp only [n_X9_cannot, if_neg c_1, if_neg c_5, if_neg c_9, if_neg c_13, if_pos c_17, ← eo_18, if_neg c_19]) C hRT (zb01 (Or.inr rfl)) hP hD hS (Nat.le_of_ble_eq_true rfl) (Nat.le_of_ble_eq_true rfl) rfl rfl dX9_cannot_139
          · refine zby (gk k = 5) (fun c_21 => ?_) (fun c_21 => ?_)
            · refine lv_tableIn (off := 132) (tgt := 147) hX hB dX9_cannot_15 (by rw [c_21]; decide) (by rw [c_21]; decide) (by rw [c_21]; decide) (by decide) ?_
              refine lv_aload_n hX hB dX9_cannot_147 rfl (lv_at hl 2 rfl) ?_
              refine z_callVi (isC := [0, 1]) (isR := [2, 3]) (isO := [2, 3, 0, 1]) (n_X9_cannotStart g) (q_X9_cannotStart cy h0 h1 h2 h3 h4 h5 h6 h7 h8 h9 v1 v2 v3 v4 v5 v6 v7 v8 v9 v10 v11 g) (fun o_22 => [(h0, .inr (11, [.ref h1, .ref h2, .ref h3, .ref h4, .ref h5, .int v1, .int v2, .int v3, .int v4, .int v5, .ref h6, .int v6, .ref h7, .ref h8, .ref h9, .int v7, .int v8, .int v9, .int v10, .int v11])), (h1, .inl (cy 0, 64, .inl (g))), (h8, .inl (cy 0, 32, .inl (gk))), (h9, .inl (cy 0, 32, .inl (gn)))]) (fun o_22 => o_22) (c_X9_cannotStart l hE D cy h0 h1 h2 h3 h4 h5 h6 h7 h8 h9 v1 v2 v3 v4 v5 v6 v7 v8 v9 v10 v11 g ) hE C zs_X9_100 ⟨Nat.le_of_ble_eq_true rfl, Nat.le_of_ble_eq_true rfl⟩ hP hD hS hA hE0 ⟨rfl, rfl, rfl, by decide, rfl, rfl, rfl⟩ 0 rfl rfl rfl rfl hl.1 (Nat.le_of_ble_eq_true rfl) rfl dX9_cannot_148 ⟨Nat.le_of_ble_eq_true rfl, Nat.le_of_ble_eq_true rfl⟩ (fun o_22 H locs eo_22 hP hD hS => ?_)
              refine lv_if_le (tgt := 156) hX hB dX9_cannot_151 (by decide) (fun c_23 => ?_) (fun c_23 => ?_)
              · refine lv_aload_n hX hB dX9_cannot_156 rfl (lv_at hl 2 rfl) ?_
                refine z_callVi (isC := [0, 1]) (isR := [2, 3]) (isO := [2, 3, 0, 1]) (n_X9_starts g) (q_X9_starts cy h0 h1 h2 h3 h4 h5 h6 h7 h8 h9 v1 v2 v3 v4 v5 v6 v7 v8 v9 v10 v11) (fun o_24 => [(h0, .inr (11, [.ref h1, .ref h2, .ref h3, .ref h4, .ref h5, .int v1, .int v2, .int v3, .int v4, .int v5, .ref h6, .int v6, .ref h7, .ref h8, .ref h9, .int v7, .int v8, .int v9, .int v10, .int v11])), (h1, .inl (cy 0, 64, .inl (o_24.2))), (h8, .inl (cy 0, 32, .inl (gk))), (h9, .inl (cy 0, 32, .inl (gn)))]) (fun o_24 => o_24.1) (c_X9_starts l hE D cy h0 h1 h2 h3 h4 h5 h6 h7 h8 h9 v1 v2 v3 v4 v5 v6 v7 v8 v9 v10 v11 g ) hE C zs_X9_103 ⟨Nat.le_of_ble_eq_true rfl, Nat.le_of_ble_eq_true rfl⟩ hP hD hS hA hE0 ⟨rfl, rfl, rfl, by decide, rfl, rfl, rfl⟩ 0 rfl rfl rfl rfl hl.1 (Nat.le_of_ble_eq_true rfl) rfl dX9_cannot_157 ⟨Nat.le_of_ble_eq_true rfl, Nat.le_of_ble_eq_true rfl⟩ (fun o_24 H locs eo_24 hP hD hS => ?_)
                refine lv_istore_n (lv' := [(3, .int o_24.1), (2, .int (gn k)), (0, .ref h0), (1, .int x)]) hX hB dX9_cannot_160 rfl hl (by decide) rfl (fun ls hl => ?_)
                refine lv_iconst (v := 0) hX hB dX9_cannot_161 (by decide) ?_
                exact z_zret' (0, o_24.2) (w' := q_X9_cannot cy h0 h1 h2 h3 h4 h5 h6 h7 h8 h9 v1 v2 v3 v4 v5 v6 v7 v8 v9 v10 v11 gk gn) (r0 := (fun (o : Int32 × (Nat → Int32)) => o.1)) (by simp only [n_X9_cannot, if_neg c_1, if_neg c_5, if_neg c_9, if_neg c_13, if_neg c_17, if_pos c_21, ← eo_22, if_pos c_23, ← eo_24]) C hRT (zb01 (Or.inl rfl)) hP hD hS (Nat.le_of_ble_eq_true rfl) (Nat.le_of_ble_eq_true rfl) rfl rfl dX9_cannot_162
              · refine lv_iconst (v := 1) hX hB dX9_cannot_154 (by decide) ?_
                exact z_zret' (1, g) (w' := q_X9_cannot cy h0 h1 h2 h3 h4 h5 h6 h7 h8 h9 v1 v2 v3 v4 v5 v6 v7 v8 v9 v10 v11 gk gn) (r0 := (fun (o : Int32 × (Nat → Int32)) => o.1)) (by simp only [n_X9_cannot, if_neg c_1, if_neg c_5, if_neg c_9, if_neg c_13, if_neg c_17, if_pos c_21, ← eo_22, if_neg c_23]) C hRT (zb01 (Or.inr rfl)) hP hD hS (Nat.le_of_ble_eq_true rfl) (Nat.le_of_ble_eq_true rfl) rfl rfl dX9_cannot_155
            · refine zby (gk k = 6) (fun c_25 => ?_) (fun c_25 => ?_)
              · refine lv_tableIn (off := 148) (tgt := 163) hX hB dX9_cannot_15 (by rw [c_25]; decide) (by rw [c_25]; decide) (by rw [c_25]; decide) (by decide) ?_
                refine lv_aload_n hX hB dX9_cannot_163 rfl (lv_at hl 2 rfl) ?_
                refine z_callVi (isC := [0, 1]) (isR := [2, 3]) (isO := [2, 3, 0, 1]) (n_X9_runs g) (q_X9_runs cy h0 h1 h2 h3 h4 h5 h6 h7 h8 h9 v1 v2 v3 v4 v5 v6 v7 v8 v9 v10 v11 g) (fun o_26 => [(h0, .inr (11, [.ref h1, .ref h2, .ref h3, .ref h4, .ref h5, .int v1, .int v2, .int v3, .int v4, .int v5, .ref h6, .int v6, .ref h7, .ref h8, .ref h9, .int v7, .int v8, .int v9, .int v10, .int v11])), (h1, .inl (cy 0, 64, .inl (g))), (h8, .inl (cy 0, 32, .inl (gk))), (h9, .inl (cy 0, 32, .inl (gn)))]) (fun o_26 => o_26) (c_X9_runs l hE D cy h0 h1 h2 h3 h4 h5 h6 h7 h8 h9 v1 v2 v3 v4 v5 v6 v7 v8 v9 v10 v11 g ) hE C zs_X9_76 ⟨Nat.le_of_ble_eq_true rfl, Nat.le_of_ble_eq_true rfl⟩ hP hD hS hA hE0 ⟨rfl, rfl, rfl, by decide, rfl, rfl, rfl⟩ 0 rfl rfl rfl rfl hl.1 (Nat.le_of_ble_eq_true rfl) rfl dX9_cannot_164 ⟨Nat.le_of_ble_eq_true rfl, Nat.le_of_ble_eq_true rfl⟩ (fun o_26 H locs eo_26 hP hD hS => ?_)
                refine lv_if_ne (tgt := 172) hX hB dX9_cannot_167 (by decide) (fun c_27 => ?_) (fun c_27 => ?_)
                · have hn1 := hs.2.2.2 (runs_1 (by rw [← eo_26]; exact c_27))
                  refine lv_aload_n hX hB dX9_cannot_172 rfl (lv_at hl 2 rfl) ?_
                  refine z_callVi (isC := [0, 1]) (isR := [2, 3]) (isO := [2, 3, 0, 1]) (n_X9_drains g) (q_X9_drains cy h0 h1 h2 h3 h4 h5 h6 h7 h8 h9 v1 v2 v3 v4 v5 v6 v7 v8 v9 v10 v11) (fun o_28 => [(h0, .inr (11, [.ref h1, .ref h2, .ref h3, .ref h4, .ref h5, .int v1, .int v2, .int v3, .int v4, .int v5, .ref h6, .int v6, .ref h7, .ref h8, .ref h9, .int v7, .int v8, .int v9, .int v10, .int v11])), (h1, .inl (cy 0, 64, .inl (o_28.2))), (h8, .inl (cy 0, 32, .inl (gk))), (h9, .inl (cy 0, 32, .inl (gn)))]) (fun o_28 => o_28.1) (c_X9_drains l hE D cy h0 h1 h2 h3 h4 h5 h6 h7 h8 h9 v1 v2 v3 v4 v5 v6 v7 v8 v9 v10 v11 g (zle_of (zi_tr rfl hs.2.1.1) (by omega) (by decide)) (zle_of (zi_tr rfl hs.1.1) (by omega) (by decide)) (zge_of (zi_tr rfl hs.1.1) (by omega) (by omega)) (zle_of (zi_tr rfl hs.2.2.1.1) (by omega) (by decide))) hE C zs_X9_162 ⟨Nat.le_of_ble_eq_true rfl, Nat.le_of_ble_eq_true rfl⟩ hP hD hS hA hE0 ⟨rfl, rfl, rfl, by decide, rfl, rfl, rfl⟩ 0 rfl rfl rfl rfl hl.1 (Nat.le_of_ble_eq_true rfl) rfl dX9_cannot_173 ⟨Nat.le_of_ble_eq_true rfl, Nat.le_of_ble_eq_true rfl⟩ (fun o_28 H locs eo_28 hP hD hS => ?_)
                  refine lv_istore_n (lv' := [(3, .int o_28.1), (2, .int (gn k)), (0, .ref h0), (1, .int x)]) hX hB dX9_cannot_176 rfl hl (by decide) rfl (fun ls hl => ?_)
                  refine lv_iconst (v := 0) hX hB dX9_cannot_177 (by decide) ?_
                  exact z_zret' (0, o_28.2) (w' := q_X9_cannot cy h0 h1 h2 h3 h4 h5 h6 h7 h8 h9 v1 v2 v3 v4 v5 v6 v7 v8 v9 v10 v11 gk gn) (r0 := (fun (o : Int32 × (Nat → Int32)) => o.1)) (by simp only [n_X9_cannot, if_neg c_1, if_neg c_5, if_neg c_9, if_neg c_13, if_neg c_17, if_neg c_21, if_pos c_25, ← eo_26, if_neg c_27, ← eo_28]) C hRT (zb01 (Or.inl rfl)) hP hD hS (Nat.le_of_ble_eq_true rfl) (Nat.le_of_ble_eq_true rfl) rfl rfl dX9_cannot_178
                · refine lv_iconst (v := 1) hX hB dX9_cannot_170 (by decide) ?_
                  exact z_zret' (1, g) (w' := q_X9_cannot cy h0 h1 h2 h3 h4 h5 h6 h7 h8 h9 v1 v2 v3 v4 v5 v6 v7 v8 v9 v10 v11 gk gn) (r0 := (fun (o : Int32 × (Nat → Int32)) => o.1)) (by simp only [n_X9_cannot, if_neg c_1, if_neg c_5, if_neg c_9, if_neg c_13, if_neg c_17, if_neg c_21, if_pos c_25, ← eo_26, if_pos c_27]) C hRT (zb01 (Or.inr rfl)) hP hD hS (Nat.le_of_ble_eq_true rfl) (Nat.le_of_ble_eq_true rfl) rfl rfl dX9_cannot_171
              · refine lv_tableOut (tgt := 179) hX hB dX9_cannot_15 (by have e0 : ¬ (gk k).toInt = 0 := fun h => c_1 (Int32.toInt_inj.mp (h.trans (by decide))); have e1 : ¬ (gk k).toInt = 1 := fun h => c_5 (Int32.toInt_inj.mp (h.trans (by decide))); have e2 : ¬ (gk k).toInt = 2 := fun h => c_9 (Int32.toInt_inj.mp (h.trans (by decide))); have e3 : ¬ (gk k).toInt = 3 := fun h => c_13 (Int32.toInt_inj.mp (h.trans (by decide))); have e4 : ¬ (gk k).toInt = 4 := fun h => c_17 (Int32.toInt_inj.mp (h.trans (by decide))); have e5 : ¬ (gk k).toInt = 5 := fun h => c_21 (Int32.toInt_inj.mp (h.trans (by decide))); have e6 : ¬ (gk k).toInt = 6 := fun h => c_25 (Int32.toInt_inj.mp (h.trans (by decide))); omega) (by decide) ?_
                refine lv_aload_n hX hB dX9_cannot_179 rfl (lv_at hl 2 rfl) ?_
                refine z_callVi (isC := [0, 1]) (isR := [2, 3]) (isO := [2, 3, 0, 1]) (n_X9_runs g) (q_X9_runs cy h0 h1 h2 h3 h4 h5 h6 h7 h8 h9 v1 v2 v3 v4 v5 v6 v7 v8 v9 v10 v11 g) (fun o_29 => [(h0, .inr (11, [.ref h1, .ref h2, .ref h3, .ref h4, .ref h5, .int v1, .int v2, .int v3, .int v4, .int v5, .ref h6, .int v6, .ref h7, .ref h8, .ref h9, .int v7, .int v8, .int v9, .int v10, .int v11])), (h1, .inl (cy 0, 64, .inl (g))), (h8, .inl (cy 0, 32, .inl (gk))), (h9, .inl (cy 0, 32, .inl (gn)))]) (fun o_29 => o_29) (c_X9_runs l hE D cy h0 h1 h2 h3 h4 h5 h6 h7 h8 h9 v1 v2 v3 v4 v5 v6 v7 v8 v9 v10 v11 g ) hE C zs_X9_76 ⟨Nat.le_of_ble_eq_true rfl, Nat.le_of_ble_eq_true rfl⟩ hP hD hS hA hE0 ⟨rfl, rfl, rfl, by decide, rfl, rfl, rfl⟩ 0 rfl rfl rfl rfl hl.1 (Nat.le_of_ble_eq_true rfl) rfl dX9_cannot_180 ⟨Nat.le_of_ble_eq_true rfl, Nat.le_of_ble_eq_true rfl⟩ (fun o_29 H locs eo_29 hP hD hS => ?_)
                refine lv_if_ne (tgt := 188) hX hB dX9_cannot_183 (by decide) (fun c_30 => ?_) (fun c_30 => ?_)
                · refine lv_aload_n hX hB dX9_cannot_188 rfl (lv_at hl 2 rfl) ?_
                  refine z_callVi (isC := [0, 1]) (isR := [2, 3]) (isO := [2, 3, 0, 1]) (n_X9_quits g) (q_X9_quits cy h0 h1 h2 h3 h4 h5 h6 h7 h8 h9 v1 v2 v3 v4 v5 v6 v7 v8 v9 v10 v11) (fun o_31 => [(h0, .inr (11, [.ref h1, .ref h2, .ref h3, .ref h4, .ref h5, .int v1, .int v2, .int v3, .int v4, .int v5, .ref h6, .int v6, .ref h7, .ref h8, .ref h9, .int v7, .int v8, .int v9, .int v10, .int v11])), (h1, .inl (cy 0, 64, .inl (o_31.2))), (h8, .inl (cy 0, 32, .inl (gk))), (h9, .inl (cy 0, 32, .inl (gn)))]) (fun o_31 => o_31.1) (c_X9_quits l hE D cy h0 h1 h2 h3 h4 h5 h6 h7 h8 h9 v1 v2 v3 v4 v5 v6 v7 v8 v9 v10 v11 g ) hE C zs_X9_106 ⟨Nat.le_of_ble_eq_true rfl, Nat.le_of_ble_eq_true rfl⟩ hP hD hS hA hE0 ⟨rfl, rfl, rfl, by decide, rfl, rfl, rfl⟩ 0 rfl rfl rfl rfl hl.1 (Nat.le_of_ble_eq_true rfl) rfl dX9_cannot_189 ⟨Nat.le_of_ble_eq_true rfl, Nat.le_of_ble_eq_true rfl⟩ (fun o_31 H locs eo_31 hP hD hS => ?_)
                  refine lv_istore_n (lv' := [(3, .int o_31.1), (2, .int (gn k)), (0, .ref h0), (1, .int x)]) hX hB dX9_cannot_192 rfl hl (by decide) rfl (fun ls hl => ?_)
                  refine lv_iconst (v := 0) hX hB dX9_cannot_193 (by decide) ?_
                  exact z_zret' (0, o_31.2) (w' := q_X9_cannot cy h0 h1 h2 h3 h4 h5 h6 h7 h8 h9 v1 v2 v3 v4 v5 v6 v7 v8 v9 v10 v11 gk gn) (r0 := (fun (o : Int32 × (Nat → Int32)) => o.1)) (by simp only [n_X9_cannot, if_neg c_1, if_neg c_5, if_neg c_9, if_neg c_13, if_neg c_17, if_neg c_21, if_neg c_25, ← eo_29, if_neg c_30, ← eo_31]) C hRT (zb01 (Or.inl rfl)) hP hD hS (Nat.le_of_ble_eq_true rfl) (Nat.le_of_ble_eq_true rfl) rfl rfl dX9_cannot_194
                · refine lv_iconst (v := 1) hX hB dX9_cannot_186 (by decide) ?_
                  exact z_zret' (1, g) (w' := q_X9_cannot cy h0 h1 h2 h3 h4 h5 h6 h7 h8 h9 v1 v2 v3 v4 v5 v6 v7 v8 v9 v10 v11 gk gn) (r0 := (fun (o : Int32 × (Nat → Int32)) => o.1)) (by simp only [n_X9_cannot, if_neg c_1, if_neg c_5, if_neg c_9, if_neg c_13, if_neg c_17, if_neg c_21, if_neg c_25, ← eo_29, if_pos c_30]) C hRT (zb01 (Or.inr rfl)) hP hD hS (Nat.le_of_ble_eq_true rfl) (Nat.le_of_ble_eq_true rfl) rfl rfl dX9_cannot_187

end M10
