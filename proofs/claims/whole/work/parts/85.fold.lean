/-! worlds alike: the same addresses, cells that say the same; worlds in another order -/
def zSm : va_W → va_W → Prop
  | [], [] => True
  | q :: w, q' :: w' => (q.1 = q'.1 ∧ ∀ (D : zG) (cl : List vw_C) (H : Heap), va_at D cl q H → va_at D cl q' H) ∧ zSm w w'
  | [], _ :: _ => False
  | _ :: _, [] => False
theorem zSm_rf : ∀ (w : va_W), zSm w w
  | [] => trivial
  | _ :: w => ⟨⟨rfl, fun _ _ _ h => h⟩, zSm_rf w⟩
theorem zSm_app : ∀ {w1 w1' w2 w2' : va_W}, zSm w1 w1' → zSm w2 w2' → zSm (w1 ++ w2) (w1' ++ w2')
  | [], [], _, _, _, h2 => h2
  | _ :: _, _ :: _, _, _, h1, h2 => ⟨h1.1, zSm_app h1.2 h2⟩
  | [], _ :: _, _, _, h1, _ => h1.elim
  | _ :: _, [], _, _, h1, _ => h1.elim
theorem zSm_at : ∀ {w w' : va_W}, zSm w w' → ∀ (k : Nat) (q' : Nat × va_E), w'[k]? = some q' → ∃ q, w[k]? = some q ∧ q.1 = q'.1 ∧ ∀ (D : zG) (cl : List vw_C) (H : Heap), va_at D cl q H → va_at D cl q' H
  | [], [], _, k, q', h => by simp at h
  | q :: w, q0 :: w', h, 0, q', e => by
    simp at e
    subst e
    exact ⟨q, rfl, h.1⟩
  | q :: w, q0 :: w', h, k + 1, q', e => by
    simp at e
    obtain ⟨r, h1, h2⟩ := zSm_at h.2 k q' e
    exact ⟨r, by simpa using h1, h2⟩
  | [], _ :: _, h, _, _, _ => h.elim
  | _ :: _, [], h, _, _, _ => h.elim
theorem zSm_P {D : zG} {cl : List vw_C} {w w' : va_W} {H : Heap} (h : zSm w w') (hP : va_P D cl w H) : va_P D cl w' H := by
  intro k q' hk
  obtain ⟨q, h1, _, h3⟩ := zSm_at h k q' hk
  exact h3 D cl H (hP k q h1)
theorem zSm_D {A : Nat → Prop} {w w' : va_W} (h : zSm w w') (hD : va_D A w) : va_D A w' := by
  refine ⟨fun i j p q hi hj e => ?_, fun k q hk => ?_⟩
  · obtain ⟨p0, h1, h2, _⟩ := zSm_at h i p hi
    obtain ⟨q0, g1, g2, _⟩ := zSm_at h j q hj
    exact hD.1 i j p0 q0 h1 g1 (by rw [h2, g2]; exact e)
  · obtain ⟨q0, h1, h2, _⟩ := zSm_at h k q hk
    rw [← h2]; exact hD.2 k q0 h1
theorem zSm_arr {c : ClassId} {n : Nat} {f g : Nat → Int32} {x : Nat} (h : ∀ j, j < n → f j = g j) : (x, (Sum.inl (c, n, .inl f) : va_E)).1 = (x, (Sum.inl (c, n, .inl g) : va_E)).1 ∧ ∀ (D : zG) (cl : List vw_C) (H : Heap), va_at D cl (x, .inl (c, n, .inl f)) H → va_at D cl (x, .inl (c, n, .inl g)) H := by
  refine ⟨rfl, fun D cl H hP => ?_⟩
  have e : vp_cell c (n, .inl f) = vp_cell c (n, .inl g) := by
    rw [vp_cell_i, vp_cell_i]
    unfold arrV
    congr 2
    funext j
    exact congrArg Value.int (h j.val j.isLt)
  show H[x]? = some (vp_cell c (n, .inl g))
  rw [← e]
  exact hP
theorem zSm_eq {q : Nat × va_E} : q.1 = q.1 ∧ ∀ (D : zG) (cl : List vw_C) (H : Heap), va_at D cl q H → va_at D cl q H := ⟨rfl, fun _ _ _ h => h⟩
/-! a world of chunks, in any order -/
def zWl (f : Nat → va_W) : List Nat → va_W
  | [] => []
  | i :: l => f i ++ zWl f l
theorem zPm_mem {w w' : va_W} (h : w.Perm w') : (∀ (D : zG) (cl : List vw_C) (H : Heap), va_P D cl w H → va_P D cl w' H) ∧ ∀ A : Nat → Prop, va_D A w → va_D A w' := by
  have toMem : ∀ (D : zG) (cl : List vw_C) (H : Heap) (u : va_W), va_P D cl u H ↔ ∀ q ∈ u, va_at D cl q H := fun D cl H u => by
    constructor
    · intro h q hq
      obtain ⟨k, hk⟩ := List.getElem?_of_mem hq
      exact h k q hk
    · intro h k q hk
      exact h q (List.mem_of_getElem? hk)
  have toMemD : ∀ (A : Nat → Prop) (u : va_W), va_D A u ↔ (u.map Prod.fst).Nodup ∧ ∀ q ∈ u, A q.1 := fun A u => by
    constructor
    · intro h
      refine ⟨?_, fun q hq => ?_⟩
      · rw [List.nodup_iff_pairwise_ne, List.pairwise_iff_getElem]
        intro i j hi hj hij e
        rw [List.length_map] at hi hj
        rw [List.getElem_map, List.getElem_map] at e
        have := h.1 i j _ _ (List.getElem?_eq_getElem hi) (List.getElem?_eq_getElem hj) e
        omega
      · obtain ⟨k, hk⟩ := List.getElem?_of_mem hq
        exact h.2 k q hk
    · intro h
      refine ⟨fun i j p q hi hj e => ?_, fun k q hk => h.2 q (List.mem_of_getElem? hk)⟩
      obtain ⟨hi', ei⟩ := List.getElem?_eq_some_iff.mp hi
      refine (List.getElem?_inj (l := u.map Prod.fst) (by rw [List.length_map]; exact hi') h.1).mp ?_
      rw [List.getElem?_map, List.getElem?_map, hi, hj]
      simpa using e
  refine ⟨fun D cl H hP => ?_, fun A hD => ?_⟩
  · rw [toMem] at hP ⊢
    exact fun q hq => hP q (h.mem_iff.mpr hq)
  · rw [toMemD] at hD ⊢
    exact ⟨(h.map Prod.fst).nodup_iff.mp hD.1, fun q hq => hD.2 q (h.mem_iff.mpr hq)⟩
theorem zWl_perm (f : Nat → va_W) {l l' : List Nat} (h : l.Perm l') : (zWl f l).Perm (zWl f l') := by
  induction h with
  | nil => exact List.Perm.refl _
  | cons x _ ih => exact List.Perm.append_left (f x) ih
  | swap x y l =>
    show (f y ++ (f x ++ zWl f l)).Perm (f x ++ (f y ++ zWl f l))
    rw [← List.append_assoc, ← List.append_assoc]
    exact List.Perm.append_right _ List.perm_append_comm
  | trans _ _ ih1 ih2 => exact ih1.trans ih2
theorem zWl_app (f : Nat → va_W) : ∀ (l l' : List Nat), zWl f (l ++ l') = zWl f l ++ zWl f l'
  | [], _ => rfl
  | i :: l, l' => by
    show f i ++ zWl f (l ++ l') = f i ++ zWl f l ++ zWl f l'
    rw [zWl_app f l l', List.append_assoc]
/-! the world of a table -/
def zTW (cy : Nat → ClassId) (t : Nat → Nat) (p1 p2 p3 p4 p5 : Int32) (fs fx : Nat → Int32) (u1 u2 u3 u4 u5 u6 u7 u8 : Int32) (fl fb fd : Nat → Int32) (r1 : Int32) (fr0 fr1 fr2 : Nat → Int32) (w1 w2 w3 : Int32) (fp : Nat → Int32) : va_W :=
  [(t 0, .inr (8, [.int p1, .ref (t 1), .ref (t 2), .int p2, .int p3, .int p4, .int p5, .ref (t 3), .ref (t 7), .ref (t 11)])), (t 1, .inl (cy 0, 4, .inl fs)), (t 2, .inl (cy 0, 4, .inl fx)), (t 3, .inr (4, [.int u1, .ref (t 4), .ref (t 5), .ref (t 6), .int u2, .int u3, .int u4, .int u5, .int u6, .int u7, .int u8])), (t 4, .inl (cy 1, 4, .inl fl)), (t 5, .inl (cy 0, 3, .inl fb)), (t 6, .inl (cy 1, 5, .inl fd)), (t 7, .inr (6, [.ref (t 8), .ref (t 9), .ref (t 10), .int r1])), (t 8, .inl (cy 0, 5, .inl fr0)), (t 9, .inl (cy 0, 5, .inl fr1)), (t 10, .inl (cy 0, 5, .inl fr2)), (t 11, .inr (9, [.ref (t 12), .int w1, .int w2, .int w3])), (t 12, .inl (cy 0, 4, .inl fp))]
def mU (a : Nat → Nat) : Nat := if a 5 = 0 then 1 else a 5
def zTab (cy : Nat → ClassId) (t : Nat → Nat) (a : Nat → Nat) : va_W :=
  zTW cy t (nI (a 2)) (nI (a 0)) (nI (a 1)) (nI (a 3)) (nI (a 4)) (fun j => nI (a (30 + j))) (fun j => nI (a (34 + j))) (nI (mU a)) (nI (a 6)) (nI (a 7)) (nI (a 8)) (nI (a 9)) (nI (a 10)) (nI (a 11)) (nI (a 12)) (fun j => nI (a (16 + j))) (fun j => nI (a (20 + j))) (fun j => nI (a (24 + j))) (nI (a 13)) (fun j => nI (a (46 + 3 * j))) (fun j => nI (a (46 + 3 * j + 1))) (fun j => nI (a (46 + 3 * j + 2))) (nI (a 42 + a 43 + a 44 + a 45)) (nI (a 14)) (nI (a 15)) (fun j => nI (a (42 + j)))
theorem zAg_self (a : Nat → Nat) : zAg a (nI (a 2)) (nI (a 0)) (nI (a 1)) (nI (a 3)) (nI (a 4)) (fun j => nI (a (30 + j))) (fun j => nI (a (34 + j))) (nI (mU a)) (nI (a 6)) (nI (a 7)) (nI (a 8)) (nI (a 9)) (nI (a 10)) (nI (a 11)) (nI (a 12)) (fun j => nI (a (16 + j))) (fun j => nI (a (20 + j))) (fun j => nI (a (24 + j))) (nI (a 13)) (fun j => nI (a (46 + 3 * j))) (fun j => nI (a (46 + 3 * j + 1))) (fun j => nI (a (46 + 3 * j + 2))) (nI (a 42 + a 43 + a 44 + a 45)) (nI (a 14)) (nI (a 15)) (fun j => nI (a (42 + j))) :=
  ⟨rfl, rfl, rfl, rfl, rfl, fun _ _ => rfl, fun _ _ => rfl, rfl, rfl, rfl, rfl, rfl, rfl, rfl, rfl, fun _ _ => rfl, fun _ _ => rfl, fun _ _ => rfl, rfl, fun _ _ => ⟨rfl, rfl, rfl⟩, rfl, rfl, rfl, fun _ _ => rfl⟩
section TW
variable {b : Nat} {a : Nat → Nat} {p1 p2 p3 p4 p5 : Int32} {fs fx : Nat → Int32} {u1 u2 u3 u4 u5 u6 u7 u8 : Int32} {fl fb fd : Nat → Int32} {r1 : Int32} {fr0 fr1 fr2 : Nat → Int32} {w1 w2 w3 : Int32} {fp : Nat → Int32}
theorem zAg_Sm (cy : Nat → ClassId) (t : Nat → Nat) (h : zAg a p1 p2 p3 p4 p5 fs fx u1 u2 u3 u4 u5 u6 u7 u8 fl fb fd r1 fr0 fr1 fr2 w1 w2 w3 fp) : zSm (zTW cy t p1 p2 p3 p4 p5 fs fx u1 u2 u3 u4 u5 u6 u7 u8 fl fb fd r1 fr0 fr1 fr2 w1 w2 w3 fp) (zTab cy t a) := by
  obtain ⟨e1, e2, e3, e4, e5, hfs, hfx, eu1, eu2, eu3, eu4, eu5, eu6, eu7, eu8, hfl, hfb, hfd, er, hR, ew1, ew2, ew3, hfp⟩ := h
  subst e1 e2 e3 e4 e5 eu1 eu2 eu3 eu4 eu5 eu6 eu7 eu8 er ew1 ew2 ew3
  exact ⟨zSm_eq, zSm_arr hfs, zSm_arr hfx, zSm_eq, zSm_arr hfl, zSm_arr hfb, zSm_arr hfd, zSm_eq, zSm_arr (fun j hj => (hR j hj).1), zSm_arr (fun j hj => (hR j hj).2.1), zSm_arr (fun j hj => (hR j hj).2.2), zSm_eq, zSm_arr hfp, trivial⟩
end TW
