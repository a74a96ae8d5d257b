/-! frames by lemma: the named cells stand at the world's end -/
theorem znd_iff : ∀ (l : List Nat), l.Nodup → va_nd l = true
  | [], _ => rfl
  | a :: l, h => by
    obtain ⟨h1, h2⟩ := List.nodup_cons.mp h
    simp [va_nd, znd_iff l h2, h1]
theorem zrange_get {α : Type} (l : List α) : (List.range l.length).map (fun i => l[i]?) = l.map some := by
  apply List.ext_getElem
  · simp
  · intro i h1 h2
    simp at h1 h2 ⊢
theorem zrange_fm {α : Type} (l r : List α) : (List.range l.length).filterMap (fun i => (l ++ r)[i]?) = l := by
  have h : (List.range l.length).map (fun i => (l ++ r)[i]?) = l.map some := by
    rw [← zrange_get l]
    apply List.map_congr_left
    intro i hi
    simp at hi
    rw [List.getElem?_append_left hi]
  have h2 : (List.range l.length).filterMap (fun i => (l ++ r)[i]?) = ((List.range l.length).map (fun i => (l ++ r)[i]?)).filterMap id := by
    rw [List.filterMap_map]; rfl
  rw [h2, h, List.filterMap_map]
  simp
theorem zrange_get2 {α : Type} (l r : List α) : (List.range' l.length r.length).map (fun i => (l ++ r)[i]?) = r.map some := by
  apply List.ext_getElem
  · simp
  · intro i h1 h2
    simp at h1 h2 ⊢
    rw [List.getElem?_append_right (by omega)]
    simp [h1]
theorem zFr_end (wr wc wc' : va_W) : zFr (wr ++ wc) wc wc' (wr ++ wc') (List.range' wr.length wc.length) (List.range wr.length) (List.range (wr ++ wc').length) := by
  refine ⟨zrange_get2 wr wc, ?_, znd_iff _ List.nodup_range, ?_, ?_, znd_iff _ List.nodup_range, znd_iff _ List.nodup_range'⟩
  · rw [List.all_eq_true]
    intro i hi
    simp at hi ⊢
    omega
  · intro i hi hc
    simp [List.mem_range'] at hi hc
    omega
  · rw [zrange_fm wr wc]
    exact zrange_get (wr ++ wc')
