/-! a contract over chunks of the world is one over the whole world: the frame, and any order -/
theorem l_pre {E : zEn} (hE : zEok E) {D : zG} {cy : Nat → ClassId} {av : List Value} {F W G : va_W} (hG : G.Perm (F ++ W)) {sz : Nat} (a : Array Value) (U : State) (h : zPre E D cy av G sz a U) : zPre E D cy av W sz a U := by
  obtain ⟨h0, h1, h2, h3, h4, h5⟩ := h
  have hP := (zPm_mem hG).1 D vwCl _ h2
  have hD := (zPm_mem hG).2 _ h4
  have hr : (List.range' F.length W.length).map (fun i => (F ++ W)[i]?) = W.map some := zrange_get2 F W
  refine ⟨h0, h1, zsub hP _ hr, h3, hD.sub _ (znd_iff _ List.nodup_range') hr, hE.2.1 _ _ U _ h5 ?_⟩
  rintro q (⟨k, e, hk⟩ | hq)
  · obtain ⟨j, hj⟩ := List.getElem?_of_mem (hG.mem_iff.mpr (List.mem_append_right F (List.mem_of_getElem? hk)))
    exact Or.inl ⟨j, e, hj⟩
  · exact Or.inr hq
theorem l_sub {F W G : va_W} (hG : G.Perm (F ++ W)) {sz : Nat} : ∀ q, va_A W sz q → va_A G sz q := by
  rintro q (⟨k, e, hk⟩ | hq)
  · obtain ⟨j, hj⟩ := List.getElem?_of_mem (hG.mem_iff.mpr (List.mem_append_right F (List.mem_of_getElem? hk)))
    exact Or.inl ⟨j, e, hj⟩
  · exact Or.inr hq
theorem l_post {E : zEn} {D : zG} {cy : Nat → ClassId} {av : List Value} {F W W' G G' : va_W} (hG : G.Perm (F ++ W)) (hG' : G'.Perm (F ++ W')) {sz : Nat} {a : Array Value} {s t : State} (h : zPre E D cy av G sz a s) (hP1 : va_P D vwCl W' t.heap) (hD1 : va_D (va_A W sz) W') (hF : va_F (va_A W sz) s t) : (va_P D vwCl G' t.heap ∧ va_D (va_A G sz) G') ∧ va_F (va_A G sz) s t := by
  obtain ⟨-, hsz, hP0, -, hD0, -⟩ := h
  subst hsz
  have hs : ∀ q, va_A W s.heap.size q → va_A G s.heap.size q := l_sub hG
  have hP := (zPm_mem hG).1 D vwCl _ hP0
  have hD := (zPm_mem hG).2 _ (hD0.self (sz := s.heap.size))
  have f1 : (List.range' F.length W.length).map (fun i => (F ++ W)[i]?) = W.map some := zrange_get2 F W
  have f2 : (List.range F.length).map (fun i => (F ++ W)[i]?) = F.map some := by
    have := zrest (ws := F ++ W) (List.range F.length) (by rw [List.all_eq_true]; intro i hi; simp at hi ⊢; omega)
    rw [this, zrange_fm F W]
  obtain ⟨k1, k2⟩ := va_join hP hD (List.range' F.length W.length) (List.range F.length) f1 f2 (znd_iff _ List.nodup_range) (fun i hi hc => by simp [List.mem_range'] at hi hc; omega) (H1 := t.heap) (fun q h1 h2 => hF.2 q h1 h2) hs hP1 hD1
  exact ⟨⟨(zPm_mem hG'.symm).1 D vwCl _ k1, (zPm_mem hG'.symm).2 _ k2⟩, hF.1, fun q h1 h2 => hF.2 q h1 (fun z => h2 (hs q z))⟩
section LF
variable {l : Launch} {y : MethodName} {ws : List Cond} {rm : Room} {E : zEn} {D : zG} {cy : Nat → ClassId} {av : List Value} {F W W' G G' : va_W} {sz mc ms : Nat}
theorem l_i {r : Int32} (hE : zEok E) (h : Met l y ws rm (zPre E D cy av W sz) (zQi D W' (va_A W sz) r) mc ms (va_A W sz)) (hG : G.Perm (F ++ W)) (hG' : G'.Perm (F ++ W')) : Met l y ws rm (zPre E D cy av G sz) (zQi D G' (va_A G sz) r) mc ms (va_A G sz) := by
  refine MetFree.mono h (fun a s h => l_pre hE hG a s h) (fun _ _ _ _ _ h => h) (fun a s o t hp hq => ?_)
  obtain ⟨⟨⟨r1, u, h1, h2, hP, hD⟩, hF⟩, L, hL, hf⟩ := hq
  obtain ⟨k1, k2⟩ := l_post hG hG' hp hP hD hF
  exact ⟨⟨⟨r1, u, h1, h2, k1⟩, k2⟩, L, hL, fun q hq => l_sub hG _ (hf q hq)⟩
theorem l_v (hE : zEok E) (h : Met l y ws rm (zPre E D cy av W sz) (zQv D W' (va_A W sz)) mc ms (va_A W sz)) (hG : G.Perm (F ++ W)) (hG' : G'.Perm (F ++ W')) : Met l y ws rm (zPre E D cy av G sz) (zQv D G' (va_A G sz)) mc ms (va_A G sz) := by
  refine MetFree.mono h (fun a s h => l_pre hE hG a s h) (fun _ _ _ _ _ h => h) (fun a s o t hp hq => ?_)
  obtain ⟨⟨⟨u, h1, h2, hP, hD⟩, hF⟩, L, hL, hf⟩ := hq
  obtain ⟨k1, k2⟩ := l_post hG hG' hp hP hD hF
  exact ⟨⟨⟨u, h1, h2, k1⟩, k2⟩, L, hL, fun q hq => l_sub hG _ (hf q hq)⟩
theorem l_d {r : UInt64} (hE : zEok E) (h : Met l y ws rm (zPre E D cy av W sz) (zQd D W' (va_A W sz) r) mc ms (va_A W sz)) (hG : G.Perm (F ++ W)) (hG' : G'.Perm (F ++ W')) : Met l y ws rm (zPre E D cy av G sz) (zQd D G' (va_A G sz) r) mc ms (va_A G sz) := by
  refine MetFree.mono h (fun a s h => l_pre hE hG a s h) (fun _ _ _ _ _ h => h) (fun a s o t hp hq => ?_)
  obtain ⟨⟨⟨r1, u, h1, h2, hP, hD⟩, hF⟩, L, hL, hf⟩ := hq
  obtain ⟨k1, k2⟩ := l_post hG hG' hp hP hD hF
  exact ⟨⟨⟨r1, u, h1, h2, k1⟩, k2⟩, L, hL, fun q hq => l_sub hG _ (hf q hq)⟩
theorem l_f {r : UInt32} (hE : zEok E) (h : Met l y ws rm (zPre E D cy av W sz) (zQf D W' (va_A W sz) r) mc ms (va_A W sz)) (hG : G.Perm (F ++ W)) (hG' : G'.Perm (F ++ W')) : Met l y ws rm (zPre E D cy av G sz) (zQf D G' (va_A G sz) r) mc ms (va_A G sz) := by
  refine MetFree.mono h (fun a s h => l_pre hE hG a s h) (fun _ _ _ _ _ h => h) (fun a s o t hp hq => ?_)
  obtain ⟨⟨⟨r1, u, h1, h2, hP, hD⟩, hF⟩, L, hL, hf⟩ := hq
  obtain ⟨k1, k2⟩ := l_post hG hG' hp hP hD hF
  exact ⟨⟨⟨r1, u, h1, h2, k1⟩, k2⟩, L, hL, fun q hq => l_sub hG _ (hf q hq)⟩
theorem l_x {E0 : String} (hE : zEok E) (h : vx_Met l y ws rm (zPre E D cy av W sz) zNo (zX D W' (va_A W sz) E0) mc ms (va_A W sz)) (hG : G.Perm (F ++ W)) (hG' : G'.Perm (F ++ W')) : vx_Met l y ws rm (zPre E D cy av G sz) zNo (zX D G' (va_A G sz) E0) mc ms (va_A G sz) := by
  refine MetFree.mono h (fun a s h => l_pre hE hG a s h) (fun _ _ _ _ _ h => h) (fun a s o t hp hq => ?_)
  rcases hq with ⟨hno, -⟩ | ⟨q, ho, E1, ce, L, ⟨u, hu, ⟨hE1, hP, hD⟩, hF⟩, h2, h3, h4, h5, h6, h7⟩
  · exact hno.elim
  · obtain ⟨k1, k2⟩ := l_post hG hG' hp hP hD hF
    exact Or.inr ⟨q, ho, E1, ce, L, ⟨u, hu, ⟨hE1, k1⟩, k2⟩, h2, h3, h4, h5, h6, fun z hz => l_sub hG _ (h7 z hz)⟩
end LF
/-! chunks by number -/
theorem l_split : ∀ (ins l : List Nat), l.Nodup → ins.Nodup → (∀ k ∈ ins, k ∈ l) → l.Perm (l.filter (fun k => decide (k ∉ ins)) ++ ins) := by
  intro ins l hl hi hs
  have h1 : (l.filter (fun k => decide (k ∉ ins)) ++ l.filter (fun k => !decide (k ∉ ins))).Perm l := List.filter_append_perm _ l
  refine h1.symm.trans (List.Perm.append_left _ ?_)
  refine (List.perm_ext_iff_of_nodup (hl.filter _) hi).mpr (fun k => ?_)
  simp only [List.mem_filter, Bool.not_eq_true', decide_eq_false_iff_not, Decidable.not_not]
  exact ⟨fun h => h.2, fun h => ⟨hs k h, h⟩⟩
theorem l_wl (f f' : Nat → va_W) {l ins : List Nat} (hl : l.Nodup) (hi : ins.Nodup) (hs : ∀ k ∈ ins, k ∈ l) (hf : ∀ k ∈ l, k ∉ ins → f' k = f k) : (zWl f l).Perm (zWl f (l.filter (fun k => decide (k ∉ ins))) ++ zWl f ins) ∧ (zWl f' l).Perm (zWl f (l.filter (fun k => decide (k ∉ ins))) ++ zWl f' ins) := by
  have hp := l_split ins l hl hi hs
  have e1 := zWl_perm f hp
  have e2 := zWl_perm f' hp
  rw [zWl_app] at e1 e2
  have e3 : zWl f' (l.filter (fun k => decide (k ∉ ins))) = zWl f (l.filter (fun k => decide (k ∉ ins))) := by
    have : ∀ r : List Nat, (∀ k ∈ r, f' k = f k) → zWl f' r = zWl f r := by
      intro r
      induction r with
      | nil => intro _; rfl
      | cons k r ih =>
        intro h
        show f' k ++ zWl f' r = f k ++ zWl f r
        rw [h k List.mem_cons_self, ih (fun j hj => h j (List.mem_cons_of_mem _ hj))]
    refine this _ (fun k hk => ?_)
    rw [List.mem_filter] at hk
    exact hf k hk.1 (of_decide_eq_true hk.2)
  rw [e3] at e2
  exact ⟨e1, e2⟩
