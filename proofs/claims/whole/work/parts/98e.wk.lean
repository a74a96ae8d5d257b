/-! a contract with a world alike behind it -/
section WK
variable {l : Launch} {y : MethodName} {ws : List Cond} {rm : Room} {Pc : Array Value → State → Prop} {D : zG} {A : Nat → Prop} {W1 W2 : va_W} {mc ms : Nat} {free : Addr → Prop}
theorem z_wkI {R1 R2 : Int32} (h : Met l y ws rm Pc (zQi D W1 A R1) mc ms free) (hw : zSm W1 W2) (hR : R1 = R2) : Met l y ws rm Pc (zQi D W2 A R2) mc ms free := by
  subst hR
  refine MetFree.mono h (fun _ _ h => h) (fun _ _ _ _ _ h => h) (fun a s o t _ hq => ⟨?_, hq.2⟩)
  obtain ⟨⟨r, u, h1, h2, hP, hD⟩, hF⟩ := hq.1
  exact ⟨⟨r, u, h1, h2, zSm_P hw hP, zSm_D hw hD⟩, hF⟩
theorem z_wkV (h : Met l y ws rm Pc (zQv D W1 A) mc ms free) (hw : zSm W1 W2) : Met l y ws rm Pc (zQv D W2 A) mc ms free := by
  refine MetFree.mono h (fun _ _ h => h) (fun _ _ _ _ _ h => h) (fun a s o t _ hq => ⟨?_, hq.2⟩)
  obtain ⟨⟨u, h1, h2, hP, hD⟩, hF⟩ := hq.1
  exact ⟨⟨u, h1, h2, zSm_P hw hP, zSm_D hw hD⟩, hF⟩
theorem z_wkQ {r : Option Nat} (h : Met l y ws rm Pc (zQq D W1 A r) mc ms free) (hw : zSm W1 W2) : Met l y ws rm Pc (zQq D W2 A r) mc ms free := by
  refine MetFree.mono h (fun _ _ h => h) (fun _ _ _ _ _ h => h) (fun a s o t _ hq => ⟨?_, hq.2⟩)
  obtain ⟨⟨r, u, h1, h2, hP, hD⟩, hF⟩ := hq.1
  exact ⟨⟨r, u, h1, h2, zSm_P hw hP, zSm_D hw hD⟩, hF⟩
end WK
