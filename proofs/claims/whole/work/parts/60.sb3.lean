/-- the text t, and behind its first n letters the digits of w -/
def zdec (t : Nat → Int32) (n w : Nat) : Nat → Int32 := fun j => if n ≤ j then nI (48 + w / 10 ^ (n + sb_dg w - 1 - j) % 10) else t j
theorem zdec_lo {t : Nat → Int32} {n w j : Nat} (h : j < n) : zdec t n w j = t j := if_neg (by omega)
theorem zdec_hi {t : Nat → Int32} {n w i : Nat} (h : i < sb_dg w) : zdec t n w (n + sb_dg w - 1 - i) = nI (48 + w / 10 ^ i % 10) := by
  unfold zdec
  rw [if_pos (by omega), show n + sb_dg w - 1 - (n + sb_dg w - 1 - i) = i by omega]
theorem znar127 {x : Int32} (h : zle x 127) : narrow .char (.int x) = .int x := by
  have h9 := pk_nc x
  rw [(zk127z h).2] at h9; exact h9
section ZSBE
variable {p : Program} {l : Launch} {e : Env} {R : Room} {s : State} {m : MethodId} {args : Array Value} {below : List Frame} {meth : Method} {c : Code} {H : Heap} {locs : List Loc} {cells slots : Nat} {Q : State → Prop}
variable {cc : ByteArray} {own : String} {nL : Nat} {D : zG} {cy : Nat → ClassId} {E : zEn} {A : Nat → Prop} {wv : va_W} {pc : Nat} {ls : Array Slot} {rest st0 : List Value}
theorem z_vretsb {T : Type} {val : T} (o : T) (tf : T → Nat → Int32) (nf : T → Nat) {w' : T → zSBt → va_W} {mc ms : Nat} (hx : val = o) (x : zSBt) (hR : zSB (tf o) (nf o) x) (C : zC p s m args meth c cc own nL D cy) (hr : meth.sig.returnType = none) (hP : va_P D vwCl wv H) (hD : va_D A wv) (hS : va_S A s.heap H locs) (hc : cells ≤ mc) (hs : slots ≤ ms) (hw : wv = w' o x) (hdg : decode cc pc = .ok (.return_, 1)) : W p l e R s m args below meth c H locs cells slots (MQ below (zQvr D (zSB (tf val) (nf val)) (w' val) A) args s mc ms A) (F0 m pc ls []) := by
  subst hx
  exact z_vretr x hR C hr hP hD hS hc hs hw hdg
theorem z_iretsb {T : Type} {val : T} (o : T) (tf : T → Nat → Int32) (nf : T → Nat) {w' : T → zSBt → va_W} {r0 : T → Int32} {v : Int32} {mc ms : Nat} (hx : val = o) (x : zSBt) (hR : zSB (tf o) (nf o) x) (C : zC p s m args meth c cc own nL D cy) (hr : meth.sig.returnType = some .int) (hP : va_P D vwCl wv H) (hD : va_D A wv) (hS : va_S A s.heap H locs) (hc : cells ≤ mc) (hs : slots ≤ ms) (hv : v = r0 o) (hw : wv = w' o x) (hdg : decode cc pc = .ok (.ireturn, 1)) : W p l e R s m args below meth c H locs cells slots (MQ below (zQir D (zSB (tf val) (nf val)) (w' val) (fun _ => r0 val) A) args s mc ms A) (F0 m pc ls [.int v]) := by
  subst hx
  exact z_iretr x hR C hr hP hD hS hc hs hv hw hdg
end ZSBE
