section SEM
variable {l : Launch} {E : zEn} {D : zG} {cy : Nat → ClassId} {ad w t q : Nat → Nat} {s : Nat → Nat → Nat} {b : Nat} {f : Nat → va_W}
theorem s_runScript (hE : zEok E) (hL0 : l.stackTraces = false) (hX : zOutX E) (hN : zOutN E) (hO : zOut E) (hOB : zOutB E) {adK adV : Nat → Nat} (hOC : zOutC E ad adK adV) (hb : b + 12 ≤ 20000) (h : zAll cy ad w t q s b f) : zKI l E D cy yL_runScript cL_runScript 3 [(0, 8, 11, 35), (0, 8, 14, 13)] yX9_runScript cX9_runScript 2 (some .int) Int32.toInt64 [] (w 0) (w 20) (w 30) (zWl f zLs) (zPo cy ad w t q s (b + 12)) := by sorry
end SEM
