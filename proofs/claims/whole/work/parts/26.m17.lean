section MS
variable {l : Launch} {D : va_G} {Z : Nat → ClassId} {b0 : Nat} {ad : Nat → Nat} {hi th po ba en se : Int32} {s im rd mi kp so sz el ki kf ti lo wa nu li to ot : Nat → Int32} {kd fg pl : Nat → Nat} {hr : Nat → Int32} {V : HV}
def mxI (a b : Int32) : Int32 := if a < b then b else a
def mnI (a b : Int32) : Int32 := if a < b then a else b
theorem mxI_n {a b : Nat} (ha : a < 2147483648) (hb : b < 2147483648) : mxI (nI a) (nI b) = nI (if a < b then b else a) := by
  unfold mxI; have h : (nI a < nI b) ↔ a < b := by rw [Int32.lt_iff_toInt_lt, nI_toInt ha, nI_toInt hb]; omega
  by_cases q : a < b
  · rw [if_pos q, if_pos (h.mpr q)]
  · rw [if_neg q, if_neg (fun z => q (h.mp z))]
theorem mnI_n {a b : Nat} (ha : a < 2147483648) (hb : b < 2147483648) : mnI (nI a) (nI b) = nI (if a < b then a else b) := by
  unfold mnI; have h : (nI a < nI b) ↔ a < b := by rw [Int32.lt_iff_toInt_lt, nI_toInt ha, nI_toInt hb]; omega
  by_cases q : a < b
  · rw [if_pos q, if_pos (h.mpr q)]
  · rw [if_neg q, if_neg (fun z => q (h.mp z))]
theorem g_jmax {l : Launch} {D : va_G} {Z : Nat → ClassId} {b0 : Nat} {R : Room} {own : String} {cc : ByteArray} {nL : Nat} {E : Method → Array Value → State → Prop} {T : List Frame → Array Value → State → State → Prop} {V : HV} {L : List (Nat × Value)} {k n pc : Nat} {rest : List Value} {x y : Int32} {index : Nat} (hl : Cond.methodLink own index yJ9_max_7cf53 ∈ TB) (hR : 1 ≤ R.frames ∧ 21 ≤ R.locals) (hcat : (rest.map fun v => v.category).sum ≤ 8) (hdg : decode cc pc = .ok (.invokestatic index, 3)) (hf : k ≤ R.cells ∧ n ≤ R.slots) (kk : G l D Z b0 R own cc nL E T V L k n (pc + 3) (.int (mxI x y) :: rest)) : G l D Z b0 R own cc nL E T V L k n pc (.int y :: .int x :: rest) := fun p e s m args below meth c H locs ls X hE hV hS hL =>
  va_mmax X.1 X.2.1 (X.2.2.1.trans hL.1.symm) X.2.2.2.1 (X.2.2.2.2.1 _ hl) (X.2.2.2.2.1 _ mJ9_max_7cf53.1.1) (X.2.2.2.2.1 _ mJ9_max_7cf53.1.2.1) (X.2.2.2.2.1 _ mJ9_max_7cf53.1.2.2) hR.1 (by omega) hf.1 hf.2 hdg (kk p e s m args below meth c H locs ls X hE hV hS hL)
theorem g_jmin {l : Launch} {D : va_G} {Z : Nat → ClassId} {b0 : Nat} {R : Room} {own : String} {cc : ByteArray} {nL : Nat} {E : Method → Array Value → State → Prop} {T : List Frame → Array Value → State → State → Prop} {V : HV} {L : List (Nat × Value)} {k n pc : Nat} {rest : List Value} {x y : Int32} {index : Nat} (hl : Cond.methodLink own index yJ9_min_7cf53 ∈ TB) (hR : 1 ≤ R.frames ∧ 21 ≤ R.locals) (hcat : (rest.map fun v => v.category).sum ≤ 8) (hdg : decode cc pc = .ok (.invokestatic index, 3)) (hf : k ≤ R.cells ∧ n ≤ R.slots) (kk : G l D Z b0 R own cc nL E T V L k n (pc + 3) (.int (mnI x y) :: rest)) : G l D Z b0 R own cc nL E T V L k n pc (.int y :: .int x :: rest) := fun p e s m args below meth c H locs ls X hE hV hS hL =>
  va_mmin X.1 X.2.1 (X.2.2.1.trans hL.1.symm) X.2.2.2.1 (X.2.2.2.2.1 _ hl) (X.2.2.2.2.1 _ mJ9_min_7cf53.1.1) (X.2.2.2.2.1 _ mJ9_min_7cf53.1.2.1) (X.2.2.2.2.1 _ mJ9_min_7cf53.1.2.2) hR.1 (by omega) hf.1 hf.2 hdg (kk p e s m args below meth c H locs ls X hE hV hS hL)
end MS
