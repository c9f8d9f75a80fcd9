section CO
variable {l : Launch} {D : va_G} {Z : Nat → ClassId} {b0 : Nat} {R : Room} {own : String} {cc : ByteArray} {nL : Nat} {E : Method → Array Value → State → Prop} {T : List Frame → Array Value → State → State → Prop} {V : HV} {L : List (Nat × Value)} {k n pc : Nat} {rest : List Value}
theorem gO_ws {C owner : String} {x y : MethodName} {index maxL : Nat} {bytes : ByteArray} {ret : Option FieldType} (h1 : Cond.methodLink own index x ∈ TB) (h2 : Cond.sameMethod x.cls owner x.name x.desc ∈ TB) (h0 : Cond.instanceMethod ⟨owner, x.name, x.desc⟩ ∈ TB) (h3 : Cond.selects C x y ∈ TB) (h4 : Cond.instanceMethod y ∈ TB) (h5 : Cond.initialized y.cls ∈ TB) (h6 : Cond.code y bytes maxL ret ∈ TB) : GoodIn TB (va_wsO own index C owner x y (.code y bytes maxL ret :: TB)) := TB_sub (by
  intro w hw
  simp only [va_wsO, List.cons_append, List.nil_append, List.mem_cons] at hw
  rcases hw with rfl | rfl | rfl | rfl | rfl | rfl | rfl | hw <;> assumption)
theorem g_callO {x y : MethodName} {bytes b9 : ByteArray} {maxL m9 n0 index : Nat} {ret r9 : Option FieldType} {rm : Room} {Po : Option Value → HV → Prop} {As st : List Value} {C : String} {b ci N : Nat} {F : u_T} {fs : List Value} (hb : V b = some (vO ci fs)) (hc : vwCl[ci]? = some (C, F, N)) (hx9 : mV x b9 m9 r9 n0) (hM : KM l D Z b0 y bytes maxL ret rm (.ref b :: As) V Po) (hl : Cond.methodLink own index x ∈ TB) (hsm : Cond.sameMethod x.cls x.cls x.name x.desc ∈ TB) (hsel : Cond.selects C x y ∈ TB) (hm : mV y bytes maxL ret n0) (hR : rm.frames + 1 ≤ R.frames ∧ 8 + (maxL + 11) + rm.locals ≤ R.locals) (hn : As.length = n0) (hst : st = As.reverse ++ .ref b :: rest) (hcat : (rest.map fun v => v.category).sum ≤ 8) (hdg : decode cc pc = .ok (.invokevirtual index, 3)) (hf : k + rm.cells ≤ R.cells ∧ n + rm.slots ≤ R.slots) (kk : ∀ (v : Option Value) (V' : HV), Po v V' → G l D Z b0 R own cc nL E T V' L (k + rm.cells) (n + rm.slots) (pc + 3) (v.toList ++ rest)) : G l D Z b0 R own cc nL E T V L k n pc st := by
  intro p e s m args below meth c H locs ls X hE hV hS hL T9 hT X9
  have hts := X.2.2.2.2.1
  obtain ⟨v, st₀, t, T', L9, h0, X', hL9, e1, e2, ⟨⟨v', V', hv, hp, hb⟩, hz, hk⟩, stp⟩ := va_runU ⟨X.1, X.2.1, X.2.2.1, X.2.2.2.1, hts⟩ hM (va_cwO (owner := x.cls) n0 hts (gO_ws hl hsm hx9.1.1 hsel hm.1.1 hm.1.2.1 hm.1.2.2) rfl rfl rfl hx9.1.2.2 hx9.2 hR) ⟨kP.blind, va_recv X.2.2.2.2.2.1.1 (hV.one hb) (ci := ci) (q0 := 0) hc rfl, fun U hU hW => ⟨rfl, by rw [hU]; exact hV, X.2.2.2.2.2.1.warm hW, by rw [hU]; exact Nat.le_trans X.2.2.2.2.2.2.1 hS.1⟩⟩ (g := F0 m pc ls st) (rest := rest) (cells := k) (slots := n) rfl hn hL.1 hst (lv_room (ls := ls) (rest := st) hcat) hdg hf T9 hT X9
  cases hv
  rw [h0] at hz hk
  obtain ⟨t2, a1, b1⟩ := kk v V' hp p e s m args below meth c T'.heap (locs ++ L9) ls X hE (by rw [e1]; exact hb) ⟨Nat.le_trans hS.1 (by rw [e1]; exact hz), fun q h1 h2 => by rw [e1, hk q (Nat.lt_of_lt_of_le h1 hS.1) h2]; exact hS.2.1 q h1 h2, fun q hq => by
      rcases List.mem_append.mp hq with h | h
      · exact hS.2.2 q h
      · exact hL9 q h⟩ hL T' rfl X'
  exact ⟨t2, stp t2 a1, b1⟩
theorem e_callO {x y : MethodName} {bytes b9 : ByteArray} {maxL m9 n0 index : Nat} {ret r9 : Option FieldType} {rm : Room} {r : Value} {V2 : HV} {As st : List Value} {C : String} {b ci N : Nat} {F : u_T} {fs : List Value} (hb : V b = some (vO ci fs)) (hc : vwCl[ci]? = some (C, F, N)) (hx9 : mV x b9 m9 r9 n0) (hM : KE l D Z b0 y bytes maxL ret rm (.ref b :: As) V (some r) V2) (hl : Cond.methodLink own index x ∈ TB) (hsm : Cond.sameMethod x.cls x.cls x.name x.desc ∈ TB) (hsel : Cond.selects C x y ∈ TB) (hm : mV y bytes maxL ret n0) (hR : rm.frames + 1 ≤ R.frames ∧ 8 + (maxL + 11) + rm.locals ≤ R.locals) (hn : As.length = n0) (hst : st = As.reverse ++ .ref b :: rest) (hcat : (rest.map fun v => v.category).sum ≤ 8) (hdg : decode cc pc = .ok (.invokevirtual index, 3)) (hf : k + rm.cells ≤ R.cells ∧ n + rm.slots ≤ R.slots) (kk : G l D Z b0 R own cc nL E T V2 L (k + rm.cells) (n + rm.slots) (pc + 3) (r :: rest)) : G l D Z b0 R own cc nL E T V L k n pc st := g_callO (hb := hb) (hc := hc) (hx9 := hx9) (hM := hM) (hl := hl) (hsm := hsm) (hsel := hsel) (hm := hm) (hR := hR) (hn := hn) (hst := hst) (hcat := hcat) (hdg := hdg) (hf := hf) (fun v V' h => by
  obtain ⟨rfl, rfl⟩ := h
  exact kk)
/-! ===== rocks: a class for each kind ===== -/
def cK (k : Nat) : Nat := if k = 1 then 3 else if k = 2 then 0 else if k = 3 then 9 else if k = 4 then 8 else if k = 5 then 4 else if k = 6 then 2 else if k = 7 then 1 else 6
def Rk (V : HV) (a k f : Nat) : Prop := k < 8 ∧ f < 10 ∧ V a = some (vO (cK k) [.int (nI f)])
theorem g_rk_kind {a q f index : Nat} (hr : Rk V a q f) (hl : Cond.methodLink own index yX6_kind ∈ TB) (hR : 3 ≤ R.frames ∧ 60 ≤ R.locals) (hcat : (rest.map fun v => v.category).sum ≤ 8) (hdg : decode cc pc = .ok (.invokevirtual index, 3)) (hf : k ≤ R.cells ∧ n ≤ R.slots) (kk : G l D Z b0 R own cc nL E T V L k n (pc + 3) (.int (nI q) :: rest)) : G l D Z b0 R own cc nL E T V L k n pc (.ref a :: rest) := by
  obtain ⟨h1, h2, h3⟩ := hr
  rcases (by omega : q = 0 ∨ q = 1 ∨ q = 2 ∨ q = 3 ∨ q = 4 ∨ q = 5 ∨ q = 6 ∨ q = 7) with rfl | rfl | rfl | rfl | rfl | rfl | rfl | rfl
  · exact e_callO (r := .int (nI 0)) (As := []) (hb := h3) (hc := rfl) (hx9 := mX6_kind) (hM := c_X6_kind_c6 h2 h3) (hl := hl) (hsm := smX6_X6_kind) (hsel := selX6_X6_kind_X6_kind) (hm := mX6_kind) (hR := ⟨Nat.le_trans (Nat.le_of_ble_eq_true rfl) hR.1, Nat.le_trans (Nat.le_of_ble_eq_true rfl) hR.2⟩) (hn := rfl) (hst := rfl) (hcat := hcat) (hdg := hdg) (hf := hf) kk
  · exact e_callO (r := .int (nI 1)) (As := []) (hb := h3) (hc := rfl) (hx9 := mX6_kind) (hM := c_X3_kind_c3 h2 h3) (hl := hl) (hsm := smX6_X6_kind) (hsel := selX3_X6_kind_X3_kind) (hm := mX3_kind) (hR := ⟨Nat.le_trans (Nat.le_of_ble_eq_true rfl) hR.1, Nat.le_trans (Nat.le_of_ble_eq_true rfl) hR.2⟩) (hn := rfl) (hst := rfl) (hcat := hcat) (hdg := hdg) (hf := hf) kk
  · exact e_callO (r := .int (nI 2)) (As := []) (hb := h3) (hc := rfl) (hx9 := mX6_kind) (hM := c_X0_kind_c0 h2 h3) (hl := hl) (hsm := smX6_X6_kind) (hsel := selX0_X6_kind_X0_kind) (hm := mX0_kind) (hR := ⟨Nat.le_trans (Nat.le_of_ble_eq_true rfl) hR.1, Nat.le_trans (Nat.le_of_ble_eq_true rfl) hR.2⟩) (hn := rfl) (hst := rfl) (hcat := hcat) (hdg := hdg) (hf := hf) kk
  · exact e_callO (r := .int (nI 3)) (As := []) (hb := h3) (hc := rfl) (hx9 := mX6_kind) (hM := c_X9_kind_c9 h2 h3) (hl := hl) (hsm := smX6_X6_kind) (hsel := selX9_X6_kind_X9_kind) (hm := mX9_kind) (hR := ⟨Nat.le_trans (Nat.le_of_ble_eq_true rfl) hR.1, Nat.le_trans (Nat.le_of_ble_eq_true rfl) hR.2⟩) (hn := rfl) (hst := rfl) (hcat := hcat) (hdg := hdg) (hf := hf) kk
  · exact e_callO (r := .int (nI 4)) (As := []) (hb := h3) (hc := rfl) (hx9 := mX6_kind) (hM := c_X8_kind_c8 h2 h3) (hl := hl) (hsm := smX6_X6_kind) (hsel := selX8_X6_kind_X8_kind) (hm := mX8_kind) (hR := ⟨Nat.le_trans (Nat.le_of_ble_eq_true rfl) hR.1, Nat.le_trans (Nat.le_of_ble_eq_true rfl) hR.2⟩) (hn := rfl) (hst := rfl) (hcat := hcat) (hdg := hdg) (hf := hf) kk
  · exact e_callO (r := .int (nI 5)) (As := []) (hb := h3) (hc := rfl) (hx9 := mX6_kind) (hM := c_X4_kind_c4 h2 h3) (hl := hl) (hsm := smX6_X6_kind) (hsel := selX4_X6_kind_X4_kind) (hm := mX4_kind) (hR := ⟨Nat.le_trans (Nat.le_of_ble_eq_true rfl) hR.1, Nat.le_trans (Nat.le_of_ble_eq_true rfl) hR.2⟩) (hn := rfl) (hst := rfl) (hcat := hcat) (hdg := hdg) (hf := hf) kk
  · exact e_callO (r := .int (nI 6)) (As := []) (hb := h3) (hc := rfl) (hx9 := mX6_kind) (hM := c_X2_kind_c2 h2 h3) (hl := hl) (hsm := smX6_X6_kind) (hsel := selX2_X6_kind_X2_kind) (hm := mX2_kind) (hR := ⟨Nat.le_trans (Nat.le_of_ble_eq_true rfl) hR.1, Nat.le_trans (Nat.le_of_ble_eq_true rfl) hR.2⟩) (hn := rfl) (hst := rfl) (hcat := hcat) (hdg := hdg) (hf := hf) kk
  · exact e_callO (r := .int (nI 7)) (As := []) (hb := h3) (hc := rfl) (hx9 := mX6_kind) (hM := c_X1_kind_c1 h2 h3) (hl := hl) (hsm := smX6_X6_kind) (hsel := selX1_X6_kind_X1_kind) (hm := mX1_kind) (hR := ⟨Nat.le_trans (Nat.le_of_ble_eq_true rfl) hR.1, Nat.le_trans (Nat.le_of_ble_eq_true rfl) hR.2⟩) (hn := rfl) (hst := rfl) (hcat := hcat) (hdg := hdg) (hf := hf) kk
theorem g_rk_slow {a q f index : Nat} (hr : Rk V a q f) (hl : Cond.methodLink own index yX6_slow ∈ TB) (hR : 3 ≤ R.frames ∧ 60 ≤ R.locals) (hcat : (rest.map fun v => v.category).sum ≤ 8) (hdg : decode cc pc = .ok (.invokevirtual index, 3)) (hf : k ≤ R.cells ∧ n ≤ R.slots) (kk : G l D Z b0 R own cc nL E T V L k n (pc + 3) (.int (nI (slowN q f)) :: rest)) : G l D Z b0 R own cc nL E T V L k n pc (.ref a :: rest) := by
  obtain ⟨h1, h2, h3⟩ := hr
  rcases (by omega : q = 0 ∨ q = 1 ∨ q = 2 ∨ q = 3 ∨ q = 4 ∨ q = 5 ∨ q = 6 ∨ q = 7) with rfl | rfl | rfl | rfl | rfl | rfl | rfl | rfl
  · exact e_callO (r := .int (nI (slowN 0 f))) (As := []) (hb := h3) (hc := rfl) (hx9 := mX6_slow) (hM := c_X6_slow_c6 h2 h3) (hl := hl) (hsm := smX6_X6_slow) (hsel := selX6_X6_slow_X6_slow) (hm := mX6_slow) (hR := ⟨Nat.le_trans (Nat.le_of_ble_eq_true rfl) hR.1, Nat.le_trans (Nat.le_of_ble_eq_true rfl) hR.2⟩) (hn := rfl) (hst := rfl) (hcat := hcat) (hdg := hdg) (hf := hf) kk
  · exact e_callO (r := .int (nI (slowN 1 f))) (As := []) (hb := h3) (hc := rfl) (hx9 := mX6_slow) (hM := c_X3_slow_c3 h2 h3) (hl := hl) (hsm := smX6_X6_slow) (hsel := selX3_X6_slow_X3_slow) (hm := mX3_slow) (hR := ⟨Nat.le_trans (Nat.le_of_ble_eq_true rfl) hR.1, Nat.le_trans (Nat.le_of_ble_eq_true rfl) hR.2⟩) (hn := rfl) (hst := rfl) (hcat := hcat) (hdg := hdg) (hf := hf) kk
  · exact e_callO (r := .int (nI (slowN 2 f))) (As := []) (hb := h3) (hc := rfl) (hx9 := mX6_slow) (hM := c_X0_slow_c0 h2 h3) (hl := hl) (hsm := smX6_X6_slow) (hsel := selX0_X6_slow_X0_slow) (hm := mX0_slow) (hR := ⟨Nat.le_trans (Nat.le_of_ble_eq_true rfl) hR.1, Nat.le_trans (Nat.le_of_ble_eq_true rfl) hR.2⟩) (hn := rfl) (hst := rfl) (hcat := hcat) (hdg := hdg) (hf := hf) kk
  · exact e_callO (r := .int (nI (slowN 3 f))) (As := []) (hb := h3) (hc := rfl) (hx9 := mX6_slow) (hM := c_X9_slow_c9 h2 h3) (hl := hl) (hsm := smX6_X6_slow) (hsel := selX9_X6_slow_X9_slow) (hm := mX9_slow) (hR := ⟨Nat.le_trans (Nat.le_of_ble_eq_true rfl) hR.1, Nat.le_trans (Nat.le_of_ble_eq_true rfl) hR.2⟩) (hn := rfl) (hst := rfl) (hcat := hcat) (hdg := hdg) (hf := hf) kk
  · exact e_callO (r := .int (nI (slowN 4 f))) (As := []) (hb := h3) (hc := rfl) (hx9 := mX6_slow) (hM := c_X8_slow_c8 h2 h3) (hl := hl) (hsm := smX6_X6_slow) (hsel := selX8_X6_slow_X8_slow) (hm := mX8_slow) (hR := ⟨Nat.le_trans (Nat.le_of_ble_eq_true rfl) hR.1, Nat.le_trans (Nat.le_of_ble_eq_true rfl) hR.2⟩) (hn := rfl) (hst := rfl) (hcat := hcat) (hdg := hdg) (hf := hf) kk
  · exact e_callO (r := .int (nI (slowN 5 f))) (As := []) (hb := h3) (hc := rfl) (hx9 := mX6_slow) (hM := c_X4_slow_c4 h2 h3) (hl := hl) (hsm := smX6_X6_slow) (hsel := selX4_X6_slow_X4_slow) (hm := mX4_slow) (hR := ⟨Nat.le_trans (Nat.le_of_ble_eq_true rfl) hR.1, Nat.le_trans (Nat.le_of_ble_eq_true rfl) hR.2⟩) (hn := rfl) (hst := rfl) (hcat := hcat) (hdg := hdg) (hf := hf) kk
  · exact e_callO (r := .int (nI (slowN 6 f))) (As := []) (hb := h3) (hc := rfl) (hx9 := mX6_slow) (hM := c_X2_slow_c2 h2 h3) (hl := hl) (hsm := smX6_X6_slow) (hsel := selX2_X6_slow_X2_slow) (hm := mX2_slow) (hR := ⟨Nat.le_trans (Nat.le_of_ble_eq_true rfl) hR.1, Nat.le_trans (Nat.le_of_ble_eq_true rfl) hR.2⟩) (hn := rfl) (hst := rfl) (hcat := hcat) (hdg := hdg) (hf := hf) kk
  · exact e_callO (r := .int (nI (slowN 7 f))) (As := []) (hb := h3) (hc := rfl) (hx9 := mX6_slow) (hM := c_X4_slow_c1 h2 h3) (hl := hl) (hsm := smX6_X6_slow) (hsel := selX1_X6_slow_X4_slow) (hm := mX4_slow) (hR := ⟨Nat.le_trans (Nat.le_of_ble_eq_true rfl) hR.1, Nat.le_trans (Nat.le_of_ble_eq_true rfl) hR.2⟩) (hn := rfl) (hst := rfl) (hcat := hcat) (hdg := hdg) (hf := hf) kk
theorem g_rk_loss {a q f index : Nat} (hr : Rk V a q f) (hl : Cond.methodLink own index yX6_loss ∈ TB) (hR : 3 ≤ R.frames ∧ 60 ≤ R.locals) (hcat : (rest.map fun v => v.category).sum ≤ 8) (hdg : decode cc pc = .ok (.invokevirtual index, 3)) (hf : k ≤ R.cells ∧ n ≤ R.slots) (kk : G l D Z b0 R own cc nL E T V L k n (pc + 3) (.int (nI (lossN q f)) :: rest)) : G l D Z b0 R own cc nL E T V L k n pc (.ref a :: rest) := by
  obtain ⟨h1, h2, h3⟩ := hr
  rcases (by omega : q = 0 ∨ q = 1 ∨ q = 2 ∨ q = 3 ∨ q = 4 ∨ q = 5 ∨ q = 6 ∨ q = 7) with rfl | rfl | rfl | rfl | rfl | rfl | rfl | rfl
  · exact e_callO (r := .int (nI (lossN 0 f))) (As := []) (hb := h3) (hc := rfl) (hx9 := mX6_loss) (hM := c_X6_loss_c6 h2 h3) (hl := hl) (hsm := smX6_X6_loss) (hsel := selX6_X6_loss_X6_loss) (hm := mX6_loss) (hR := ⟨Nat.le_trans (Nat.le_of_ble_eq_true rfl) hR.1, Nat.le_trans (Nat.le_of_ble_eq_true rfl) hR.2⟩) (hn := rfl) (hst := rfl) (hcat := hcat) (hdg := hdg) (hf := hf) kk
  · exact e_callO (r := .int (nI (lossN 1 f))) (As := []) (hb := h3) (hc := rfl) (hx9 := mX6_loss) (hM := c_X3_loss_c3 h2 h3) (hl := hl) (hsm := smX6_X6_loss) (hsel := selX3_X6_loss_X3_loss) (hm := mX3_loss) (hR := ⟨Nat.le_trans (Nat.le_of_ble_eq_true rfl) hR.1, Nat.le_trans (Nat.le_of_ble_eq_true rfl) hR.2⟩) (hn := rfl) (hst := rfl) (hcat := hcat) (hdg := hdg) (hf := hf) kk
  · exact e_callO (r := .int (nI (lossN 2 f))) (As := []) (hb := h3) (hc := rfl) (hx9 := mX6_loss) (hM := c_X0_loss_c0 h2 h3) (hl := hl) (hsm := smX6_X6_loss) (hsel := selX0_X6_loss_X0_loss) (hm := mX0_loss) (hR := ⟨Nat.le_trans (Nat.le_of_ble_eq_true rfl) hR.1, Nat.le_trans (Nat.le_of_ble_eq_true rfl) hR.2⟩) (hn := rfl) (hst := rfl) (hcat := hcat) (hdg := hdg) (hf := hf) kk
  · exact e_callO (r := .int (nI (lossN 3 f))) (As := []) (hb := h3) (hc := rfl) (hx9 := mX6_loss) (hM := c_X9_loss_c9 h2 h3) (hl := hl) (hsm := smX6_X6_loss) (hsel := selX9_X6_loss_X9_loss) (hm := mX9_loss) (hR := ⟨Nat.le_trans (Nat.le_of_ble_eq_true rfl) hR.1, Nat.le_trans (Nat.le_of_ble_eq_true rfl) hR.2⟩) (hn := rfl) (hst := rfl) (hcat := hcat) (hdg := hdg) (hf := hf) kk
  · exact e_callO (r := .int (nI (lossN 4 f))) (As := []) (hb := h3) (hc := rfl) (hx9 := mX6_loss) (hM := c_X8_loss_c8 h2 h3) (hl := hl) (hsm := smX6_X6_loss) (hsel := selX8_X6_loss_X8_loss) (hm := mX8_loss) (hR := ⟨Nat.le_trans (Nat.le_of_ble_eq_true rfl) hR.1, Nat.le_trans (Nat.le_of_ble_eq_true rfl) hR.2⟩) (hn := rfl) (hst := rfl) (hcat := hcat) (hdg := hdg) (hf := hf) kk
  · exact e_callO (r := .int (nI (lossN 5 f))) (As := []) (hb := h3) (hc := rfl) (hx9 := mX6_loss) (hM := c_X6_loss_c4 h2 h3) (hl := hl) (hsm := smX6_X6_loss) (hsel := selX4_X6_loss_X6_loss) (hm := mX6_loss) (hR := ⟨Nat.le_trans (Nat.le_of_ble_eq_true rfl) hR.1, Nat.le_trans (Nat.le_of_ble_eq_true rfl) hR.2⟩) (hn := rfl) (hst := rfl) (hcat := hcat) (hdg := hdg) (hf := hf) kk
  · exact e_callO (r := .int (nI (lossN 6 f))) (As := []) (hb := h3) (hc := rfl) (hx9 := mX6_loss) (hM := c_X2_loss_c2 h2 h3) (hl := hl) (hsm := smX6_X6_loss) (hsel := selX2_X6_loss_X2_loss) (hm := mX2_loss) (hR := ⟨Nat.le_trans (Nat.le_of_ble_eq_true rfl) hR.1, Nat.le_trans (Nat.le_of_ble_eq_true rfl) hR.2⟩) (hn := rfl) (hst := rfl) (hcat := hcat) (hdg := hdg) (hf := hf) kk
  · exact e_callO (r := .int (nI (lossN 7 f))) (As := []) (hb := h3) (hc := rfl) (hx9 := mX6_loss) (hM := c_X1_loss_c1 h2 h3) (hl := hl) (hsm := smX6_X6_loss) (hsel := selX1_X6_loss_X1_loss) (hm := mX1_loss) (hR := ⟨Nat.le_trans (Nat.le_of_ble_eq_true rfl) hR.1, Nat.le_trans (Nat.le_of_ble_eq_true rfl) hR.2⟩) (hn := rfl) (hst := rfl) (hcat := hcat) (hdg := hdg) (hf := hf) kk
theorem g_rk_toil {a q f index : Nat} (hr : Rk V a q f) (hl : Cond.methodLink own index yX6_toil ∈ TB) (hR : 3 ≤ R.frames ∧ 60 ≤ R.locals) (hcat : (rest.map fun v => v.category).sum ≤ 8) (hdg : decode cc pc = .ok (.invokevirtual index, 3)) (hf : k ≤ R.cells ∧ n ≤ R.slots) (kk : G l D Z b0 R own cc nL E T V L k n (pc + 3) (.int (nI (toilN q f)) :: rest)) : G l D Z b0 R own cc nL E T V L k n pc (.ref a :: rest) := by
  obtain ⟨h1, h2, h3⟩ := hr
  rcases (by omega : q = 0 ∨ q = 1 ∨ q = 2 ∨ q = 3 ∨ q = 4 ∨ q = 5 ∨ q = 6 ∨ q = 7) with rfl | rfl | rfl | rfl | rfl | rfl | rfl | rfl
  · exact e_callO (r := .int (nI (toilN 0 f))) (As := []) (hb := h3) (hc := rfl) (hx9 := mX6_toil) (hM := c_X6_toil_c6 h2 h3) (hl := hl) (hsm := smX6_X6_toil) (hsel := selX6_X6_toil_X6_toil) (hm := mX6_toil) (hR := ⟨Nat.le_trans (Nat.le_of_ble_eq_true rfl) hR.1, Nat.le_trans (Nat.le_of_ble_eq_true rfl) hR.2⟩) (hn := rfl) (hst := rfl) (hcat := hcat) (hdg := hdg) (hf := hf) kk
  · exact e_callO (r := .int (nI (toilN 1 f))) (As := []) (hb := h3) (hc := rfl) (hx9 := mX6_toil) (hM := c_X3_toil_c3 h2 h3) (hl := hl) (hsm := smX6_X6_toil) (hsel := selX3_X6_toil_X3_toil) (hm := mX3_toil) (hR := ⟨Nat.le_trans (Nat.le_of_ble_eq_true rfl) hR.1, Nat.le_trans (Nat.le_of_ble_eq_true rfl) hR.2⟩) (hn := rfl) (hst := rfl) (hcat := hcat) (hdg := hdg) (hf := hf) kk
  · exact e_callO (r := .int (nI (toilN 2 f))) (As := []) (hb := h3) (hc := rfl) (hx9 := mX6_toil) (hM := c_X0_toil_c0 h2 h3) (hl := hl) (hsm := smX6_X6_toil) (hsel := selX0_X6_toil_X0_toil) (hm := mX0_toil) (hR := ⟨Nat.le_trans (Nat.le_of_ble_eq_true rfl) hR.1, Nat.le_trans (Nat.le_of_ble_eq_true rfl) hR.2⟩) (hn := rfl) (hst := rfl) (hcat := hcat) (hdg := hdg) (hf := hf) kk
  · exact e_callO (r := .int (nI (toilN 3 f))) (As := []) (hb := h3) (hc := rfl) (hx9 := mX6_toil) (hM := c_X9_toil_c9 h2 h3) (hl := hl) (hsm := smX6_X6_toil) (hsel := selX9_X6_toil_X9_toil) (hm := mX9_toil) (hR := ⟨Nat.le_trans (Nat.le_of_ble_eq_true rfl) hR.1, Nat.le_trans (Nat.le_of_ble_eq_true rfl) hR.2⟩) (hn := rfl) (hst := rfl) (hcat := hcat) (hdg := hdg) (hf := hf) kk
  · exact e_callO (r := .int (nI (toilN 4 f))) (As := []) (hb := h3) (hc := rfl) (hx9 := mX6_toil) (hM := c_X8_toil_c8 h2 h3) (hl := hl) (hsm := smX6_X6_toil) (hsel := selX8_X6_toil_X8_toil) (hm := mX8_toil) (hR := ⟨Nat.le_trans (Nat.le_of_ble_eq_true rfl) hR.1, Nat.le_trans (Nat.le_of_ble_eq_true rfl) hR.2⟩) (hn := rfl) (hst := rfl) (hcat := hcat) (hdg := hdg) (hf := hf) kk
  · exact e_callO (r := .int (nI (toilN 5 f))) (As := []) (hb := h3) (hc := rfl) (hx9 := mX6_toil) (hM := c_X4_toil_c4 h2 h3) (hl := hl) (hsm := smX6_X6_toil) (hsel := selX4_X6_toil_X4_toil) (hm := mX4_toil) (hR := ⟨Nat.le_trans (Nat.le_of_ble_eq_true rfl) hR.1, Nat.le_trans (Nat.le_of_ble_eq_true rfl) hR.2⟩) (hn := rfl) (hst := rfl) (hcat := hcat) (hdg := hdg) (hf := hf) kk
  · exact e_callO (r := .int (nI (toilN 6 f))) (As := []) (hb := h3) (hc := rfl) (hx9 := mX6_toil) (hM := c_X2_toil_c2 h2 h3) (hl := hl) (hsm := smX6_X6_toil) (hsel := selX2_X6_toil_X2_toil) (hm := mX2_toil) (hR := ⟨Nat.le_trans (Nat.le_of_ble_eq_true rfl) hR.1, Nat.le_trans (Nat.le_of_ble_eq_true rfl) hR.2⟩) (hn := rfl) (hst := rfl) (hcat := hcat) (hdg := hdg) (hf := hf) kk
  · exact e_callO (r := .int (nI (toilN 7 f))) (As := []) (hb := h3) (hc := rfl) (hx9 := mX6_toil) (hM := c_X1_toil_c1 h2 h3) (hl := hl) (hsm := smX6_X6_toil) (hsel := selX1_X6_toil_X1_toil) (hm := mX1_toil) (hR := ⟨Nat.le_trans (Nat.le_of_ble_eq_true rfl) hR.1, Nat.le_trans (Nat.le_of_ble_eq_true rfl) hR.2⟩) (hn := rfl) (hst := rfl) (hcat := hcat) (hdg := hdg) (hf := hf) kk
theorem g_rk_worth {a q f index : Nat} (hr : Rk V a q f) (hl : Cond.methodLink own index yX6_worth ∈ TB) (hR : 3 ≤ R.frames ∧ 60 ≤ R.locals) (hcat : (rest.map fun v => v.category).sum ≤ 8) (hdg : decode cc pc = .ok (.invokevirtual index, 3)) (hf : k ≤ R.cells ∧ n ≤ R.slots) (kk : G l D Z b0 R own cc nL E T V L k n (pc + 3) (.int (payI q f) :: rest)) : G l D Z b0 R own cc nL E T V L k n pc (.ref a :: rest) := by
  obtain ⟨h1, h2, h3⟩ := hr
  rcases (by omega : q = 0 ∨ q = 1 ∨ q = 2 ∨ q = 3 ∨ q = 4 ∨ q = 5 ∨ q = 6 ∨ q = 7) with rfl | rfl | rfl | rfl | rfl | rfl | rfl | rfl
  · exact e_callO (r := .int (payI 0 f)) (As := []) (hb := h3) (hc := rfl) (hx9 := mX6_worth) (hM := c_X6_worth_c6 h2 h3) (hl := hl) (hsm := smX6_X6_worth) (hsel := selX6_X6_worth_X6_worth) (hm := mX6_worth) (hR := ⟨Nat.le_trans (Nat.le_of_ble_eq_true rfl) hR.1, Nat.le_trans (Nat.le_of_ble_eq_true rfl) hR.2⟩) (hn := rfl) (hst := rfl) (hcat := hcat) (hdg := hdg) (hf := hf) kk
  · exact e_callO (r := .int (payI 1 f)) (As := []) (hb := h3) (hc := rfl) (hx9 := mX6_worth) (hM := c_X3_worth_c3 h2 h3) (hl := hl) (hsm := smX6_X6_worth) (hsel := selX3_X6_worth_X3_worth) (hm := mX3_worth) (hR := ⟨Nat.le_trans (Nat.le_of_ble_eq_true rfl) hR.1, Nat.le_trans (Nat.le_of_ble_eq_true rfl) hR.2⟩) (hn := rfl) (hst := rfl) (hcat := hcat) (hdg := hdg) (hf := hf) kk
  · exact e_callO (r := .int (payI 2 f)) (As := []) (hb := h3) (hc := rfl) (hx9 := mX6_worth) (hM := c_X0_worth_c0 h2 h3) (hl := hl) (hsm := smX6_X6_worth) (hsel := selX0_X6_worth_X0_worth) (hm := mX0_worth) (hR := ⟨Nat.le_trans (Nat.le_of_ble_eq_true rfl) hR.1, Nat.le_trans (Nat.le_of_ble_eq_true rfl) hR.2⟩) (hn := rfl) (hst := rfl) (hcat := hcat) (hdg := hdg) (hf := hf) kk
  · exact e_callO (r := .int (payI 3 f)) (As := []) (hb := h3) (hc := rfl) (hx9 := mX6_worth) (hM := c_X9_worth_c9 h2 h3) (hl := hl) (hsm := smX6_X6_worth) (hsel := selX9_X6_worth_X9_worth) (hm := mX9_worth) (hR := ⟨Nat.le_trans (Nat.le_of_ble_eq_true rfl) hR.1, Nat.le_trans (Nat.le_of_ble_eq_true rfl) hR.2⟩) (hn := rfl) (hst := rfl) (hcat := hcat) (hdg := hdg) (hf := hf) kk
  · exact e_callO (r := .int (payI 4 f)) (As := []) (hb := h3) (hc := rfl) (hx9 := mX6_worth) (hM := c_X8_worth_c8 h2 h3) (hl := hl) (hsm := smX6_X6_worth) (hsel := selX8_X6_worth_X8_worth) (hm := mX8_worth) (hR := ⟨Nat.le_trans (Nat.le_of_ble_eq_true rfl) hR.1, Nat.le_trans (Nat.le_of_ble_eq_true rfl) hR.2⟩) (hn := rfl) (hst := rfl) (hcat := hcat) (hdg := hdg) (hf := hf) kk
  · exact e_callO (r := .int (payI 5 f)) (As := []) (hb := h3) (hc := rfl) (hx9 := mX6_worth) (hM := c_X6_worth_c4 h2 h3) (hl := hl) (hsm := smX6_X6_worth) (hsel := selX4_X6_worth_X6_worth) (hm := mX6_worth) (hR := ⟨Nat.le_trans (Nat.le_of_ble_eq_true rfl) hR.1, Nat.le_trans (Nat.le_of_ble_eq_true rfl) hR.2⟩) (hn := rfl) (hst := rfl) (hcat := hcat) (hdg := hdg) (hf := hf) kk
  · exact e_callO (r := .int (payI 6 f)) (As := []) (hb := h3) (hc := rfl) (hx9 := mX6_worth) (hM := c_X2_worth_c2 h2 h3) (hl := hl) (hsm := smX6_X6_worth) (hsel := selX2_X6_worth_X2_worth) (hm := mX2_worth) (hR := ⟨Nat.le_trans (Nat.le_of_ble_eq_true rfl) hR.1, Nat.le_trans (Nat.le_of_ble_eq_true rfl) hR.2⟩) (hn := rfl) (hst := rfl) (hcat := hcat) (hdg := hdg) (hf := hf) kk
  · exact e_callO (r := .int (payI 7 f)) (As := []) (hb := h3) (hc := rfl) (hx9 := mX6_worth) (hM := c_X1_worth_c1 h2 h3) (hl := hl) (hsm := smX6_X6_worth) (hsel := selX1_X6_worth_X1_worth) (hm := mX1_worth) (hR := ⟨Nat.le_trans (Nat.le_of_ble_eq_true rfl) hR.1, Nat.le_trans (Nat.le_of_ble_eq_true rfl) hR.2⟩) (hn := rfl) (hst := rfl) (hcat := hcat) (hdg := hdg) (hf := hf) kk
end CO
/-! ===== the memory of the class: the object, three mountains, two ways, eight shelves ===== -/
def upF {α : Type} (f : Nat → α) (k : Nat) (x : α) : Nat → α := fun j => if j = k then x else f j
theorem upF_eq {α : Type} (f : Nat → α) (k : Nat) (x : α) : upF f k x k = x := if_pos rfl
theorem upF_ne {α : Type} {f : Nat → α} {k j : Nat} {x : α} (h : j ≠ k) : upF f k x j = f j := if_neg h
def fCa (Z : Nat → ClassId) (cd : Nat → Nat) (ik : Int32) (ugA ugB ugC : Nat) (rA : Nat → Nat) (pA tA : Nat → Int32) (rB : Nat → Nat) (pB tB : Nat → Int32) (rC : Nat → Nat) (pC tC cX lX oX nX sX zX cY lY oY nY sY zY tm cl : Nat → Int32) (KR : Nat → Option Nat) (SO : Nat → Int32) (SZ : Nat → Nat) (EL : Nat → Nat → Int32) : Nat → va_E
  | 0 => vO 11 [.ref (cd 1), .ref (cd 2), .ref (cd 3), .int ik, .ref (cd 13), .ref (cd 14), .ref (cd 15), .ref (cd 28), .ref (cd 29)]
  | 1 => vO 5 [.ref (cd 4), .ref (cd 5), .ref (cd 6), .ref ugA]
  | 2 => vO 5 [.ref (cd 7), .ref (cd 8), .ref (cd 9), .ref ugB]
  | 3 => vO 5 [.ref (cd 10), .ref (cd 11), .ref (cd 12), .ref ugC]
  | 4 => vQ Z 2 20 (fun c => some (rA c))
  | 5 => vI Z 0 2 pA
  | 6 => vI Z 0 2 tA
  | 7 => vQ Z 2 20 (fun c => some (rB c))
  | 8 => vI Z 0 2 pB
  | 9 => vI Z 0 2 tB
  | 10 => vQ Z 2 20 (fun c => some (rC c))
  | 11 => vI Z 0 2 pC
  | 12 => vI Z 0 2 tC
  | 13 => vQ Z 3 8 (fun j => some (cd (30 + j)))
  | 14 => vO 10 [.ref (cd 16), .ref (cd 17), .ref (cd 18), .ref (cd 19), .ref (cd 20), .ref (cd 21)]
  | 15 => vO 10 [.ref (cd 22), .ref (cd 23), .ref (cd 24), .ref (cd 25), .ref (cd 26), .ref (cd 27)]
  | 16 => vI Z 0 20 cX
  | 17 => vI Z 0 20 lX
  | 18 => vI Z 0 20 oX
  | 19 => vI Z 0 20 nX
  | 20 => vI Z 0 20 sX
  | 21 => vI Z 1 20 zX
  | 22 => vI Z 0 20 cY
  | 23 => vI Z 0 20 lY
  | 24 => vI Z 0 20 oY
  | 25 => vI Z 0 20 nY
  | 26 => vI Z 0 20 sY
  | 27 => vI Z 1 20 zY
  | 28 => vI Z 0 400 tm
  | 29 => vI Z 0 8 cl
  | _ => vI Z 0 0 (fun _ => 0)
def fC (Z : Nat → ClassId) (cd : Nat → Nat) (ik : Int32) (ugA ugB ugC : Nat) (rA : Nat → Nat) (pA tA : Nat → Int32) (rB : Nat → Nat) (pB tB : Nat → Int32) (rC : Nat → Nat) (pC tC cX lX oX nX sX zX cY lY oY nY sY zY tm cl : Nat → Int32) (KR : Nat → Option Nat) (SO : Nat → Int32) (SZ : Nat → Nat) (EL : Nat → Nat → Int32) : Nat → va_E := fun j => if j < 30 then fCa Z cd ik ugA ugB ugC rA pA tA rB pB tB rC pC tC cX lX oX nX sX zX cY lY oY nY sY zY tm cl KR SO SZ EL j else if j < 38 then (fun d => vO 7 [va_rf (KR d), .int (SO d), .int (nI (SZ d)), .ref (cd (38 + d))]) (j - 30) else vI Z 0 100 (EL (j - 38))
def wC (Z : Nat → ClassId) (cd : Nat → Nat) (ik : Int32) (ugA ugB ugC : Nat) (rA : Nat → Nat) (pA tA : Nat → Int32) (rB : Nat → Nat) (pB tB : Nat → Int32) (rC : Nat → Nat) (pC tC cX lX oX nX sX zX cY lY oY nY sY zY tm cl : Nat → Int32) (KR : Nat → Option Nat) (SO : Nat → Int32) (SZ : Nat → Nat) (EL : Nat → Nat → Int32) (V : HV) : HV := bk cd 46 (fC Z cd ik ugA ugB ugC rA pA tA rB pB tB rC pC tC cX lX oX nX sX zX cY lY oY nY sY zY tm cl KR SO SZ EL) V
def oC (b0 : Nat) (cd : Nat → Nat) (V : HV) : Prop := aB b0 46 cd ∧ ∀ j, j < 46 → V (cd j) = none
section CS
variable {Z : Nat → ClassId} {b0 : Nat} {cd : Nat → Nat} {ik : Int32} {ugA ugB ugC : Nat} {rA : Nat → Nat} {pA tA : Nat → Int32} {rB : Nat → Nat} {pB tB : Nat → Int32} {rC : Nat → Nat} {pC tC cX lX oX nX sX zX cY lY oY nY sY zY tm cl : Nat → Int32} {KR : Nat → Option Nat} {SO : Nat → Int32} {SZ : Nat → Nat} {EL : Nat → Nat → Int32} {V : HV}
theorem fC_lo {j : Nat} (h : j < 30) : fC Z cd ik ugA ugB ugC rA pA tA rB pB tB rC pC tC cX lX oX nX sX zX cY lY oY nY sY zY tm cl KR SO SZ EL j = fCa Z cd ik ugA ugB ugC rA pA tA rB pB tB rC pC tC cX lX oX nX sX zX cY lY oY nY sY zY tm cl KR SO SZ EL j := if_pos h
theorem fC_sh {d : Nat} (h : d < 8) : fC Z cd ik ugA ugB ugC rA pA tA rB pB tB rC pC tC cX lX oX nX sX zX cY lY oY nY sY zY tm cl KR SO SZ EL (30 + d) = vO 7 [va_rf (KR d), .int (SO d), .int (nI (SZ d)), .ref (cd (38 + d))] := by
  unfold fC; rw [if_neg (by omega), if_pos (by omega), Nat.add_sub_cancel_left]
theorem fC_el {d : Nat} : fC Z cd ik ugA ugB ugC rA pA tA rB pB tB rC pC tC cX lX oX nX sX zX cY lY oY nY sY zY tm cl KR SO SZ EL (38 + d) = vI Z 0 100 (EL d) := by
  unfold fC; rw [if_neg (by omega), if_neg (by omega), Nat.add_sub_cancel_left]
theorem wC_at {j : Nat} (h : oC b0 cd V) (hj : j < 46) : wC Z cd ik ugA ugB ugC rA pA tA rB pB tB rC pC tC cX lX oX nX sX zX cY lY oY nY sY zY tm cl KR SO SZ EL V (cd j) = some (fC Z cd ik ugA ugB ugC rA pA tA rB pB tB rC pC tC cX lX oX nX sX zX cY lY oY nY sY zY tm cl KR SO SZ EL j) := bk_get h.1.1 (Nat.le_refl _) hj
theorem wC_out {a : Nat} {e : va_E} (h : oC b0 cd V) (ha : V a = some e) : wC Z cd ik ugA ugB ugC rA pA tA rB pB tB rC pC tC cX lX oX nX sX zX cY lY oY nY sY zY tm cl KR SO SZ EL V a = some e := (bk_out (fun j hj e9 => by subst e9; rw [h.2 j hj] at ha; cases ha)).trans ha
theorem wC_rk {a q f : Nat} (h : oC b0 cd V) (hr : Rk V a q f) : Rk (wC Z cd ik ugA ugB ugC rA pA tA rB pB tB rC pC tC cX lX oX nX sX zX cY lY oY nY sY zY tm cl KR SO SZ EL V) a q f := ⟨hr.1, hr.2.1, wC_out h hr.2.2⟩
theorem wC_upv {a : Nat} {e : va_E} (h : oC b0 cd V) (ha : (wC Z cd ik ugA ugB ugC rA pA tA rB pB tB rC pC tC cX lX oX nX sX zX cY lY oY nY sY zY tm cl KR SO SZ EL V) a = none) : upv (wC Z cd ik ugA ugB ugC rA pA tA rB pB tB rC pC tC cX lX oX nX sX zX cY lY oY nY sY zY tm cl KR SO SZ EL V) a e = wC Z cd ik ugA ugB ugC rA pA tA rB pB tB rC pC tC cX lX oX nX sX zX cY lY oY nY sY zY tm cl KR SO SZ EL (upv V a e) := bk_upv (fun j hj e9 => by subst e9; rw [wC_at h hj] at ha; cases ha)
theorem wC_none {a : Nat} (h : oC b0 cd V) (ha : (wC Z cd ik ugA ugB ugC rA pA tA rB pB tB rC pC tC cX lX oX nX sX zX cY lY oY nY sY zY tm cl KR SO SZ EL V) a = none) : V a = none ∧ ∀ j, j < 46 → a ≠ cd j := by
  have h2 : ∀ j, j < 46 → a ≠ cd j := fun j hj e9 => by subst e9; rw [wC_at h hj] at ha; cases ha
  exact ⟨(bk_out h2).symm.trans ha, h2⟩
theorem oC.new {a : Nat} {e : va_E} (h : oC b0 cd V) (ha : ∀ j, j < 46 → a ≠ cd j) : oC b0 cd (upv V a e) := ⟨h.1, fun j hj => (upv_ne (fun e9 => ha j hj e9.symm)).trans (h.2 j hj)⟩
theorem Rk.new {a b q f : Nat} {e : va_E} (hr : Rk V b q f) (ha : V a = none) : Rk (upv V a e) b q f := ⟨hr.1, hr.2.1, (upv_ne (fun e9 => by subst e9; rw [hr.2.2] at ha; cases ha)).trans hr.2.2⟩
theorem wC_0 (h : oC b0 cd V) : wC Z cd ik ugA ugB ugC rA pA tA rB pB tB rC pC tC cX lX oX nX sX zX cY lY oY nY sY zY tm cl KR SO SZ EL V (cd 0) = some (vO 11 [.ref (cd 1), .ref (cd 2), .ref (cd 3), .int ik, .ref (cd 13), .ref (cd 14), .ref (cd 15), .ref (cd 28), .ref (cd 29)]) := wC_at (j := 0) h (by decide)
theorem wC_1 (h : oC b0 cd V) : wC Z cd ik ugA ugB ugC rA pA tA rB pB tB rC pC tC cX lX oX nX sX zX cY lY oY nY sY zY tm cl KR SO SZ EL V (cd 1) = some (vO 5 [.ref (cd 4), .ref (cd 5), .ref (cd 6), .ref ugA]) := wC_at (j := 1) h (by decide)
theorem wC_2 (h : oC b0 cd V) : wC Z cd ik ugA ugB ugC rA pA tA rB pB tB rC pC tC cX lX oX nX sX zX cY lY oY nY sY zY tm cl KR SO SZ EL V (cd 2) = some (vO 5 [.ref (cd 7), .ref (cd 8), .ref (cd 9), .ref ugB]) := wC_at (j := 2) h (by decide)
theorem wC_3 (h : oC b0 cd V) : wC Z cd ik ugA ugB ugC rA pA tA rB pB tB rC pC tC cX lX oX nX sX zX cY lY oY nY sY zY tm cl KR SO SZ EL V (cd 3) = some (vO 5 [.ref (cd 10), .ref (cd 11), .ref (cd 12), .ref ugC]) := wC_at (j := 3) h (by decide)
theorem wC_4 (h : oC b0 cd V) : wC Z cd ik ugA ugB ugC rA pA tA rB pB tB rC pC tC cX lX oX nX sX zX cY lY oY nY sY zY tm cl KR SO SZ EL V (cd 4) = some (vQ Z 2 20 (fun c => some (rA c))) := wC_at (j := 4) h (by decide)
theorem wC_5 (h : oC b0 cd V) : wC Z cd ik ugA ugB ugC rA pA tA rB pB tB rC pC tC cX lX oX nX sX zX cY lY oY nY sY zY tm cl KR SO SZ EL V (cd 5) = some (vI Z 0 2 pA) := wC_at (j := 5) h (by decide)
theorem wC_6 (h : oC b0 cd V) : wC Z cd ik ugA ugB ugC rA pA tA rB pB tB rC pC tC cX lX oX nX sX zX cY lY oY nY sY zY tm cl KR SO SZ EL V (cd 6) = some (vI Z 0 2 tA) := wC_at (j := 6) h (by decide)
theorem wC_7 (h : oC b0 cd V) : wC Z cd ik ugA ugB ugC rA pA tA rB pB tB rC pC tC cX lX oX nX sX zX cY lY oY nY sY zY tm cl KR SO SZ EL V (cd 7) = some (vQ Z 2 20 (fun c => some (rB c))) := wC_at (j := 7) h (by decide)
theorem wC_8 (h : oC b0 cd V) : wC Z cd ik ugA ugB ugC rA pA tA rB pB tB rC pC tC cX lX oX nX sX zX cY lY oY nY sY zY tm cl KR SO SZ EL V (cd 8) = some (vI Z 0 2 pB) := wC_at (j := 8) h (by decide)
theorem wC_9 (h : oC b0 cd V) : wC Z cd ik ugA ugB ugC rA pA tA rB pB tB rC pC tC cX lX oX nX sX zX cY lY oY nY sY zY tm cl KR SO SZ EL V (cd 9) = some (vI Z 0 2 tB) := wC_at (j := 9) h (by decide)
theorem wC_10 (h : oC b0 cd V) : wC Z cd ik ugA ugB ugC rA pA tA rB pB tB rC pC tC cX lX oX nX sX zX cY lY oY nY sY zY tm cl KR SO SZ EL V (cd 10) = some (vQ Z 2 20 (fun c => some (rC c))) := wC_at (j := 10) h (by decide)
theorem wC_11 (h : oC b0 cd V) : wC Z cd ik ugA ugB ugC rA pA tA rB pB tB rC pC tC cX lX oX nX sX zX cY lY oY nY sY zY tm cl KR SO SZ EL V (cd 11) = some (vI Z 0 2 pC) := wC_at (j := 11) h (by decide)
theorem wC_12 (h : oC b0 cd V) : wC Z cd ik ugA ugB ugC rA pA tA rB pB tB rC pC tC cX lX oX nX sX zX cY lY oY nY sY zY tm cl KR SO SZ EL V (cd 12) = some (vI Z 0 2 tC) := wC_at (j := 12) h (by decide)
theorem wC_13 (h : oC b0 cd V) : wC Z cd ik ugA ugB ugC rA pA tA rB pB tB rC pC tC cX lX oX nX sX zX cY lY oY nY sY zY tm cl KR SO SZ EL V (cd 13) = some (vQ Z 3 8 (fun j => some (cd (30 + j)))) := wC_at (j := 13) h (by decide)
theorem wC_14 (h : oC b0 cd V) : wC Z cd ik ugA ugB ugC rA pA tA rB pB tB rC pC tC cX lX oX nX sX zX cY lY oY nY sY zY tm cl KR SO SZ EL V (cd 14) = some (vO 10 [.ref (cd 16), .ref (cd 17), .ref (cd 18), .ref (cd 19), .ref (cd 20), .ref (cd 21)]) := wC_at (j := 14) h (by decide)
theorem wC_15 (h : oC b0 cd V) : wC Z cd ik ugA ugB ugC rA pA tA rB pB tB rC pC tC cX lX oX nX sX zX cY lY oY nY sY zY tm cl KR SO SZ EL V (cd 15) = some (vO 10 [.ref (cd 22), .ref (cd 23), .ref (cd 24), .ref (cd 25), .ref (cd 26), .ref (cd 27)]) := wC_at (j := 15) h (by decide)
theorem wC_16 (h : oC b0 cd V) : wC Z cd ik ugA ugB ugC rA pA tA rB pB tB rC pC tC cX lX oX nX sX zX cY lY oY nY sY zY tm cl KR SO SZ EL V (cd 16) = some (vI Z 0 20 cX) := wC_at (j := 16) h (by decide)
theorem wC_17 (h : oC b0 cd V) : wC Z cd ik ugA ugB ugC rA pA tA rB pB tB rC pC tC cX lX oX nX sX zX cY lY oY nY sY zY tm cl KR SO SZ EL V (cd 17) = some (vI Z 0 20 lX) := wC_at (j := 17) h (by decide)
theorem wC_18 (h : oC b0 cd V) : wC Z cd ik ugA ugB ugC rA pA tA rB pB tB rC pC tC cX lX oX nX sX zX cY lY oY nY sY zY tm cl KR SO SZ EL V (cd 18) = some (vI Z 0 20 oX) := wC_at (j := 18) h (by decide)
theorem wC_19 (h : oC b0 cd V) : wC Z cd ik ugA ugB ugC rA pA tA rB pB tB rC pC tC cX lX oX nX sX zX cY lY oY nY sY zY tm cl KR SO SZ EL V (cd 19) = some (vI Z 0 20 nX) := wC_at (j := 19) h (by decide)
theorem wC_20 (h : oC b0 cd V) : wC Z cd ik ugA ugB ugC rA pA tA rB pB tB rC pC tC cX lX oX nX sX zX cY lY oY nY sY zY tm cl KR SO SZ EL V (cd 20) = some (vI Z 0 20 sX) := wC_at (j := 20) h (by decide)
theorem wC_21 (h : oC b0 cd V) : wC Z cd ik ugA ugB ugC rA pA tA rB pB tB rC pC tC cX lX oX nX sX zX cY lY oY nY sY zY tm cl KR SO SZ EL V (cd 21) = some (vI Z 1 20 zX) := wC_at (j := 21) h (by decide)
theorem wC_22 (h : oC b0 cd V) : wC Z cd ik ugA ugB ugC rA pA tA rB pB tB rC pC tC cX lX oX nX sX zX cY lY oY nY sY zY tm cl KR SO SZ EL V (cd 22) = some (vI Z 0 20 cY) := wC_at (j := 22) h (by decide)
theorem wC_23 (h : oC b0 cd V) : wC Z cd ik ugA ugB ugC rA pA tA rB pB tB rC pC tC cX lX oX nX sX zX cY lY oY nY sY zY tm cl KR SO SZ EL V (cd 23) = some (vI Z 0 20 lY) := wC_at (j := 23) h (by decide)
theorem wC_24 (h : oC b0 cd V) : wC Z cd ik ugA ugB ugC rA pA tA rB pB tB rC pC tC cX lX oX nX sX zX cY lY oY nY sY zY tm cl KR SO SZ EL V (cd 24) = some (vI Z 0 20 oY) := wC_at (j := 24) h (by decide)
theorem wC_25 (h : oC b0 cd V) : wC Z cd ik ugA ugB ugC rA pA tA rB pB tB rC pC tC cX lX oX nX sX zX cY lY oY nY sY zY tm cl KR SO SZ EL V (cd 25) = some (vI Z 0 20 nY) := wC_at (j := 25) h (by decide)
theorem wC_26 (h : oC b0 cd V) : wC Z cd ik ugA ugB ugC rA pA tA rB pB tB rC pC tC cX lX oX nX sX zX cY lY oY nY sY zY tm cl KR SO SZ EL V (cd 26) = some (vI Z 0 20 sY) := wC_at (j := 26) h (by decide)
theorem wC_27 (h : oC b0 cd V) : wC Z cd ik ugA ugB ugC rA pA tA rB pB tB rC pC tC cX lX oX nX sX zX cY lY oY nY sY zY tm cl KR SO SZ EL V (cd 27) = some (vI Z 1 20 zY) := wC_at (j := 27) h (by decide)
theorem wC_28 (h : oC b0 cd V) : wC Z cd ik ugA ugB ugC rA pA tA rB pB tB rC pC tC cX lX oX nX sX zX cY lY oY nY sY zY tm cl KR SO SZ EL V (cd 28) = some (vI Z 0 400 tm) := wC_at (j := 28) h (by decide)
theorem wC_29 (h : oC b0 cd V) : wC Z cd ik ugA ugB ugC rA pA tA rB pB tB rC pC tC cX lX oX nX sX zX cY lY oY nY sY zY tm cl KR SO SZ EL V (cd 29) = some (vI Z 0 8 cl) := wC_at (j := 29) h (by decide)
theorem wC_sh {d : Nat} (h : oC b0 cd V) (hd : d < 8) : wC Z cd ik ugA ugB ugC rA pA tA rB pB tB rC pC tC cX lX oX nX sX zX cY lY oY nY sY zY tm cl KR SO SZ EL V (cd (30 + d)) = some (vO 7 [va_rf (KR d), .int (SO d), .int (nI (SZ d)), .ref (cd (38 + d))]) := (wC_at h (by omega)).trans (congrArg some (fC_sh hd))
theorem wC_el {d : Nat} (h : oC b0 cd V) (hd : d < 8) : wC Z cd ik ugA ugB ugC rA pA tA rB pB tB rC pC tC cX lX oX nX sX zX cY lY oY nY sY zY tm cl KR SO SZ EL V (cd (38 + d)) = some (vI Z 0 100 (EL d)) := (wC_at h (by omega)).trans (congrArg some fC_el)
theorem fCas_ik {x9 : Int32} : ∀ j, j < 30 → fCa Z cd x9 ugA ugB ugC rA pA tA rB pB tB rC pC tC cX lX oX nX sX zX cY lY oY nY sY zY tm cl KR SO SZ EL j = if j = 0 then vO 11 (([.ref (cd 1), .ref (cd 2), .ref (cd 3), .int ik, .ref (cd 13), .ref (cd 14), .ref (cd 15), .ref (cd 28), .ref (cd 29)] : List Value).set 3 (.int x9)) else fCa Z cd ik ugA ugB ugC rA pA tA rB pB tB rC pC tC cX lX oX nX sX zX cY lY oY nY sY zY tm cl KR SO SZ EL j := fun j hj => by
  match j, hj with
  | 0, _ => rfl
  | 1, _ => rfl
  | 2, _ => rfl
  | 3, _ => rfl
  | 4, _ => rfl
  | 5, _ => rfl
  | 6, _ => rfl
  | 7, _ => rfl
  | 8, _ => rfl
  | 9, _ => rfl
  | 10, _ => rfl
  | 11, _ => rfl
  | 12, _ => rfl
  | 13, _ => rfl
  | 14, _ => rfl
  | 15, _ => rfl
  | 16, _ => rfl
  | 17, _ => rfl
  | 18, _ => rfl
  | 19, _ => rfl
  | 20, _ => rfl
  | 21, _ => rfl
  | 22, _ => rfl
  | 23, _ => rfl
  | 24, _ => rfl
  | 25, _ => rfl
  | 26, _ => rfl
  | 27, _ => rfl
  | 28, _ => rfl
  | 29, _ => rfl
  | n + 30, hn => exact absurd hn (by omega)
theorem wCs_ik {x9 : Int32} (h : oC b0 cd V) : upv (wC Z cd ik ugA ugB ugC rA pA tA rB pB tB rC pC tC cX lX oX nX sX zX cY lY oY nY sY zY tm cl KR SO SZ EL V) (cd 0) (vO 11 (([.ref (cd 1), .ref (cd 2), .ref (cd 3), .int ik, .ref (cd 13), .ref (cd 14), .ref (cd 15), .ref (cd 28), .ref (cd 29)] : List Value).set 3 (.int x9))) = wC Z cd x9 ugA ugB ugC rA pA tA rB pB tB rC pC tC cX lX oX nX sX zX cY lY oY nY sY zY tm cl KR SO SZ EL V := bk_set (k := 0) h.1.1 (Nat.le_refl _) (by decide) (fun j hj => by
  unfold fC
  by_cases q : j < 30
  · rw [if_pos q, if_pos q]; exact fCas_ik j q
  · have q9 : ¬ j = 0 := by omega
    rw [if_neg q9, if_neg q, if_neg q])
theorem fCas_rA {x9 : Nat → Nat} : ∀ j, j < 30 → fCa Z cd ik ugA ugB ugC x9 pA tA rB pB tB rC pC tC cX lX oX nX sX zX cY lY oY nY sY zY tm cl KR SO SZ EL j = if j = 4 then vQ Z 2 20 (fun c => some (x9 c)) else fCa Z cd ik ugA ugB ugC rA pA tA rB pB tB rC pC tC cX lX oX nX sX zX cY lY oY nY sY zY tm cl KR SO SZ EL j := fun j hj => by
  match j, hj with
  | 0, _ => rfl
  | 1, _ => rfl
  | 2, _ => rfl
  | 3, _ => rfl
  | 4, _ => rfl
  | 5, _ => rfl
  | 6, _ => rfl
  | 7, _ => rfl
  | 8, _ => rfl
  | 9, _ => rfl
  | 10, _ => rfl
  | 11, _ => rfl
  | 12, _ => rfl
  | 13, _ => rfl
  | 14, _ => rfl
  | 15, _ => rfl
  | 16, _ => rfl
  | 17, _ => rfl
  | 18, _ => rfl
  | 19, _ => rfl
  | 20, _ => rfl
  | 21, _ => rfl
  | 22, _ => rfl
  | 23, _ => rfl
  | 24, _ => rfl
  | 25, _ => rfl
  | 26, _ => rfl
  | 27, _ => rfl
  | 28, _ => rfl
  | 29, _ => rfl
  | n + 30, hn => exact absurd hn (by omega)
theorem wCs_rA {x9 : Nat → Nat} (h : oC b0 cd V) : upv (wC Z cd ik ugA ugB ugC rA pA tA rB pB tB rC pC tC cX lX oX nX sX zX cY lY oY nY sY zY tm cl KR SO SZ EL V) (cd 4) (vQ Z 2 20 (fun c => some (x9 c))) = wC Z cd ik ugA ugB ugC x9 pA tA rB pB tB rC pC tC cX lX oX nX sX zX cY lY oY nY sY zY tm cl KR SO SZ EL V := bk_set (k := 4) h.1.1 (Nat.le_refl _) (by decide) (fun j hj => by
  unfold fC
  by_cases q : j < 30
  · rw [if_pos q, if_pos q]; exact fCas_rA j q
  · have q9 : ¬ j = 4 := by omega
    rw [if_neg q9, if_neg q, if_neg q])
theorem fCas_pA {x9 : Nat → Int32} : ∀ j, j < 30 → fCa Z cd ik ugA ugB ugC rA x9 tA rB pB tB rC pC tC cX lX oX nX sX zX cY lY oY nY sY zY tm cl KR SO SZ EL j = if j = 5 then vI Z 0 2 x9 else fCa Z cd ik ugA ugB ugC rA pA tA rB pB tB rC pC tC cX lX oX nX sX zX cY lY oY nY sY zY tm cl KR SO SZ EL j := fun j hj => by
  match j, hj with
  | 0, _ => rfl
  | 1, _ => rfl
  | 2, _ => rfl
  | 3, _ => rfl
  | 4, _ => rfl
  | 5, _ => rfl
  | 6, _ => rfl
  | 7, _ => rfl
  | 8, _ => rfl
  | 9, _ => rfl
  | 10, _ => rfl
  | 11, _ => rfl
  | 12, _ => rfl
  | 13, _ => rfl
  | 14, _ => rfl
  | 15, _ => rfl
  | 16, _ => rfl
  | 17, _ => rfl
  | 18, _ => rfl
  | 19, _ => rfl
  | 20, _ => rfl
  | 21, _ => rfl
  | 22, _ => rfl
  | 23, _ => rfl
  | 24, _ => rfl
  | 25, _ => rfl
  | 26, _ => rfl
  | 27, _ => rfl
  | 28, _ => rfl
  | 29, _ => rfl
  | n + 30, hn => exact absurd hn (by omega)
theorem wCs_pA {x9 : Nat → Int32} (h : oC b0 cd V) : upv (wC Z cd ik ugA ugB ugC rA pA tA rB pB tB rC pC tC cX lX oX nX sX zX cY lY oY nY sY zY tm cl KR SO SZ EL V) (cd 5) (vI Z 0 2 x9) = wC Z cd ik ugA ugB ugC rA x9 tA rB pB tB rC pC tC cX lX oX nX sX zX cY lY oY nY sY zY tm cl KR SO SZ EL V := bk_set (k := 5) h.1.1 (Nat.le_refl _) (by decide) (fun j hj => by
  unfold fC
  by_cases q : j < 30
  · rw [if_pos q, if_pos q]; exact fCas_pA j q
  · have q9 : ¬ j = 5 := by omega
    rw [if_neg q9, if_neg q, if_neg q])
theorem fCas_tA {x9 : Nat → Int32} : ∀ j, j < 30 → fCa Z cd ik ugA ugB ugC rA pA x9 rB pB tB rC pC tC cX lX oX nX sX zX cY lY oY nY sY zY tm cl KR SO SZ EL j = if j = 6 then vI Z 0 2 x9 else fCa Z cd ik ugA ugB ugC rA pA tA rB pB tB rC pC tC cX lX oX nX sX zX cY lY oY nY sY zY tm cl KR SO SZ EL j := fun j hj => by
  match j, hj with
  | 0, _ => rfl
  | 1, _ => rfl
  | 2, _ => rfl
  | 3, _ => rfl
  | 4, _ => rfl
  | 5, _ => rfl
  | 6, _ => rfl
  | 7, _ => rfl
  | 8, _ => rfl
  | 9, _ => rfl
  | 10, _ => rfl
  | 11, _ => rfl
  | 12, _ => rfl
  | 13, _ => rfl
  | 14, _ => rfl
  | 15, _ => rfl
  | 16, _ => rfl
  | 17, _ => rfl
  | 18, _ => rfl
  | 19, _ => rfl
  | 20, _ => rfl
  | 21, _ => rfl
  | 22, _ => rfl
  | 23, _ => rfl
  | 24, _ => rfl
  | 25, _ => rfl
  | 26, _ => rfl
  | 27, _ => rfl
  | 28, _ => rfl
  | 29, _ => rfl
  | n + 30, hn => exact absurd hn (by omega)
theorem wCs_tA {x9 : Nat → Int32} (h : oC b0 cd V) : upv (wC Z cd ik ugA ugB ugC rA pA tA rB pB tB rC pC tC cX lX oX nX sX zX cY lY oY nY sY zY tm cl KR SO SZ EL V) (cd 6) (vI Z 0 2 x9) = wC Z cd ik ugA ugB ugC rA pA x9 rB pB tB rC pC tC cX lX oX nX sX zX cY lY oY nY sY zY tm cl KR SO SZ EL V := bk_set (k := 6) h.1.1 (Nat.le_refl _) (by decide) (fun j hj => by
  unfold fC
  by_cases q : j < 30
  · rw [if_pos q, if_pos q]; exact fCas_tA j q
  · have q9 : ¬ j = 6 := by omega
    rw [if_neg q9, if_neg q, if_neg q])
theorem fCas_rB {x9 : Nat → Nat} : ∀ j, j < 30 → fCa Z cd ik ugA ugB ugC rA pA tA x9 pB tB rC pC tC cX lX oX nX sX zX cY lY oY nY sY zY tm cl KR SO SZ EL j = if j = 7 then vQ Z 2 20 (fun c => some (x9 c)) else fCa Z cd ik ugA ugB ugC rA pA tA rB pB tB rC pC tC cX lX oX nX sX zX cY lY oY nY sY zY tm cl KR SO SZ EL j := fun j hj => by
  match j, hj with
  | 0, _ => rfl
  | 1, _ => rfl
  | 2, _ => rfl
  | 3, _ => rfl
  | 4, _ => rfl
  | 5, _ => rfl
  | 6, _ => rfl
  | 7, _ => rfl
  | 8, _ => rfl
  | 9, _ => rfl
  | 10, _ => rfl
  | 11, _ => rfl
  | 12, _ => rfl
  | 13, _ => rfl
  | 14, _ => rfl
  | 15, _ => rfl
  | 16, _ => rfl
  | 17, _ => rfl
  | 18, _ => rfl
  | 19, _ => rfl
  | 20, _ => rfl
  | 21, _ => rfl
  | 22, _ => rfl
  | 23, _ => rfl
  | 24, _ => rfl
  | 25, _ => rfl
  | 26, _ => rfl
  | 27, _ => rfl
  | 28, _ => rfl
  | 29, _ => rfl
  | n + 30, hn => exact absurd hn (by omega)
theorem wCs_rB {x9 : Nat → Nat} (h : oC b0 cd V) : upv (wC Z cd ik ugA ugB ugC rA pA tA rB pB tB rC pC tC cX lX oX nX sX zX cY lY oY nY sY zY tm cl KR SO SZ EL V) (cd 7) (vQ Z 2 20 (fun c => some (x9 c))) = wC Z cd ik ugA ugB ugC rA pA tA x9 pB tB rC pC tC cX lX oX nX sX zX cY lY oY nY sY zY tm cl KR SO SZ EL V := bk_set (k := 7) h.1.1 (Nat.le_refl _) (by decide) (fun j hj => by
  unfold fC
  by_cases q : j < 30
  · rw [if_pos q, if_pos q]; exact fCas_rB j q
  · have q9 : ¬ j = 7 := by omega
    rw [if_neg q9, if_neg q, if_neg q])
theorem fCas_pB {x9 : Nat → Int32} : ∀ j, j < 30 → fCa Z cd ik ugA ugB ugC rA pA tA rB x9 tB rC pC tC cX lX oX nX sX zX cY lY oY nY sY zY tm cl KR SO SZ EL j = if j = 8 then vI Z 0 2 x9 else fCa Z cd ik ugA ugB ugC rA pA tA rB pB tB rC pC tC cX lX oX nX sX zX cY lY oY nY sY zY tm cl KR SO SZ EL j := fun j hj => by
  match j, hj with
  | 0, _ => rfl
  | 1, _ => rfl
  | 2, _ => rfl
  | 3, _ => rfl
  | 4, _ => rfl
  | 5, _ => rfl
  | 6, _ => rfl
  | 7, _ => rfl
  | 8, _ => rfl
  | 9, _ => rfl
  | 10, _ => rfl
  | 11, _ => rfl
  | 12, _ => rfl
  | 13, _ => rfl
  | 14, _ => rfl
  | 15, _ => rfl
  | 16, _ => rfl
  | 17, _ => rfl
  | 18, _ => rfl
  | 19, _ => rfl
  | 20, _ => rfl
  | 21, _ => rfl
  | 22, _ => rfl
  | 23, _ => rfl
  | 24, _ => rfl
  | 25, _ => rfl
  | 26, _ => rfl
  | 27, _ => rfl
  | 28, _ => rfl
  | 29, _ => rfl
  | n + 30, hn => exact absurd hn (by omega)
theorem wCs_pB {x9 : Nat → Int32} (h : oC b0 cd V) : upv (wC Z cd ik ugA ugB ugC rA pA tA rB pB tB rC pC tC cX lX oX nX sX zX cY lY oY nY sY zY tm cl KR SO SZ EL V) (cd 8) (vI Z 0 2 x9) = wC Z cd ik ugA ugB ugC rA pA tA rB x9 tB rC pC tC cX lX oX nX sX zX cY lY oY nY sY zY tm cl KR SO SZ EL V := bk_set (k := 8) h.1.1 (Nat.le_refl _) (by decide) (fun j hj => by
  unfold fC
  by_cases q : j < 30
  · rw [if_pos q, if_pos q]; exact fCas_pB j q
  · have q9 : ¬ j = 8 := by omega
    rw [if_neg q9, if_neg q, if_neg q])
theorem fCas_tB {x9 : Nat → Int32} : ∀ j, j < 30 → fCa Z cd ik ugA ugB ugC rA pA tA rB pB x9 rC pC tC cX lX oX nX sX zX cY lY oY nY sY zY tm cl KR SO SZ EL j = if j = 9 then vI Z 0 2 x9 else fCa Z cd ik ugA ugB ugC rA pA tA rB pB tB rC pC tC cX lX oX nX sX zX cY lY oY nY sY zY tm cl KR SO SZ EL j := fun j hj => by
  match j, hj with
  | 0, _ => rfl
  | 1, _ => rfl
  | 2, _ => rfl
  | 3, _ => rfl
  | 4, _ => rfl
  | 5, _ => rfl
  | 6, _ => rfl
  | 7, _ => rfl
  | 8, _ => rfl
  | 9, _ => rfl
  | 10, _ => rfl
  | 11, _ => rfl
  | 12, _ => rfl
  | 13, _ => rfl
  | 14, _ => rfl
  | 15, _ => rfl
  | 16, _ => rfl
  | 17, _ => rfl
  | 18, _ => rfl
  | 19, _ => rfl
  | 20, _ => rfl
  | 21, _ => rfl
  | 22, _ => rfl
  | 23, _ => rfl
  | 24, _ => rfl
  | 25, _ => rfl
  | 26, _ => rfl
  | 27, _ => rfl
  | 28, _ => rfl
  | 29, _ => rfl
  | n + 30, hn => exact absurd hn (by omega)
theorem wCs_tB {x9 : Nat → Int32} (h : oC b0 cd V) : upv (wC Z cd ik ugA ugB ugC rA pA tA rB pB tB rC pC tC cX lX oX nX sX zX cY lY oY nY sY zY tm cl KR SO SZ EL V) (cd 9) (vI Z 0 2 x9) = wC Z cd ik ugA ugB ugC rA pA tA rB pB x9 rC pC tC cX lX oX nX sX zX cY lY oY nY sY zY tm cl KR SO SZ EL V := bk_set (k := 9) h.1.1 (Nat.le_refl _) (by decide) (fun j hj => by
  unfold fC
  by_cases q : j < 30
  · rw [if_pos q, if_pos q]; exact fCas_tB j q
  · have q9 : ¬ j = 9 := by omega
    rw [if_neg q9, if_neg q, if_neg q])
theorem fCas_rC {x9 : Nat → Nat} : ∀ j, j < 30 → fCa Z cd ik ugA ugB ugC rA pA tA rB pB tB x9 pC tC cX lX oX nX sX zX cY lY oY nY sY zY tm cl KR SO SZ EL j = if j = 10 then vQ Z 2 20 (fun c => some (x9 c)) else fCa Z cd ik ugA ugB ugC rA pA tA rB pB tB rC pC tC cX lX oX nX sX zX cY lY oY nY sY zY tm cl KR SO SZ EL j := fun j hj => by
  match j, hj with
  | 0, _ => rfl
  | 1, _ => rfl
  | 2, _ => rfl
  | 3, _ => rfl
  | 4, _ => rfl
  | 5, _ => rfl
  | 6, _ => rfl
  | 7, _ => rfl
  | 8, _ => rfl
  | 9, _ => rfl
  | 10, _ => rfl
  | 11, _ => rfl
  | 12, _ => rfl
  | 13, _ => rfl
  | 14, _ => rfl
  | 15, _ => rfl
  | 16, _ => rfl
  | 17, _ => rfl
  | 18, _ => rfl
  | 19, _ => rfl
  | 20, _ => rfl
  | 21, _ => rfl
  | 22, _ => rfl
  | 23, _ => rfl
  | 24, _ => rfl
  | 25, _ => rfl
  | 26, _ => rfl
  | 27, _ => rfl
  | 28, _ => rfl
  | 29, _ => rfl
  | n + 30, hn => exact absurd hn (by omega)
theorem wCs_rC {x9 : Nat → Nat} (h : oC b0 cd V) : upv (wC Z cd ik ugA ugB ugC rA pA tA rB pB tB rC pC tC cX lX oX nX sX zX cY lY oY nY sY zY tm cl KR SO SZ EL V) (cd 10) (vQ Z 2 20 (fun c => some (x9 c))) = wC Z cd ik ugA ugB ugC rA pA tA rB pB tB x9 pC tC cX lX oX nX sX zX cY lY oY nY sY zY tm cl KR SO SZ EL V := bk_set (k := 10) h.1.1 (Nat.le_refl _) (by decide) (fun j hj => by
  unfold fC
  by_cases q : j < 30
  · rw [if_pos q, if_pos q]; exact fCas_rC j q
  · have q9 : ¬ j = 10 := by omega
    rw [if_neg q9, if_neg q, if_neg q])
theorem fCas_pC {x9 : Nat → Int32} : ∀ j, j < 30 → fCa Z cd ik ugA ugB ugC rA pA tA rB pB tB rC x9 tC cX lX oX nX sX zX cY lY oY nY sY zY tm cl KR SO SZ EL j = if j = 11 then vI Z 0 2 x9 else fCa Z cd ik ugA ugB ugC rA pA tA rB pB tB rC pC tC cX lX oX nX sX zX cY lY oY nY sY zY tm cl KR SO SZ EL j := fun j hj => by
  match j, hj with
  | 0, _ => rfl
  | 1, _ => rfl
  | 2, _ => rfl
  | 3, _ => rfl
  | 4, _ => rfl
  | 5, _ => rfl
  | 6, _ => rfl
  | 7, _ => rfl
  | 8, _ => rfl
  | 9, _ => rfl
  | 10, _ => rfl
  | 11, _ => rfl
  | 12, _ => rfl
  | 13, _ => rfl
  | 14, _ => rfl
  | 15, _ => rfl
  | 16, _ => rfl
  | 17, _ => rfl
  | 18, _ => rfl
  | 19, _ => rfl
  | 20, _ => rfl
  | 21, _ => rfl
  | 22, _ => rfl
  | 23, _ => rfl
  | 24, _ => rfl
  | 25, _ => rfl
  | 26, _ => rfl
  | 27, _ => rfl
  | 28, _ => rfl
  | 29, _ => rfl
  | n + 30, hn => exact absurd hn (by omega)
theorem wCs_pC {x9 : Nat → Int32} (h : oC b0 cd V) : upv (wC Z cd ik ugA ugB ugC rA pA tA rB pB tB rC pC tC cX lX oX nX sX zX cY lY oY nY sY zY tm cl KR SO SZ EL V) (cd 11) (vI Z 0 2 x9) = wC Z cd ik ugA ugB ugC rA pA tA rB pB tB rC x9 tC cX lX oX nX sX zX cY lY oY nY sY zY tm cl KR SO SZ EL V := bk_set (k := 11) h.1.1 (Nat.le_refl _) (by decide) (fun j hj => by
  unfold fC
  by_cases q : j < 30
  · rw [if_pos q, if_pos q]; exact fCas_pC j q
  · have q9 : ¬ j = 11 := by omega
    rw [if_neg q9, if_neg q, if_neg q])
theorem fCas_tC {x9 : Nat → Int32} : ∀ j, j < 30 → fCa Z cd ik ugA ugB ugC rA pA tA rB pB tB rC pC x9 cX lX oX nX sX zX cY lY oY nY sY zY tm cl KR SO SZ EL j = if j = 12 then vI Z 0 2 x9 else fCa Z cd ik ugA ugB ugC rA pA tA rB pB tB rC pC tC cX lX oX nX sX zX cY lY oY nY sY zY tm cl KR SO SZ EL j := fun j hj => by
  match j, hj with
  | 0, _ => rfl
  | 1, _ => rfl
  | 2, _ => rfl
  | 3, _ => rfl
  | 4, _ => rfl
  | 5, _ => rfl
  | 6, _ => rfl
  | 7, _ => rfl
  | 8, _ => rfl
  | 9, _ => rfl
  | 10, _ => rfl
  | 11, _ => rfl
  | 12, _ => rfl
  | 13, _ => rfl
  | 14, _ => rfl
  | 15, _ => rfl
  | 16, _ => rfl
  | 17, _ => rfl
  | 18, _ => rfl
  | 19, _ => rfl
  | 20, _ => rfl
  | 21, _ => rfl
  | 22, _ => rfl
  | 23, _ => rfl
  | 24, _ => rfl
  | 25, _ => rfl
  | 26, _ => rfl
  | 27, _ => rfl
  | 28, _ => rfl
  | 29, _ => rfl
  | n + 30, hn => exact absurd hn (by omega)
theorem wCs_tC {x9 : Nat → Int32} (h : oC b0 cd V) : upv (wC Z cd ik ugA ugB ugC rA pA tA rB pB tB rC pC tC cX lX oX nX sX zX cY lY oY nY sY zY tm cl KR SO SZ EL V) (cd 12) (vI Z 0 2 x9) = wC Z cd ik ugA ugB ugC rA pA tA rB pB tB rC pC x9 cX lX oX nX sX zX cY lY oY nY sY zY tm cl KR SO SZ EL V := bk_set (k := 12) h.1.1 (Nat.le_refl _) (by decide) (fun j hj => by
  unfold fC
  by_cases q : j < 30
  · rw [if_pos q, if_pos q]; exact fCas_tC j q
  · have q9 : ¬ j = 12 := by omega
    rw [if_neg q9, if_neg q, if_neg q])
theorem fCas_cX {x9 : Nat → Int32} : ∀ j, j < 30 → fCa Z cd ik ugA ugB ugC rA pA tA rB pB tB rC pC tC x9 lX oX nX sX zX cY lY oY nY sY zY tm cl KR SO SZ EL j = if j = 16 then vI Z 0 20 x9 else fCa Z cd ik ugA ugB ugC rA pA tA rB pB tB rC pC tC cX lX oX nX sX zX cY lY oY nY sY zY tm cl KR SO SZ EL j := fun j hj => by
  match j, hj with
  | 0, _ => rfl
  | 1, _ => rfl
  | 2, _ => rfl
  | 3, _ => rfl
  | 4, _ => rfl
  | 5, _ => rfl
  | 6, _ => rfl
  | 7, _ => rfl
  | 8, _ => rfl
  | 9, _ => rfl
  | 10, _ => rfl
  | 11, _ => rfl
  | 12, _ => rfl
  | 13, _ => rfl
  | 14, _ => rfl
  | 15, _ => rfl
  | 16, _ => rfl
  | 17, _ => rfl
  | 18, _ => rfl
  | 19, _ => rfl
  | 20, _ => rfl
  | 21, _ => rfl
  | 22, _ => rfl
  | 23, _ => rfl
  | 24, _ => rfl
  | 25, _ => rfl
  | 26, _ => rfl
  | 27, _ => rfl
  | 28, _ => rfl
  | 29, _ => rfl
  | n + 30, hn => exact absurd hn (by omega)
theorem wCs_cX {x9 : Nat → Int32} (h : oC b0 cd V) : upv (wC Z cd ik ugA ugB ugC rA pA tA rB pB tB rC pC tC cX lX oX nX sX zX cY lY oY nY sY zY tm cl KR SO SZ EL V) (cd 16) (vI Z 0 20 x9) = wC Z cd ik ugA ugB ugC rA pA tA rB pB tB rC pC tC x9 lX oX nX sX zX cY lY oY nY sY zY tm cl KR SO SZ EL V := bk_set (k := 16) h.1.1 (Nat.le_refl _) (by decide) (fun j hj => by
  unfold fC
  by_cases q : j < 30
  · rw [if_pos q, if_pos q]; exact fCas_cX j q
  · have q9 : ¬ j = 16 := by omega
    rw [if_neg q9, if_neg q, if_neg q])
theorem fCas_lX {x9 : Nat → Int32} : ∀ j, j < 30 → fCa Z cd ik ugA ugB ugC rA pA tA rB pB tB rC pC tC cX x9 oX nX sX zX cY lY oY nY sY zY tm cl KR SO SZ EL j = if j = 17 then vI Z 0 20 x9 else fCa Z cd ik ugA ugB ugC rA pA tA rB pB tB rC pC tC cX lX oX nX sX zX cY lY oY nY sY zY tm cl KR SO SZ EL j := fun j hj => by
  match j, hj with
  | 0, _ => rfl
  | 1, _ => rfl
  | 2, _ => rfl
  | 3, _ => rfl
  | 4, _ => rfl
  | 5, _ => rfl
  | 6, _ => rfl
  | 7, _ => rfl
  | 8, _ => rfl
  | 9, _ => rfl
  | 10, _ => rfl
  | 11, _ => rfl
  | 12, _ => rfl
  | 13, _ => rfl
  | 14, _ => rfl
  | 15, _ => rfl
  | 16, _ => rfl
  | 17, _ => rfl
  | 18, _ => rfl
  | 19, _ => rfl
  | 20, _ => rfl
  | 21, _ => rfl
  | 22, _ => rfl
  | 23, _ => rfl
  | 24, _ => rfl
  | 25, _ => rfl
  | 26, _ => rfl
  | 27, _ => rfl
  | 28, _ => rfl
  | 29, _ => rfl
  | n + 30, hn => exact absurd hn (by omega)
theorem wCs_lX {x9 : Nat → Int32} (h : oC b0 cd V) : upv (wC Z cd ik ugA ugB ugC rA pA tA rB pB tB rC pC tC cX lX oX nX sX zX cY lY oY nY sY zY tm cl KR SO SZ EL V) (cd 17) (vI Z 0 20 x9) = wC Z cd ik ugA ugB ugC rA pA tA rB pB tB rC pC tC cX x9 oX nX sX zX cY lY oY nY sY zY tm cl KR SO SZ EL V := bk_set (k := 17) h.1.1 (Nat.le_refl _) (by decide) (fun j hj => by
  unfold fC
  by_cases q : j < 30
  · rw [if_pos q, if_pos q]; exact fCas_lX j q
  · have q9 : ¬ j = 17 := by omega
    rw [if_neg q9, if_neg q, if_neg q])
theorem fCas_oX {x9 : Nat → Int32} : ∀ j, j < 30 → fCa Z cd ik ugA ugB ugC rA pA tA rB pB tB rC pC tC cX lX x9 nX sX zX cY lY oY nY sY zY tm cl KR SO SZ EL j = if j = 18 then vI Z 0 20 x9 else fCa Z cd ik ugA ugB ugC rA pA tA rB pB tB rC pC tC cX lX oX nX sX zX cY lY oY nY sY zY tm cl KR SO SZ EL j := fun j hj => by
  match j, hj with
  | 0, _ => rfl
  | 1, _ => rfl
  | 2, _ => rfl
  | 3, _ => rfl
  | 4, _ => rfl
  | 5, _ => rfl
  | 6, _ => rfl
  | 7, _ => rfl
  | 8, _ => rfl
  | 9, _ => rfl
  | 10, _ => rfl
  | 11, _ => rfl
  | 12, _ => rfl
  | 13, _ => rfl
  | 14, _ => rfl
  | 15, _ => rfl
  | 16, _ => rfl
  | 17, _ => rfl
  | 18, _ => rfl
  | 19, _ => rfl
  | 20, _ => rfl
  | 21, _ => rfl
  | 22, _ => rfl
  | 23, _ => rfl
  | 24, _ => rfl
  | 25, _ => rfl
  | 26, _ => rfl
  | 27, _ => rfl
  | 28, _ => rfl
  | 29, _ => rfl
  | n + 30, hn => exact absurd hn (by omega)
theorem wCs_oX {x9 : Nat → Int32} (h : oC b0 cd V) : upv (wC Z cd ik ugA ugB ugC rA pA tA rB pB tB rC pC tC cX lX oX nX sX zX cY lY oY nY sY zY tm cl KR SO SZ EL V) (cd 18) (vI Z 0 20 x9) = wC Z cd ik ugA ugB ugC rA pA tA rB pB tB rC pC tC cX lX x9 nX sX zX cY lY oY nY sY zY tm cl KR SO SZ EL V := bk_set (k := 18) h.1.1 (Nat.le_refl _) (by decide) (fun j hj => by
  unfold fC
  by_cases q : j < 30
  · rw [if_pos q, if_pos q]; exact fCas_oX j q
  · have q9 : ¬ j = 18 := by omega
    rw [if_neg q9, if_neg q, if_neg q])
theorem fCas_nX {x9 : Nat → Int32} : ∀ j, j < 30 → fCa Z cd ik ugA ugB ugC rA pA tA rB pB tB rC pC tC cX lX oX x9 sX zX cY lY oY nY sY zY tm cl KR SO SZ EL j = if j = 19 then vI Z 0 20 x9 else fCa Z cd ik ugA ugB ugC rA pA tA rB pB tB rC pC tC cX lX oX nX sX zX cY lY oY nY sY zY tm cl KR SO SZ EL j := fun j hj => by
  match j, hj with
  | 0, _ => rfl
  | 1, _ => rfl
  | 2, _ => rfl
  | 3, _ => rfl
  | 4, _ => rfl
  | 5, _ => rfl
  | 6, _ => rfl
  | 7, _ => rfl
  | 8, _ => rfl
  | 9, _ => rfl
  | 10, _ => rfl
  | 11, _ => rfl
  | 12, _ => rfl
  | 13, _ => rfl
  | 14, _ => rfl
  | 15, _ => rfl
  | 16, _ => rfl
  | 17, _ => rfl
  | 18, _ => rfl
  | 19, _ => rfl
  | 20, _ => rfl
  | 21, _ => rfl
  | 22, _ => rfl
  | 23, _ => rfl
  | 24, _ => rfl
  | 25, _ => rfl
  | 26, _ => rfl
  | 27, _ => rfl
  | 28, _ => rfl
  | 29, _ => rfl
  | n + 30, hn => exact absurd hn (by omega)
theorem wCs_nX {x9 : Nat → Int32} (h : oC b0 cd V) : upv (wC Z cd ik ugA ugB ugC rA pA tA rB pB tB rC pC tC cX lX oX nX sX zX cY lY oY nY sY zY tm cl KR SO SZ EL V) (cd 19) (vI Z 0 20 x9) = wC Z cd ik ugA ugB ugC rA pA tA rB pB tB rC pC tC cX lX oX x9 sX zX cY lY oY nY sY zY tm cl KR SO SZ EL V := bk_set (k := 19) h.1.1 (Nat.le_refl _) (by decide) (fun j hj => by
  unfold fC
  by_cases q : j < 30
  · rw [if_pos q, if_pos q]; exact fCas_nX j q
  · have q9 : ¬ j = 19 := by omega
    rw [if_neg q9, if_neg q, if_neg q])
theorem fCas_sX {x9 : Nat → Int32} : ∀ j, j < 30 → fCa Z cd ik ugA ugB ugC rA pA tA rB pB tB rC pC tC cX lX oX nX x9 zX cY lY oY nY sY zY tm cl KR SO SZ EL j = if j = 20 then vI Z 0 20 x9 else fCa Z cd ik ugA ugB ugC rA pA tA rB pB tB rC pC tC cX lX oX nX sX zX cY lY oY nY sY zY tm cl KR SO SZ EL j := fun j hj => by
  match j, hj with
  | 0, _ => rfl
  | 1, _ => rfl
  | 2, _ => rfl
  | 3, _ => rfl
  | 4, _ => rfl
  | 5, _ => rfl
  | 6, _ => rfl
  | 7, _ => rfl
  | 8, _ => rfl
  | 9, _ => rfl
  | 10, _ => rfl
  | 11, _ => rfl
  | 12, _ => rfl
  | 13, _ => rfl
  | 14, _ => rfl
  | 15, _ => rfl
  | 16, _ => rfl
  | 17, _ => rfl
  | 18, _ => rfl
  | 19, _ => rfl
  | 20, _ => rfl
  | 21, _ => rfl
  | 22, _ => rfl
  | 23, _ => rfl
  | 24, _ => rfl
  | 25, _ => rfl
  | 26, _ => rfl
  | 27, _ => rfl
  | 28, _ => rfl
  | 29, _ => rfl
  | n + 30, hn => exact absurd hn (by omega)
theorem wCs_sX {x9 : Nat → Int32} (h : oC b0 cd V) : upv (wC Z cd ik ugA ugB ugC rA pA tA rB pB tB rC pC tC cX lX oX nX sX zX cY lY oY nY sY zY tm cl KR SO SZ EL V) (cd 20) (vI Z 0 20 x9) = wC Z cd ik ugA ugB ugC rA pA tA rB pB tB rC pC tC cX lX oX nX x9 zX cY lY oY nY sY zY tm cl KR SO SZ EL V := bk_set (k := 20) h.1.1 (Nat.le_refl _) (by decide) (fun j hj => by
  unfold fC
  by_cases q : j < 30
  · rw [if_pos q, if_pos q]; exact fCas_sX j q
  · have q9 : ¬ j = 20 := by omega
    rw [if_neg q9, if_neg q, if_neg q])
theorem fCas_zX {x9 : Nat → Int32} : ∀ j, j < 30 → fCa Z cd ik ugA ugB ugC rA pA tA rB pB tB rC pC tC cX lX oX nX sX x9 cY lY oY nY sY zY tm cl KR SO SZ EL j = if j = 21 then vI Z 1 20 x9 else fCa Z cd ik ugA ugB ugC rA pA tA rB pB tB rC pC tC cX lX oX nX sX zX cY lY oY nY sY zY tm cl KR SO SZ EL j := fun j hj => by
  match j, hj with
  | 0, _ => rfl
  | 1, _ => rfl
  | 2, _ => rfl
  | 3, _ => rfl
  | 4, _ => rfl
  | 5, _ => rfl
  | 6, _ => rfl
  | 7, _ => rfl
  | 8, _ => rfl
  | 9, _ => rfl
  | 10, _ => rfl
  | 11, _ => rfl
  | 12, _ => rfl
  | 13, _ => rfl
  | 14, _ => rfl
  | 15, _ => rfl
  | 16, _ => rfl
  | 17, _ => rfl
  | 18, _ => rfl
  | 19, _ => rfl
  | 20, _ => rfl
  | 21, _ => rfl
  | 22, _ => rfl
  | 23, _ => rfl
  | 24, _ => rfl
  | 25, _ => rfl
  | 26, _ => rfl
  | 27, _ => rfl
  | 28, _ => rfl
  | 29, _ => rfl
  | n + 30, hn => exact absurd hn (by omega)
theorem wCs_zX {x9 : Nat → Int32} (h : oC b0 cd V) : upv (wC Z cd ik ugA ugB ugC rA pA tA rB pB tB rC pC tC cX lX oX nX sX zX cY lY oY nY sY zY tm cl KR SO SZ EL V) (cd 21) (vI Z 1 20 x9) = wC Z cd ik ugA ugB ugC rA pA tA rB pB tB rC pC tC cX lX oX nX sX x9 cY lY oY nY sY zY tm cl KR SO SZ EL V := bk_set (k := 21) h.1.1 (Nat.le_refl _) (by decide) (fun j hj => by
  unfold fC
  by_cases q : j < 30
  · rw [if_pos q, if_pos q]; exact fCas_zX j q
  · have q9 : ¬ j = 21 := by omega
    rw [if_neg q9, if_neg q, if_neg q])
theorem fCas_cY {x9 : Nat → Int32} : ∀ j, j < 30 → fCa Z cd ik ugA ugB ugC rA pA tA rB pB tB rC pC tC cX lX oX nX sX zX x9 lY oY nY sY zY tm cl KR SO SZ EL j = if j = 22 then vI Z 0 20 x9 else fCa Z cd ik ugA ugB ugC rA pA tA rB pB tB rC pC tC cX lX oX nX sX zX cY lY oY nY sY zY tm cl KR SO SZ EL j := fun j hj => by
  match j, hj with
  | 0, _ => rfl
  | 1, _ => rfl
  | 2, _ => rfl
  | 3, _ => rfl
  | 4, _ => rfl
  | 5, _ => rfl
  | 6, _ => rfl
  | 7, _ => rfl
  | 8, _ => rfl
  | 9, _ => rfl
  | 10, _ => rfl
  | 11, _ => rfl
  | 12, _ => rfl
  | 13, _ => rfl
  | 14, _ => rfl
  | 15, _ => rfl
  | 16, _ => rfl
  | 17, _ => rfl
  | 18, _ => rfl
  | 19, _ => rfl
  | 20, _ => rfl
  | 21, _ => rfl
  | 22, _ => rfl
  | 23, _ => rfl
  | 24, _ => rfl
  | 25, _ => rfl
  | 26, _ => rfl
  | 27, _ => rfl
  | 28, _ => rfl
  | 29, _ => rfl
  | n + 30, hn => exact absurd hn (by omega)
theorem wCs_cY {x9 : Nat → Int32} (h : oC b0 cd V) : upv (wC Z cd ik ugA ugB ugC rA pA tA rB pB tB rC pC tC cX lX oX nX sX zX cY lY oY nY sY zY tm cl KR SO SZ EL V) (cd 22) (vI Z 0 20 x9) = wC Z cd ik ugA ugB ugC rA pA tA rB pB tB rC pC tC cX lX oX nX sX zX x9 lY oY nY sY zY tm cl KR SO SZ EL V := bk_set (k := 22) h.1.1 (Nat.le_refl _) (by decide) (fun j hj => by
  unfold fC
  by_cases q : j < 30
  · rw [if_pos q, if_pos q]; exact fCas_cY j q
  · have q9 : ¬ j = 22 := by omega
    rw [if_neg q9, if_neg q, if_neg q])
theorem fCas_lY {x9 : Nat → Int32} : ∀ j, j < 30 → fCa Z cd ik ugA ugB ugC rA pA tA rB pB tB rC pC tC cX lX oX nX sX zX cY x9 oY nY sY zY tm cl KR SO SZ EL j = if j = 23 then vI Z 0 20 x9 else fCa Z cd ik ugA ugB ugC rA pA tA rB pB tB rC pC tC cX lX oX nX sX zX cY lY oY nY sY zY tm cl KR SO SZ EL j := fun j hj => by
  match j, hj with
  | 0, _ => rfl
  | 1, _ => rfl
  | 2, _ => rfl
  | 3, _ => rfl
  | 4, _ => rfl
  | 5, _ => rfl
  | 6, _ => rfl
  | 7, _ => rfl
  | 8, _ => rfl
  | 9, _ => rfl
  | 10, _ => rfl
  | 11, _ => rfl
  | 12, _ => rfl
  | 13, _ => rfl
  | 14, _ => rfl
  | 15, _ => rfl
  | 16, _ => rfl
  | 17, _ => rfl
  | 18, _ => rfl
  | 19, _ => rfl
  | 20, _ => rfl
  | 21, _ => rfl
  | 22, _ => rfl
  | 23, _ => rfl
  | 24, _ => rfl
  | 25, _ => rfl
  | 26, _ => rfl
  | 27, _ => rfl
  | 28, _ => rfl
  | 29, _ => rfl
  | n + 30, hn => exact absurd hn (by omega)
theorem wCs_lY {x9 : Nat → Int32} (h : oC b0 cd V) : upv (wC Z cd ik ugA ugB ugC rA pA tA rB pB tB rC pC tC cX lX oX nX sX zX cY lY oY nY sY zY tm cl KR SO SZ EL V) (cd 23) (vI Z 0 20 x9) = wC Z cd ik ugA ugB ugC rA pA tA rB pB tB rC pC tC cX lX oX nX sX zX cY x9 oY nY sY zY tm cl KR SO SZ EL V := bk_set (k := 23) h.1.1 (Nat.le_refl _) (by decide) (fun j hj => by
  unfold fC
  by_cases q : j < 30
  · rw [if_pos q, if_pos q]; exact fCas_lY j q
  · have q9 : ¬ j = 23 := by omega
    rw [if_neg q9, if_neg q, if_neg q])
theorem fCas_oY {x9 : Nat → Int32} : ∀ j, j < 30 → fCa Z cd ik ugA ugB ugC rA pA tA rB pB tB rC pC tC cX lX oX nX sX zX cY lY x9 nY sY zY tm cl KR SO SZ EL j = if j = 24 then vI Z 0 20 x9 else fCa Z cd ik ugA ugB ugC rA pA tA rB pB tB rC pC tC cX lX oX nX sX zX cY lY oY nY sY zY tm cl KR SO SZ EL j := fun j hj => by
  match j, hj with
  | 0, _ => rfl
  | 1, _ => rfl
  | 2, _ => rfl
  | 3, _ => rfl
  | 4, _ => rfl
  | 5, _ => rfl
  | 6, _ => rfl
  | 7, _ => rfl
  | 8, _ => rfl
  | 9, _ => rfl
  | 10, _ => rfl
  | 11, _ => rfl
  | 12, _ => rfl
  | 13, _ => rfl
  | 14, _ => rfl
  | 15, _ => rfl
  | 16, _ => rfl
  | 17, _ => rfl
  | 18, _ => rfl
  | 19, _ => rfl
  | 20, _ => rfl
  | 21, _ => rfl
  | 22, _ => rfl
  | 23, _ => rfl
  | 24, _ => rfl
  | 25, _ => rfl
  | 26, _ => rfl
  | 27, _ => rfl
  | 28, _ => rfl
  | 29, _ => rfl
  | n + 30, hn => exact absurd hn (by omega)
theorem wCs_oY {x9 : Nat → Int32} (h : oC b0 cd V) : upv (wC Z cd ik ugA ugB ugC rA pA tA rB pB tB rC pC tC cX lX oX nX sX zX cY lY oY nY sY zY tm cl KR SO SZ EL V) (cd 24) (vI Z 0 20 x9) = wC Z cd ik ugA ugB ugC rA pA tA rB pB tB rC pC tC cX lX oX nX sX zX cY lY x9 nY sY zY tm cl KR SO SZ EL V := bk_set (k := 24) h.1.1 (Nat.le_refl _) (by decide) (fun j hj => by
  unfold fC
  by_cases q : j < 30
  · rw [if_pos q, if_pos q]; exact fCas_oY j q
  · have q9 : ¬ j = 24 := by omega
    rw [if_neg q9, if_neg q, if_neg q])
theorem fCas_nY {x9 : Nat → Int32} : ∀ j, j < 30 → fCa Z cd ik ugA ugB ugC rA pA tA rB pB tB rC pC tC cX lX oX nX sX zX cY lY oY x9 sY zY tm cl KR SO SZ EL j = if j = 25 then vI Z 0 20 x9 else fCa Z cd ik ugA ugB ugC rA pA tA rB pB tB rC pC tC cX lX oX nX sX zX cY lY oY nY sY zY tm cl KR SO SZ EL j := fun j hj => by
  match j, hj with
  | 0, _ => rfl
  | 1, _ => rfl
  | 2, _ => rfl
  | 3, _ => rfl
  | 4, _ => rfl
  | 5, _ => rfl
  | 6, _ => rfl
  | 7, _ => rfl
  | 8, _ => rfl
  | 9, _ => rfl
  | 10, _ => rfl
  | 11, _ => rfl
  | 12, _ => rfl
  | 13, _ => rfl
  | 14, _ => rfl
  | 15, _ => rfl
  | 16, _ => rfl
  | 17, _ => rfl
  | 18, _ => rfl
  | 19, _ => rfl
  | 20, _ => rfl
  | 21, _ => rfl
  | 22, _ => rfl
  | 23, _ => rfl
  | 24, _ => rfl
  | 25, _ => rfl
  | 26, _ => rfl
  | 27, _ => rfl
  | 28, _ => rfl
  | 29, _ => rfl
  | n + 30, hn => exact absurd hn (by omega)
theorem wCs_nY {x9 : Nat → Int32} (h : oC b0 cd V) : upv (wC Z cd ik ugA ugB ugC rA pA tA rB pB tB rC pC tC cX lX oX nX sX zX cY lY oY nY sY zY tm cl KR SO SZ EL V) (cd 25) (vI Z 0 20 x9) = wC Z cd ik ugA ugB ugC rA pA tA rB pB tB rC pC tC cX lX oX nX sX zX cY lY oY x9 sY zY tm cl KR SO SZ EL V := bk_set (k := 25) h.1.1 (Nat.le_refl _) (by decide) (fun j hj => by
  unfold fC
  by_cases q : j < 30
  · rw [if_pos q, if_pos q]; exact fCas_nY j q
  · have q9 : ¬ j = 25 := by omega
    rw [if_neg q9, if_neg q, if_neg q])
theorem fCas_sY {x9 : Nat → Int32} : ∀ j, j < 30 → fCa Z cd ik ugA ugB ugC rA pA tA rB pB tB rC pC tC cX lX oX nX sX zX cY lY oY nY x9 zY tm cl KR SO SZ EL j = if j = 26 then vI Z 0 20 x9 else fCa Z cd ik ugA ugB ugC rA pA tA rB pB tB rC pC tC cX lX oX nX sX zX cY lY oY nY sY zY tm cl KR SO SZ EL j := fun j hj => by
  match j, hj with
  | 0, _ => rfl
  | 1, _ => rfl
  | 2, _ => rfl
  | 3, _ => rfl
  | 4, _ => rfl
  | 5, _ => rfl
  | 6, _ => rfl
  | 7, _ => rfl
  | 8, _ => rfl
  | 9, _ => rfl
  | 10, _ => rfl
  | 11, _ => rfl
  | 12, _ => rfl
  | 13, _ => rfl
  | 14, _ => rfl
  | 15, _ => rfl
  | 16, _ => rfl
  | 17, _ => rfl
  | 18, _ => rfl
  | 19, _ => rfl
  | 20, _ => rfl
  | 21, _ => rfl
  | 22, _ => rfl
  | 23, _ => rfl
  | 24, _ => rfl
  | 25, _ => rfl
  | 26, _ => rfl
  | 27, _ => rfl
  | 28, _ => rfl
  | 29, _ => rfl
  | n + 30, hn => exact absurd hn (by omega)
theorem wCs_sY {x9 : Nat → Int32} (h : oC b0 cd V) : upv (wC Z cd ik ugA ugB ugC rA pA tA rB pB tB rC pC tC cX lX oX nX sX zX cY lY oY nY sY zY tm cl KR SO SZ EL V) (cd 26) (vI Z 0 20 x9) = wC Z cd ik ugA ugB ugC rA pA tA rB pB tB rC pC tC cX lX oX nX sX zX cY lY oY nY x9 zY tm cl KR SO SZ EL V := bk_set (k := 26) h.1.1 (Nat.le_refl _) (by decide) (fun j hj => by
  unfold fC
  by_cases q : j < 30
  · rw [if_pos q, if_pos q]; exact fCas_sY j q
  · have q9 : ¬ j = 26 := by omega
    rw [if_neg q9, if_neg q, if_neg q])
theorem fCas_zY {x9 : Nat → Int32} : ∀ j, j < 30 → fCa Z cd ik ugA ugB ugC rA pA tA rB pB tB rC pC tC cX lX oX nX sX zX cY lY oY nY sY x9 tm cl KR SO SZ EL j = if j = 27 then vI Z 1 20 x9 else fCa Z cd ik ugA ugB ugC rA pA tA rB pB tB rC pC tC cX lX oX nX sX zX cY lY oY nY sY zY tm cl KR SO SZ EL j := fun j hj => by
  match j, hj with
  | 0, _ => rfl
  | 1, _ => rfl
  | 2, _ => rfl
  | 3, _ => rfl
  | 4, _ => rfl
  | 5, _ => rfl
  | 6, _ => rfl
  | 7, _ => rfl
  | 8, _ => rfl
  | 9, _ => rfl
  | 10, _ => rfl
  | 11, _ => rfl
  | 12, _ => rfl
  | 13, _ => rfl
  | 14, _ => rfl
  | 15, _ => rfl
  | 16, _ => rfl
  | 17, _ => rfl
  | 18, _ => rfl
  | 19, _ => rfl
  | 20, _ => rfl
  | 21, _ => rfl
  | 22, _ => rfl
  | 23, _ => rfl
  | 24, _ => rfl
  | 25, _ => rfl
  | 26, _ => rfl
  | 27, _ => rfl
  | 28, _ => rfl
  | 29, _ => rfl
  | n + 30, hn => exact absurd hn (by omega)
theorem wCs_zY {x9 : Nat → Int32} (h : oC b0 cd V) : upv (wC Z cd ik ugA ugB ugC rA pA tA rB pB tB rC pC tC cX lX oX nX sX zX cY lY oY nY sY zY tm cl KR SO SZ EL V) (cd 27) (vI Z 1 20 x9) = wC Z cd ik ugA ugB ugC rA pA tA rB pB tB rC pC tC cX lX oX nX sX zX cY lY oY nY sY x9 tm cl KR SO SZ EL V := bk_set (k := 27) h.1.1 (Nat.le_refl _) (by decide) (fun j hj => by
  unfold fC
  by_cases q : j < 30
  · rw [if_pos q, if_pos q]; exact fCas_zY j q
  · have q9 : ¬ j = 27 := by omega
    rw [if_neg q9, if_neg q, if_neg q])
theorem fCas_tm {x9 : Nat → Int32} : ∀ j, j < 30 → fCa Z cd ik ugA ugB ugC rA pA tA rB pB tB rC pC tC cX lX oX nX sX zX cY lY oY nY sY zY x9 cl KR SO SZ EL j = if j = 28 then vI Z 0 400 x9 else fCa Z cd ik ugA ugB ugC rA pA tA rB pB tB rC pC tC cX lX oX nX sX zX cY lY oY nY sY zY tm cl KR SO SZ EL j := fun j hj => by
  match j, hj with
  | 0, _ => rfl
  | 1, _ => rfl
  | 2, _ => rfl
  | 3, _ => rfl
  | 4, _ => rfl
  | 5, _ => rfl
  | 6, _ => rfl
  | 7, _ => rfl
  | 8, _ => rfl
  | 9, _ => rfl
  | 10, _ => rfl
  | 11, _ => rfl
  | 12, _ => rfl
  | 13, _ => rfl
  | 14, _ => rfl
  | 15, _ => rfl
  | 16, _ => rfl
  | 17, _ => rfl
  | 18, _ => rfl
  | 19, _ => rfl
  | 20, _ => rfl
  | 21, _ => rfl
  | 22, _ => rfl
  | 23, _ => rfl
  | 24, _ => rfl
  | 25, _ => rfl
  | 26, _ => rfl
  | 27, _ => rfl
  | 28, _ => rfl
  | 29, _ => rfl
  | n + 30, hn => exact absurd hn (by omega)
theorem wCs_tm {x9 : Nat → Int32} (h : oC b0 cd V) : upv (wC Z cd ik ugA ugB ugC rA pA tA rB pB tB rC pC tC cX lX oX nX sX zX cY lY oY nY sY zY tm cl KR SO SZ EL V) (cd 28) (vI Z 0 400 x9) = wC Z cd ik ugA ugB ugC rA pA tA rB pB tB rC pC tC cX lX oX nX sX zX cY lY oY nY sY zY x9 cl KR SO SZ EL V := bk_set (k := 28) h.1.1 (Nat.le_refl _) (by decide) (fun j hj => by
  unfold fC
  by_cases q : j < 30
  · rw [if_pos q, if_pos q]; exact fCas_tm j q
  · have q9 : ¬ j = 28 := by omega
    rw [if_neg q9, if_neg q, if_neg q])
theorem fCas_cl {x9 : Nat → Int32} : ∀ j, j < 30 → fCa Z cd ik ugA ugB ugC rA pA tA rB pB tB rC pC tC cX lX oX nX sX zX cY lY oY nY sY zY tm x9 KR SO SZ EL j = if j = 29 then vI Z 0 8 x9 else fCa Z cd ik ugA ugB ugC rA pA tA rB pB tB rC pC tC cX lX oX nX sX zX cY lY oY nY sY zY tm cl KR SO SZ EL j := fun j hj => by
  match j, hj with
  | 0, _ => rfl
  | 1, _ => rfl
  | 2, _ => rfl
  | 3, _ => rfl
  | 4, _ => rfl
  | 5, _ => rfl
  | 6, _ => rfl
  | 7, _ => rfl
  | 8, _ => rfl
  | 9, _ => rfl
  | 10, _ => rfl
  | 11, _ => rfl
  | 12, _ => rfl
  | 13, _ => rfl
  | 14, _ => rfl
  | 15, _ => rfl
  | 16, _ => rfl
  | 17, _ => rfl
  | 18, _ => rfl
  | 19, _ => rfl
  | 20, _ => rfl
  | 21, _ => rfl
  | 22, _ => rfl
  | 23, _ => rfl
  | 24, _ => rfl
  | 25, _ => rfl
  | 26, _ => rfl
  | 27, _ => rfl
  | 28, _ => rfl
  | 29, _ => rfl
  | n + 30, hn => exact absurd hn (by omega)
theorem wCs_cl {x9 : Nat → Int32} (h : oC b0 cd V) : upv (wC Z cd ik ugA ugB ugC rA pA tA rB pB tB rC pC tC cX lX oX nX sX zX cY lY oY nY sY zY tm cl KR SO SZ EL V) (cd 29) (vI Z 0 8 x9) = wC Z cd ik ugA ugB ugC rA pA tA rB pB tB rC pC tC cX lX oX nX sX zX cY lY oY nY sY zY tm x9 KR SO SZ EL V := bk_set (k := 29) h.1.1 (Nat.le_refl _) (by decide) (fun j hj => by
  unfold fC
  by_cases q : j < 30
  · rw [if_pos q, if_pos q]; exact fCas_cl j q
  · have q9 : ¬ j = 29 := by omega
    rw [if_neg q9, if_neg q, if_neg q])
theorem wCs_KR {d : Nat} {x9 : Option Nat} (h : oC b0 cd V) (hd : d < 8) : upv (wC Z cd ik ugA ugB ugC rA pA tA rB pB tB rC pC tC cX lX oX nX sX zX cY lY oY nY sY zY tm cl KR SO SZ EL V) (cd (30 + d)) (vO 7 (([va_rf (KR d), .int (SO d), .int (nI (SZ d)), .ref (cd (38 + d))] : List Value).set 0 (va_rf x9))) = wC Z cd ik ugA ugB ugC rA pA tA rB pB tB rC pC tC cX lX oX nX sX zX cY lY oY nY sY zY tm cl (upF KR d x9) SO SZ EL V := bk_set (k := 30 + d) h.1.1 (Nat.le_refl _) (by omega) (fun j hj => by
  by_cases q0 : j = 30 + d
  · subst q0; rw [if_pos rfl, fC_sh hd, upF_eq]; rfl
  · rw [if_neg q0]
    unfold fC
    by_cases q : j < 30
    · rw [if_pos q, if_pos q]; revert j; intro j hj q0 q; match j, q with
      | 0, _ => rfl
      | 1, _ => rfl
      | 2, _ => rfl
      | 3, _ => rfl
      | 4, _ => rfl
      | 5, _ => rfl
      | 6, _ => rfl
      | 7, _ => rfl
      | 8, _ => rfl
      | 9, _ => rfl
      | 10, _ => rfl
      | 11, _ => rfl
      | 12, _ => rfl
      | 13, _ => rfl
      | 14, _ => rfl
      | 15, _ => rfl
      | 16, _ => rfl
      | 17, _ => rfl
      | 18, _ => rfl
      | 19, _ => rfl
      | 20, _ => rfl
      | 21, _ => rfl
      | 22, _ => rfl
      | 23, _ => rfl
      | 24, _ => rfl
      | 25, _ => rfl
      | 26, _ => rfl
      | 27, _ => rfl
      | 28, _ => rfl
      | 29, _ => rfl
      | n + 30, hn => exact absurd hn (by omega)
    · rw [if_neg q, if_neg q]
      by_cases q1 : j < 38
      · rw [if_pos q1, if_pos q1]; show vO 7 [_, _, _, _] = vO 7 [_, _, _, _]; rw [upF_ne (show j - 30 ≠ d by omega)]
      · rw [if_neg q1, if_neg q1])
theorem wCs_SO {d : Nat} {x9 : Int32} (h : oC b0 cd V) (hd : d < 8) : upv (wC Z cd ik ugA ugB ugC rA pA tA rB pB tB rC pC tC cX lX oX nX sX zX cY lY oY nY sY zY tm cl KR SO SZ EL V) (cd (30 + d)) (vO 7 (([va_rf (KR d), .int (SO d), .int (nI (SZ d)), .ref (cd (38 + d))] : List Value).set 1 (.int x9))) = wC Z cd ik ugA ugB ugC rA pA tA rB pB tB rC pC tC cX lX oX nX sX zX cY lY oY nY sY zY tm cl KR (upd SO d x9) SZ EL V := bk_set (k := 30 + d) h.1.1 (Nat.le_refl _) (by omega) (fun j hj => by
  by_cases q0 : j = 30 + d
  · subst q0; rw [if_pos rfl, fC_sh hd, upd_eq]; rfl
  · rw [if_neg q0]
    unfold fC
    by_cases q : j < 30
    · rw [if_pos q, if_pos q]; revert j; intro j hj q0 q; match j, q with
      | 0, _ => rfl
      | 1, _ => rfl
      | 2, _ => rfl
      | 3, _ => rfl
      | 4, _ => rfl
      | 5, _ => rfl
      | 6, _ => rfl
      | 7, _ => rfl
      | 8, _ => rfl
      | 9, _ => rfl
      | 10, _ => rfl
      | 11, _ => rfl
      | 12, _ => rfl
      | 13, _ => rfl
      | 14, _ => rfl
      | 15, _ => rfl
      | 16, _ => rfl
      | 17, _ => rfl
      | 18, _ => rfl
      | 19, _ => rfl
      | 20, _ => rfl
      | 21, _ => rfl
      | 22, _ => rfl
      | 23, _ => rfl
      | 24, _ => rfl
      | 25, _ => rfl
      | 26, _ => rfl
      | 27, _ => rfl
      | 28, _ => rfl
      | 29, _ => rfl
      | n + 30, hn => exact absurd hn (by omega)
    · rw [if_neg q, if_neg q]
      by_cases q1 : j < 38
      · rw [if_pos q1, if_pos q1]; show vO 7 [_, _, _, _] = vO 7 [_, _, _, _]; rw [upd_ne (show j - 30 ≠ d by omega)]
      · rw [if_neg q1, if_neg q1])
theorem wCs_SZ {d : Nat} {x9 : Nat} (h : oC b0 cd V) (hd : d < 8) : upv (wC Z cd ik ugA ugB ugC rA pA tA rB pB tB rC pC tC cX lX oX nX sX zX cY lY oY nY sY zY tm cl KR SO SZ EL V) (cd (30 + d)) (vO 7 (([va_rf (KR d), .int (SO d), .int (nI (SZ d)), .ref (cd (38 + d))] : List Value).set 2 (.int (nI x9)))) = wC Z cd ik ugA ugB ugC rA pA tA rB pB tB rC pC tC cX lX oX nX sX zX cY lY oY nY sY zY tm cl KR SO (updN SZ d x9) EL V := bk_set (k := 30 + d) h.1.1 (Nat.le_refl _) (by omega) (fun j hj => by
  by_cases q0 : j = 30 + d
  · subst q0; rw [if_pos rfl, fC_sh hd, updN_eq]; rfl
  · rw [if_neg q0]
    unfold fC
    by_cases q : j < 30
    · rw [if_pos q, if_pos q]; revert j; intro j hj q0 q; match j, q with
      | 0, _ => rfl
      | 1, _ => rfl
      | 2, _ => rfl
      | 3, _ => rfl
      | 4, _ => rfl
      | 5, _ => rfl
      | 6, _ => rfl
      | 7, _ => rfl
      | 8, _ => rfl
      | 9, _ => rfl
      | 10, _ => rfl
      | 11, _ => rfl
      | 12, _ => rfl
      | 13, _ => rfl
      | 14, _ => rfl
      | 15, _ => rfl
      | 16, _ => rfl
      | 17, _ => rfl
      | 18, _ => rfl
      | 19, _ => rfl
      | 20, _ => rfl
      | 21, _ => rfl
      | 22, _ => rfl
      | 23, _ => rfl
      | 24, _ => rfl
      | 25, _ => rfl
      | 26, _ => rfl
      | 27, _ => rfl
      | 28, _ => rfl
      | 29, _ => rfl
      | n + 30, hn => exact absurd hn (by omega)
    · rw [if_neg q, if_neg q]
      by_cases q1 : j < 38
      · rw [if_pos q1, if_pos q1]; show vO 7 [_, _, _, _] = vO 7 [_, _, _, _]; rw [updN_ne (show j - 30 ≠ d by omega)]
      · rw [if_neg q1, if_neg q1])
theorem wCs_EL {d : Nat} {x9 : Nat → Int32} (h : oC b0 cd V) (hd : d < 8) : upv (wC Z cd ik ugA ugB ugC rA pA tA rB pB tB rC pC tC cX lX oX nX sX zX cY lY oY nY sY zY tm cl KR SO SZ EL V) (cd (38 + d)) (vI Z 0 100 x9) = wC Z cd ik ugA ugB ugC rA pA tA rB pB tB rC pC tC cX lX oX nX sX zX cY lY oY nY sY zY tm cl KR SO SZ (upF EL d x9) V := bk_set (k := 38 + d) h.1.1 (Nat.le_refl _) (by omega) (fun j hj => by
  by_cases q0 : j = 38 + d
  · subst q0; rw [if_pos rfl, fC_el, upF_eq]
  · rw [if_neg q0]
    unfold fC
    by_cases q : j < 30
    · rw [if_pos q, if_pos q]; match j, q with
      | 0, _ => rfl
      | 1, _ => rfl
      | 2, _ => rfl
      | 3, _ => rfl
      | 4, _ => rfl
      | 5, _ => rfl
      | 6, _ => rfl
      | 7, _ => rfl
      | 8, _ => rfl
      | 9, _ => rfl
      | 10, _ => rfl
      | 11, _ => rfl
      | 12, _ => rfl
      | 13, _ => rfl
      | 14, _ => rfl
      | 15, _ => rfl
      | 16, _ => rfl
      | 17, _ => rfl
      | 18, _ => rfl
      | 19, _ => rfl
      | 20, _ => rfl
      | 21, _ => rfl
      | 22, _ => rfl
      | 23, _ => rfl
      | 24, _ => rfl
      | 25, _ => rfl
      | 26, _ => rfl
      | 27, _ => rfl
      | 28, _ => rfl
      | 29, _ => rfl
      | n + 30, hn => exact absurd hn (by omega)
    · rw [if_neg q, if_neg q]
      by_cases q1 : j < 38
      · rw [if_pos q1, if_pos q1]
      · rw [if_neg q1, if_neg q1, upF_ne (show j - 38 ≠ d by omega)])
end CS
