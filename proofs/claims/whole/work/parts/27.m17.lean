section MS
variable {l : Launch} {D : va_G} {Z : Nat → ClassId} {b0 : Nat} {ad : Nat → Nat} {hi th po ba en se : Int32} {s im rd mi kp so sz el ki kf ti lo wa nu li to ot : Nat → Int32} {kd fg pl : Nat → Nat} {hr : Nat → Int32} {V : HV}
def mxI (a b : Int32) : Int32 := if a < b then b else a
def mnI (a b : Int32) : Int32 := if b < a then b else a
theorem mxI_n {a b : Nat} (ha : a < 2147483648) (hb : b < 2147483648) : mxI (nI a) (nI b) = nI (if a < b then b else a) := by
  unfold mxI; have h : (nI a < nI b) ↔ a < b := by rw [Int32.lt_iff_toInt_lt, nI_toInt ha, nI_toInt hb]; omega
  by_cases q : a < b
  · rw [if_pos q, if_pos (h.mpr q)]
  · rw [if_neg q, if_neg (fun z => q (h.mp z))]
theorem mnI_n {a b : Nat} (ha : a < 2147483648) (hb : b < 2147483648) : mnI (nI a) (nI b) = nI (if b < a then b else a) := by
  unfold mnI; have h : (nI b < nI a) ↔ b < a := by rw [Int32.lt_iff_toInt_lt, nI_toInt ha, nI_toInt hb]; omega
  by_cases q : b < a
  · rw [if_pos q, if_pos (h.mpr q)]
  · rw [if_neg q, if_neg (fun z => q (h.mp z))]
theorem g_jmax {l : Launch} {D : va_G} {Z : Nat → ClassId} {b0 : Nat} {R : Room} {own : String} {cc : ByteArray} {nL : Nat} {E : Method → Array Value → State → Prop} {T : List Frame → Array Value → State → State → Prop} {V : HV} {L : List (Nat × Value)} {k n pc : Nat} {rest : List Value} {x y : Int32} {index : Nat} (hl : Cond.methodLink own index yJ9_max_7cf53 ∈ TB) (hR : 1 ≤ R.frames ∧ 21 ≤ R.locals) (hcat : (rest.map fun v => v.category).sum ≤ 8) (hdg : decode cc pc = .ok (.invokestatic index, 3)) (hf : k ≤ R.cells ∧ n ≤ R.slots) (kk : G l D Z b0 R own cc nL E T V L k n (pc + 3) (.int (mxI x y) :: rest)) : G l D Z b0 R own cc nL E T V L k n pc (.int y :: .int x :: rest) := fun p e s m args below meth c H locs ls X hE hV hS hL =>
  va_mmax X.1 X.2.1 (X.2.2.1.trans hL.1.symm) X.2.2.2.1 (X.2.2.2.2.1 _ hl) (X.2.2.2.2.1 _ mJ9_max_7cf53.1.1) (X.2.2.2.2.1 _ mJ9_max_7cf53.1.2.1) (X.2.2.2.2.1 _ mJ9_max_7cf53.1.2.2) hR.1 (by omega) hf.1 hf.2 hdg (kk p e s m args below meth c H locs ls X hE hV hS hL)
theorem g_jmin {l : Launch} {D : va_G} {Z : Nat → ClassId} {b0 : Nat} {R : Room} {own : String} {cc : ByteArray} {nL : Nat} {E : Method → Array Value → State → Prop} {T : List Frame → Array Value → State → State → Prop} {V : HV} {L : List (Nat × Value)} {k n pc : Nat} {rest : List Value} {x y : Int32} {index : Nat} (hl : Cond.methodLink own index yJ9_min_7cf53 ∈ TB) (hR : 1 ≤ R.frames ∧ 21 ≤ R.locals) (hcat : (rest.map fun v => v.category).sum ≤ 8) (hdg : decode cc pc = .ok (.invokestatic index, 3)) (hf : k ≤ R.cells ∧ n ≤ R.slots) (kk : G l D Z b0 R own cc nL E T V L k n (pc + 3) (.int (mnI x y) :: rest)) : G l D Z b0 R own cc nL E T V L k n pc (.int y :: .int x :: rest) := fun p e s m args below meth c H locs ls X hE hV hS hL =>
  va_mmin X.1 X.2.1 (X.2.2.1.trans hL.1.symm) X.2.2.2.1 (X.2.2.2.2.1 _ hl) (X.2.2.2.2.1 _ mJ9_min_7cf53.1.1) (X.2.2.2.2.1 _ mJ9_min_7cf53.1.2.1) (X.2.2.2.2.1 _ mJ9_min_7cf53.1.2.2) hR.1 (by omega) hf.1 hf.2 hdg (kk p e s m args below meth c H locs ls X hE hV hS hL)
theorem e_callPP {l : Launch} {D : va_G} {Z : Nat → ClassId} {b0 : Nat} {R : Room} {own : String} {cc : ByteArray} {nL : Nat} {E : Method → Array Value → State → Prop} {T : List Frame → Array Value → State → State → Prop} {V : HV} {L : List (Nat × Value)} {k n pc : Nat} {rest : List Value} {x y : MethodName} {bytes : ByteArray} {maxL n0 index : Nat} {ret : Option FieldType} {rm : Room} {r : Value} {V2 : HV} {k2 n2 : Nat} {As st : List Value} {C : String} {b ci N : Nat} {F : u_T} {fs : List Value} (hb : V b = some (vO ci fs)) (hc : vwCl[ci]? = some (C, F, N)) (hx : x.name ≠ "<init>") (hxy : y = ⟨y.cls, x.name, x.desc⟩) (hM : KE l D Z b0 y bytes maxL ret rm (.ref b :: As) V (some r) V2) (hl : Cond.methodLink own index x ∈ TB) (hsm : Cond.sameMethod x.cls y.cls x.name x.desc ∈ TB) (hsup : Cond.superclass own x.cls ∈ TB) (hsup2 : Cond.superclass x.cls y.cls ∈ TB) (hm : mV y bytes maxL ret n0) (hR : rm.frames + 1 ≤ R.frames ∧ 8 + (maxL + 11) + rm.locals ≤ R.locals) (hn : As.length = n0) (hst : st = As.reverse ++ .ref b :: rest) (hcat : (rest.map fun v => v.category).sum ≤ 8) (hdg : decode cc pc = .ok (.invokespecial index, 3)) (hf : k + rm.cells ≤ R.cells ∧ n + rm.slots ≤ R.slots) (hk2 : k + rm.cells = k2) (hn2 : n + rm.slots = n2) (kk : G l D Z b0 R own cc nL E T V2 L k2 n2 (pc + 3) (r :: rest)) : G l D Z b0 R own cc nL E T V L k n pc st := by
  subst hk2; subst hn2
  intro p e s m args below meth c H locs ls X hE hV hS hL T9 hT X9
  have hG : GoodIn TB (.code y bytes maxL ret :: TB) := TB_sub (TB_cons hm.1.2.2)
  have hts := X.2.2.2.2.1
  obtain ⟨v, st₀, t, T', L9, h0, X', hL9, e1, e2, ⟨⟨v', V', hv, hp, hb⟩, hz, hk⟩, stp⟩ := vu_runSU ((X.2.2.2.2.2.1.1.1 ci _ hc).2) ⟨X.1, X.2.1, X.2.2.1, X.2.2.2.1, hts⟩ hM rfl rfl rfl hG hxy hl hsm hsup hsup2 hm.1.1 hm.1.2.1 hx hm.2.2.2 hR ⟨kP.blind, va_recv X.2.2.2.2.2.1.1 (hV.one hb) (ci := ci) (q0 := 0) hc rfl, fun U hU hW => ⟨rfl, by rw [hU]; exact hV, X.2.2.2.2.2.1.warm hW, by rw [hU]; exact Nat.le_trans X.2.2.2.2.2.2.1 hS.1⟩⟩ (g := F0 m pc ls st) (rest := rest) (cells := k) (slots := n) rfl hn hL.1 hst (lv_room (ls := ls) (rest := st) hcat) hdg hf T9 hT X9
  cases hv
  rw [h0] at hz hk
  obtain ⟨hp1, hp2⟩ := hp
  subst hp1; subst hp2
  obtain ⟨t2, a1, b1⟩ := kk p e s m args below meth c T'.heap (locs ++ L9) ls X hE (by rw [e1]; exact hb) ⟨Nat.le_trans hS.1 (by rw [e1]; exact hz), fun q h1 h2 => by rw [e1, hk q (Nat.lt_of_lt_of_le h1 hS.1) h2]; exact hS.2.1 q h1 h2, fun q hq => by
      rcases List.mem_append.mp hq with h | h
      · exact hS.2.2 q h
      · exact hL9 q h⟩ hL T' rfl X'
  exact ⟨t2, stp t2 a1, b1⟩
def xX4_loss : MethodName := ⟨RX4, "loss", "()I"⟩
theorem mlX1_9_up : Cond.methodLink RX1 9 xX4_loss ∈ TB := TB_in 442 (by decide +kernel) (by decide +kernel)
def xX4_worth : MethodName := ⟨RX4, "worth", "()I"⟩
theorem mlX1_13_up : Cond.methodLink RX1 13 xX4_worth ∈ TB := TB_in 703 (by decide +kernel) (by decide +kernel)
theorem rk_kind_2 {f : Nat} (hf : f < 10) : nI 2 = nI 2 := by first | rfl | decide
def rmX0_kind : Room := { frames := 0, cells := 0, slots := 0, locals := 0 }
set_option maxHeartbeats 8000000 in
theorem c_X0_kind_c0 {a f : Nat} (hf : f < 10) (ha : V a = some (vO 0 [.int (nI f)])) : KE l D Z b0 yX0_kind cX0_kind 1 (some .int) rmX0_kind [.ref a] (V) (some (.int (nI 2))) (V) := by
  refine KE.of (by decide) (Nat.le_of_ble_eq_true rfl) (fun Po hPo => ?_)
  refine G.locals (L' := [(0, .ref a)]) [0] rfl ?_
  refine g_iconst (v := nI 2) (pc := 0) dX0_kind_0 (by decide) ?_
  exact g_iret (pc := 1) (by decide) (by decide) (eqI hPo (rk_kind_2 hf)) dX0_kind_1
def rmX6_slow : Room := { frames := 0, cells := 0, slots := 0, locals := 0 }
set_option maxHeartbeats 8000000 in
theorem c_X6_slow_c0 {a f : Nat} (hf : f < 10) (ha : V a = some (vO 0 [.int (nI f)])) : KE l D Z b0 yX6_slow cX6_slow 1 (some .int) rmX6_slow [.ref a] (V) (some (.int (nI 4))) (V) := by
  refine KE.of (by decide) (Nat.le_of_ble_eq_true rfl) (fun Po hPo => ?_)
  refine G.locals (L' := [(0, .ref a)]) [0] rfl ?_
  refine g_iconst (v := nI 4) (pc := 0) dX6_slow_0 (by decide) ?_
  exact g_iret (pc := 1) (by decide) (by decide) (hPo) dX6_slow_1
theorem rk_slow_2 {f : Nat} (hf : f < 10) : nI (slowN 2 f) = nI (4 + f) := (by decide +kernel : ∀ f, f < 10 → nI (slowN 2 f) = nI (4 + f)) f hf
def rmX0_slow : Room := { frames := 1, cells := 0, slots := 0, locals := 20 }
set_option maxHeartbeats 8000000 in
theorem c_X0_slow_c0 {a f : Nat} (hf : f < 10) (ha : V a = some (vO 0 [.int (nI f)])) : KE l D Z b0 yX0_slow cX0_slow 1 (some .int) rmX0_slow [.ref a] (V) (some (.int (nI (slowN 2 f)))) (V) := by
  refine KE.of (by decide) (Nat.le_of_ble_eq_true rfl) (fun Po hPo => ?_)
  refine G.locals (L' := [(0, .ref a)]) [0] rfl ?_
  refine g_aload_n (q := 0) (pc := 0) dX0_slow_0 rfl rfl ?_
  refine e_callP (k2 := 0) (n2 := 0) (As := []) (rest := []) (pc := 1) ha rfl (by decide) (c_X6_slow_c0 hf ha) mlX0_9 smX6_X6_slow suX0_X6 mX6_slow ⟨Nat.le_of_ble_eq_true rfl, Nat.le_of_ble_eq_true rfl⟩ rfl rfl (Nat.le_of_ble_eq_true rfl) dX0_slow_1 (by decide) rfl rfl ?_
  refine g_aload_n (q := 0) (pc := 4) dX0_slow_4 rfl rfl ?_
  refine g_get (C := RX0) (F := TX0) (N := 1) (ci := 0) (pc := 5) ha rfl inX0 0 (by decide) flX0_13 (Or.inr sfX0_figure) rfl dX0_slow_5 ?_
  refine g_iadd_N (pc := 8) dX0_slow_8 ?_
  exact g_iret (pc := 9) (by decide) (by decide) (eqI hPo (rk_slow_2 hf)) dX0_slow_9
def rmX6_loss : Room := { frames := 0, cells := 0, slots := 0, locals := 0 }
set_option maxHeartbeats 8000000 in
theorem c_X6_loss_c0 {a f : Nat} (hf : f < 10) (ha : V a = some (vO 0 [.int (nI f)])) : KE l D Z b0 yX6_loss cX6_loss 1 (some .int) rmX6_loss [.ref a] (V) (some (.int (nI 2))) (V) := by
  refine KE.of (by decide) (Nat.le_of_ble_eq_true rfl) (fun Po hPo => ?_)
  refine G.locals (L' := [(0, .ref a)]) [0] rfl ?_
  refine g_iconst (v := nI 2) (pc := 0) dX6_loss_0 (by decide) ?_
  exact g_iret (pc := 1) (by decide) (by decide) (hPo) dX6_loss_1
theorem rk_loss_2 {f : Nat} (hf : f < 10) : nI (lossN 2 f) = nI (2 + 3) := by first | rfl | decide
def rmX0_loss : Room := { frames := 1, cells := 0, slots := 0, locals := 20 }
set_option maxHeartbeats 8000000 in
theorem c_X0_loss_c0 {a f : Nat} (hf : f < 10) (ha : V a = some (vO 0 [.int (nI f)])) : KE l D Z b0 yX0_loss cX0_loss 1 (some .int) rmX0_loss [.ref a] (V) (some (.int (nI (lossN 2 f)))) (V) := by
  refine KE.of (by decide) (Nat.le_of_ble_eq_true rfl) (fun Po hPo => ?_)
  refine G.locals (L' := [(0, .ref a)]) [0] rfl ?_
  refine g_aload_n (q := 0) (pc := 0) dX0_loss_0 rfl rfl ?_
  refine e_callP (k2 := 0) (n2 := 0) (As := []) (rest := []) (pc := 1) ha rfl (by decide) (c_X6_loss_c0 hf ha) mlX0_19 smX6_X6_loss suX0_X6 mX6_loss ⟨Nat.le_of_ble_eq_true rfl, Nat.le_of_ble_eq_true rfl⟩ rfl rfl (Nat.le_of_ble_eq_true rfl) dX0_loss_1 (by decide) rfl rfl ?_
  refine g_iconst (v := nI 3) (pc := 4) dX0_loss_4 (by decide) ?_
  refine g_iadd_N (pc := 5) dX0_loss_5 ?_
  exact g_iret (pc := 6) (by decide) (by decide) (eqI hPo (rk_loss_2 hf)) dX0_loss_6
def rmX6_toil : Room := { frames := 0, cells := 0, slots := 0, locals := 0 }
set_option maxHeartbeats 8000000 in
theorem c_X6_toil_c0 {a f : Nat} (hf : f < 10) (ha : V a = some (vO 0 [.int (nI f)])) : KE l D Z b0 yX6_toil cX6_toil 1 (some .int) rmX6_toil [.ref a] (V) (some (.int (nI 5))) (V) := by
  refine KE.of (by decide) (Nat.le_of_ble_eq_true rfl) (fun Po hPo => ?_)
  refine G.locals (L' := [(0, .ref a)]) [0] rfl ?_
  refine g_iconst (v := nI 5) (pc := 0) dX6_toil_0 (by decide) ?_
  exact g_iret (pc := 1) (by decide) (by decide) (hPo) dX6_toil_1
theorem rk_toil_2 {f : Nat} (hf : f < 10) : nI (toilN 2 f) = nI (5 - 2) := by first | rfl | decide
def rmX0_toil : Room := { frames := 1, cells := 0, slots := 0, locals := 20 }
set_option maxHeartbeats 8000000 in
theorem c_X0_toil_c0 {a f : Nat} (hf : f < 10) (ha : V a = some (vO 0 [.int (nI f)])) : KE l D Z b0 yX0_toil cX0_toil 1 (some .int) rmX0_toil [.ref a] (V) (some (.int (nI (toilN 2 f)))) (V) := by
  refine KE.of (by decide) (Nat.le_of_ble_eq_true rfl) (fun Po hPo => ?_)
  refine G.locals (L' := [(0, .ref a)]) [0] rfl ?_
  refine g_aload_n (q := 0) (pc := 0) dX0_toil_0 rfl rfl ?_
  refine e_callP (k2 := 0) (n2 := 0) (As := []) (rest := []) (pc := 1) ha rfl (by decide) (c_X6_toil_c0 hf ha) mlX0_22 smX6_X6_toil suX0_X6 mX6_toil ⟨Nat.le_of_ble_eq_true rfl, Nat.le_of_ble_eq_true rfl⟩ rfl rfl (Nat.le_of_ble_eq_true rfl) dX0_toil_1 (by decide) rfl rfl ?_
  refine g_iconst (v := nI 2) (pc := 4) dX0_toil_4 (by decide) ?_
  refine g_isub_N (pc := 5) (by omega) dX0_toil_5 ?_
  exact g_iret (pc := 6) (by decide) (by decide) (eqI hPo (rk_toil_2 hf)) dX0_toil_6
def rmX6_worth : Room := { frames := 0, cells := 0, slots := 0, locals := 0 }
set_option maxHeartbeats 8000000 in
theorem c_X6_worth_c0 {a f : Nat} (hf : f < 10) (ha : V a = some (vO 0 [.int (nI f)])) : KE l D Z b0 yX6_worth cX6_worth 1 (some .int) rmX6_worth [.ref a] (V) (some (.int (nI 3))) (V) := by
  refine KE.of (by decide) (Nat.le_of_ble_eq_true rfl) (fun Po hPo => ?_)
  refine G.locals (L' := [(0, .ref a)]) [0] rfl ?_
  refine g_iconst (v := nI 3) (pc := 0) dX6_worth_0 (by decide) ?_
  exact g_iret (pc := 1) (by decide) (by decide) (hPo) dX6_worth_1
theorem rk_worth_2 {f : Nat} (hf : f < 10) : payI 2 f = nI (3 - 1) := by first | rfl | decide
def rmX0_worth : Room := { frames := 1, cells := 0, slots := 0, locals := 20 }
set_option maxHeartbeats 8000000 in
theorem c_X0_worth_c0 {a f : Nat} (hf : f < 10) (ha : V a = some (vO 0 [.int (nI f)])) : KE l D Z b0 yX0_worth cX0_worth 1 (some .int) rmX0_worth [.ref a] (V) (some (.int (payI 2 f))) (V) := by
  refine KE.of (by decide) (Nat.le_of_ble_eq_true rfl) (fun Po hPo => ?_)
  refine G.locals (L' := [(0, .ref a)]) [0] rfl ?_
  refine g_aload_n (q := 0) (pc := 0) dX0_worth_0 rfl rfl ?_
  refine e_callP (k2 := 0) (n2 := 0) (As := []) (rest := []) (pc := 1) ha rfl (by decide) (c_X6_worth_c0 hf ha) mlX0_25 smX6_X6_worth suX0_X6 mX6_worth ⟨Nat.le_of_ble_eq_true rfl, Nat.le_of_ble_eq_true rfl⟩ rfl rfl (Nat.le_of_ble_eq_true rfl) dX0_worth_1 (by decide) rfl rfl ?_
  refine g_iconst (v := nI 1) (pc := 4) dX0_worth_4 (by decide) ?_
  refine g_isub_N (pc := 5) (by omega) dX0_worth_5 ?_
  exact g_iret (pc := 6) (by decide) (by decide) (eqI hPo (rk_worth_2 hf)) dX0_worth_6
theorem rk_kind_7 {f : Nat} (hf : f < 10) : nI 7 = nI 7 := by first | rfl | decide
def rmX1_kind : Room := { frames := 0, cells := 0, slots := 0, locals := 0 }
set_option maxHeartbeats 8000000 in
theorem c_X1_kind_c1 {a f : Nat} (hf : f < 10) (ha : V a = some (vO 1 [.int (nI f)])) : KE l D Z b0 yX1_kind cX1_kind 1 (some .int) rmX1_kind [.ref a] (V) (some (.int (nI 7))) (V) := by
  refine KE.of (by decide) (Nat.le_of_ble_eq_true rfl) (fun Po hPo => ?_)
  refine G.locals (L' := [(0, .ref a)]) [0] rfl ?_
  refine g_bipush (v := nI 7) (pc := 0) dX1_kind_0 (by decide) ?_
  exact g_iret (pc := 2) (by decide) (by decide) (eqI hPo (rk_kind_7 hf)) dX1_kind_2
set_option maxHeartbeats 8000000 in
theorem c_X6_slow_c1 {a f : Nat} (hf : f < 10) (ha : V a = some (vO 1 [.int (nI f)])) : KE l D Z b0 yX6_slow cX6_slow 1 (some .int) rmX6_slow [.ref a] (V) (some (.int (nI 4))) (V) := by
  refine KE.of (by decide) (Nat.le_of_ble_eq_true rfl) (fun Po hPo => ?_)
  refine G.locals (L' := [(0, .ref a)]) [0] rfl ?_
  refine g_iconst (v := nI 4) (pc := 0) dX6_slow_0 (by decide) ?_
  exact g_iret (pc := 1) (by decide) (by decide) (hPo) dX6_slow_1
theorem rk_slow_7 {f : Nat} (hf : f < 10) : nI (slowN 7 f) = nI (4 - 3) := by first | rfl | decide
def rmX4_slow : Room := { frames := 1, cells := 0, slots := 0, locals := 20 }
set_option maxHeartbeats 8000000 in
theorem c_X4_slow_c1 {a f : Nat} (hf : f < 10) (ha : V a = some (vO 1 [.int (nI f)])) : KE l D Z b0 yX4_slow cX4_slow 1 (some .int) rmX4_slow [.ref a] (V) (some (.int (nI (slowN 7 f)))) (V) := by
  refine KE.of (by decide) (Nat.le_of_ble_eq_true rfl) (fun Po hPo => ?_)
  refine G.locals (L' := [(0, .ref a)]) [0] rfl ?_
  refine g_aload_n (q := 0) (pc := 0) dX4_slow_0 rfl rfl ?_
  refine e_callP (k2 := 0) (n2 := 0) (As := []) (rest := []) (pc := 1) ha rfl (by decide) (c_X6_slow_c1 hf ha) mlX4_9 smX6_X6_slow suX4_X6 mX6_slow ⟨Nat.le_of_ble_eq_true rfl, Nat.le_of_ble_eq_true rfl⟩ rfl rfl (Nat.le_of_ble_eq_true rfl) dX4_slow_1 (by decide) rfl rfl ?_
  refine g_iconst (v := nI 3) (pc := 4) dX4_slow_4 (by decide) ?_
  refine g_isub_N (pc := 5) (by omega) dX4_slow_5 ?_
  exact g_iret (pc := 6) (by decide) (by decide) (eqI hPo (rk_slow_7 hf)) dX4_slow_6
set_option maxHeartbeats 8000000 in
theorem c_X6_loss_c1 {a f : Nat} (hf : f < 10) (ha : V a = some (vO 1 [.int (nI f)])) : KE l D Z b0 yX6_loss cX6_loss 1 (some .int) rmX6_loss [.ref a] (V) (some (.int (nI 2))) (V) := by
  refine KE.of (by decide) (Nat.le_of_ble_eq_true rfl) (fun Po hPo => ?_)
  refine G.locals (L' := [(0, .ref a)]) [0] rfl ?_
  refine g_iconst (v := nI 2) (pc := 0) dX6_loss_0 (by decide) ?_
  exact g_iret (pc := 1) (by decide) (by decide) (hPo) dX6_loss_1
theorem rk_loss_7 {f : Nat} (hf : f < 10) : nI (lossN 7 f) = nI (2 - 1) := by first | rfl | decide
def rmX1_loss : Room := { frames := 1, cells := 0, slots := 0, locals := 20 }
set_option maxHeartbeats 8000000 in
theorem c_X1_loss_c1 {a f : Nat} (hf : f < 10) (ha : V a = some (vO 1 [.int (nI f)])) : KE l D Z b0 yX1_loss cX1_loss 1 (some .int) rmX1_loss [.ref a] (V) (some (.int (nI (lossN 7 f)))) (V) := by
  refine KE.of (by decide) (Nat.le_of_ble_eq_true rfl) (fun Po hPo => ?_)
  refine G.locals (L' := [(0, .ref a)]) [0] rfl ?_
  refine g_aload_n (q := 0) (pc := 0) dX1_loss_0 rfl rfl ?_
  refine e_callPP (k2 := 0) (n2 := 0) (As := []) (rest := []) (pc := 1) ha rfl (by decide) rfl (c_X6_loss_c1 hf ha) mlX1_9_up smX4_X6_loss suX1_X4 suX4_X6 mX6_loss ⟨Nat.le_of_ble_eq_true rfl, Nat.le_of_ble_eq_true rfl⟩ rfl rfl (Nat.le_of_ble_eq_true rfl) dX1_loss_1 (by decide) rfl rfl ?_
  refine g_iconst (v := nI 1) (pc := 4) dX1_loss_4 (by decide) ?_
  refine g_isub_N (pc := 5) (by omega) dX1_loss_5 ?_
  exact g_iret (pc := 6) (by decide) (by decide) (eqI hPo (rk_loss_7 hf)) dX1_loss_6
theorem rk_toil_7 {f : Nat} (hf : f < 10) : nI (toilN 7 f) = nI 0 := by first | rfl | decide
def rmX1_toil : Room := { frames := 0, cells := 0, slots := 0, locals := 0 }
set_option maxHeartbeats 8000000 in
theorem c_X1_toil_c1 {a f : Nat} (hf : f < 10) (ha : V a = some (vO 1 [.int (nI f)])) : KE l D Z b0 yX1_toil cX1_toil 1 (some .int) rmX1_toil [.ref a] (V) (some (.int (nI (toilN 7 f)))) (V) := by
  refine KE.of (by decide) (Nat.le_of_ble_eq_true rfl) (fun Po hPo => ?_)
  refine G.locals (L' := [(0, .ref a)]) [0] rfl ?_
  refine g_iconst (v := nI 0) (pc := 0) dX1_toil_0 (by decide) ?_
  exact g_iret (pc := 1) (by decide) (by decide) (eqI hPo (rk_toil_7 hf)) dX1_toil_1
set_option maxHeartbeats 8000000 in
theorem c_X6_worth_c1 {a f : Nat} (hf : f < 10) (ha : V a = some (vO 1 [.int (nI f)])) : KE l D Z b0 yX6_worth cX6_worth 1 (some .int) rmX6_worth [.ref a] (V) (some (.int (nI 3))) (V) := by
  refine KE.of (by decide) (Nat.le_of_ble_eq_true rfl) (fun Po hPo => ?_)
  refine G.locals (L' := [(0, .ref a)]) [0] rfl ?_
  refine g_iconst (v := nI 3) (pc := 0) dX6_worth_0 (by decide) ?_
  exact g_iret (pc := 1) (by decide) (by decide) (hPo) dX6_worth_1
theorem rk_worth_7 {f : Nat} (hf : f < 10) : payI 7 f = (nI 3) - (nI f) := (by decide +kernel : ∀ f, f < 10 → payI 7 f = (nI 3) - (nI f)) f hf
def rmX1_worth : Room := { frames := 1, cells := 0, slots := 0, locals := 20 }
set_option maxHeartbeats 8000000 in
theorem c_X1_worth_c1 {a f : Nat} (hf : f < 10) (ha : V a = some (vO 1 [.int (nI f)])) : KE l D Z b0 yX1_worth cX1_worth 1 (some .int) rmX1_worth [.ref a] (V) (some (.int (payI 7 f))) (V) := by
  refine KE.of (by decide) (Nat.le_of_ble_eq_true rfl) (fun Po hPo => ?_)
  refine G.locals (L' := [(0, .ref a)]) [0] rfl ?_
  refine g_aload_n (q := 0) (pc := 0) dX1_worth_0 rfl rfl ?_
  refine e_callPP (k2 := 0) (n2 := 0) (As := []) (rest := []) (pc := 1) ha rfl (by decide) rfl (c_X6_worth_c1 hf ha) mlX1_13_up smX4_X6_worth suX1_X4 suX4_X6 mX6_worth ⟨Nat.le_of_ble_eq_true rfl, Nat.le_of_ble_eq_true rfl⟩ rfl rfl (Nat.le_of_ble_eq_true rfl) dX1_worth_1 (by decide) rfl rfl ?_
  refine g_aload_n (q := 0) (pc := 4) dX1_worth_4 rfl rfl ?_
  refine g_get (C := RX1) (F := TX1) (N := 1) (ci := 1) (pc := 5) ha rfl inX1 0 (by decide) flX1_16 (Or.inr sfX1_figure) rfl dX1_worth_5 ?_
  refine g_isub (pc := 8) dX1_worth_8 ?_
  exact g_iret (pc := 9) (by decide) (by decide) (eqI hPo (rk_worth_7 hf)) dX1_worth_9
theorem rk_kind_6 {f : Nat} (hf : f < 10) : nI 6 = nI 6 := by first | rfl | decide
def rmX2_kind : Room := { frames := 0, cells := 0, slots := 0, locals := 0 }
set_option maxHeartbeats 8000000 in
theorem c_X2_kind_c2 {a f : Nat} (hf : f < 10) (ha : V a = some (vO 2 [.int (nI f)])) : KE l D Z b0 yX2_kind cX2_kind 1 (some .int) rmX2_kind [.ref a] (V) (some (.int (nI 6))) (V) := by
  refine KE.of (by decide) (Nat.le_of_ble_eq_true rfl) (fun Po hPo => ?_)
  refine G.locals (L' := [(0, .ref a)]) [0] rfl ?_
  refine g_bipush (v := nI 6) (pc := 0) dX2_kind_0 (by decide) ?_
  exact g_iret (pc := 2) (by decide) (by decide) (eqI hPo (rk_kind_6 hf)) dX2_kind_2
set_option maxHeartbeats 8000000 in
theorem c_X6_slow_c2 {a f : Nat} (hf : f < 10) (ha : V a = some (vO 2 [.int (nI f)])) : KE l D Z b0 yX6_slow cX6_slow 1 (some .int) rmX6_slow [.ref a] (V) (some (.int (nI 4))) (V) := by
  refine KE.of (by decide) (Nat.le_of_ble_eq_true rfl) (fun Po hPo => ?_)
  refine G.locals (L' := [(0, .ref a)]) [0] rfl ?_
  refine g_iconst (v := nI 4) (pc := 0) dX6_slow_0 (by decide) ?_
  exact g_iret (pc := 1) (by decide) (by decide) (hPo) dX6_slow_1
set_option maxHeartbeats 8000000 in
theorem c_X0_slow_c2 {a f : Nat} (hf : f < 10) (ha : V a = some (vO 2 [.int (nI f)])) : KE l D Z b0 yX0_slow cX0_slow 1 (some .int) rmX0_slow [.ref a] (V) (some (.int (nI (4 + f)))) (V) := by
  refine KE.of (by decide) (Nat.le_of_ble_eq_true rfl) (fun Po hPo => ?_)
  refine G.locals (L' := [(0, .ref a)]) [0] rfl ?_
  refine g_aload_n (q := 0) (pc := 0) dX0_slow_0 rfl rfl ?_
  refine e_callP (k2 := 0) (n2 := 0) (As := []) (rest := []) (pc := 1) ha rfl (by decide) (c_X6_slow_c2 hf ha) mlX0_9 smX6_X6_slow suX0_X6 mX6_slow ⟨Nat.le_of_ble_eq_true rfl, Nat.le_of_ble_eq_true rfl⟩ rfl rfl (Nat.le_of_ble_eq_true rfl) dX0_slow_1 (by decide) rfl rfl ?_
  refine g_aload_n (q := 0) (pc := 4) dX0_slow_4 rfl rfl ?_
  refine g_get (C := RX2) (F := TX2) (N := 1) (ci := 2) (pc := 5) ha rfl inX2 0 (by decide) flX0_13 (Or.inr sfX0_figure) rfl dX0_slow_5 ?_
  refine g_iadd_N (pc := 8) dX0_slow_8 ?_
  exact g_iret (pc := 9) (by decide) (by decide) (hPo) dX0_slow_9
theorem rk_slow_6 {f : Nat} (hf : f < 10) : nI (slowN 6 f) = nI ((4 + f) * 2) := (by decide +kernel : ∀ f, f < 10 → nI (slowN 6 f) = nI ((4 + f) * 2)) f hf
def rmX2_slow : Room := { frames := 2, cells := 0, slots := 0, locals := 40 }
set_option maxHeartbeats 8000000 in
theorem c_X2_slow_c2 {a f : Nat} (hf : f < 10) (ha : V a = some (vO 2 [.int (nI f)])) : KE l D Z b0 yX2_slow cX2_slow 1 (some .int) rmX2_slow [.ref a] (V) (some (.int (nI (slowN 6 f)))) (V) := by
  refine KE.of (by decide) (Nat.le_of_ble_eq_true rfl) (fun Po hPo => ?_)
  refine G.locals (L' := [(0, .ref a)]) [0] rfl ?_
  refine g_aload_n (q := 0) (pc := 0) dX2_slow_0 rfl rfl ?_
  refine e_callP (k2 := 0) (n2 := 0) (As := []) (rest := []) (pc := 1) ha rfl (by decide) (c_X0_slow_c2 hf ha) mlX2_9 smX0_X0_slow suX2_X0 mX0_slow ⟨Nat.le_of_ble_eq_true rfl, Nat.le_of_ble_eq_true rfl⟩ rfl rfl (Nat.le_of_ble_eq_true rfl) dX2_slow_1 (by decide) rfl rfl ?_
  refine g_iconst (v := nI 2) (pc := 4) dX2_slow_4 (by decide) ?_
  refine g_imul_N (pc := 5) dX2_slow_5 ?_
  exact g_iret (pc := 6) (by decide) (by decide) (eqI hPo (rk_slow_6 hf)) dX2_slow_6
set_option maxHeartbeats 8000000 in
theorem c_X6_loss_c2 {a f : Nat} (hf : f < 10) (ha : V a = some (vO 2 [.int (nI f)])) : KE l D Z b0 yX6_loss cX6_loss 1 (some .int) rmX6_loss [.ref a] (V) (some (.int (nI 2))) (V) := by
  refine KE.of (by decide) (Nat.le_of_ble_eq_true rfl) (fun Po hPo => ?_)
  refine G.locals (L' := [(0, .ref a)]) [0] rfl ?_
  refine g_iconst (v := nI 2) (pc := 0) dX6_loss_0 (by decide) ?_
  exact g_iret (pc := 1) (by decide) (by decide) (hPo) dX6_loss_1
set_option maxHeartbeats 8000000 in
theorem c_X0_loss_c2 {a f : Nat} (hf : f < 10) (ha : V a = some (vO 2 [.int (nI f)])) : KE l D Z b0 yX0_loss cX0_loss 1 (some .int) rmX0_loss [.ref a] (V) (some (.int (nI (2 + 3)))) (V) := by
  refine KE.of (by decide) (Nat.le_of_ble_eq_true rfl) (fun Po hPo => ?_)
  refine G.locals (L' := [(0, .ref a)]) [0] rfl ?_
  refine g_aload_n (q := 0) (pc := 0) dX0_loss_0 rfl rfl ?_
  refine e_callP (k2 := 0) (n2 := 0) (As := []) (rest := []) (pc := 1) ha rfl (by decide) (c_X6_loss_c2 hf ha) mlX0_19 smX6_X6_loss suX0_X6 mX6_loss ⟨Nat.le_of_ble_eq_true rfl, Nat.le_of_ble_eq_true rfl⟩ rfl rfl (Nat.le_of_ble_eq_true rfl) dX0_loss_1 (by decide) rfl rfl ?_
  refine g_iconst (v := nI 3) (pc := 4) dX0_loss_4 (by decide) ?_
  refine g_iadd_N (pc := 5) dX0_loss_5 ?_
  exact g_iret (pc := 6) (by decide) (by decide) (hPo) dX0_loss_6
theorem rk_loss_6 {f : Nat} (hf : f < 10) : nI (lossN 6 f) = nI ((2 + 3) + f) := (by decide +kernel : ∀ f, f < 10 → nI (lossN 6 f) = nI ((2 + 3) + f)) f hf
def rmX2_loss : Room := { frames := 2, cells := 0, slots := 0, locals := 40 }
set_option maxHeartbeats 8000000 in
theorem c_X2_loss_c2 {a f : Nat} (hf : f < 10) (ha : V a = some (vO 2 [.int (nI f)])) : KE l D Z b0 yX2_loss cX2_loss 1 (some .int) rmX2_loss [.ref a] (V) (some (.int (nI (lossN 6 f)))) (V) := by
  refine KE.of (by decide) (Nat.le_of_ble_eq_true rfl) (fun Po hPo => ?_)
  refine G.locals (L' := [(0, .ref a)]) [0] rfl ?_
  refine g_aload_n (q := 0) (pc := 0) dX2_loss_0 rfl rfl ?_
  refine e_callP (k2 := 0) (n2 := 0) (As := []) (rest := []) (pc := 1) ha rfl (by decide) (c_X0_loss_c2 hf ha) mlX2_13 smX0_X0_loss suX2_X0 mX0_loss ⟨Nat.le_of_ble_eq_true rfl, Nat.le_of_ble_eq_true rfl⟩ rfl rfl (Nat.le_of_ble_eq_true rfl) dX2_loss_1 (by decide) rfl rfl ?_
  refine g_aload_n (q := 0) (pc := 4) dX2_loss_4 rfl rfl ?_
  refine g_get (C := RX2) (F := TX2) (N := 1) (ci := 2) (pc := 5) ha rfl inX2 0 (by decide) flX2_16 (Or.inr sfX2_figure) rfl dX2_loss_5 ?_
  refine g_iadd_N (pc := 8) dX2_loss_8 ?_
  exact g_iret (pc := 9) (by decide) (by decide) (eqI hPo (rk_loss_6 hf)) dX2_loss_9
set_option maxHeartbeats 8000000 in
theorem c_X6_toil_c2 {a f : Nat} (hf : f < 10) (ha : V a = some (vO 2 [.int (nI f)])) : KE l D Z b0 yX6_toil cX6_toil 1 (some .int) rmX6_toil [.ref a] (V) (some (.int (nI 5))) (V) := by
  refine KE.of (by decide) (Nat.le_of_ble_eq_true rfl) (fun Po hPo => ?_)
  refine G.locals (L' := [(0, .ref a)]) [0] rfl ?_
  refine g_iconst (v := nI 5) (pc := 0) dX6_toil_0 (by decide) ?_
  exact g_iret (pc := 1) (by decide) (by decide) (hPo) dX6_toil_1
set_option maxHeartbeats 8000000 in
theorem c_X0_toil_c2 {a f : Nat} (hf : f < 10) (ha : V a = some (vO 2 [.int (nI f)])) : KE l D Z b0 yX0_toil cX0_toil 1 (some .int) rmX0_toil [.ref a] (V) (some (.int (nI (5 - 2)))) (V) := by
  refine KE.of (by decide) (Nat.le_of_ble_eq_true rfl) (fun Po hPo => ?_)
  refine G.locals (L' := [(0, .ref a)]) [0] rfl ?_
  refine g_aload_n (q := 0) (pc := 0) dX0_toil_0 rfl rfl ?_
  refine e_callP (k2 := 0) (n2 := 0) (As := []) (rest := []) (pc := 1) ha rfl (by decide) (c_X6_toil_c2 hf ha) mlX0_22 smX6_X6_toil suX0_X6 mX6_toil ⟨Nat.le_of_ble_eq_true rfl, Nat.le_of_ble_eq_true rfl⟩ rfl rfl (Nat.le_of_ble_eq_true rfl) dX0_toil_1 (by decide) rfl rfl ?_
  refine g_iconst (v := nI 2) (pc := 4) dX0_toil_4 (by decide) ?_
  refine g_isub_N (pc := 5) (by omega) dX0_toil_5 ?_
  exact g_iret (pc := 6) (by decide) (by decide) (hPo) dX0_toil_6
theorem rk_toil_6 {f : Nat} (hf : f < 10) : nI (toilN 6 f) = nI ((5 - 2) + 4) := by first | rfl | decide
def rmX2_toil : Room := { frames := 2, cells := 0, slots := 0, locals := 40 }
set_option maxHeartbeats 8000000 in
theorem c_X2_toil_c2 {a f : Nat} (hf : f < 10) (ha : V a = some (vO 2 [.int (nI f)])) : KE l D Z b0 yX2_toil cX2_toil 1 (some .int) rmX2_toil [.ref a] (V) (some (.int (nI (toilN 6 f)))) (V) := by
  refine KE.of (by decide) (Nat.le_of_ble_eq_true rfl) (fun Po hPo => ?_)
  refine G.locals (L' := [(0, .ref a)]) [0] rfl ?_
  refine g_aload_n (q := 0) (pc := 0) dX2_toil_0 rfl rfl ?_
  refine e_callP (k2 := 0) (n2 := 0) (As := []) (rest := []) (pc := 1) ha rfl (by decide) (c_X0_toil_c2 hf ha) mlX2_22 smX0_X0_toil suX2_X0 mX0_toil ⟨Nat.le_of_ble_eq_true rfl, Nat.le_of_ble_eq_true rfl⟩ rfl rfl (Nat.le_of_ble_eq_true rfl) dX2_toil_1 (by decide) rfl rfl ?_
  refine g_iconst (v := nI 4) (pc := 4) dX2_toil_4 (by decide) ?_
  refine g_iadd_N (pc := 5) dX2_toil_5 ?_
  exact g_iret (pc := 6) (by decide) (by decide) (eqI hPo (rk_toil_6 hf)) dX2_toil_6
set_option maxHeartbeats 8000000 in
theorem c_X6_worth_c2 {a f : Nat} (hf : f < 10) (ha : V a = some (vO 2 [.int (nI f)])) : KE l D Z b0 yX6_worth cX6_worth 1 (some .int) rmX6_worth [.ref a] (V) (some (.int (nI 3))) (V) := by
  refine KE.of (by decide) (Nat.le_of_ble_eq_true rfl) (fun Po hPo => ?_)
  refine G.locals (L' := [(0, .ref a)]) [0] rfl ?_
  refine g_iconst (v := nI 3) (pc := 0) dX6_worth_0 (by decide) ?_
  exact g_iret (pc := 1) (by decide) (by decide) (hPo) dX6_worth_1
set_option maxHeartbeats 8000000 in
theorem c_X0_worth_c2 {a f : Nat} (hf : f < 10) (ha : V a = some (vO 2 [.int (nI f)])) : KE l D Z b0 yX0_worth cX0_worth 1 (some .int) rmX0_worth [.ref a] (V) (some (.int (nI (3 - 1)))) (V) := by
  refine KE.of (by decide) (Nat.le_of_ble_eq_true rfl) (fun Po hPo => ?_)
  refine G.locals (L' := [(0, .ref a)]) [0] rfl ?_
  refine g_aload_n (q := 0) (pc := 0) dX0_worth_0 rfl rfl ?_
  refine e_callP (k2 := 0) (n2 := 0) (As := []) (rest := []) (pc := 1) ha rfl (by decide) (c_X6_worth_c2 hf ha) mlX0_25 smX6_X6_worth suX0_X6 mX6_worth ⟨Nat.le_of_ble_eq_true rfl, Nat.le_of_ble_eq_true rfl⟩ rfl rfl (Nat.le_of_ble_eq_true rfl) dX0_worth_1 (by decide) rfl rfl ?_
  refine g_iconst (v := nI 1) (pc := 4) dX0_worth_4 (by decide) ?_
  refine g_isub_N (pc := 5) (by omega) dX0_worth_5 ?_
  exact g_iret (pc := 6) (by decide) (by decide) (hPo) dX0_worth_6
theorem rk_worth_6 {f : Nat} (hf : f < 10) : payI 6 f = nI ((3 - 1) + 5) := by first | rfl | decide
def rmX2_worth : Room := { frames := 2, cells := 0, slots := 0, locals := 40 }
set_option maxHeartbeats 8000000 in
theorem c_X2_worth_c2 {a f : Nat} (hf : f < 10) (ha : V a = some (vO 2 [.int (nI f)])) : KE l D Z b0 yX2_worth cX2_worth 1 (some .int) rmX2_worth [.ref a] (V) (some (.int (payI 6 f))) (V) := by
  refine KE.of (by decide) (Nat.le_of_ble_eq_true rfl) (fun Po hPo => ?_)
  refine G.locals (L' := [(0, .ref a)]) [0] rfl ?_
  refine g_aload_n (q := 0) (pc := 0) dX2_worth_0 rfl rfl ?_
  refine e_callP (k2 := 0) (n2 := 0) (As := []) (rest := []) (pc := 1) ha rfl (by decide) (c_X0_worth_c2 hf ha) mlX2_25 smX0_X0_worth suX2_X0 mX0_worth ⟨Nat.le_of_ble_eq_true rfl, Nat.le_of_ble_eq_true rfl⟩ rfl rfl (Nat.le_of_ble_eq_true rfl) dX2_worth_1 (by decide) rfl rfl ?_
  refine g_iconst (v := nI 5) (pc := 4) dX2_worth_4 (by decide) ?_
  refine g_iadd_N (pc := 5) dX2_worth_5 ?_
  exact g_iret (pc := 6) (by decide) (by decide) (eqI hPo (rk_worth_6 hf)) dX2_worth_6
theorem rk_kind_1 {f : Nat} (hf : f < 10) : nI 1 = nI 1 := by first | rfl | decide
def rmX3_kind : Room := { frames := 0, cells := 0, slots := 0, locals := 0 }
set_option maxHeartbeats 8000000 in
theorem c_X3_kind_c3 {a f : Nat} (hf : f < 10) (ha : V a = some (vO 3 [.int (nI f)])) : KE l D Z b0 yX3_kind cX3_kind 1 (some .int) rmX3_kind [.ref a] (V) (some (.int (nI 1))) (V) := by
  refine KE.of (by decide) (Nat.le_of_ble_eq_true rfl) (fun Po hPo => ?_)
  refine G.locals (L' := [(0, .ref a)]) [0] rfl ?_
  refine g_iconst (v := nI 1) (pc := 0) dX3_kind_0 (by decide) ?_
  exact g_iret (pc := 1) (by decide) (by decide) (eqI hPo (rk_kind_1 hf)) dX3_kind_1
set_option maxHeartbeats 8000000 in
theorem c_X6_slow_c3 {a f : Nat} (hf : f < 10) (ha : V a = some (vO 3 [.int (nI f)])) : KE l D Z b0 yX6_slow cX6_slow 1 (some .int) rmX6_slow [.ref a] (V) (some (.int (nI 4))) (V) := by
  refine KE.of (by decide) (Nat.le_of_ble_eq_true rfl) (fun Po hPo => ?_)
  refine G.locals (L' := [(0, .ref a)]) [0] rfl ?_
  refine g_iconst (v := nI 4) (pc := 0) dX6_slow_0 (by decide) ?_
  exact g_iret (pc := 1) (by decide) (by decide) (hPo) dX6_slow_1
theorem rk_slow_1 {f : Nat} (hf : f < 10) : nI (slowN 1 f) = nI (4 - 2) := by first | rfl | decide
def rmX3_slow : Room := { frames := 1, cells := 0, slots := 0, locals := 20 }
set_option maxHeartbeats 8000000 in
theorem c_X3_slow_c3 {a f : Nat} (hf : f < 10) (ha : V a = some (vO 3 [.int (nI f)])) : KE l D Z b0 yX3_slow cX3_slow 1 (some .int) rmX3_slow [.ref a] (V) (some (.int (nI (slowN 1 f)))) (V) := by
  refine KE.of (by decide) (Nat.le_of_ble_eq_true rfl) (fun Po hPo => ?_)
  refine G.locals (L' := [(0, .ref a)]) [0] rfl ?_
  refine g_aload_n (q := 0) (pc := 0) dX3_slow_0 rfl rfl ?_
  refine e_callP (k2 := 0) (n2 := 0) (As := []) (rest := []) (pc := 1) ha rfl (by decide) (c_X6_slow_c3 hf ha) mlX3_9 smX6_X6_slow suX3_X6 mX6_slow ⟨Nat.le_of_ble_eq_true rfl, Nat.le_of_ble_eq_true rfl⟩ rfl rfl (Nat.le_of_ble_eq_true rfl) dX3_slow_1 (by decide) rfl rfl ?_
  refine g_iconst (v := nI 2) (pc := 4) dX3_slow_4 (by decide) ?_
  refine g_isub_N (pc := 5) (by omega) dX3_slow_5 ?_
  exact g_iret (pc := 6) (by decide) (by decide) (eqI hPo (rk_slow_1 hf)) dX3_slow_6
set_option maxHeartbeats 8000000 in
theorem c_X6_loss_c3 {a f : Nat} (hf : f < 10) (ha : V a = some (vO 3 [.int (nI f)])) : KE l D Z b0 yX6_loss cX6_loss 1 (some .int) rmX6_loss [.ref a] (V) (some (.int (nI 2))) (V) := by
  refine KE.of (by decide) (Nat.le_of_ble_eq_true rfl) (fun Po hPo => ?_)
  refine G.locals (L' := [(0, .ref a)]) [0] rfl ?_
  refine g_iconst (v := nI 2) (pc := 0) dX6_loss_0 (by decide) ?_
  exact g_iret (pc := 1) (by decide) (by decide) (hPo) dX6_loss_1
theorem rk_loss_1 {f : Nat} (hf : f < 10) : nI (lossN 1 f) = nI (2 - 1) := by first | rfl | decide
def rmX3_loss : Room := { frames := 1, cells := 0, slots := 0, locals := 20 }
set_option maxHeartbeats 8000000 in
theorem c_X3_loss_c3 {a f : Nat} (hf : f < 10) (ha : V a = some (vO 3 [.int (nI f)])) : KE l D Z b0 yX3_loss cX3_loss 1 (some .int) rmX3_loss [.ref a] (V) (some (.int (nI (lossN 1 f)))) (V) := by
  refine KE.of (by decide) (Nat.le_of_ble_eq_true rfl) (fun Po hPo => ?_)
  refine G.locals (L' := [(0, .ref a)]) [0] rfl ?_
  refine g_aload_n (q := 0) (pc := 0) dX3_loss_0 rfl rfl ?_
  refine e_callP (k2 := 0) (n2 := 0) (As := []) (rest := []) (pc := 1) ha rfl (by decide) (c_X6_loss_c3 hf ha) mlX3_13 smX6_X6_loss suX3_X6 mX6_loss ⟨Nat.le_of_ble_eq_true rfl, Nat.le_of_ble_eq_true rfl⟩ rfl rfl (Nat.le_of_ble_eq_true rfl) dX3_loss_1 (by decide) rfl rfl ?_
  refine g_iconst (v := nI 1) (pc := 4) dX3_loss_4 (by decide) ?_
  refine g_isub_N (pc := 5) (by omega) dX3_loss_5 ?_
  exact g_iret (pc := 6) (by decide) (by decide) (eqI hPo (rk_loss_1 hf)) dX3_loss_6
set_option maxHeartbeats 8000000 in
theorem c_X6_toil_c3 {a f : Nat} (hf : f < 10) (ha : V a = some (vO 3 [.int (nI f)])) : KE l D Z b0 yX6_toil cX6_toil 1 (some .int) rmX6_toil [.ref a] (V) (some (.int (nI 5))) (V) := by
  refine KE.of (by decide) (Nat.le_of_ble_eq_true rfl) (fun Po hPo => ?_)
  refine G.locals (L' := [(0, .ref a)]) [0] rfl ?_
  refine g_iconst (v := nI 5) (pc := 0) dX6_toil_0 (by decide) ?_
  exact g_iret (pc := 1) (by decide) (by decide) (hPo) dX6_toil_1
theorem rk_toil_1 {f : Nat} (hf : f < 10) : nI (toilN 1 f) = nI (5 * 2) := by first | rfl | decide
def rmX3_toil : Room := { frames := 1, cells := 0, slots := 0, locals := 20 }
set_option maxHeartbeats 8000000 in
theorem c_X3_toil_c3 {a f : Nat} (hf : f < 10) (ha : V a = some (vO 3 [.int (nI f)])) : KE l D Z b0 yX3_toil cX3_toil 1 (some .int) rmX3_toil [.ref a] (V) (some (.int (nI (toilN 1 f)))) (V) := by
  refine KE.of (by decide) (Nat.le_of_ble_eq_true rfl) (fun Po hPo => ?_)
  refine G.locals (L' := [(0, .ref a)]) [0] rfl ?_
  refine g_aload_n (q := 0) (pc := 0) dX3_toil_0 rfl rfl ?_
  refine e_callP (k2 := 0) (n2 := 0) (As := []) (rest := []) (pc := 1) ha rfl (by decide) (c_X6_toil_c3 hf ha) mlX3_16 smX6_X6_toil suX3_X6 mX6_toil ⟨Nat.le_of_ble_eq_true rfl, Nat.le_of_ble_eq_true rfl⟩ rfl rfl (Nat.le_of_ble_eq_true rfl) dX3_toil_1 (by decide) rfl rfl ?_
  refine g_iconst (v := nI 2) (pc := 4) dX3_toil_4 (by decide) ?_
  refine g_imul_N (pc := 5) dX3_toil_5 ?_
  exact g_iret (pc := 6) (by decide) (by decide) (eqI hPo (rk_toil_1 hf)) dX3_toil_6
set_option maxHeartbeats 8000000 in
theorem c_X6_worth_c3 {a f : Nat} (hf : f < 10) (ha : V a = some (vO 3 [.int (nI f)])) : KE l D Z b0 yX6_worth cX6_worth 1 (some .int) rmX6_worth [.ref a] (V) (some (.int (nI 3))) (V) := by
  refine KE.of (by decide) (Nat.le_of_ble_eq_true rfl) (fun Po hPo => ?_)
  refine G.locals (L' := [(0, .ref a)]) [0] rfl ?_
  refine g_iconst (v := nI 3) (pc := 0) dX6_worth_0 (by decide) ?_
  exact g_iret (pc := 1) (by decide) (by decide) (hPo) dX6_worth_1
theorem rk_worth_1 {f : Nat} (hf : f < 10) : payI 1 f = nI (3 + f) := (by decide +kernel : ∀ f, f < 10 → payI 1 f = nI (3 + f)) f hf
def rmX3_worth : Room := { frames := 1, cells := 0, slots := 0, locals := 20 }
set_option maxHeartbeats 8000000 in
theorem c_X3_worth_c3 {a f : Nat} (hf : f < 10) (ha : V a = some (vO 3 [.int (nI f)])) : KE l D Z b0 yX3_worth cX3_worth 1 (some .int) rmX3_worth [.ref a] (V) (some (.int (payI 1 f))) (V) := by
  refine KE.of (by decide) (Nat.le_of_ble_eq_true rfl) (fun Po hPo => ?_)
  refine G.locals (L' := [(0, .ref a)]) [0] rfl ?_
  refine g_aload_n (q := 0) (pc := 0) dX3_worth_0 rfl rfl ?_
  refine e_callP (k2 := 0) (n2 := 0) (As := []) (rest := []) (pc := 1) ha rfl (by decide) (c_X6_worth_c3 hf ha) mlX3_19 smX6_X6_worth suX3_X6 mX6_worth ⟨Nat.le_of_ble_eq_true rfl, Nat.le_of_ble_eq_true rfl⟩ rfl rfl (Nat.le_of_ble_eq_true rfl) dX3_worth_1 (by decide) rfl rfl ?_
  refine g_aload_n (q := 0) (pc := 4) dX3_worth_4 rfl rfl ?_
  refine g_get (C := RX3) (F := TX3) (N := 1) (ci := 3) (pc := 5) ha rfl inX3 0 (by decide) flX3_22 (Or.inr sfX3_figure) rfl dX3_worth_5 ?_
  refine g_iadd_N (pc := 8) dX3_worth_8 ?_
  exact g_iret (pc := 9) (by decide) (by decide) (eqI hPo (rk_worth_1 hf)) dX3_worth_9
theorem rk_kind_5 {f : Nat} (hf : f < 10) : nI 5 = nI 5 := by first | rfl | decide
def rmX4_kind : Room := { frames := 0, cells := 0, slots := 0, locals := 0 }
set_option maxHeartbeats 8000000 in
theorem c_X4_kind_c4 {a f : Nat} (hf : f < 10) (ha : V a = some (vO 4 [.int (nI f)])) : KE l D Z b0 yX4_kind cX4_kind 1 (some .int) rmX4_kind [.ref a] (V) (some (.int (nI 5))) (V) := by
  refine KE.of (by decide) (Nat.le_of_ble_eq_true rfl) (fun Po hPo => ?_)
  refine G.locals (L' := [(0, .ref a)]) [0] rfl ?_
  refine g_iconst (v := nI 5) (pc := 0) dX4_kind_0 (by decide) ?_
  exact g_iret (pc := 1) (by decide) (by decide) (eqI hPo (rk_kind_5 hf)) dX4_kind_1
set_option maxHeartbeats 8000000 in
theorem c_X6_slow_c4 {a f : Nat} (hf : f < 10) (ha : V a = some (vO 4 [.int (nI f)])) : KE l D Z b0 yX6_slow cX6_slow 1 (some .int) rmX6_slow [.ref a] (V) (some (.int (nI 4))) (V) := by
  refine KE.of (by decide) (Nat.le_of_ble_eq_true rfl) (fun Po hPo => ?_)
  refine G.locals (L' := [(0, .ref a)]) [0] rfl ?_
  refine g_iconst (v := nI 4) (pc := 0) dX6_slow_0 (by decide) ?_
  exact g_iret (pc := 1) (by decide) (by decide) (hPo) dX6_slow_1
theorem rk_slow_5 {f : Nat} (hf : f < 10) : nI (slowN 5 f) = nI (4 - 3) := by first | rfl | decide
set_option maxHeartbeats 8000000 in
theorem c_X4_slow_c4 {a f : Nat} (hf : f < 10) (ha : V a = some (vO 4 [.int (nI f)])) : KE l D Z b0 yX4_slow cX4_slow 1 (some .int) rmX4_slow [.ref a] (V) (some (.int (nI (slowN 5 f)))) (V) := by
  refine KE.of (by decide) (Nat.le_of_ble_eq_true rfl) (fun Po hPo => ?_)
  refine G.locals (L' := [(0, .ref a)]) [0] rfl ?_
  refine g_aload_n (q := 0) (pc := 0) dX4_slow_0 rfl rfl ?_
  refine e_callP (k2 := 0) (n2 := 0) (As := []) (rest := []) (pc := 1) ha rfl (by decide) (c_X6_slow_c4 hf ha) mlX4_9 smX6_X6_slow suX4_X6 mX6_slow ⟨Nat.le_of_ble_eq_true rfl, Nat.le_of_ble_eq_true rfl⟩ rfl rfl (Nat.le_of_ble_eq_true rfl) dX4_slow_1 (by decide) rfl rfl ?_
  refine g_iconst (v := nI 3) (pc := 4) dX4_slow_4 (by decide) ?_
  refine g_isub_N (pc := 5) (by omega) dX4_slow_5 ?_
  exact g_iret (pc := 6) (by decide) (by decide) (eqI hPo (rk_slow_5 hf)) dX4_slow_6
theorem rk_loss_5 {f : Nat} (hf : f < 10) : nI (lossN 5 f) = nI 2 := by first | rfl | decide
set_option maxHeartbeats 8000000 in
theorem c_X6_loss_c4 {a f : Nat} (hf : f < 10) (ha : V a = some (vO 4 [.int (nI f)])) : KE l D Z b0 yX6_loss cX6_loss 1 (some .int) rmX6_loss [.ref a] (V) (some (.int (nI (lossN 5 f)))) (V) := by
  refine KE.of (by decide) (Nat.le_of_ble_eq_true rfl) (fun Po hPo => ?_)
  refine G.locals (L' := [(0, .ref a)]) [0] rfl ?_
  refine g_iconst (v := nI 2) (pc := 0) dX6_loss_0 (by decide) ?_
  exact g_iret (pc := 1) (by decide) (by decide) (eqI hPo (rk_loss_5 hf)) dX6_loss_1
set_option maxHeartbeats 8000000 in
theorem c_X6_toil_c4 {a f : Nat} (hf : f < 10) (ha : V a = some (vO 4 [.int (nI f)])) : KE l D Z b0 yX6_toil cX6_toil 1 (some .int) rmX6_toil [.ref a] (V) (some (.int (nI 5))) (V) := by
  refine KE.of (by decide) (Nat.le_of_ble_eq_true rfl) (fun Po hPo => ?_)
  refine G.locals (L' := [(0, .ref a)]) [0] rfl ?_
  refine g_iconst (v := nI 5) (pc := 0) dX6_toil_0 (by decide) ?_
  exact g_iret (pc := 1) (by decide) (by decide) (hPo) dX6_toil_1
theorem rk_toil_5 {f : Nat} (hf : f < 10) : nI (toilN 5 f) = nI (5 - 4) := by first | rfl | decide
def rmX4_toil : Room := { frames := 1, cells := 0, slots := 0, locals := 20 }
set_option maxHeartbeats 8000000 in
theorem c_X4_toil_c4 {a f : Nat} (hf : f < 10) (ha : V a = some (vO 4 [.int (nI f)])) : KE l D Z b0 yX4_toil cX4_toil 1 (some .int) rmX4_toil [.ref a] (V) (some (.int (nI (toilN 5 f)))) (V) := by
  refine KE.of (by decide) (Nat.le_of_ble_eq_true rfl) (fun Po hPo => ?_)
  refine G.locals (L' := [(0, .ref a)]) [0] rfl ?_
  refine g_aload_n (q := 0) (pc := 0) dX4_toil_0 rfl rfl ?_
  refine e_callP (k2 := 0) (n2 := 0) (As := []) (rest := []) (pc := 1) ha rfl (by decide) (c_X6_toil_c4 hf ha) mlX4_13 smX6_X6_toil suX4_X6 mX6_toil ⟨Nat.le_of_ble_eq_true rfl, Nat.le_of_ble_eq_true rfl⟩ rfl rfl (Nat.le_of_ble_eq_true rfl) dX4_toil_1 (by decide) rfl rfl ?_
  refine g_iconst (v := nI 4) (pc := 4) dX4_toil_4 (by decide) ?_
  refine g_isub_N (pc := 5) (by omega) dX4_toil_5 ?_
  exact g_iret (pc := 6) (by decide) (by decide) (eqI hPo (rk_toil_5 hf)) dX4_toil_6
theorem rk_worth_5 {f : Nat} (hf : f < 10) : payI 5 f = nI 3 := by first | rfl | decide
set_option maxHeartbeats 8000000 in
theorem c_X6_worth_c4 {a f : Nat} (hf : f < 10) (ha : V a = some (vO 4 [.int (nI f)])) : KE l D Z b0 yX6_worth cX6_worth 1 (some .int) rmX6_worth [.ref a] (V) (some (.int (payI 5 f))) (V) := by
  refine KE.of (by decide) (Nat.le_of_ble_eq_true rfl) (fun Po hPo => ?_)
  refine G.locals (L' := [(0, .ref a)]) [0] rfl ?_
  refine g_iconst (v := nI 3) (pc := 0) dX6_worth_0 (by decide) ?_
  exact g_iret (pc := 1) (by decide) (by decide) (eqI hPo (rk_worth_5 hf)) dX6_worth_1
theorem rk_kind_0 {f : Nat} (hf : f < 10) : nI 0 = nI 0 := by first | rfl | decide
def rmX6_kind : Room := { frames := 0, cells := 0, slots := 0, locals := 0 }
set_option maxHeartbeats 8000000 in
theorem c_X6_kind_c6 {a f : Nat} (hf : f < 10) (ha : V a = some (vO 6 [.int (nI f)])) : KE l D Z b0 yX6_kind cX6_kind 1 (some .int) rmX6_kind [.ref a] (V) (some (.int (nI 0))) (V) := by
  refine KE.of (by decide) (Nat.le_of_ble_eq_true rfl) (fun Po hPo => ?_)
  refine G.locals (L' := [(0, .ref a)]) [0] rfl ?_
  refine g_iconst (v := nI 0) (pc := 0) dX6_kind_0 (by decide) ?_
  exact g_iret (pc := 1) (by decide) (by decide) (eqI hPo (rk_kind_0 hf)) dX6_kind_1
theorem rk_slow_0 {f : Nat} (hf : f < 10) : nI (slowN 0 f) = nI 4 := by first | rfl | decide
set_option maxHeartbeats 8000000 in
theorem c_X6_slow_c6 {a f : Nat} (hf : f < 10) (ha : V a = some (vO 6 [.int (nI f)])) : KE l D Z b0 yX6_slow cX6_slow 1 (some .int) rmX6_slow [.ref a] (V) (some (.int (nI (slowN 0 f)))) (V) := by
  refine KE.of (by decide) (Nat.le_of_ble_eq_true rfl) (fun Po hPo => ?_)
  refine G.locals (L' := [(0, .ref a)]) [0] rfl ?_
  refine g_iconst (v := nI 4) (pc := 0) dX6_slow_0 (by decide) ?_
  exact g_iret (pc := 1) (by decide) (by decide) (eqI hPo (rk_slow_0 hf)) dX6_slow_1
theorem rk_loss_0 {f : Nat} (hf : f < 10) : nI (lossN 0 f) = nI 2 := by first | rfl | decide
set_option maxHeartbeats 8000000 in
theorem c_X6_loss_c6 {a f : Nat} (hf : f < 10) (ha : V a = some (vO 6 [.int (nI f)])) : KE l D Z b0 yX6_loss cX6_loss 1 (some .int) rmX6_loss [.ref a] (V) (some (.int (nI (lossN 0 f)))) (V) := by
  refine KE.of (by decide) (Nat.le_of_ble_eq_true rfl) (fun Po hPo => ?_)
  refine G.locals (L' := [(0, .ref a)]) [0] rfl ?_
  refine g_iconst (v := nI 2) (pc := 0) dX6_loss_0 (by decide) ?_
  exact g_iret (pc := 1) (by decide) (by decide) (eqI hPo (rk_loss_0 hf)) dX6_loss_1
theorem rk_toil_0 {f : Nat} (hf : f < 10) : nI (toilN 0 f) = nI 5 := by first | rfl | decide
set_option maxHeartbeats 8000000 in
theorem c_X6_toil_c6 {a f : Nat} (hf : f < 10) (ha : V a = some (vO 6 [.int (nI f)])) : KE l D Z b0 yX6_toil cX6_toil 1 (some .int) rmX6_toil [.ref a] (V) (some (.int (nI (toilN 0 f)))) (V) := by
  refine KE.of (by decide) (Nat.le_of_ble_eq_true rfl) (fun Po hPo => ?_)
  refine G.locals (L' := [(0, .ref a)]) [0] rfl ?_
  refine g_iconst (v := nI 5) (pc := 0) dX6_toil_0 (by decide) ?_
  exact g_iret (pc := 1) (by decide) (by decide) (eqI hPo (rk_toil_0 hf)) dX6_toil_1
theorem rk_worth_0 {f : Nat} (hf : f < 10) : payI 0 f = nI 3 := by first | rfl | decide
set_option maxHeartbeats 8000000 in
theorem c_X6_worth_c6 {a f : Nat} (hf : f < 10) (ha : V a = some (vO 6 [.int (nI f)])) : KE l D Z b0 yX6_worth cX6_worth 1 (some .int) rmX6_worth [.ref a] (V) (some (.int (payI 0 f))) (V) := by
  refine KE.of (by decide) (Nat.le_of_ble_eq_true rfl) (fun Po hPo => ?_)
  refine G.locals (L' := [(0, .ref a)]) [0] rfl ?_
  refine g_iconst (v := nI 3) (pc := 0) dX6_worth_0 (by decide) ?_
  exact g_iret (pc := 1) (by decide) (by decide) (eqI hPo (rk_worth_0 hf)) dX6_worth_1
theorem rk_kind_4 {f : Nat} (hf : f < 10) : nI 4 = nI 4 := by first | rfl | decide
def rmX8_kind : Room := { frames := 0, cells := 0, slots := 0, locals := 0 }
set_option maxHeartbeats 8000000 in
theorem c_X8_kind_c8 {a f : Nat} (hf : f < 10) (ha : V a = some (vO 8 [.int (nI f)])) : KE l D Z b0 yX8_kind cX8_kind 1 (some .int) rmX8_kind [.ref a] (V) (some (.int (nI 4))) (V) := by
  refine KE.of (by decide) (Nat.le_of_ble_eq_true rfl) (fun Po hPo => ?_)
  refine G.locals (L' := [(0, .ref a)]) [0] rfl ?_
  refine g_iconst (v := nI 4) (pc := 0) dX8_kind_0 (by decide) ?_
  exact g_iret (pc := 1) (by decide) (by decide) (eqI hPo (rk_kind_4 hf)) dX8_kind_1
set_option maxHeartbeats 8000000 in
theorem c_X6_slow_c8 {a f : Nat} (hf : f < 10) (ha : V a = some (vO 8 [.int (nI f)])) : KE l D Z b0 yX6_slow cX6_slow 1 (some .int) rmX6_slow [.ref a] (V) (some (.int (nI 4))) (V) := by
  refine KE.of (by decide) (Nat.le_of_ble_eq_true rfl) (fun Po hPo => ?_)
  refine G.locals (L' := [(0, .ref a)]) [0] rfl ?_
  refine g_iconst (v := nI 4) (pc := 0) dX6_slow_0 (by decide) ?_
  exact g_iret (pc := 1) (by decide) (by decide) (hPo) dX6_slow_1
set_option maxHeartbeats 8000000 in
theorem c_X3_slow_c8 {a f : Nat} (hf : f < 10) (ha : V a = some (vO 8 [.int (nI f)])) : KE l D Z b0 yX3_slow cX3_slow 1 (some .int) rmX3_slow [.ref a] (V) (some (.int (nI (4 - 2)))) (V) := by
  refine KE.of (by decide) (Nat.le_of_ble_eq_true rfl) (fun Po hPo => ?_)
  refine G.locals (L' := [(0, .ref a)]) [0] rfl ?_
  refine g_aload_n (q := 0) (pc := 0) dX3_slow_0 rfl rfl ?_
  refine e_callP (k2 := 0) (n2 := 0) (As := []) (rest := []) (pc := 1) ha rfl (by decide) (c_X6_slow_c8 hf ha) mlX3_9 smX6_X6_slow suX3_X6 mX6_slow ⟨Nat.le_of_ble_eq_true rfl, Nat.le_of_ble_eq_true rfl⟩ rfl rfl (Nat.le_of_ble_eq_true rfl) dX3_slow_1 (by decide) rfl rfl ?_
  refine g_iconst (v := nI 2) (pc := 4) dX3_slow_4 (by decide) ?_
  refine g_isub_N (pc := 5) (by omega) dX3_slow_5 ?_
  exact g_iret (pc := 6) (by decide) (by decide) (hPo) dX3_slow_6
theorem rk_slow_4 {f : Nat} (hf : f < 10) : nI (slowN 4 f) = nI ((4 - 2) + 1) := by first | rfl | decide
def rmX8_slow : Room := { frames := 2, cells := 0, slots := 0, locals := 40 }
set_option maxHeartbeats 8000000 in
theorem c_X8_slow_c8 {a f : Nat} (hf : f < 10) (ha : V a = some (vO 8 [.int (nI f)])) : KE l D Z b0 yX8_slow cX8_slow 1 (some .int) rmX8_slow [.ref a] (V) (some (.int (nI (slowN 4 f)))) (V) := by
  refine KE.of (by decide) (Nat.le_of_ble_eq_true rfl) (fun Po hPo => ?_)
  refine G.locals (L' := [(0, .ref a)]) [0] rfl ?_
  refine g_aload_n (q := 0) (pc := 0) dX8_slow_0 rfl rfl ?_
  refine e_callP (k2 := 0) (n2 := 0) (As := []) (rest := []) (pc := 1) ha rfl (by decide) (c_X3_slow_c8 hf ha) mlX8_9 smX3_X3_slow suX8_X3 mX3_slow ⟨Nat.le_of_ble_eq_true rfl, Nat.le_of_ble_eq_true rfl⟩ rfl rfl (Nat.le_of_ble_eq_true rfl) dX8_slow_1 (by decide) rfl rfl ?_
  refine g_iconst (v := nI 1) (pc := 4) dX8_slow_4 (by decide) ?_
  refine g_iadd_N (pc := 5) dX8_slow_5 ?_
  exact g_iret (pc := 6) (by decide) (by decide) (eqI hPo (rk_slow_4 hf)) dX8_slow_6
theorem rk_loss_4 {f : Nat} (hf : f < 10) : nI (lossN 4 f) = nI 0 := by first | rfl | decide
def rmX8_loss : Room := { frames := 0, cells := 0, slots := 0, locals := 0 }
set_option maxHeartbeats 8000000 in
theorem c_X8_loss_c8 {a f : Nat} (hf : f < 10) (ha : V a = some (vO 8 [.int (nI f)])) : KE l D Z b0 yX8_loss cX8_loss 1 (some .int) rmX8_loss [.ref a] (V) (some (.int (nI (lossN 4 f)))) (V) := by
  refine KE.of (by decide) (Nat.le_of_ble_eq_true rfl) (fun Po hPo => ?_)
  refine G.locals (L' := [(0, .ref a)]) [0] rfl ?_
  refine g_iconst (v := nI 0) (pc := 0) dX8_loss_0 (by decide) ?_
  exact g_iret (pc := 1) (by decide) (by decide) (eqI hPo (rk_loss_4 hf)) dX8_loss_1
set_option maxHeartbeats 8000000 in
theorem c_X6_toil_c8 {a f : Nat} (hf : f < 10) (ha : V a = some (vO 8 [.int (nI f)])) : KE l D Z b0 yX6_toil cX6_toil 1 (some .int) rmX6_toil [.ref a] (V) (some (.int (nI 5))) (V) := by
  refine KE.of (by decide) (Nat.le_of_ble_eq_true rfl) (fun Po hPo => ?_)
  refine G.locals (L' := [(0, .ref a)]) [0] rfl ?_
  refine g_iconst (v := nI 5) (pc := 0) dX6_toil_0 (by decide) ?_
  exact g_iret (pc := 1) (by decide) (by decide) (hPo) dX6_toil_1
set_option maxHeartbeats 8000000 in
theorem c_X3_toil_c8 {a f : Nat} (hf : f < 10) (ha : V a = some (vO 8 [.int (nI f)])) : KE l D Z b0 yX3_toil cX3_toil 1 (some .int) rmX3_toil [.ref a] (V) (some (.int (nI (5 * 2)))) (V) := by
  refine KE.of (by decide) (Nat.le_of_ble_eq_true rfl) (fun Po hPo => ?_)
  refine G.locals (L' := [(0, .ref a)]) [0] rfl ?_
  refine g_aload_n (q := 0) (pc := 0) dX3_toil_0 rfl rfl ?_
  refine e_callP (k2 := 0) (n2 := 0) (As := []) (rest := []) (pc := 1) ha rfl (by decide) (c_X6_toil_c8 hf ha) mlX3_16 smX6_X6_toil suX3_X6 mX6_toil ⟨Nat.le_of_ble_eq_true rfl, Nat.le_of_ble_eq_true rfl⟩ rfl rfl (Nat.le_of_ble_eq_true rfl) dX3_toil_1 (by decide) rfl rfl ?_
  refine g_iconst (v := nI 2) (pc := 4) dX3_toil_4 (by decide) ?_
  refine g_imul_N (pc := 5) dX3_toil_5 ?_
  exact g_iret (pc := 6) (by decide) (by decide) (hPo) dX3_toil_6
theorem rk_toil_4 {f : Nat} (hf : f < 10) : nI (toilN 4 f) = nI ((5 * 2) + f) := (by decide +kernel : ∀ f, f < 10 → nI (toilN 4 f) = nI ((5 * 2) + f)) f hf
def rmX8_toil : Room := { frames := 2, cells := 0, slots := 0, locals := 40 }
set_option maxHeartbeats 8000000 in
theorem c_X8_toil_c8 {a f : Nat} (hf : f < 10) (ha : V a = some (vO 8 [.int (nI f)])) : KE l D Z b0 yX8_toil cX8_toil 1 (some .int) rmX8_toil [.ref a] (V) (some (.int (nI (toilN 4 f)))) (V) := by
  refine KE.of (by decide) (Nat.le_of_ble_eq_true rfl) (fun Po hPo => ?_)
  refine G.locals (L' := [(0, .ref a)]) [0] rfl ?_
  refine g_aload_n (q := 0) (pc := 0) dX8_toil_0 rfl rfl ?_
  refine e_callP (k2 := 0) (n2 := 0) (As := []) (rest := []) (pc := 1) ha rfl (by decide) (c_X3_toil_c8 hf ha) mlX8_13 smX3_X3_toil suX8_X3 mX3_toil ⟨Nat.le_of_ble_eq_true rfl, Nat.le_of_ble_eq_true rfl⟩ rfl rfl (Nat.le_of_ble_eq_true rfl) dX8_toil_1 (by decide) rfl rfl ?_
  refine g_aload_n (q := 0) (pc := 4) dX8_toil_4 rfl rfl ?_
  refine g_get (C := RX8) (F := TX8) (N := 1) (ci := 8) (pc := 5) ha rfl inX8 0 (by decide) flX8_16 (Or.inr sfX8_figure) rfl dX8_toil_5 ?_
  refine g_iadd_N (pc := 8) dX8_toil_8 ?_
  exact g_iret (pc := 9) (by decide) (by decide) (eqI hPo (rk_toil_4 hf)) dX8_toil_9
set_option maxHeartbeats 8000000 in
theorem c_X6_worth_c8 {a f : Nat} (hf : f < 10) (ha : V a = some (vO 8 [.int (nI f)])) : KE l D Z b0 yX6_worth cX6_worth 1 (some .int) rmX6_worth [.ref a] (V) (some (.int (nI 3))) (V) := by
  refine KE.of (by decide) (Nat.le_of_ble_eq_true rfl) (fun Po hPo => ?_)
  refine G.locals (L' := [(0, .ref a)]) [0] rfl ?_
  refine g_iconst (v := nI 3) (pc := 0) dX6_worth_0 (by decide) ?_
  exact g_iret (pc := 1) (by decide) (by decide) (hPo) dX6_worth_1
set_option maxHeartbeats 8000000 in
theorem c_X3_worth_c8 {a f : Nat} (hf : f < 10) (ha : V a = some (vO 8 [.int (nI f)])) : KE l D Z b0 yX3_worth cX3_worth 1 (some .int) rmX3_worth [.ref a] (V) (some (.int (nI (3 + f)))) (V) := by
  refine KE.of (by decide) (Nat.le_of_ble_eq_true rfl) (fun Po hPo => ?_)
  refine G.locals (L' := [(0, .ref a)]) [0] rfl ?_
  refine g_aload_n (q := 0) (pc := 0) dX3_worth_0 rfl rfl ?_
  refine e_callP (k2 := 0) (n2 := 0) (As := []) (rest := []) (pc := 1) ha rfl (by decide) (c_X6_worth_c8 hf ha) mlX3_19 smX6_X6_worth suX3_X6 mX6_worth ⟨Nat.le_of_ble_eq_true rfl, Nat.le_of_ble_eq_true rfl⟩ rfl rfl (Nat.le_of_ble_eq_true rfl) dX3_worth_1 (by decide) rfl rfl ?_
  refine g_aload_n (q := 0) (pc := 4) dX3_worth_4 rfl rfl ?_
  refine g_get (C := RX8) (F := TX8) (N := 1) (ci := 8) (pc := 5) ha rfl inX8 0 (by decide) flX3_22 (Or.inr sfX3_figure) rfl dX3_worth_5 ?_
  refine g_iadd_N (pc := 8) dX3_worth_8 ?_
  exact g_iret (pc := 9) (by decide) (by decide) (hPo) dX3_worth_9
theorem rk_worth_4 {f : Nat} (hf : f < 10) : payI 4 f = nI ((3 + f) * (f + 1)) := (by decide +kernel : ∀ f, f < 10 → payI 4 f = nI ((3 + f) * (f + 1))) f hf
def rmX8_worth : Room := { frames := 2, cells := 0, slots := 0, locals := 40 }
set_option maxHeartbeats 8000000 in
theorem c_X8_worth_c8 {a f : Nat} (hf : f < 10) (ha : V a = some (vO 8 [.int (nI f)])) : KE l D Z b0 yX8_worth cX8_worth 1 (some .int) rmX8_worth [.ref a] (V) (some (.int (payI 4 f))) (V) := by
  refine KE.of (by decide) (Nat.le_of_ble_eq_true rfl) (fun Po hPo => ?_)
  refine G.locals (L' := [(0, .ref a)]) [0] rfl ?_
  refine g_aload_n (q := 0) (pc := 0) dX8_worth_0 rfl rfl ?_
  refine e_callP (k2 := 0) (n2 := 0) (As := []) (rest := []) (pc := 1) ha rfl (by decide) (c_X3_worth_c8 hf ha) mlX8_22 smX3_X3_worth suX8_X3 mX3_worth ⟨Nat.le_of_ble_eq_true rfl, Nat.le_of_ble_eq_true rfl⟩ rfl rfl (Nat.le_of_ble_eq_true rfl) dX8_worth_1 (by decide) rfl rfl ?_
  refine g_aload_n (q := 0) (pc := 4) dX8_worth_4 rfl rfl ?_
  refine g_get (C := RX8) (F := TX8) (N := 1) (ci := 8) (pc := 5) ha rfl inX8 0 (by decide) flX8_16 (Or.inr sfX8_figure) rfl dX8_worth_5 ?_
  refine g_iconst (v := nI 1) (pc := 8) dX8_worth_8 (by decide) ?_
  refine g_iadd_N (pc := 9) dX8_worth_9 ?_
  refine g_imul_N (pc := 10) dX8_worth_10 ?_
  exact g_iret (pc := 11) (by decide) (by decide) (eqI hPo (rk_worth_4 hf)) dX8_worth_11
theorem rk_kind_3 {f : Nat} (hf : f < 10) : nI 3 = nI 3 := by first | rfl | decide
def rmX9_kind : Room := { frames := 0, cells := 0, slots := 0, locals := 0 }
set_option maxHeartbeats 8000000 in
theorem c_X9_kind_c9 {a f : Nat} (hf : f < 10) (ha : V a = some (vO 9 [.int (nI f)])) : KE l D Z b0 yX9_kind cX9_kind 1 (some .int) rmX9_kind [.ref a] (V) (some (.int (nI 3))) (V) := by
  refine KE.of (by decide) (Nat.le_of_ble_eq_true rfl) (fun Po hPo => ?_)
  refine G.locals (L' := [(0, .ref a)]) [0] rfl ?_
  refine g_iconst (v := nI 3) (pc := 0) dX9_kind_0 (by decide) ?_
  exact g_iret (pc := 1) (by decide) (by decide) (eqI hPo (rk_kind_3 hf)) dX9_kind_1
set_option maxHeartbeats 8000000 in
theorem c_X6_slow_c9 {a f : Nat} (hf : f < 10) (ha : V a = some (vO 9 [.int (nI f)])) : KE l D Z b0 yX6_slow cX6_slow 1 (some .int) rmX6_slow [.ref a] (V) (some (.int (nI 4))) (V) := by
  refine KE.of (by decide) (Nat.le_of_ble_eq_true rfl) (fun Po hPo => ?_)
  refine G.locals (L' := [(0, .ref a)]) [0] rfl ?_
  refine g_iconst (v := nI 4) (pc := 0) dX6_slow_0 (by decide) ?_
  exact g_iret (pc := 1) (by decide) (by decide) (hPo) dX6_slow_1
set_option maxHeartbeats 8000000 in
theorem c_X0_slow_c9 {a f : Nat} (hf : f < 10) (ha : V a = some (vO 9 [.int (nI f)])) : KE l D Z b0 yX0_slow cX0_slow 1 (some .int) rmX0_slow [.ref a] (V) (some (.int (nI (4 + f)))) (V) := by
  refine KE.of (by decide) (Nat.le_of_ble_eq_true rfl) (fun Po hPo => ?_)
  refine G.locals (L' := [(0, .ref a)]) [0] rfl ?_
  refine g_aload_n (q := 0) (pc := 0) dX0_slow_0 rfl rfl ?_
  refine e_callP (k2 := 0) (n2 := 0) (As := []) (rest := []) (pc := 1) ha rfl (by decide) (c_X6_slow_c9 hf ha) mlX0_9 smX6_X6_slow suX0_X6 mX6_slow ⟨Nat.le_of_ble_eq_true rfl, Nat.le_of_ble_eq_true rfl⟩ rfl rfl (Nat.le_of_ble_eq_true rfl) dX0_slow_1 (by decide) rfl rfl ?_
  refine g_aload_n (q := 0) (pc := 4) dX0_slow_4 rfl rfl ?_
  refine g_get (C := RX9) (F := TX9) (N := 1) (ci := 9) (pc := 5) ha rfl inX9 0 (by decide) flX0_13 (Or.inr sfX0_figure) rfl dX0_slow_5 ?_
  refine g_iadd_N (pc := 8) dX0_slow_8 ?_
  exact g_iret (pc := 9) (by decide) (by decide) (hPo) dX0_slow_9
theorem rk_slow_3 {f : Nat} (hf : f < 10) : nI (slowN 3 f) = nI ((4 + f) / 2) := (by decide +kernel : ∀ f, f < 10 → nI (slowN 3 f) = nI ((4 + f) / 2)) f hf
def rmX9_slow : Room := { frames := 2, cells := 0, slots := 0, locals := 40 }
set_option maxHeartbeats 8000000 in
theorem c_X9_slow_c9 {a f : Nat} (hf : f < 10) (ha : V a = some (vO 9 [.int (nI f)])) : KE l D Z b0 yX9_slow cX9_slow 1 (some .int) rmX9_slow [.ref a] (V) (some (.int (nI (slowN 3 f)))) (V) := by
  refine KE.of (by decide) (Nat.le_of_ble_eq_true rfl) (fun Po hPo => ?_)
  refine G.locals (L' := [(0, .ref a)]) [0] rfl ?_
  refine g_aload_n (q := 0) (pc := 0) dX9_slow_0 rfl rfl ?_
  refine e_callP (k2 := 0) (n2 := 0) (As := []) (rest := []) (pc := 1) ha rfl (by decide) (c_X0_slow_c9 hf ha) mlX9_9 smX0_X0_slow suX9_X0 mX0_slow ⟨Nat.le_of_ble_eq_true rfl, Nat.le_of_ble_eq_true rfl⟩ rfl rfl (Nat.le_of_ble_eq_true rfl) dX9_slow_1 (by decide) rfl rfl ?_
  refine g_iconst (v := nI 2) (pc := 4) dX9_slow_4 (by decide) ?_
  refine g_idiv_N (pc := 5) (by omega) (by decide) (by decide) dX9_slow_5 ?_
  exact g_iret (pc := 6) (by decide) (by decide) (eqI hPo (rk_slow_3 hf)) dX9_slow_6
set_option maxHeartbeats 8000000 in
theorem c_X6_loss_c9 {a f : Nat} (hf : f < 10) (ha : V a = some (vO 9 [.int (nI f)])) : KE l D Z b0 yX6_loss cX6_loss 1 (some .int) rmX6_loss [.ref a] (V) (some (.int (nI 2))) (V) := by
  refine KE.of (by decide) (Nat.le_of_ble_eq_true rfl) (fun Po hPo => ?_)
  refine G.locals (L' := [(0, .ref a)]) [0] rfl ?_
  refine g_iconst (v := nI 2) (pc := 0) dX6_loss_0 (by decide) ?_
  exact g_iret (pc := 1) (by decide) (by decide) (hPo) dX6_loss_1
set_option maxHeartbeats 8000000 in
theorem c_X0_loss_c9 {a f : Nat} (hf : f < 10) (ha : V a = some (vO 9 [.int (nI f)])) : KE l D Z b0 yX0_loss cX0_loss 1 (some .int) rmX0_loss [.ref a] (V) (some (.int (nI (2 + 3)))) (V) := by
  refine KE.of (by decide) (Nat.le_of_ble_eq_true rfl) (fun Po hPo => ?_)
  refine G.locals (L' := [(0, .ref a)]) [0] rfl ?_
  refine g_aload_n (q := 0) (pc := 0) dX0_loss_0 rfl rfl ?_
  refine e_callP (k2 := 0) (n2 := 0) (As := []) (rest := []) (pc := 1) ha rfl (by decide) (c_X6_loss_c9 hf ha) mlX0_19 smX6_X6_loss suX0_X6 mX6_loss ⟨Nat.le_of_ble_eq_true rfl, Nat.le_of_ble_eq_true rfl⟩ rfl rfl (Nat.le_of_ble_eq_true rfl) dX0_loss_1 (by decide) rfl rfl ?_
  refine g_iconst (v := nI 3) (pc := 4) dX0_loss_4 (by decide) ?_
  refine g_iadd_N (pc := 5) dX0_loss_5 ?_
  exact g_iret (pc := 6) (by decide) (by decide) (hPo) dX0_loss_6
theorem rk_loss_3 {f : Nat} (hf : f < 10) : nI (lossN 3 f) = mxI (nI 0) ((nI (2 + 3)) - (nI f)) := (by decide +kernel : ∀ f, f < 10 → nI (lossN 3 f) = mxI (nI 0) ((nI (2 + 3)) - (nI f))) f hf
def rmX9_loss : Room := { frames := 2, cells := 0, slots := 0, locals := 40 }
set_option maxHeartbeats 8000000 in
theorem c_X9_loss_c9 {a f : Nat} (hf : f < 10) (ha : V a = some (vO 9 [.int (nI f)])) : KE l D Z b0 yX9_loss cX9_loss 1 (some .int) rmX9_loss [.ref a] (V) (some (.int (nI (lossN 3 f)))) (V) := by
  refine KE.of (by decide) (Nat.le_of_ble_eq_true rfl) (fun Po hPo => ?_)
  refine G.locals (L' := [(0, .ref a)]) [0] rfl ?_
  refine g_iconst (v := nI 0) (pc := 0) dX9_loss_0 (by decide) ?_
  refine g_aload_n (q := 0) (pc := 1) dX9_loss_1 rfl rfl ?_
  refine e_callP (k2 := 0) (n2 := 0) (As := []) (rest := [.int (nI 0)]) (pc := 2) ha rfl (by decide) (c_X0_loss_c9 hf ha) mlX9_13 smX0_X0_loss suX9_X0 mX0_loss ⟨Nat.le_of_ble_eq_true rfl, Nat.le_of_ble_eq_true rfl⟩ rfl rfl (Nat.le_of_ble_eq_true rfl) dX9_loss_2 (by decide) rfl rfl ?_
  refine g_aload_n (q := 0) (pc := 5) dX9_loss_5 rfl rfl ?_
  refine g_get (C := RX9) (F := TX9) (N := 1) (ci := 9) (pc := 6) ha rfl inX9 0 (by decide) flX9_16 (Or.inr sfX9_figure) rfl dX9_loss_6 ?_
  refine g_isub (pc := 9) dX9_loss_9 ?_
  refine g_jmax (pc := 10) mlX9_22 ⟨Nat.le_of_ble_eq_true rfl, Nat.le_of_ble_eq_true rfl⟩ (Nat.le_of_ble_eq_true rfl) dX9_loss_10 (by decide) ?_
  exact g_iret (pc := 13) (by decide) (by decide) (eqI hPo (rk_loss_3 hf)) dX9_loss_13
set_option maxHeartbeats 8000000 in
theorem c_X6_toil_c9 {a f : Nat} (hf : f < 10) (ha : V a = some (vO 9 [.int (nI f)])) : KE l D Z b0 yX6_toil cX6_toil 1 (some .int) rmX6_toil [.ref a] (V) (some (.int (nI 5))) (V) := by
  refine KE.of (by decide) (Nat.le_of_ble_eq_true rfl) (fun Po hPo => ?_)
  refine G.locals (L' := [(0, .ref a)]) [0] rfl ?_
  refine g_iconst (v := nI 5) (pc := 0) dX6_toil_0 (by decide) ?_
  exact g_iret (pc := 1) (by decide) (by decide) (hPo) dX6_toil_1
set_option maxHeartbeats 8000000 in
theorem c_X0_toil_c9 {a f : Nat} (hf : f < 10) (ha : V a = some (vO 9 [.int (nI f)])) : KE l D Z b0 yX0_toil cX0_toil 1 (some .int) rmX0_toil [.ref a] (V) (some (.int (nI (5 - 2)))) (V) := by
  refine KE.of (by decide) (Nat.le_of_ble_eq_true rfl) (fun Po hPo => ?_)
  refine G.locals (L' := [(0, .ref a)]) [0] rfl ?_
  refine g_aload_n (q := 0) (pc := 0) dX0_toil_0 rfl rfl ?_
  refine e_callP (k2 := 0) (n2 := 0) (As := []) (rest := []) (pc := 1) ha rfl (by decide) (c_X6_toil_c9 hf ha) mlX0_22 smX6_X6_toil suX0_X6 mX6_toil ⟨Nat.le_of_ble_eq_true rfl, Nat.le_of_ble_eq_true rfl⟩ rfl rfl (Nat.le_of_ble_eq_true rfl) dX0_toil_1 (by decide) rfl rfl ?_
  refine g_iconst (v := nI 2) (pc := 4) dX0_toil_4 (by decide) ?_
  refine g_isub_N (pc := 5) (by omega) dX0_toil_5 ?_
  exact g_iret (pc := 6) (by decide) (by decide) (hPo) dX0_toil_6
theorem rk_toil_3 {f : Nat} (hf : f < 10) : nI (toilN 3 f) = nI ((5 - 2) * (f + 1)) := (by decide +kernel : ∀ f, f < 10 → nI (toilN 3 f) = nI ((5 - 2) * (f + 1))) f hf
def rmX9_toil : Room := { frames := 2, cells := 0, slots := 0, locals := 40 }
set_option maxHeartbeats 8000000 in
theorem c_X9_toil_c9 {a f : Nat} (hf : f < 10) (ha : V a = some (vO 9 [.int (nI f)])) : KE l D Z b0 yX9_toil cX9_toil 1 (some .int) rmX9_toil [.ref a] (V) (some (.int (nI (toilN 3 f)))) (V) := by
  refine KE.of (by decide) (Nat.le_of_ble_eq_true rfl) (fun Po hPo => ?_)
  refine G.locals (L' := [(0, .ref a)]) [0] rfl ?_
  refine g_aload_n (q := 0) (pc := 0) dX9_toil_0 rfl rfl ?_
  refine e_callP (k2 := 0) (n2 := 0) (As := []) (rest := []) (pc := 1) ha rfl (by decide) (c_X0_toil_c9 hf ha) mlX9_28 smX0_X0_toil suX9_X0 mX0_toil ⟨Nat.le_of_ble_eq_true rfl, Nat.le_of_ble_eq_true rfl⟩ rfl rfl (Nat.le_of_ble_eq_true rfl) dX9_toil_1 (by decide) rfl rfl ?_
  refine g_aload_n (q := 0) (pc := 4) dX9_toil_4 rfl rfl ?_
  refine g_get (C := RX9) (F := TX9) (N := 1) (ci := 9) (pc := 5) ha rfl inX9 0 (by decide) flX9_16 (Or.inr sfX9_figure) rfl dX9_toil_5 ?_
  refine g_iconst (v := nI 1) (pc := 8) dX9_toil_8 (by decide) ?_
  refine g_iadd_N (pc := 9) dX9_toil_9 ?_
  refine g_imul_N (pc := 10) dX9_toil_10 ?_
  exact g_iret (pc := 11) (by decide) (by decide) (eqI hPo (rk_toil_3 hf)) dX9_toil_11
set_option maxHeartbeats 8000000 in
theorem c_X6_worth_c9 {a f : Nat} (hf : f < 10) (ha : V a = some (vO 9 [.int (nI f)])) : KE l D Z b0 yX6_worth cX6_worth 1 (some .int) rmX6_worth [.ref a] (V) (some (.int (nI 3))) (V) := by
  refine KE.of (by decide) (Nat.le_of_ble_eq_true rfl) (fun Po hPo => ?_)
  refine G.locals (L' := [(0, .ref a)]) [0] rfl ?_
  refine g_iconst (v := nI 3) (pc := 0) dX6_worth_0 (by decide) ?_
  exact g_iret (pc := 1) (by decide) (by decide) (hPo) dX6_worth_1
set_option maxHeartbeats 8000000 in
theorem c_X0_worth_c9 {a f : Nat} (hf : f < 10) (ha : V a = some (vO 9 [.int (nI f)])) : KE l D Z b0 yX0_worth cX0_worth 1 (some .int) rmX0_worth [.ref a] (V) (some (.int (nI (3 - 1)))) (V) := by
  refine KE.of (by decide) (Nat.le_of_ble_eq_true rfl) (fun Po hPo => ?_)
  refine G.locals (L' := [(0, .ref a)]) [0] rfl ?_
  refine g_aload_n (q := 0) (pc := 0) dX0_worth_0 rfl rfl ?_
  refine e_callP (k2 := 0) (n2 := 0) (As := []) (rest := []) (pc := 1) ha rfl (by decide) (c_X6_worth_c9 hf ha) mlX0_25 smX6_X6_worth suX0_X6 mX6_worth ⟨Nat.le_of_ble_eq_true rfl, Nat.le_of_ble_eq_true rfl⟩ rfl rfl (Nat.le_of_ble_eq_true rfl) dX0_worth_1 (by decide) rfl rfl ?_
  refine g_iconst (v := nI 1) (pc := 4) dX0_worth_4 (by decide) ?_
  refine g_isub_N (pc := 5) (by omega) dX0_worth_5 ?_
  exact g_iret (pc := 6) (by decide) (by decide) (hPo) dX0_worth_6
theorem rk_worth_3 {f : Nat} (hf : f < 10) : payI 3 f = nI ((3 - 1) * 2) := by first | rfl | decide
def rmX9_worth : Room := { frames := 2, cells := 0, slots := 0, locals := 40 }
set_option maxHeartbeats 8000000 in
theorem c_X9_worth_c9 {a f : Nat} (hf : f < 10) (ha : V a = some (vO 9 [.int (nI f)])) : KE l D Z b0 yX9_worth cX9_worth 1 (some .int) rmX9_worth [.ref a] (V) (some (.int (payI 3 f))) (V) := by
  refine KE.of (by decide) (Nat.le_of_ble_eq_true rfl) (fun Po hPo => ?_)
  refine G.locals (L' := [(0, .ref a)]) [0] rfl ?_
  refine g_aload_n (q := 0) (pc := 0) dX9_worth_0 rfl rfl ?_
  refine e_callP (k2 := 0) (n2 := 0) (As := []) (rest := []) (pc := 1) ha rfl (by decide) (c_X0_worth_c9 hf ha) mlX9_31 smX0_X0_worth suX9_X0 mX0_worth ⟨Nat.le_of_ble_eq_true rfl, Nat.le_of_ble_eq_true rfl⟩ rfl rfl (Nat.le_of_ble_eq_true rfl) dX9_worth_1 (by decide) rfl rfl ?_
  refine g_iconst (v := nI 2) (pc := 4) dX9_worth_4 (by decide) ?_
  refine g_imul_N (pc := 5) dX9_worth_5 ?_
  exact g_iret (pc := 6) (by decide) (by decide) (eqI hPo (rk_worth_3 hf)) dX9_worth_6
end MS
