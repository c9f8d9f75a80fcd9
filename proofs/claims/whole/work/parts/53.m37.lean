def elT : List (Nat × Nat × Nat × Nat) := [(0, 9, 12, 13), (0, 9, 16, 15)]
def mVW (y : MethodName) (bytes : ByteArray) (maxL : Nat) (ret : Option FieldType) (hh : List (Nat × Nat × Nat × Nat)) (n0 : Nat) : Prop := (Cond.instanceMethod y ∈ TB ∧ Cond.initialized y.cls ∈ TB ∧ Cond.codeWith y bytes maxL ret hh ∈ TB) ∧ (y.cls ≠ "java/lang/invoke/MethodHandle" ∧ y.cls ≠ "java/lang/invoke/VarHandle" ∧ (parseMethodDescriptor y.desc).map (fun d => d.parameters.length) = some n0)
def mSW (y : MethodName) (bytes : ByteArray) (maxL : Nat) (ret : Option FieldType) (hh : List (Nat × Nat × Nat × Nat)) (n0 : Nat) : Prop := (Cond.static y ∈ TB ∧ Cond.initialized y.cls ∈ TB ∧ Cond.codeWith y bytes maxL ret hh ∈ TB) ∧ (y.cls ≠ "java/lang/invoke/MethodHandle" ∧ y.cls ≠ "java/lang/invoke/VarHandle" ∧ (parseMethodDescriptor y.desc).map (fun d => d.parameters.length) = some n0)
theorem mX11_toss : mVW yX11_toss cX11_toss 4 (some .int) tossT 1 := ⟨⟨TB_in 725 (by decide +kernel) (by decide +kernel), TB_in 50 (by decide +kernel) (by decide +kernel), TB_in 727 (by decide +kernel) (by decide +kernel)⟩, by decide +kernel⟩
theorem mL_element : mSW yL_element cL_element 5 (some .int) elT 4 := ⟨⟨TB_in 850 (by decide +kernel) (by decide +kernel), TB_in 49 (by decide +kernel) (by decide +kernel), TB_in 851 (by decide +kernel) (by decide +kernel)⟩, by decide +kernel⟩
section XR
variable {l : Launch} {D : va_G} {Z : Nat → ClassId} {b0 : Nat} {R : Room} {own : String} {cc : ByteArray} {nL : Nat} {T : List Frame → Array Value → State → State → Prop} {V : HV} {L : List (Nat × Value)} {k n pc : Nat} {rest st : List Value}
theorem KX.ofP {y : MethodName} {bytes : ByteArray} {maxL : Nat} {ret : Option FieldType} {rm : Room} {av : List Value} {Po : Option Value → HV → Prop} {PX : String → HV → Prop} (hy : plainName y.cls = true) (hav : (lg_sl av).length ≤ maxL) (g : ∀ Po' : Option Value → HV → Prop, (∀ v V', Po v V' → Po' v V') → G l D Z b0 rm y.cls bytes maxL (gEx ret y.name b0 []) (gTx D b0 Po' PX rm.cells rm.slots) V (lv_args 0 av) 0 0 0 []) : KX l D Z b0 y (.code y bytes maxL ret) rm av V Po PX := KX.of hy hav (g Po (fun _ _ h => h))
theorem KX.ofHP {y : MethodName} {bytes : ByteArray} {maxL : Nat} {ret : Option FieldType} {hh : List (Nat × Nat × Nat × Nat)} {rm : Room} {av : List Value} {Po : Option Value → HV → Prop} {PX : String → HV → Prop} (hy : plainName y.cls = true) (hav : (lg_sl av).length ≤ maxL) (g : ∀ Po' : Option Value → HV → Prop, (∀ v V', Po v V' → Po' v V') → G l D Z b0 rm y.cls bytes maxL (gEx ret y.name b0 (tableOf hh)) (gTx D b0 Po' PX rm.cells rm.slots) V (lv_args 0 av) 0 0 0 []) : KX l D Z b0 y (.codeWith y bytes maxL ret hh) rm av V Po PX := KX.ofH hy hav (g Po (fun _ _ h => h))
theorem gX1 {Po : Option Value → HV → Prop} {a b : Int32} {V : HV} (h : ∀ v V', (v = some (.int a) ∧ V' = V) → Po v V') (e : a = b) : Po (some (.int b)) V := h _ _ ⟨by rw [e], rfl⟩
theorem x_nx {s st₀ t T' : State} {H : Heap} {locs L9 : List Loc} (hS : va_S (fun q => b0 ≤ q) s.heap H locs) (h0 : st₀.heap = H) (e1 : T'.heap = t.heap) (hF : va_F (fun q => b0 ≤ q) st₀ t) (hL9 : ∀ z ∈ L9, b0 ≤ z.base) : va_S (fun q => b0 ≤ q) s.heap T'.heap (locs ++ L9) := by
  obtain ⟨hz, hk⟩ := hF
  rw [h0] at hz hk
  exact ⟨Nat.le_trans hS.1 (by rw [e1]; exact hz), fun q h1 h2 => by rw [e1, hk q (Nat.lt_of_lt_of_le h1 hS.1) h2]; exact hS.2.1 q h1 h2, fun q hq => by
    rcases List.mem_append.mp hq with h | h
    · exact hS.2.2 q h
    · exact hL9 q h⟩
/-- a virtual call of a method with a table, that never throws -/
theorem g_callVX {y : MethodName} {bytes : ByteArray} {maxL n0 index : Nat} {ret : Option FieldType} {E9 : Method → Array Value → State → Prop} (hz9 : ∀ meth args s, E9 meth args s → zW b0 s) {hh : List (Nat × Nat × Nat × Nat)} {rm : Room} {Po : Option Value → HV → Prop} {As st : List Value} {b ci N : Nat} {F : u_T} {fs : List Value} (hb : V b = some (vO ci fs)) (hc : vwCl[ci]? = some (y.cls, F, N)) (hM : KX l D Z b0 y (.codeWith y bytes maxL ret hh) rm (.ref b :: As) V Po (fun _ _ => False)) (hl : Cond.methodLink own index y ∈ TB) (hsel : Cond.selects y.cls y y ∈ TB) (hm : mVW y bytes maxL ret hh n0) (hR : rm.frames + 1 ≤ R.frames ∧ 8 + (maxL + 11) + rm.locals ≤ R.locals) (hn : As.length = n0) (hst : st = As.reverse ++ .ref b :: rest) (hcat : (rest.map fun v => v.category).sum ≤ 8) (hdg : decode cc pc = .ok (.invokevirtual index, 3)) (hf : k + rm.cells ≤ R.cells ∧ n + rm.slots ≤ R.slots) (kk : ∀ (v : Option Value) (V' : HV), Po v V' → G l D Z b0 R own cc nL E9 T V' L (k + rm.cells) (n + rm.slots) (pc + 3) (v.toList ++ rest)) : G l D Z b0 R own cc nL E9 T V L k n pc st := by
  intro p e s m args below meth c H locs ls X hE hV hS hL T9 hT X9
  have hts := X.2.2.2.2.1
  have hG : GoodIn TB (.codeWith y bytes maxL ret hh :: TB) := TB_sub (TB_cons hm.1.2.2)
  have hrun := vx_runVX (p := p) (l := l) (e := e) (R := R) (s := s) (m := m) (args := args) (below := below) (meth := meth) (c := c) (H := H) (locs := locs) ⟨X.1, X.2.1, X.2.2.1, X.2.2.2.1, hts⟩ hM ⟨⟨rfl, rfl, hR.1, hR.2, pay_in hts hG, List.mem_cons_self⟩, hts _ hm.1.2.2, hts _ hm.1.2.1, ⟨hm.2.1, hm.2.2.1⟩, fun sig h => by
      have h2 := hm.2.2.2
      rw [h] at h2
      exact (Option.some.inj h2).symm, hts _ hl, hts _ hm.1.1, hts _ hsel⟩ ⟨kPz.blind, va_recv X.2.2.2.2.2.1.1 (hV.one hb) (ci := ci) (q0 := 0) hc rfl, fun U hU hW => ⟨rfl, by rw [hU]; exact hV, X.2.2.2.2.2.1.warm hW, by rw [hU]; exact Nat.le_trans X.2.2.2.2.2.2.1 hS.1, (hz9 _ _ _ hE).to hU hW hS⟩⟩ (g := F0 m pc ls st) (rest := rest) (cells := k) (slots := n) rfl hn hL.1 hst (lv_room (ls := ls) (rest := st) hcat) hdg hf
  rcases hrun T9 hT X9 with ⟨v, st₀, t, T', L9, h0, X', hL9, e1, e2, ⟨⟨v', V', hv, hp, hb9⟩, hF⟩, stp⟩ | ⟨q9, st₀, t, T', L9, E9, ce, h0, X', hL9, e1, e2, ⟨V', hp, hb9, hF⟩, hce, hcv, hcl, stp⟩
  · cases hv
    obtain ⟨t2, a1, b1⟩ := kk v V' hp p e s m args below meth c T'.heap (locs ++ L9) ls X hE (by rw [e1]; exact hb9) (x_nx hS h0 e1 hF hL9) hL T' rfl X'
    exact ⟨t2, stp t2 a1, b1⟩
  · exact absurd hp id
/-- a static call of a method with a table, that never throws -/
theorem g_callSX {y : MethodName} {bytes : ByteArray} {maxL n0 index : Nat} {ret : Option FieldType} {E9 : Method → Array Value → State → Prop} (hz9 : ∀ meth args s, E9 meth args s → zW b0 s) {hh : List (Nat × Nat × Nat × Nat)} {rm : Room} {Po : Option Value → HV → Prop} {As st : List Value} (hM : KX l D Z b0 y (.codeWith y bytes maxL ret hh) rm As V Po (fun _ _ => False)) (hl : Cond.methodLink own index y ∈ TB) (hm : mSW y bytes maxL ret hh n0) (hR : rm.frames + 1 ≤ R.frames ∧ 8 + (maxL + 11) + rm.locals ≤ R.locals) (hn : As.length = n0) (hst : st = As.reverse ++ rest) (hcat : (rest.map fun v => v.category).sum ≤ 8) (hdg : decode cc pc = .ok (.invokestatic index, 3)) (hf : k + rm.cells ≤ R.cells ∧ n + rm.slots ≤ R.slots) (kk : ∀ (v : Option Value) (V' : HV), Po v V' → G l D Z b0 R own cc nL E9 T V' L (k + rm.cells) (n + rm.slots) (pc + 3) (v.toList ++ rest)) : G l D Z b0 R own cc nL E9 T V L k n pc st := by
  intro p e s m args below meth c H locs ls X hE hV hS hL T9 hT X9
  have hts := X.2.2.2.2.1
  have hG : GoodIn TB (.codeWith y bytes maxL ret hh :: TB) := TB_sub (TB_cons hm.1.2.2)
  have hrun := vx_runSX (p := p) (l := l) (e := e) (R := R) (s := s) (m := m) (args := args) (below := below) (meth := meth) (c := c) (H := H) (locs := locs) ⟨X.1, X.2.1, X.2.2.1, X.2.2.2.1, hts⟩ hM ⟨⟨rfl, rfl, hR.1, hR.2, pay_in hts hG, List.mem_cons_self⟩, hts _ hm.1.2.2, hts _ hm.1.2.1, ⟨hm.2.1, hm.2.2.1⟩, fun sig h => by
      have h2 := hm.2.2.2
      rw [h] at h2
      exact (Option.some.inj h2).symm, hts _ hl, hts _ hm.1.1⟩ ⟨kPz.blind, fun U hU hW => ⟨rfl, by rw [hU]; exact hV, X.2.2.2.2.2.1.warm hW, by rw [hU]; exact Nat.le_trans X.2.2.2.2.2.2.1 hS.1, (hz9 _ _ _ hE).to hU hW hS⟩⟩ (g := F0 m pc ls st) (rest := rest) (cells := k) (slots := n) rfl hn hL.1 hst (lv_room (ls := ls) (rest := st) hcat) hdg hf
  rcases hrun T9 hT X9 with ⟨v, st₀, t, T', L9, h0, X', hL9, e1, e2, ⟨⟨v', V', hv, hp, hb9⟩, hF⟩, stp⟩ | ⟨q9, st₀, t, T', L9, E9, ce, h0, X', hL9, e1, e2, ⟨V', hp, hb9, hF⟩, hce, hcv, hcl, stp⟩
  · cases hv
    obtain ⟨t2, a1, b1⟩ := kk v V' hp p e s m args below meth c T'.heap (locs ++ L9) ls X hE (by rw [e1]; exact hb9) (x_nx hS h0 e1 hF hL9) hL T' rfl X'
    exact ⟨t2, stp t2 a1, b1⟩
  · exact absurd hp id
end XR
section MS
variable {l : Launch} {D : va_G} {Z : Nat → ClassId} {b0 : Nat} {cd : Nat → Nat} {ik : Int32} {ugA ugB ugC : Nat} {rA : Nat → Nat} {pA tA : Nat → Int32} {rB : Nat → Nat} {pB tB : Nat → Int32} {rC : Nat → Nat} {pC tC cX lX oX nX sX zX cY lY oY nY sY zY tm cl : Nat → Int32} {KR : Nat → Option Nat} {SO : Nat → Int32} {SZ : Nat → Nat} {EL : Nat → Nat → Int32} {V Vb : HV} {kd fg pl ikd ifg ipl kp so sz : Nat → Nat} {hr ihr el ki kf : Nat → Int32}
def rmX11_toss : Room := { frames := 7, cells := 1, slots := 6, locals := 120 }
set_option maxHeartbeats 8000000 in
theorem x_X11_toss_s {d q f : Nat} (hA : oC b0 cd V) (hE : Ext Vb V) (hgA : Rk V ugA 7 0) (hgB : Rk V ugB 7 0) (hmA : mo V rA kd fg) (hmC : mo V rC ikd ifg) (hpl : ∀ g, g < 2 → pl g < 20) (hipl : ∀ g, g < 2 → ipl g < 20) (hSh : Sh V KR SO SZ EL kp so sz el ki kf) (hd : d < 8) (hk : kp d = 1) (hki : ki d = nI q) (hkf : kf d = nI f) (hk8 : q < 8) (hf10 : f < 10) (hfl : l.stackTraces = false) : KX l D Z b0 yX11_toss (.codeWith yX11_toss cX11_toss 4 (some .int) tossT) rmX11_toss [.ref (cd 0), .int (nI d)] (wC Z cd ik ugA ugB ugC rA (nf pl) hr rB pB tB rC (nf ipl) ihr cX lX oX nX sX zX cY lY oY nY sY zY tm cl KR SO SZ EL V) (fun v V' => v = some (.int (tossI q f)) ∧ V' = (wC Z cd ik ugA ugB ugC rA (nf pl) hr rB pB tB rC (nf ipl) ihr cX lX oX nX sX zX cY lY oY nY sY zY tm cl KR SO SZ EL V)) (fun _ _ => False) := by
  refine KX.ofHP (by decide) (Nat.le_of_ble_eq_true rfl) (fun Po hPo => ?_)
  refine G.locals (L' := [(0, .ref (cd 0)), (1, .int (nI d))]) [0, 1] rfl ?_
  obtain ⟨a, hkR, hrR⟩ := Sh.r1 hSh hd hk hki hkf hk8 hf10
  refine g_aload_n (q := 0) (pc := 0) dX11_toss_0 rfl rfl ?_
  refine g_iload_n (q := 1) (pc := 1) dX11_toss_1 rfl rfl ?_
  refine e_callV (k2 := 0) (n2 := 0) (As := [.int (nI d)]) (rest := []) (pc := 2) (wC_0 hA) rfl (c_X11_rockOn_R hA hd hkR) mlX11_96 selX11_X11_rockOn_X11_rockOn mX11_rockOn ⟨Nat.le_of_ble_eq_true rfl, Nat.le_of_ble_eq_true rfl⟩ rfl rfl (Nat.le_of_ble_eq_true rfl) dX11_toss_2 (by decide) rfl rfl ?_
  refine g_astore_n (lv' := [(2, .ref a), (0, .ref (cd 0)), (1, .int (nI d))]) (pc := 5) dX11_toss_5 rfl (by decide) rfl ?_
  refine g_aload_n (q := 0) (pc := 6) dX11_toss_6 rfl rfl ?_
  refine g_ifnonnull (tgt := 16) (pc := 7) dX11_toss_7 (by decide) ?_
  refine g_aload_n (q := 0) (pc := 16) dX11_toss_16 rfl rfl ?_
  refine g_failO (q := q) (f := f) hfl (wC_rk hA hrR) ⟨Nat.le_of_ble_eq_true rfl, Nat.le_of_ble_eq_true rfl⟩ dX11_toss_17 ⟨Nat.le_of_ble_eq_true rfl, Nat.le_of_ble_eq_true rfl⟩ (fun z0 => ?_) (fun hf0 h3 h4 h7 e9 => ?_) (fun hf0 h3 e9 => ?_) (fun hf0 h4 e9 => ?_)
  · -- 20
    refine g_goto (tgt := 48) (pc := 20) dX11_toss_20 (by decide) ?_
    refine g_bipush (v := (-15)) (pc := 48) dX11_toss_48 (by decide) ?_
    exact G.toX (g_iret (pc := 50) (by decide) (by decide) (gX1 hPo (by unfold tossI; rw [if_pos z0])) dX11_toss_50)
  · -- 23
    refine g_astore_n (lv' := [(3, .ref e9), (2, .ref a), (0, .ref (cd 0)), (1, .int (nI d))]) (pc := 23) dX11_toss_23 rfl (by decide) rfl ?_
    refine g_aload_n (q := 1) (pc := 24) dX11_toss_24 rfl rfl ?_
    refine g_rk_figure (pc := 25) (q := q) (f := f) (wC_rk hA hrR) flX11_83 dX11_toss_25 ?_
    exact G.toX (g_iret (pc := 28) (by decide) (by decide) (gX1 hPo (by unfold tossI; rw [if_neg (by omega), if_neg h3, if_neg h4])) dX11_toss_28)
  · -- 29
    refine g_astore_n (lv' := [(3, .ref e9), (2, .ref a), (0, .ref (cd 0)), (1, .int (nI d))]) (pc := 29) dX11_toss_29 rfl (by decide) rfl ?_
    refine g_aload_n (q := 1) (pc := 30) dX11_toss_30 rfl rfl ?_
    refine g_rk_figure (pc := 31) (q := q) (f := f) (wC_rk hA hrR) flX11_83 dX11_toss_31 ?_
    refine g_bipush (v := nI 100) (pc := 34) dX11_toss_34 (by decide) ?_
    refine g_iadd_N (pc := 36) dX11_toss_36 ?_
    exact G.toX (g_iret (pc := 37) (by decide) (by decide) (gX1 hPo (by unfold tossI; rw [if_neg (by omega), if_pos h3, Nat.add_comm])) dX11_toss_37)
  · -- 38
    refine g_astore_n (lv' := [(3, .ref e9), (2, .ref a), (0, .ref (cd 0)), (1, .int (nI d))]) (pc := 38) dX11_toss_38 rfl (by decide) rfl ?_
    refine g_sipush (v := nI 200) (pc := 39) dX11_toss_39 (by decide) ?_
    refine g_aload_n (q := 1) (pc := 42) dX11_toss_42 rfl rfl ?_
    refine g_rk_worth (pc := 43) (q := q) (f := f) (wC_rk hA hrR) mlX11_249 ⟨Nat.le_of_ble_eq_true rfl, Nat.le_of_ble_eq_true rfl⟩ (Nat.le_of_ble_eq_true rfl) dX11_toss_43 ⟨by decide, by decide⟩ ?_
    refine g_iadd (pc := 46) dX11_toss_46 ?_
    exact G.toX (g_iret (pc := 47) (by decide) (by decide) (gX1 hPo (by unfold tossI; rw [if_neg (by omega), if_neg (by omega), if_pos h4])) dX11_toss_47)
theorem dx_X11_toss_s {d q f : Nat} {V2 : HV} (hCI : CI Z b0 cd Vb ik kd fg pl hr ikd ifg ipl ihr kp so sz el ki kf V2) (hd : d < 8) (hk : kp d = 1) (hki : ki d = nI q) (hkf : kf d = nI f) (hk8 : q < 8) (hf10 : f < 10) (hfl : l.stackTraces = false) : KX l D Z b0 yX11_toss (.codeWith yX11_toss cX11_toss 4 (some .int) tossT) rmX11_toss [.ref (cd 0), .int (nI d)] V2 (fun v V' => v = some (.int (tossI q f)) ∧ V' = V2) (fun _ _ => False) := by
  obtain ⟨ugA, ugB, ugC, rA, rB, pB, tB, rC, cX, lX, oX, nX, sX, zX, cY, lY, oY, nY, sY, zY, tm, cl, KR, SO, SZ, EL, V, rfl, hA, hE, hgA, hgB, hmA, hmC, hpl, hipl, hSh⟩ := hCI
  exact x_X11_toss_s hA hE hgA hgB hmA hmC hpl hipl hSh hd hk hki hkf hk8 hf10 hfl
set_option maxHeartbeats 8000000 in
theorem x_X11_toss_n {d : Int32} (hA : oC b0 cd V) (hE : Ext Vb V) (hgA : Rk V ugA 7 0) (hgB : Rk V ugB 7 0) (hmA : mo V rA kd fg) (hmC : mo V rC ikd ifg) (hpl : ∀ g, g < 2 → pl g < 20) (hipl : ∀ g, g < 2 → ipl g < 20) (hSh : Sh V KR SO SZ EL kp so sz el ki kf) (h : ¬ spWK kp d = 0) : KX l D Z b0 yX11_toss (.codeWith yX11_toss cX11_toss 4 (some .int) tossT) rmX11_toss [.ref (cd 0), .int d] (wC Z cd ik ugA ugB ugC rA (nf pl) hr rB pB tB rC (nf ipl) ihr cX lX oX nX sX zX cY lY oY nY sY zY tm cl KR SO SZ EL V) (fun v V' => v = some (.int (spWK kp d)) ∧ V' = (wC Z cd ik ugA ugB ugC rA (nf pl) hr rB pB tB rC (nf ipl) ihr cX lX oX nX sX zX cY lY oY nY sY zY tm cl KR SO SZ EL V)) (fun _ _ => False) := by
  refine KX.ofHP (by decide) (Nat.le_of_ble_eq_true rfl) (fun Po hPo => ?_)
  refine G.locals (L' := [(0, .ref (cd 0)), (1, .int d)]) [0, 1] rfl ?_
  refine g_aload_n (q := 0) (pc := 0) dX11_toss_0 rfl rfl ?_
  refine g_iload_n (q := 1) (pc := 1) dX11_toss_1 rfl rfl ?_
  rcases Sh.k hSh d with ho | ⟨d, hd, rfl, h0⟩ | ⟨d, hd, rfl, h1, a, q, f, hk1, hr1, hi1, hf1, hs1⟩ | ⟨d, hd, rfl, h2⟩
  · -- alt
    refine e_callV (k2 := 0) (n2 := 0) (As := [.int d]) (rest := []) (pc := 2) (wC_0 hA) rfl (c_X11_rockOn_o hA ho) mlX11_96 selX11_X11_rockOn_X11_rockOn mX11_rockOn ⟨Nat.le_of_ble_eq_true rfl, Nat.le_of_ble_eq_true rfl⟩ rfl rfl (Nat.le_of_ble_eq_true rfl) dX11_toss_2 (by decide) rfl rfl ?_
    refine g_astore_nN (lv' := [(2, .null), (0, .ref (cd 0)), (1, .int d)]) (pc := 5) dX11_toss_5 rfl (by decide) rfl ?_
    refine g_aload_nN (q := 0) (pc := 6) dX11_toss_6 rfl rfl ?_
    refine g_ifnonnullN (pc := 7) dX11_toss_7 ?_
    refine g_aload_n (q := 1) (pc := 10) dX11_toss_10 rfl rfl ?_
    refine g_iload_n (q := 2) (pc := 11) dX11_toss_11 rfl rfl ?_
    refine e_callV (k2 := 0) (n2 := 0) (As := [.int d]) (rest := []) (pc := 12) (wC_0 hA) rfl (c_X11_whyNot_o hA ho) mlX11_54 selX11_X11_whyNot_X11_whyNot mX11_whyNot ⟨Nat.le_of_ble_eq_true rfl, Nat.le_of_ble_eq_true rfl⟩ rfl rfl (Nat.le_of_ble_eq_true rfl) dX11_toss_12 (by decide) rfl rfl ?_
    exact G.toX (g_iret (pc := 15) (by decide) (by decide) (gX1 hPo (by first | exact spWK_o ho | exact spWK_0c hd h0.1 | exact spWK_2c hd h2.1)) dX11_toss_15)
  · -- alt
    refine e_callV (k2 := 0) (n2 := 0) (As := [.int (nI d)]) (rest := []) (pc := 2) (wC_0 hA) rfl (c_X11_rockOn_N hA hd h0.2.1) mlX11_96 selX11_X11_rockOn_X11_rockOn mX11_rockOn ⟨Nat.le_of_ble_eq_true rfl, Nat.le_of_ble_eq_true rfl⟩ rfl rfl (Nat.le_of_ble_eq_true rfl) dX11_toss_2 (by decide) rfl rfl ?_
    refine g_astore_nN (lv' := [(2, .null), (0, .ref (cd 0)), (1, .int (nI d))]) (pc := 5) dX11_toss_5 rfl (by decide) rfl ?_
    refine g_aload_nN (q := 0) (pc := 6) dX11_toss_6 rfl rfl ?_
    refine g_ifnonnullN (pc := 7) dX11_toss_7 ?_
    refine g_aload_n (q := 1) (pc := 10) dX11_toss_10 rfl rfl ?_
    refine g_iload_n (q := 2) (pc := 11) dX11_toss_11 rfl rfl ?_
    refine e_callV (k2 := 0) (n2 := 0) (As := [.int (nI d)]) (rest := []) (pc := 12) (wC_0 hA) rfl (c_X11_whyNot_0 hA hd h0.2.1 h0.2.2) mlX11_54 selX11_X11_whyNot_X11_whyNot mX11_whyNot ⟨Nat.le_of_ble_eq_true rfl, Nat.le_of_ble_eq_true rfl⟩ rfl rfl (Nat.le_of_ble_eq_true rfl) dX11_toss_12 (by decide) rfl rfl ?_
    exact G.toX (g_iret (pc := 15) (by decide) (by decide) (gX1 hPo (by first | exact spWK_o ho | exact spWK_0c hd h0.1 | exact spWK_2c hd h2.1)) dX11_toss_15)
  · -- alt
    exact absurd (spWK_ok hd h1) h
  · -- alt
    refine e_callV (k2 := 0) (n2 := 0) (As := [.int (nI d)]) (rest := []) (pc := 2) (wC_0 hA) rfl (c_X11_rockOn_N hA hd h2.2.1) mlX11_96 selX11_X11_rockOn_X11_rockOn mX11_rockOn ⟨Nat.le_of_ble_eq_true rfl, Nat.le_of_ble_eq_true rfl⟩ rfl rfl (Nat.le_of_ble_eq_true rfl) dX11_toss_2 (by decide) rfl rfl ?_
    refine g_astore_nN (lv' := [(2, .null), (0, .ref (cd 0)), (1, .int (nI d))]) (pc := 5) dX11_toss_5 rfl (by decide) rfl ?_
    refine g_aload_nN (q := 0) (pc := 6) dX11_toss_6 rfl rfl ?_
    refine g_ifnonnullN (pc := 7) dX11_toss_7 ?_
    refine g_aload_n (q := 1) (pc := 10) dX11_toss_10 rfl rfl ?_
    refine g_iload_n (q := 2) (pc := 11) dX11_toss_11 rfl rfl ?_
    refine e_callV (k2 := 0) (n2 := 0) (As := [.int (nI d)]) (rest := []) (pc := 12) (wC_0 hA) rfl (c_X11_whyNot_2 hA hd h2.2.1 h2.2.2.1 h2.2.2.2.1) mlX11_54 selX11_X11_whyNot_X11_whyNot mX11_whyNot ⟨Nat.le_of_ble_eq_true rfl, Nat.le_of_ble_eq_true rfl⟩ rfl rfl (Nat.le_of_ble_eq_true rfl) dX11_toss_12 (by decide) rfl rfl ?_
    exact G.toX (g_iret (pc := 15) (by decide) (by decide) (gX1 hPo (by first | exact spWK_o ho | exact spWK_0c hd h0.1 | exact spWK_2c hd h2.1)) dX11_toss_15)
theorem dx_X11_toss_n {d : Int32} {V2 : HV} (hCI : CI Z b0 cd Vb ik kd fg pl hr ikd ifg ipl ihr kp so sz el ki kf V2) (h : ¬ spWK kp d = 0) : KX l D Z b0 yX11_toss (.codeWith yX11_toss cX11_toss 4 (some .int) tossT) rmX11_toss [.ref (cd 0), .int d] V2 (fun v V' => v = some (.int (spWK kp d)) ∧ V' = V2) (fun _ _ => False) := by
  obtain ⟨ugA, ugB, ugC, rA, rB, pB, tB, rC, cX, lX, oX, nX, sX, zX, cY, lY, oY, nY, sY, zY, tm, cl, KR, SO, SZ, EL, V, rfl, hA, hE, hgA, hgB, hmA, hmC, hpl, hipl, hSh⟩ := hCI
  exact x_X11_toss_n hA hE hgA hgB hmA hmC hpl hipl hSh h
def rmX11_element : Room := { frames := 6, cells := 1, slots := 6, locals := 90 }
set_option maxHeartbeats 8000000 in
theorem x_X11_element {d i : Int32} (hA : oC b0 cd V) (hE : Ext Vb V) (hgA : Rk V ugA 7 0) (hgB : Rk V ugB 7 0) (hmA : mo V rA kd fg) (hmC : mo V rC ikd ifg) (hpl : ∀ g, g < 2 → pl g < 20) (hipl : ∀ g, g < 2 → ipl g < 20) (hSh : Sh V KR SO SZ EL kp so sz el ki kf) (hfl : l.stackTraces = false) : KX l D Z b0 yX11_element (.code yX11_element cX11_element 4 (some .long)) rmX11_element [.ref (cd 0), .int d, .int i] (wC Z cd ik ugA ugB ugC rA (nf pl) hr rB pB tB rC (nf ipl) ihr cX lX oX nX sX zX cY lY oY nY sY zY tm cl KR SO SZ EL V) (fun v V' => spEl kp sz d i = 0 ∧ v = some (.long (el (100 * dN d + dN i)).toInt64) ∧ V' = (wC Z cd ik ugA ugB ugC rA (nf pl) hr rB pB tB rC (nf ipl) ihr cX lX oX nX sX zX cY lY oY nY sY zY tm cl KR SO SZ EL V)) (fun E V' => V' = (wC Z cd ik ugA ugB ugC rA (nf pl) hr rB pB tB rC (nf ipl) ihr cX lX oX nX sX zX cY lY oY nY sY zY tm cl KR SO SZ EL V) ∧ ((E = "java/lang/IllegalArgumentException" ∧ spEl kp sz d i = 1) ∨ (E = "java/lang/IllegalStateException" ∧ spEl kp sz d i = 2))) := by
  refine KX.ofP (by decide) (Nat.le_of_ble_eq_true rfl) (fun Po hPo => ?_)
  rcases Sh.k hSh d with ho | ⟨d, hd, rfl, h0⟩ | ⟨d, hd, rfl, h1, a, q, f, hk1, hr1, hi1, hf1, hs1⟩ | ⟨d, hd, rfl, h2⟩
  · -- case
    refine G.locals (L' := [(0, .ref (cd 0)), (1, .int d), (2, .int i)]) [0, 1, 2] rfl ?_
    refine g_iload_n (q := 1) (pc := 0) dX11_element_0 rfl rfl ?_
    refine g_bipush (v := nI 8) (pc := 1) dX11_element_1 (by decide) ?_
    refine e_callS (k2 := 0) (n2 := 0) (As := [.int d, .int (nI 8)]) (rest := []) (pc := 3) (c_X11_isBelow (by decide)) mlX11_69 mX11_isBelow ⟨Nat.le_of_ble_eq_true rfl, Nat.le_of_ble_eq_true rfl⟩ rfl rfl (Nat.le_of_ble_eq_true rfl) dX11_element_3 (by decide) rfl rfl ?_
    refine g_if_ne_B (tgt := 19) (pc := 6) dX11_element_6 (by decide) (fun c1 => ?_) (fun c1 => ?_)
    · -- T c1
      rw [ho] at c1; cases c1
    · -- F c1
      exact g_throwS (pc := 9) (cls := "java/lang/IllegalArgumentException") (text := "no such SHELF") (ps := [66, 767, 776, 780, 783, 785, 768, 769, 78, 79, 770, 775, 781, 801, 757, 802, 759, 803, 761, 771, 773, 763, 797, 798, 800, 763, 788, 789, 790, 791, 749, 791, 792, 793, 794, 751, 794, 795, 796, 797, 753, 859, 746, 747, 754, 755, 756, 758, 760, 762, 766, 765, 764]) hfl (by decide +kernel) clX11_217 iniIAE (fun U h => h.2.2.2.1) xp_X11_221 xg_X11_221 dX11_element_9 dX11_element_12 dX11_element_13 dX11_element_15 dX11_element_18 ⟨Nat.le_of_ble_eq_true rfl, Nat.le_of_ble_eq_true rfl⟩ (Nat.le_of_ble_eq_true rfl) ⟨Nat.le_of_ble_eq_true rfl, Nat.le_of_ble_eq_true rfl⟩ ⟨Nat.le_of_ble_eq_true rfl, Nat.le_of_ble_eq_true rfl⟩ ⟨rfl, Or.inl ⟨rfl, by rw [spEl, if_neg (by rw [ho]; decide)]⟩⟩
  · -- case
    have hk9 := h0.1
    refine G.locals (L' := [(0, .ref (cd 0)), (1, .int (nI d)), (2, .int i)]) [0, 1, 2] rfl ?_
    refine g_iload_n (q := 1) (pc := 0) dX11_element_0 rfl rfl ?_
    refine g_bipush (v := nI 8) (pc := 1) dX11_element_1 (by decide) ?_
    refine e_callS (k2 := 0) (n2 := 0) (As := [.int (nI d), .int (nI 8)]) (rest := []) (pc := 3) (c_X11_isBelowN (by decide) (by omega)) mlX11_69 mX11_isBelow ⟨Nat.le_of_ble_eq_true rfl, Nat.le_of_ble_eq_true rfl⟩ rfl rfl (Nat.le_of_ble_eq_true rfl) dX11_element_3 (by decide) rfl rfl ?_
    refine g_if_ne_B (tgt := 19) (pc := 6) dX11_element_6 (by decide) (fun c2 => ?_) (fun c2 => ?_)
    · -- T c2
      have c2 := of_decide_eq_true c2
      refine g_aload_n (q := 0) (pc := 19) dX11_element_19 rfl rfl ?_
      refine g_iload_n (q := 1) (pc := 20) dX11_element_20 rfl rfl ?_
      refine e_callV (k2 := 0) (n2 := 0) (As := [.int (nI d)]) (rest := []) (pc := 21) (wC_0 hA) rfl (c_X11_rowOn_e hA hd h0.2.2) mlX11_197 selX11_X11_rowOn_X11_rowOn mX11_rowOn ⟨Nat.le_of_ble_eq_true rfl, Nat.le_of_ble_eq_true rfl⟩ rfl rfl (Nat.le_of_ble_eq_true rfl) dX11_element_21 (by decide) rfl rfl ?_
      refine g_astore_nN (lv' := [(3, .null), (0, .ref (cd 0)), (1, .int (nI d)), (2, .int i)]) (pc := 24) dX11_element_24 rfl (by decide) rfl ?_
      refine g_aload_nN (q := 0) (pc := 25) dX11_element_25 rfl rfl ?_
      refine g_ifnonnullN (pc := 26) dX11_element_26 ?_
      exact g_throwS (pc := 29) (cls := "java/lang/IllegalStateException") (text := "no ROW") (ps := [66, 767, 776, 780, 783, 785, 768, 769, 78, 79, 770, 775, 781, 801, 757, 802, 759, 803, 761, 771, 773, 763, 797, 798, 800, 763, 844, 845, 846, 791, 749, 791, 792, 793, 794, 751, 794, 795, 796, 797, 753, 861, 834, 835, 836, 778, 837, 838, 839, 840, 766, 765, 841]) hfl (by decide +kernel) clX11_224 iniISE (fun U h => h.2.2.2.2.1) xp_X11_228 xg_X11_228 dX11_element_29 dX11_element_32 dX11_element_33 dX11_element_35 dX11_element_38 ⟨Nat.le_of_ble_eq_true rfl, Nat.le_of_ble_eq_true rfl⟩ (Nat.le_of_ble_eq_true rfl) ⟨Nat.le_of_ble_eq_true rfl, Nat.le_of_ble_eq_true rfl⟩ ⟨Nat.le_of_ble_eq_true rfl, Nat.le_of_ble_eq_true rfl⟩ ⟨rfl, Or.inr ⟨rfl, by rw [spEl, inR_lt hd (by omega), if_pos rfl, dN_N (by omega), if_neg (by omega)]⟩⟩
    · -- F c2
      exact absurd (of_decide_eq_false c2) (by omega)
  · -- case
    have hk9 := h1
    refine G.locals (L' := [(0, .ref (cd 0)), (1, .int (nI d)), (2, .int i)]) [0, 1, 2] rfl ?_
    refine g_iload_n (q := 1) (pc := 0) dX11_element_0 rfl rfl ?_
    refine g_bipush (v := nI 8) (pc := 1) dX11_element_1 (by decide) ?_
    refine e_callS (k2 := 0) (n2 := 0) (As := [.int (nI d), .int (nI 8)]) (rest := []) (pc := 3) (c_X11_isBelowN (by decide) (by omega)) mlX11_69 mX11_isBelow ⟨Nat.le_of_ble_eq_true rfl, Nat.le_of_ble_eq_true rfl⟩ rfl rfl (Nat.le_of_ble_eq_true rfl) dX11_element_3 (by decide) rfl rfl ?_
    refine g_if_ne_B (tgt := 19) (pc := 6) dX11_element_6 (by decide) (fun c3 => ?_) (fun c3 => ?_)
    · -- T c3
      have c3 := of_decide_eq_true c3
      refine g_aload_n (q := 0) (pc := 19) dX11_element_19 rfl rfl ?_
      refine g_iload_n (q := 1) (pc := 20) dX11_element_20 rfl rfl ?_
      refine e_callV (k2 := 0) (n2 := 0) (As := [.int (nI d)]) (rest := []) (pc := 21) (wC_0 hA) rfl (c_X11_rowOn_e hA hd hs1) mlX11_197 selX11_X11_rowOn_X11_rowOn mX11_rowOn ⟨Nat.le_of_ble_eq_true rfl, Nat.le_of_ble_eq_true rfl⟩ rfl rfl (Nat.le_of_ble_eq_true rfl) dX11_element_21 (by decide) rfl rfl ?_
      refine g_astore_nN (lv' := [(3, .null), (0, .ref (cd 0)), (1, .int (nI d)), (2, .int i)]) (pc := 24) dX11_element_24 rfl (by decide) rfl ?_
      refine g_aload_nN (q := 0) (pc := 25) dX11_element_25 rfl rfl ?_
      refine g_ifnonnullN (pc := 26) dX11_element_26 ?_
      exact g_throwS (pc := 29) (cls := "java/lang/IllegalStateException") (text := "no ROW") (ps := [66, 767, 776, 780, 783, 785, 768, 769, 78, 79, 770, 775, 781, 801, 757, 802, 759, 803, 761, 771, 773, 763, 797, 798, 800, 763, 844, 845, 846, 791, 749, 791, 792, 793, 794, 751, 794, 795, 796, 797, 753, 861, 834, 835, 836, 778, 837, 838, 839, 840, 766, 765, 841]) hfl (by decide +kernel) clX11_224 iniISE (fun U h => h.2.2.2.2.1) xp_X11_228 xg_X11_228 dX11_element_29 dX11_element_32 dX11_element_33 dX11_element_35 dX11_element_38 ⟨Nat.le_of_ble_eq_true rfl, Nat.le_of_ble_eq_true rfl⟩ (Nat.le_of_ble_eq_true rfl) ⟨Nat.le_of_ble_eq_true rfl, Nat.le_of_ble_eq_true rfl⟩ ⟨Nat.le_of_ble_eq_true rfl, Nat.le_of_ble_eq_true rfl⟩ ⟨rfl, Or.inr ⟨rfl, by rw [spEl, inR_lt hd (by omega), if_pos rfl, dN_N (by omega), if_neg (by omega)]⟩⟩
    · -- F c3
      exact absurd (of_decide_eq_false c3) (by omega)
  · -- case
    have hk9 := h2.1
    have hz9 := h2.2.2.2.2.2.1
    refine G.locals (L' := [(0, .ref (cd 0)), (1, .int (nI d)), (2, .int i)]) [0, 1, 2] rfl ?_
    refine g_iload_n (q := 1) (pc := 0) dX11_element_0 rfl rfl ?_
    refine g_bipush (v := nI 8) (pc := 1) dX11_element_1 (by decide) ?_
    refine e_callS (k2 := 0) (n2 := 0) (As := [.int (nI d), .int (nI 8)]) (rest := []) (pc := 3) (c_X11_isBelowN (by decide) (by omega)) mlX11_69 mX11_isBelow ⟨Nat.le_of_ble_eq_true rfl, Nat.le_of_ble_eq_true rfl⟩ rfl rfl (Nat.le_of_ble_eq_true rfl) dX11_element_3 (by decide) rfl rfl ?_
    refine g_if_ne_B (tgt := 19) (pc := 6) dX11_element_6 (by decide) (fun c4 => ?_) (fun c4 => ?_)
    · -- T c4
      have c4 := of_decide_eq_true c4
      refine g_aload_n (q := 0) (pc := 19) dX11_element_19 rfl rfl ?_
      refine g_iload_n (q := 1) (pc := 20) dX11_element_20 rfl rfl ?_
      refine e_callV (k2 := 0) (n2 := 0) (As := [.int (nI d)]) (rest := []) (pc := 21) (wC_0 hA) rfl (c_X11_rowOn_s hA hd h2.2.2.1 h2.2.2.2.1) mlX11_197 selX11_X11_rowOn_X11_rowOn mX11_rowOn ⟨Nat.le_of_ble_eq_true rfl, Nat.le_of_ble_eq_true rfl⟩ rfl rfl (Nat.le_of_ble_eq_true rfl) dX11_element_21 (by decide) rfl rfl ?_
      refine g_astore_n (lv' := [(3, .ref (cd (30 + d))), (0, .ref (cd 0)), (1, .int (nI d)), (2, .int i)]) (pc := 24) dX11_element_24 rfl (by decide) rfl ?_
      refine g_aload_n (q := 0) (pc := 25) dX11_element_25 rfl rfl ?_
      refine g_ifnonnull (tgt := 39) (pc := 26) dX11_element_26 (by decide) ?_
      refine g_iload_n (q := 3) (pc := 39) dX11_element_39 rfl rfl ?_
      refine g_aload_n (q := 0) (pc := 40) dX11_element_40 rfl rfl ?_
      refine gc_get_S_size (pc := 41) (d := d) hA (by omega) flX11_132 dX11_element_41 ?_
      refine g_top (x := nI (SZ d)) (y := nI (sz d)) (congrArg nI h2.2.2.2.2.1) ?_
      refine e_callS (k2 := 0) (n2 := 0) (As := [.int i, .int (nI (sz d))]) (rest := []) (pc := 44) (c_X11_isBelow (by omega)) mlX11_69 mX11_isBelow ⟨Nat.le_of_ble_eq_true rfl, Nat.le_of_ble_eq_true rfl⟩ rfl rfl (Nat.le_of_ble_eq_true rfl) dX11_element_44 (by decide) rfl rfl ?_
      refine g_if_ne_B (tgt := 60) (pc := 47) dX11_element_47 (by decide) (fun c5 => ?_) (fun c5 => ?_)
      · -- T c5
        obtain ⟨i, hi, rfl⟩ := inR_t c5
        refine g_aload_n (q := 0) (pc := 60) dX11_element_60 rfl rfl ?_
        refine g_iload_n (q := 3) (pc := 61) dX11_element_61 rfl rfl ?_
        refine e_callV (k2 := 0) (n2 := 0) (As := [.int (nI i)]) (rest := []) (pc := 62) (wC_sh hA (by omega)) rfl (c_X7_at_s (x := el (100 * d + i)) hA (by omega) (by rw [h2.2.2.2.2.1]; exact hi) (by rw [h2.2.2.2.2.1]; exact hz9) (h2.2.2.2.2.2.2 i hi)) mlX11_200 selX7_X7_at_X7_at mX7_at ⟨Nat.le_of_ble_eq_true rfl, Nat.le_of_ble_eq_true rfl⟩ rfl rfl (Nat.le_of_ble_eq_true rfl) dX11_element_62 (by decide) rfl rfl ?_
        refine g_i2l (v := (el (100 * d + i)).toInt64) (pc := 65) dX11_element_65 rfl ?_
        exact G.toX (g_lret (pc := 66) (by decide) (by decide) (hPo _ _ ⟨by rw [spEl, inR_lt hd (by omega), if_pos rfl, dN_N (by omega), if_pos h2.1, inR_lt hi (by omega), if_pos rfl], by rw [dN_N (by omega), dN_N (by omega)], rfl⟩) dX11_element_66)
      · -- F c5
        exact g_throwS (pc := 50) (cls := "java/lang/IllegalStateException") (text := "no such place") (ps := [66, 767, 776, 780, 783, 785, 768, 769, 78, 79, 770, 775, 781, 801, 757, 802, 759, 803, 761, 771, 773, 763, 797, 798, 800, 763, 844, 845, 846, 791, 749, 791, 792, 793, 794, 751, 794, 795, 796, 797, 753, 861, 834, 835, 836, 778, 837, 838, 839, 840, 766, 765, 841]) hfl (by decide +kernel) clX11_224 iniISE (fun U h => h.2.2.2.2.2) xp_X11_228 xg_X11_228 dX11_element_50 dX11_element_53 dX11_element_54 dX11_element_56 dX11_element_59 ⟨Nat.le_of_ble_eq_true rfl, Nat.le_of_ble_eq_true rfl⟩ (Nat.le_of_ble_eq_true rfl) ⟨Nat.le_of_ble_eq_true rfl, Nat.le_of_ble_eq_true rfl⟩ ⟨Nat.le_of_ble_eq_true rfl, Nat.le_of_ble_eq_true rfl⟩ ⟨rfl, Or.inr ⟨rfl, by rw [spEl, inR_lt hd (by omega), if_pos rfl, dN_N (by omega), if_pos h2.1, if_neg (by simp [*])]⟩⟩
    · -- F c4
      exact absurd (of_decide_eq_false c4) (by omega)
theorem dx_X11_element {d i : Int32} {V2 : HV} (hCI : CI Z b0 cd Vb ik kd fg pl hr ikd ifg ipl ihr kp so sz el ki kf V2) (hfl : l.stackTraces = false) : KX l D Z b0 yX11_element (.code yX11_element cX11_element 4 (some .long)) rmX11_element [.ref (cd 0), .int d, .int i] V2 (fun v V' => spEl kp sz d i = 0 ∧ v = some (.long (el (100 * dN d + dN i)).toInt64) ∧ V' = V2) (fun E V' => V' = V2 ∧ ((E = "java/lang/IllegalArgumentException" ∧ spEl kp sz d i = 1) ∨ (E = "java/lang/IllegalStateException" ∧ spEl kp sz d i = 2))) := by
  obtain ⟨ugA, ugB, ugC, rA, rB, pB, tB, rC, cX, lX, oX, nX, sX, zX, cY, lY, oY, nY, sY, zY, tm, cl, KR, SO, SZ, EL, V, rfl, hA, hE, hgA, hgB, hmA, hmC, hpl, hipl, hSh⟩ := hCI
  exact x_X11_element hA hE hgA hgB hmA hmC hpl hipl hSh hfl
theorem CI.obj {Z : Nat → ClassId} {b0 : Nat} {cd : Nat → Nat} {Vb : HV} {ik : Int32} {kd fg pl : Nat → Nat} {hr : Nat → Int32} {ikd ifg ipl : Nat → Nat} {ihr : Nat → Int32} {kp so sz : Nat → Nat} {el ki kf : Nat → Int32} {V2 : HV} (h : CI Z b0 cd Vb ik kd fg pl hr ikd ifg ipl ihr kp so sz el ki kf V2) : ∃ fs, V2 (cd 0) = some (vO 11 fs) := by
  obtain ⟨ugA, ugB, ugC, rA, rB, pB, tB, rC, cX, lX, oX, nX, sX, zX, cY, lY, oY, nY, sY, zY, tm, cl, KR, SO, SZ, EL, V, rfl, hA, hE, hgA, hgB, hmA, hmC, hpl, hipl, hSh⟩ := h
  exact ⟨_, wC_0 hA⟩
def ELG (E : String) : Prop := E = "java/lang/IllegalArgumentException" ∨ E = "java/lang/IllegalStateException"
theorem g_elem {R : Room} {nL : Nat} {T : List Frame → Array Value → State → State → Prop} {L : List (Nat × Value)} {k n : Nat} {rest As : List Value} {ret : Option FieldType} {nm : String} {b : Nat} {fs : List Value} {S0 S1 S2 : Prop} {x : Int64} (hb : V b = some (vO 11 fs)) (hM : KX l D Z b0 yX11_element (.code yX11_element cX11_element 4 (some .long)) rmX11_element (.ref b :: As) V (fun v V' => S0 ∧ v = some (.long x) ∧ V' = V) (fun E V' => V' = V ∧ ((E = "java/lang/IllegalArgumentException" ∧ S1) ∨ (E = "java/lang/IllegalStateException" ∧ S2)))) (hR : rmX11_element.frames + 1 ≤ R.frames ∧ 8 + (4 + 11) + rmX11_element.locals ≤ R.locals) (hn : As.length = 2) (hcat : (rest.map fun v => v.category).sum ≤ 8) (hf : k + 1 ≤ R.cells ∧ n + 6 ≤ R.slots)
    (k0 : S0 → G l D Z b0 R RL cL_element nL (gEx ret nm b0 (tableOf elT)) T V L (k + 1) (n + 6) 8 (.long x :: rest)) (k1 : S1 → ∀ e9, G l D Z b0 R RL cL_element nL (gEx ret nm b0 (tableOf elT)) T V L (k + 1) (n + 6) 12 [.ref e9]) (k2 : S2 → ∀ e9, G l D Z b0 R RL cL_element nL (gEx ret nm b0 (tableOf elT)) T V L (k + 1) (n + 6) 16 [.ref e9]) : G l D Z b0 R RL cL_element nL (gEx ret nm b0 (tableOf elT)) T V L k n 5 (As.reverse ++ .ref b :: rest) := by
  intro p e s m args below meth c H locs ls X hE hV hS hL T9 hT X9
  have hts := X.2.2.2.2.1
  have hm := mX11_element
  have hG : GoodIn TB (.code yX11_element cX11_element 4 (some .long) :: TB) := TB_sub (TB_cons hm.1.2.2)
  have hrun := vx_runV (p := p) (l := l) (e := e) (R := R) (s := s) (m := m) (args := args) (below := below) (meth := meth) (c := c) (H := H) (locs := locs) ⟨X.1, X.2.1, X.2.2.1, X.2.2.2.1, hts⟩ hM ⟨callB_of 2 hts hG rfl rfl rfl (hts _ hm.1.2.1) (hts _ mlL_7) hm.2 hR, hts _ hm.1.1, hts _ selX11_X11_element_X11_element⟩ ⟨kPz.blind, va_recv X.2.2.2.2.2.1.1 (hV.one hb) (ci := 11) (q0 := 0) rfl rfl, fun U hU hW => ⟨rfl, by rw [hU]; exact hV, X.2.2.2.2.2.1.warm hW, by rw [hU]; exact Nat.le_trans X.2.2.2.2.2.2.1 hS.1, hE.2.2.1.to hU hW hS⟩⟩ (g := F0 m 5 ls (As.reverse ++ .ref b :: rest)) (rest := rest) (cells := k) (slots := n) rfl hn hL.1 rfl (lv_room (ls := ls) (rest := As.reverse ++ .ref b :: rest) hcat) dL_element_5 hf
  rcases hrun T9 hT X9 with ⟨v, st₀, t, T', L9, h0, X', hL9, e1, e2, ⟨⟨v', V', hv, hp, hb9⟩, hF⟩, stp⟩ | ⟨q9, st₀, t, T', L9, E9, ce, h0, X', hL9, e1, e2, ⟨V', hp, hb9, hF⟩, hce, hcv, hcl, stp⟩
  · cases hv
    obtain ⟨hp0, rfl, rfl⟩ := hp
    obtain ⟨t2, a1, b1⟩ := k0 hp0 p e s m args below meth c T'.heap (locs ++ L9) ls X hE (by rw [e1]; exact hb9) (x_nx hS h0 e1 hF hL9) hL T' rfl X'
    exact ⟨t2, stp t2 a1, b1⟩
  · obtain ⟨rfl, hpe⟩ := hp
    have hV' : hvP D V' T'.heap := by rw [e1]; exact hb9
    have hS' := x_nx hS h0 e1 hF hL9
    have ts := X.2.2.2.2.1
    have htab : c.exceptionTable.toList = tableOf elT := hE.2.2.2 c X9.code
    have hz := hE.2.2.1.2.2
    have cst : ∀ w ∈ zBad, w.before args s = true := fun w hw => va_Nw.use (zBad_on w hw) (hz.2.1 w hw)
    rcases hpe with ⟨rfl, hs1⟩ | ⟨rfl, hs2⟩
    · have hca : vx_W p l e R s m args below meth c T'.heap (locs ++ L9) (k + 1) (n + 6) (T below args s) (F0 m 5 ls rest) q9 := vx_catch X.2.2.2.1 [] ⟨0, 9, 12, 13⟩ [⟨0, 9, 16, 15⟩] htab (fun z hz => by cases hz) (by decide) (by decide) (ts _ clL_13) (cst _ (by decide +kernel)) (by rw [e1]; exact hce) hcv hcl (k1 hs1 q9 p e s m args below meth c T'.heap (locs ++ L9) ls X hE hV' hS' hL)
      obtain ⟨t2, a1, b1⟩ := hca T' rfl X'
      exact ⟨t2, stp.trans a1, b1⟩
    · have hca : vx_W p l e R s m args below meth c T'.heap (locs ++ L9) (k + 1) (n + 6) (T below args s) (F0 m 5 ls rest) q9 := vx_catch X.2.2.2.1 [⟨0, 9, 12, 13⟩] ⟨0, 9, 16, 15⟩ [] htab (fun z hz9 => by
        rcases List.mem_cons.mp hz9 with h | h
        · subst h; exact Or.inr ⟨by decide, _, ts _ clL_13, hz.2.2.2.2.2⟩
        · cases h) (by decide) (by decide) (ts _ clL_15) (cst _ (by decide +kernel)) (by rw [e1]; exact hce) hcv hcl (k2 hs2 q9 p e s m args below meth c T'.heap (locs ++ L9) ls X hE hV' hS' hL)
      obtain ⟨t2, a1, b1⟩ := hca T' rfl X'
      exact ⟨t2, stp.trans a1, b1⟩
def rmL_element : Room := { frames := 7, cells := 1, slots := 6, locals := 113 }
set_option maxHeartbeats 8000000 in
theorem dx_L_element {d i : Int32} {o : Nat} {fo : Nat → Int64} {V2 : HV} (hCI : CI Z b0 cd Vb ik kd fg pl hr ikd ifg ipl ihr kp so sz el ki kf V2) (ho : V2 o = some (vL Z 4 1 fo)) (hob : b0 ≤ o) (hfl : l.stackTraces = false) : KX l D Z b0 yL_element (.codeWith yL_element cL_element 5 (some .int) elT) rmL_element [.ref (cd 0), .int d, .int i, .ref o] V2 (fun v V' => v = some (.int (nI (spEl kp sz d i))) ∧ ((spEl kp sz d i = 0 ∧ V' = upv V2 o (vL Z 4 1 (vp_updL fo 0 (el (100 * dN d + dN i)).toInt64))) ∨ (¬ spEl kp sz d i = 0 ∧ V' = V2))) (fun _ _ => False) := by
  refine KX.ofHP (by decide) (Nat.le_of_ble_eq_true rfl) (fun Po hPo => ?_)
  obtain ⟨fs, hb⟩ := hCI.obj
  refine G.locals (L' := [(0, .ref (cd 0)), (1, .int d), (2, .int i), (3, .ref o)]) [0, 1, 2, 3] rfl ?_
  refine g_aload_n (q := 3) (pc := 0) dL_element_0 rfl rfl ?_
  refine g_iconst (v := nI 0) (pc := 1) dL_element_1 (by decide) ?_
  refine g_aload_n (q := 0) (pc := 2) dL_element_2 rfl rfl ?_
  refine g_iload_n (q := 1) (pc := 3) dL_element_3 rfl rfl ?_
  refine g_iload_n (q := 2) (pc := 4) dL_element_4 rfl rfl ?_
  refine g_elem (As := [.int d, .int i]) (rest := [.int (nI 0), .ref o]) hb (dx_X11_element hCI hfl) ⟨Nat.le_of_ble_eq_true rfl, Nat.le_of_ble_eq_true rfl⟩ rfl (Nat.le_of_ble_eq_true rfl) ⟨Nat.le_of_ble_eq_true rfl, Nat.le_of_ble_eq_true rfl⟩ (fun z0 => ?_) (fun z1 e9 => ?_) (fun z2 e9 => ?_)
  · refine g_last (pc := 8) ho (vp_inN (by decide) (by decide)) hob dL_element_8 ?_
    refine g_goto (tgt := 20) (pc := 9) dL_element_9 (by decide) ?_
    refine g_iconst (v := nI 0) (pc := 20) dL_element_20 (by decide) ?_
    exact G.toX (g_iret (pc := 21) (by decide) (by decide) (hPo _ _ ⟨by rw [z0], Or.inl ⟨z0, rfl⟩⟩) dL_element_21)
  · refine g_astore (lv' := [(4, .ref e9), (0, .ref (cd 0)), (1, .int d), (2, .int i), (3, .ref o)]) (pc := 12) dL_element_12 (by decide) rfl ?_
    refine g_iconst (v := nI 1) (pc := 14) dL_element_14 (by decide) ?_
    exact G.toX (g_iret (pc := 15) (by decide) (by decide) (hPo _ _ ⟨by rw [z1], Or.inr ⟨by omega, rfl⟩⟩) dL_element_15)
  · refine g_astore (lv' := [(4, .ref e9), (0, .ref (cd 0)), (1, .int d), (2, .int i), (3, .ref o)]) (pc := 16) dL_element_16 (by decide) rfl ?_
    refine g_iconst (v := nI 2) (pc := 18) dL_element_18 (by decide) ?_
    exact G.toX (g_iret (pc := 19) (by decide) (by decide) (hPo _ _ ⟨by rw [z2], Or.inr ⟨by omega, rfl⟩⟩) dL_element_19)
end MS
