/-! ===== exceptions ===== -/
def zBad : List Cond := [.castable "java/lang/IllegalStateException" "java/lang/IllegalStateException", .castable "java/lang/UnsupportedOperationException" "java/lang/UnsupportedOperationException", .castable "java/lang/IllegalArgumentException" "java/lang/IllegalArgumentException", .declares ⟨"java/lang/RuntimeException", "<init>", "(Ljava/lang/String;)V"⟩, .declares ⟨"java/lang/Exception", "<init>", "(Ljava/lang/String;)V"⟩, .declares ⟨"java/lang/Throwable", "<init>", "(Ljava/lang/String;)V"⟩]
def zS (U : State) : Prop := (∃ a, vk_R RX6 17 "ROCK fell" a U) ∧ (∃ a, vk_R RX8 27 "a VEIN fell" a U) ∧ (∃ a, vk_R RX9 36 "WATER broke in" a U) ∧ (∃ a, vk_R RX11 219 "no such SHELF" a U) ∧ (∃ a, vk_R RX11 226 "no ROW" a U) ∧ ∃ a, vk_R RX11 229 "no such place" a U
def zV (U : State) : Prop := zS U ∧ (∀ w ∈ zBad, va_Nw w U) ∧ va_Nc "java/lang/UnsupportedOperationException" "java/lang/IllegalStateException" U ∧ va_Nc "java/lang/IllegalArgumentException" "java/lang/IllegalStateException" U ∧ va_Nc "java/lang/IllegalArgumentException" "java/lang/UnsupportedOperationException" U ∧ va_Nc "java/lang/IllegalStateException" "java/lang/IllegalArgumentException" U
def zW (b0 : Nat) (U : State) : Prop := vx_Zq Bundle.tN "UNASSIGNED_STACK" Bundle.steD (fun q => b0 ≤ q) U U.heap ∧ vx_Zq Bundle.tN "SUPPRESSED_SENTINEL" Bundle.listD (fun q => b0 ≤ q) U U.heap ∧ zV U
theorem zS.warm {s U : State} (hW : s.WarmedH U.vm) (h : zS s) : zS U := by
  obtain ⟨⟨a1, h1⟩, ⟨a2, h2⟩, ⟨a3, h3⟩, ⟨a4, h4⟩, ⟨a5, h5⟩, ⟨a6, h6⟩⟩ := h
  exact ⟨⟨a1, h1.warm hW⟩, ⟨a2, h2.warm hW⟩, ⟨a3, h3.warm hW⟩, ⟨a4, h4.warm hW⟩, ⟨a5, h5.warm hW⟩, ⟨a6, h6.warm hW⟩⟩
theorem zBad_warm {s U : State} (hW : s.WarmedH U.vm) (h : ∀ w ∈ zBad, va_Nw w s) : ∀ w ∈ zBad, va_Nw w U := by
  intro w hw
  have hq := h w hw
  simp only [zBad, List.mem_cons, List.not_mem_nil, or_false] at hw
  rcases hw with rfl | rfl | rfl | rfl | rfl | rfl
  · exact hq.warmC hW
  · exact hq.warmC hW
  · exact hq.warmC hW
  · exact hq.warmD hW
  · exact hq.warmD hW
  · exact hq.warmD hW
theorem zV.warm {s U : State} (hW : s.WarmedH U.vm) (h : zV s) : zV U := ⟨h.1.warm hW, zBad_warm hW h.2.1, h.2.2.1.moved hW.alike, h.2.2.2.1.moved hW.alike, h.2.2.2.2.1.moved hW.alike, h.2.2.2.2.2.moved hW.alike⟩
theorem zW.to {b0 : Nat} {s U : State} {H : Heap} {locs : List Loc} (h : zW b0 s) (hU : U.heap = H) (hW : s.WarmedH U.vm) (hS : va_S (fun q => b0 ≤ q) s.heap H locs) : zW b0 U := ⟨by rw [hU]; exact vx_Zq.moved hW.alike (h.1.kept hS.2.1), by rw [hU]; exact vx_Zq.moved hW.alike (h.2.1.kept hS.2.1), h.2.2.warm hW⟩
theorem TB_ps {ws : List Cond} (ps : List Nat) (hp : ws = ps.filterMap (fun i => lw_tbl[i]?)) : ∀ w ∈ ws, w ∈ lw_tbl := by
  intro w hw
  rw [hp] at hw
  obtain ⟨i, -, hi⟩ := List.mem_filterMap.mp hw
  exact List.mem_of_getElem? hi
theorem at_of {ws : List Cond} {args : Array Value} {s : State} (ps : List Nat) (hp : ws = ps.filterMap (fun i => lw_tbl[i]?)) (hg : ∀ w ∈ ws, goodWord w = true ∨ w ∈ zBad) (ho : ∀ w ∈ zBad, w.onTables = true) (ts : ∀ w ∈ TB, w.before args s = true) (hb : ∀ w ∈ zBad, va_Nw w s) : ∀ w ∈ ws, w.before args s = true := fun w hw => by
  rcases hg w hw with h | h
  · exact ts w (List.mem_filter.mpr ⟨TB_ps ps hp w hw, h⟩)
  · exact va_Nw.use (ho w h) (hb w h)
theorem zBad_on : ∀ w ∈ zBad, w.onTables = true := by decide +kernel
def xNames : List String := ["java/lang/RuntimeException", "java/lang/Exception"]
theorem xp_X6_19 : vx_atS RX6 19 "java/lang/IllegalStateException" xNames = [66, 767, 776, 780, 783, 785, 768, 769, 78, 79, 770, 775, 781, 801, 757, 802, 759, 803, 761, 771, 773, 763, 797, 798, 800, 763, 844, 845, 846, 791, 749, 791, 792, 793, 794, 751, 794, 795, 796, 797, 753, 843, 834, 835, 836, 778, 837, 838, 839, 840, 766, 765, 841].filterMap (fun i => lw_tbl[i]?) := by decide +kernel
theorem xg_X6_19 : ∀ w ∈ vx_atS RX6 19 "java/lang/IllegalStateException" xNames, goodWord w = true ∨ w ∈ zBad := by decide +kernel
theorem xp_X8_29 : vx_atS RX8 29 "java/lang/IllegalArgumentException" xNames = [66, 767, 776, 780, 783, 785, 768, 769, 78, 79, 770, 775, 781, 801, 757, 802, 759, 803, 761, 771, 773, 763, 797, 798, 800, 763, 788, 789, 790, 791, 749, 791, 792, 793, 794, 751, 794, 795, 796, 797, 753, 787, 746, 747, 754, 755, 756, 758, 760, 762, 766, 765, 764].filterMap (fun i => lw_tbl[i]?) := by decide +kernel
theorem xg_X8_29 : ∀ w ∈ vx_atS RX8 29 "java/lang/IllegalArgumentException" xNames, goodWord w = true ∨ w ∈ zBad := by decide +kernel
theorem xp_X9_38 : vx_atS RX9 38 "java/lang/UnsupportedOperationException" xNames = [66, 767, 776, 780, 783, 785, 768, 769, 78, 79, 770, 775, 781, 801, 757, 802, 759, 803, 761, 771, 773, 763, 797, 798, 800, 763, 827, 828, 829, 791, 749, 791, 792, 793, 794, 751, 794, 795, 796, 797, 753, 826, 817, 818, 819, 779, 820, 821, 822, 823, 766, 765, 824].filterMap (fun i => lw_tbl[i]?) := by decide +kernel
theorem xg_X9_38 : ∀ w ∈ vx_atS RX9 38 "java/lang/UnsupportedOperationException" xNames, goodWord w = true ∨ w ∈ zBad := by decide +kernel
theorem xp_X11_221 : vx_atS RX11 221 "java/lang/IllegalArgumentException" xNames = [66, 767, 776, 780, 783, 785, 768, 769, 78, 79, 770, 775, 781, 801, 757, 802, 759, 803, 761, 771, 773, 763, 797, 798, 800, 763, 788, 789, 790, 791, 749, 791, 792, 793, 794, 751, 794, 795, 796, 797, 753, 859, 746, 747, 754, 755, 756, 758, 760, 762, 766, 765, 764].filterMap (fun i => lw_tbl[i]?) := by decide +kernel
theorem xg_X11_221 : ∀ w ∈ vx_atS RX11 221 "java/lang/IllegalArgumentException" xNames, goodWord w = true ∨ w ∈ zBad := by decide +kernel
theorem xp_X11_228 : vx_atS RX11 228 "java/lang/IllegalStateException" xNames = [66, 767, 776, 780, 783, 785, 768, 769, 78, 79, 770, 775, 781, 801, 757, 802, 759, 803, 761, 771, 773, 763, 797, 798, 800, 763, 844, 845, 846, 791, 749, 791, 792, 793, 794, 751, 794, 795, 796, 797, 753, 861, 834, 835, 836, 778, 837, 838, 839, 840, 766, 765, 841].filterMap (fun i => lw_tbl[i]?) := by decide +kernel
theorem xg_X11_228 : ∀ w ∈ vx_atS RX11 228 "java/lang/IllegalStateException" xNames, goodWord w = true ∨ w ∈ zBad := by decide +kernel
def gEx (ret : Option FieldType) (nm : String) (b0 : Nat) (tab : List ExceptionTableEntry) : Method → Array Value → State → Prop := fun meth _ s => meth.sig.returnType = ret ∧ meth.name = nm ∧ zW b0 s ∧ ∀ c, meth.code = some c → c.exceptionTable.toList = tab
def kXC (D : va_G) (b0 : Nat) (PX : String → HV → Prop) : String → State → State → Prop := fun E st t => ∃ V', PX E V' ∧ hvP D V' t.heap ∧ va_F (fun q => b0 ≤ q) st t
def gTx (D : va_G) (b0 : Nat) (Po : Option Value → HV → Prop) (PX : String → HV → Prop) (mc ms : Nat) : List Frame → Array Value → State → State → Prop := fun below args s => vx_MQ below (kQ D b0 Po) (kXC D b0 PX) args s mc ms (fun q => b0 ≤ q)
def kPz (D : va_G) (Z : Nat → ClassId) (b0 : Nat) (av : List Value) (V : HV) : Array Value → State → Prop := va_Pc av (fun U => hvP D V U.heap ∧ kW D Z U ∧ b0 ≤ U.heap.size ∧ zW b0 U)
def KX (l : Launch) (D : va_G) (Z : Nat → ClassId) (b0 : Nat) (y : MethodName) (cw : Cond) (rm : Room) (av : List Value) (V : HV) (Po : Option Value → HV → Prop) (PX : String → HV → Prop) : Prop :=
  vx_Met l y (cw :: TB) rm (kPz D Z b0 av V) (kQ D b0 Po) (kXC D b0 PX) rm.cells rm.slots (fun q => b0 ≤ q)
section EX
variable {l : Launch} {D : va_G} {Z : Nat → ClassId} {b0 : Nat} {R : Room} {own : String} {cc : ByteArray} {nL : Nat} {E : Method → Array Value → State → Prop} {T : List Frame → Array Value → State → State → Prop} {V : HV} {L : List (Nat × Value)} {k n pc : Nat} {rest st : List Value}
theorem kPz.blind {av : List Value} : FrameBlind (kPz D Z b0 av V) := fun a U g mk q => by
  obtain ⟨q0, q1, q2, q3, q4⟩ := q
  exact ⟨q0, q1, ⟨va_K.moved (u := U) (U := U.calling g mk a) (Vm.Alike.refl U.vm) q2.1, q2.2.same rfl⟩, q3, q4.to (locs := []) (H := U.heap) rfl (State.WarmedH.refl U) va_S.rf⟩
theorem G.toX {ret : Option FieldType} {nm : String} {tab : List ExceptionTableEntry} {Po : Option Value → HV → Prop} {PX : String → HV → Prop} {mc ms : Nat} (kk : G l D Z b0 R own cc nL (gE ret nm) (gT D b0 Po mc ms) V L k n pc st) : G l D Z b0 R own cc nL (gEx ret nm b0 tab) (gTx D b0 Po PX mc ms) V L k n pc st := fun p e s m args below meth c H locs ls X hE hV hS hL => vx_ret (kk p e s m args below meth c H locs ls X ⟨hE.1, hE.2.1⟩ hV hS hL)
theorem g_throwS {ret : Option FieldType} {nm cls text : String} {Po : Option Value → HV → Prop} {PX : String → HV → Prop} {mc ms ik is ic : Nat} {ps : List Nat} (hfl : l.stackTraces = false) (hcls : Bundle.fit cls = true) (hk : Cond.classLink own ik cls ∈ TB) (hini : Cond.initialized cls ∈ TB) (hstr : ∀ U, zS U → ∃ a, vk_R own is text a U) (hp : vx_atS own ic cls xNames = ps.filterMap (fun i => lw_tbl[i]?)) (hg : ∀ w ∈ vx_atS own ic cls xNames, goodWord w = true ∨ w ∈ zBad)
    (d0 : decode cc pc = .ok (.new ik, 3)) (d3 : decode cc (pc + 3) = .ok (.dup, 1)) (d4 : decode cc (pc + 4) = .ok (.ldc is, 2)) (d6 : decode cc (pc + 6) = .ok (.invokespecial ic, 3)) (d9 : decode cc (pc + 9) = .ok (.athrow, 1)) (hR : 6 ≤ R.frames ∧ 90 ≤ R.locals) (hcat : (rest.map fun v => v.category).sum ≤ 8) (hf : k + 1 ≤ R.cells ∧ n + 6 ≤ R.slots) (hm : k + 1 ≤ mc ∧ n + 6 ≤ ms) (hPX : PX cls V) : G l D Z b0 R own cc nL (gEx ret nm b0 []) (gTx D b0 Po PX mc ms) V L k n pc rest := by
  intro p e s m args below meth c H locs ls X hE hV hS hL T9 hT X9
  have ts := X.2.2.2.2.1
  obtain ⟨sa, hsa⟩ := hstr s hE.2.2.1.2.2.1
  refine vx_throwS (names := xNames) X.1 X.2.1 hfl X.2.2.2.1 hcls (by decide +kernel) (ts _ hk) (ts _ hini) hsa (at_of ps hp hg zBad_on ts hE.2.2.1.2.2.2.1) (fun w hw => ?_) hE.2.2.1.1 hE.2.2.1.2.1 hS (hL.1.trans X.2.2.1.symm) d0 d3 d4 d6 d9 (fun x hx => by rw [hE.2.2.2 c X9.code] at hx; cases hx) (by show 2 + 3 < R.frames; omega) (by show _ + (13 * (2 + 1) + 43) ≤ R.locals; omega) hf.1 hf.2 X.2.2.2.2.2.2.2 (fun t hA hz hq => ⟨V, hPX, fun q e9 hq9 => (hV q e9 hq9).kept (hq q (hV q e9 hq9).lt), ⟨Nat.le_trans hS.1 hz, fun q h1 h2 => by rw [hq q (Nat.lt_of_lt_of_le h1 hS.1)]; exact hS.2.1 q h1 h2⟩⟩) hS.2.2 hm.1 hm.2 T9 hT X9
  rcases List.mem_cons.mp hw with h | hw
  · rw [h]; unfold vx_ot; rw [TB_good _ hk, Bool.or_true]
  · rcases List.mem_cons.mp hw with h | hw
    · rw [h]; unfold vx_ot; rw [TB_good _ hini, Bool.or_true]
    · rcases hg w hw with h | h
      · unfold vx_ot; rw [h, Bool.or_true]
      · unfold vx_ot; rw [zBad_on w h]; rfl
theorem KX.of {y : MethodName} {bytes : ByteArray} {maxL : Nat} {ret : Option FieldType} {rm : Room} {av : List Value} {Po : Option Value → HV → Prop} {PX : String → HV → Prop} (hy : plainName y.cls = true) (hav : (lg_sl av).length ≤ maxL) (g : G l D Z b0 rm y.cls bytes maxL (gEx ret y.name b0 []) (gTx D b0 Po PX rm.cells rm.slots) V (lv_args 0 av) 0 0 0 []) : KX l D Z b0 y (.code y bytes maxL ret) rm av V Po PX := by
  refine vx_ofW (cc := bytes) (maxL := maxL) (ret := ret) hy rfl ?_
  intro p e s m args below meth c s₁ B hml htab hv
  obtain ⟨rfl, hV, hK, hb0, hz⟩ := hv
  have hts := atoms_spec (ws := .code y bytes maxL ret :: TB) B.pre
  rw [lg_entry_eq]
  refine g p e s m _ below meth c s.heap [] _ ⟨B.exec, B.bytes, hml, findClass_of_methodNamed B.named, fun w h => hts w (List.mem_cons_of_mem _ h), hK, hb0, B.notSynchronized⟩ ⟨B.returns, (name_of_methodNamed B.named B.method).1, hz, fun c9 h9 => ?_⟩ hV va_S.rf (lv_entry av hav)
  have e9 := Option.some.inj (h9.symm.trans (Stand.of_body B).code)
  subst e9
  cases hh : c9.exceptionTable.toList with
  | nil => rfl
  | cons a b => exact absurd (htab a (by rw [hh]; exact List.mem_cons_self)) id
theorem KX.ofH {y : MethodName} {bytes : ByteArray} {maxL : Nat} {ret : Option FieldType} {hh : List (Nat × Nat × Nat × Nat)} {rm : Room} {av : List Value} {Po : Option Value → HV → Prop} {PX : String → HV → Prop} (hy : plainName y.cls = true) (hav : (lg_sl av).length ≤ maxL) (g : G l D Z b0 rm y.cls bytes maxL (gEx ret y.name b0 (tableOf hh)) (gTx D b0 Po PX rm.cells rm.slots) V (lv_args 0 av) 0 0 0 []) : KX l D Z b0 y (.codeWith y bytes maxL ret hh) rm av V Po PX := by
  refine vx_ofWH (cc := bytes) (maxL := maxL) (ret := ret) (hh := hh) hy rfl ?_
  intro p e s m args below meth c s₁ B hml hv
  obtain ⟨rfl, hV, hK, hb0, hz⟩ := hv
  have hts := atoms_spec (ws := .codeWith y bytes maxL ret hh :: TB) B.pre
  rw [lg_entry_eq]
  refine g p e s m _ below meth c s.heap [] _ ⟨B.exec, B.bytes, hml, findClass_of_methodNamed B.named, fun w h => hts w (List.mem_cons_of_mem _ h), hK, hb0, B.notSynchronized⟩ ⟨B.returns, (name_of_methodNamed B.named B.method).1, hz, fun c9 h9 => ?_⟩ hV va_S.rf (lv_entry av hav)
  have e9 := Option.some.inj (h9.symm.trans (Stand.of_body B).code)
  subst e9
  exact vx_table (x := y) B (hts _ List.mem_cons_self)
end EX
