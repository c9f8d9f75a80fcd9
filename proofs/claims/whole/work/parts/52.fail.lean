section FX
variable {p : Program} {l : Launch} {e : Env} {R : Room} {s : State} {m : MethodId} {args : Array Value} {below : List Frame} {meth : Method} {c : Code}
/-! a virtual call of a method that another class overrides, when it may throw: follows va_callVU and vx_callV -/
theorem vy_callVU {T : State} {locs : List Loc} {cells slots : Nat} (X : Stand p l e R s m args below meth c T locs cells slots) (hexec : p.tables.exec = Jvm.exec) {own C owner : String} {index : Nat} {x y : MethodName} {bytes : ByteArray} {maxL : Nat} {ret : Option FieldType}
    (hown : s.vm.findClass own = some m.cls) (hlink : (Cond.methodLink own index x).before args s = true) (hsame : (Cond.sameMethod x.cls owner x.name x.desc).before args s = true)
    (hd0 : va_Decl s ⟨owner, x.name, x.desc⟩) (howner : owner ≠ "java/lang/invoke/MethodHandle" ∧ owner ≠ "java/lang/invoke/VarHandle")
    (hsel : (Cond.selects C x y).before args s = true) (hinst : (Cond.instanceMethod y).before args s = true) (hcode : (Cond.code y bytes maxL ret).before args s = true)
    {W9 : Nat} {Pre : Pt → Array Value → Prop} {Post : Pt → Array Value → Option Value → Pt → Prop} {PostX : Pt → Array Value → Addr → Pt → Prop} (hK : vx_Back l R p e below s args y 3 W9 Pre Post PostX)
    {b : Addr} {cellB : Cell} (hcell : T.heap[b]? = some cellB) (hobj : cellB.vm.isStatics = false) (hcls : s.vm.findClass C = some cellB.cls)
    {g : JFrame} (hg : g.method = m) (hsize : g.locals.size = c.maxLocals) {argsL rest : List Value} (hlen : ∀ sig, parseMethodDescriptor x.desc = some sig → argsL.length = sig.parameters.length)
    (hstack : g.stack = argsL.reverse ++ .ref b :: rest) (hW : 2 * g.monitorRoom + (rest.map fun v => v.category).sum ≤ W9) (hdg : decode c.code g.pc = .ok (.invokevirtual index, 3))
    (hpre : ∀ vm₁, s.WarmedH vm₁ → Pre ⟨T.setVm vm₁, locs, cells, slots⟩ (Value.ref b :: argsL).toArray) :
    (∃ (v : Option Value) (vm₁ : Vm) (B : Pt), s.WarmedH vm₁ ∧ Stand p l e R s m args below meth c B.U B.locs B.cells B.slots ∧ Post ⟨T.setVm vm₁, locs, cells, slots⟩ (Value.ref b :: argsL).toArray v B ∧
      ∀ target, Steps p.tables e below (B.U.setTop { g with pc := g.pc + 3, stack := v.toList ++ rest }) target → Steps p.tables e below (T.setTop g) target) ∨
    (∃ (q : Addr) (vm₁ : Vm) (B : Pt), s.WarmedH vm₁ ∧ Stand p l e R s m args below meth c B.U B.locs B.cells B.slots ∧ PostX ⟨T.setVm vm₁, locs, cells, slots⟩ (Value.ref b :: argsL).toArray q B ∧
      Steps p.tables e below (T.setTop g) ((B.U.setTop { g with stack := rest }).pushFrame (.throwing q))) := by
  obtain ⟨r0, r, hn, hrm, hstR, hsigR⟩ := hd0
  obtain ⟨cn, ck, r1, hcn, hck, hni, hf, hn1⟩ := Cond.sameMethod_found hsame
  cases hn.symm.trans hn1
  obtain ⟨mk, methM, hnamed, hmethM, -, habM⟩ := Cond.instanceMethod_spec hinst
  obtain ⟨c2, r2, m2, q1, q2, q3, q4, kP, hkP, hkPi⟩ := Cond.selects_spec hsel
  cases hcls.symm.trans q1
  cases hf.symm.trans q2
  cases hnamed.symm.trans q3
  have hselP : selectMethod e.platform s.vm cellB.cls r0 = .method mk := by rw [Launch.admits_selectMethod X.admits]; exact q4
  obtain ⟨vm₁, X₁, hstep₁⟩ := X.invokevirtualUp hexec hown hlink hsame howner hn hrm hstR (a := b) (cell := cellB) hcell
    (fun z h => by rw [h] at hobj; cases hobj) hselP hmethM habM hkP hkPi (g := g) hg (argsL := argsL) (rest := rest) (hlen _ hsigR) hstack hdg
  rcases hK m meth c ⟨T.setVm vm₁, locs, cells, slots⟩ { g with stack := rest } (.invokevirtual index) mk (Value.ref b :: argsL).toArray X₁ hg hsize hdg hW (X₁.named hnamed) (hpre vm₁ X₁.warmed) with ⟨v, B, X', hpost, hsteps⟩ | ⟨q, B, X', hpost, hsteps⟩
  · exact Or.inl ⟨v, vm₁, B, X₁.warmed, X', hpost, fun target h => hstep₁ _ fun acts => by rw [doInvoke_state]; exact hsteps.trans h⟩
  · exact Or.inr ⟨q, vm₁, B, X₁.warmed, X', hpost, hstep₁ _ fun acts => by rw [doInvoke_state]; exact hsteps⟩
variable {H : Heap} {locs : List Loc} {cells slots : Nat}
theorem vy_runU {x y : MethodName} {bytes cc : ByteArray} {maxL nL mc ms n index : Nat} {ret : Option FieldType} {ws : List Cond} {rm : Room} {Pc : Array Value → State → Prop} {Qc : Array Value → State → Outcome → State → Prop} {XC : String → State → State → Prop} {free : Addr → Prop} {Ts : List Cond} {own C owner : String} {b : Addr} {As rest : List Value} {g : JFrame}
    (S : CallFix p m c cc nL s args Ts own) (hM : vx_Met l y ws rm Pc Qc XC mc ms free) (cw : va_CU R s args own C owner index x y bytes maxL ret ws rm mc ms n) (hp : PreV s H C b Pc As)
    (hg : g.method = m) (hn : As.length = n) (hsize : g.locals.size = nL) (hstack : g.stack = As.reverse ++ .ref b :: rest) (hW : 2 * g.monitorRoom + (rest.map fun v => v.category).sum ≤ 8) (hdg : decode cc g.pc = .ok (.invokevirtual index, 3)) (hf : cells + mc ≤ R.cells ∧ slots + ms ≤ R.slots) :
    vx_Run p l e R s m args below meth c H locs cells slots mc ms g rest (Qc (Value.ref b :: As).toArray) XC free := by
  obtain ⟨hrc, hrs, hfr, hlo, hws, hcw⟩ := cw.back
  have hini := cw.init
  have hK : vx_Back l R p e below s args y 3 8 (PreOf R mc ms Pc) (PostOf Qc mc ms free) (vx_Post XC mc ms free) := vx_back (bytes := bytes) (maxL := maxL) (ret := ret) hM hp.1 hrc hrs hfr hlo hws hcw (fun a' U hW => word_at hW (Or.inl (by first | rfl | simp [Cond.onTables, Cond.keeps, Cond.steady])) hini)
  obtain ⟨hx, hb, hml, ho, -⟩ := S
  obtain ⟨-, ⟨cellB, hcB, hoB, hclB⟩, hPc⟩ := hp
  intro T hT X
  rcases vy_callVU X hx (C := C) (owner := owner) (bytes := bytes) (maxL := maxL) (ret := ret) ho cw.link cw.same cw.decl cw.notMH cw.sel cw.inst cw.code hK (by rw [hT]; exact hcB) hoB hclB hg (hsize.trans hml.symm) (argsL := As) (rest := rest) (fun sig h => hn.trans (cw.len sig h)) hstack hW (by rw [hb]; exact hdg)
    (fun vm₁ hW₁ => ⟨hf.1, hf.2, hPc (T.setVm vm₁) hT hW₁⟩) with ⟨v, vm₁, ⟨U', l2, c2, s2⟩, hW₁, X', ⟨g', mk, t, L, e1, e2, hq, h1, hL, h2, h3⟩, st⟩ | ⟨q, vm₁, ⟨U', l2, c2, s2⟩, hW₁, X', ⟨g', mk, t, L, E, ce, e1, e2, hq, hce, hcv, hcl, h1, hL, h2, h3⟩, st⟩
  · dsimp only [Pt.U, Pt.locs, Pt.cells, Pt.slots] at X' e1 e2 h1 h2 h3 st
    subst h1; subst h2; subst h3
    exact Or.inl ⟨v, (T.setVm vm₁).calling g' mk (Value.ref b :: As).toArray, t, U', L, hT, X', hL, e1, e2, hq, st⟩
  · dsimp only [Pt.U, Pt.locs, Pt.cells, Pt.slots] at X' e1 e2 h1 h2 h3 st hcl
    subst h1; subst h2; subst h3
    exact Or.inr ⟨q, (T.setVm vm₁).calling g' mk (Value.ref b :: As).toArray, t, U', L, E, ce, hT, X', hL, e1, e2, hq, hce, hcv, vx_cls hW₁ hcl, st⟩
end FX
section FY
variable {l : Launch} {D : va_G} {Z : Nat → ClassId} {b0 : Nat} {R : Room} {own : String} {cc : ByteArray} {nL : Nat} {E : Method → Array Value → State → Prop} {T : List Frame → Array Value → State → State → Prop} {V : HV} {L : List (Nat × Value)} {k n pc : Nat} {rest st : List Value} {cd : Nat → Nat}
def rmfail : Room := { frames := 6, cells := 1, slots := 6, locals := 90 }
def FE (E : String) (q : Nat) : Prop := (q ≠ 3 ∧ q ≠ 4 ∧ q ≠ 7 ∧ E = "java/lang/IllegalStateException") ∨ (q = 3 ∧ E = "java/lang/UnsupportedOperationException") ∨ (q = 4 ∧ E = "java/lang/IllegalArgumentException")
theorem iniISE : Cond.initialized "java/lang/IllegalStateException" ∈ TB := TB_in 70 (by decide +kernel) (by decide +kernel)
theorem iniIAE : Cond.initialized "java/lang/IllegalArgumentException" ∈ TB := TB_in 69 (by decide +kernel) (by decide +kernel)
theorem iniUOE : Cond.initialized "java/lang/UnsupportedOperationException" ∈ TB := TB_in 71 (by decide +kernel) (by decide +kernel)
theorem x_X6_fail {a q f : Nat} (hfl : l.stackTraces = false) (hr : Rk V a q f) (h3 : q ≠ 3) (h4 : q ≠ 4) (h7 : q ≠ 7) : KX l D Z b0 yX6_fail (.code yX6_fail cX6_fail 1 none) rmfail [.ref a] V (fun v V2 => v = none ∧ V2 = V ∧ f = 0) (fun E V2 => (FE E q ∧ 0 < f) ∧ V2 = V) := by
  refine KX.of (by decide) (Nat.le_of_ble_eq_true rfl) ?_
  refine G.locals (L' := [(0, .ref a)]) [0] rfl ?_
  refine g_aload_n (q := 0) (pc := 0) dX6_fail_0 rfl rfl ?_
  refine g_rk_figure (pc := 1) hr flX6_9 dX6_fail_1 ?_
  refine g_if_eq_N (tgt := 17) (pc := 4) (by have := hr.2.1; omega) dX6_fail_4 (by decide) (fun c1 => ?_) (fun c1 => ?_)
  · exact G.toX (g_vret (pc := 17) (Nat.zero_le _) (Nat.zero_le _) ⟨rfl, rfl, c1⟩ dX6_fail_17)
  · exact g_throwS (pc := 7) (cls := "java/lang/IllegalStateException") (text := "ROCK fell") (ps := [66, 767, 776, 780, 783, 785, 768, 769, 78, 79, 770, 775, 781, 801, 757, 802, 759, 803, 761, 771, 773, 763, 797, 798, 800, 763, 844, 845, 846, 791, 749, 791, 792, 793, 794, 751, 794, 795, 796, 797, 753, 843, 834, 835, 836, 778, 837, 838, 839, 840, 766, 765, 841]) hfl (by decide +kernel) clX6_15 iniISE (fun U h => h.1) xp_X6_19 xg_X6_19 dX6_fail_7 dX6_fail_10 dX6_fail_11 dX6_fail_13 dX6_fail_16 ⟨Nat.le_of_ble_eq_true rfl, Nat.le_of_ble_eq_true rfl⟩ (Nat.le_of_ble_eq_true rfl) ⟨Nat.le_of_ble_eq_true rfl, Nat.le_of_ble_eq_true rfl⟩ ⟨Nat.le_of_ble_eq_true rfl, Nat.le_of_ble_eq_true rfl⟩ ⟨⟨Or.inl ⟨h3, h4, h7, rfl⟩, by omega⟩, rfl⟩
theorem x_X8_fail {a q f : Nat} (hfl : l.stackTraces = false) (hr : Rk V a q f) (h4 : q = 4) : KX l D Z b0 yX8_fail (.code yX8_fail cX8_fail 1 none) rmfail [.ref a] V (fun v V2 => v = none ∧ V2 = V ∧ f = 0) (fun E V2 => (FE E q ∧ 0 < f) ∧ V2 = V) := by
  refine KX.of (by decide) (Nat.le_of_ble_eq_true rfl) ?_
  refine G.locals (L' := [(0, .ref a)]) [0] rfl ?_
  refine g_aload_n (q := 0) (pc := 0) dX8_fail_0 rfl rfl ?_
  subst h4; refine g_get (C := RX8) (F := TX8) (N := 1) (ci := 8) (pc := 1) hr.2.2 rfl inX8 0 (by decide) flX8_16 (Or.inr sfX8_figure) rfl dX8_fail_1 ?_
  refine g_if_eq_N (tgt := 17) (pc := 4) (by have := hr.2.1; omega) dX8_fail_4 (by decide) (fun c1 => ?_) (fun c1 => ?_)
  · exact G.toX (g_vret (pc := 17) (Nat.zero_le _) (Nat.zero_le _) ⟨rfl, rfl, c1⟩ dX8_fail_17)
  · exact g_throwS (pc := 7) (cls := "java/lang/IllegalArgumentException") (text := "a VEIN fell") (ps := [66, 767, 776, 780, 783, 785, 768, 769, 78, 79, 770, 775, 781, 801, 757, 802, 759, 803, 761, 771, 773, 763, 797, 798, 800, 763, 788, 789, 790, 791, 749, 791, 792, 793, 794, 751, 794, 795, 796, 797, 753, 787, 746, 747, 754, 755, 756, 758, 760, 762, 766, 765, 764]) hfl (by decide +kernel) clX8_25 iniIAE (fun U h => h.2.1) xp_X8_29 xg_X8_29 dX8_fail_7 dX8_fail_10 dX8_fail_11 dX8_fail_13 dX8_fail_16 ⟨Nat.le_of_ble_eq_true rfl, Nat.le_of_ble_eq_true rfl⟩ (Nat.le_of_ble_eq_true rfl) ⟨Nat.le_of_ble_eq_true rfl, Nat.le_of_ble_eq_true rfl⟩ ⟨Nat.le_of_ble_eq_true rfl, Nat.le_of_ble_eq_true rfl⟩ ⟨⟨Or.inr (Or.inr ⟨rfl, rfl⟩), by omega⟩, rfl⟩
theorem x_X9_fail {a q f : Nat} (hfl : l.stackTraces = false) (hr : Rk V a q f) (h3 : q = 3) : KX l D Z b0 yX9_fail (.code yX9_fail cX9_fail 1 none) rmfail [.ref a] V (fun v V2 => v = none ∧ V2 = V ∧ f = 0) (fun E V2 => (FE E q ∧ 0 < f) ∧ V2 = V) := by
  refine KX.of (by decide) (Nat.le_of_ble_eq_true rfl) ?_
  refine G.locals (L' := [(0, .ref a)]) [0] rfl ?_
  refine g_aload_n (q := 0) (pc := 0) dX9_fail_0 rfl rfl ?_
  subst h3; refine g_get (C := RX9) (F := TX9) (N := 1) (ci := 9) (pc := 1) hr.2.2 rfl inX9 0 (by decide) flX9_16 (Or.inr sfX9_figure) rfl dX9_fail_1 ?_
  refine g_if_eq_N (tgt := 17) (pc := 4) (by have := hr.2.1; omega) dX9_fail_4 (by decide) (fun c1 => ?_) (fun c1 => ?_)
  · exact G.toX (g_vret (pc := 17) (Nat.zero_le _) (Nat.zero_le _) ⟨rfl, rfl, c1⟩ dX9_fail_17)
  · exact g_throwS (pc := 7) (cls := "java/lang/UnsupportedOperationException") (text := "WATER broke in") (ps := [66, 767, 776, 780, 783, 785, 768, 769, 78, 79, 770, 775, 781, 801, 757, 802, 759, 803, 761, 771, 773, 763, 797, 798, 800, 763, 827, 828, 829, 791, 749, 791, 792, 793, 794, 751, 794, 795, 796, 797, 753, 826, 817, 818, 819, 779, 820, 821, 822, 823, 766, 765, 824]) hfl (by decide +kernel) clX9_34 iniUOE (fun U h => h.2.2.1) xp_X9_38 xg_X9_38 dX9_fail_7 dX9_fail_10 dX9_fail_11 dX9_fail_13 dX9_fail_16 ⟨Nat.le_of_ble_eq_true rfl, Nat.le_of_ble_eq_true rfl⟩ (Nat.le_of_ble_eq_true rfl) ⟨Nat.le_of_ble_eq_true rfl, Nat.le_of_ble_eq_true rfl⟩ ⟨Nat.le_of_ble_eq_true rfl, Nat.le_of_ble_eq_true rfl⟩ ⟨⟨Or.inr (Or.inl ⟨rfl, rfl⟩), by omega⟩, rfl⟩
theorem x_X1_fail {a q f : Nat} (hr : Rk V a q f) : KX l D Z b0 yX1_fail (.code yX1_fail cX1_fail 1 none) rmfail [.ref a] V (fun v V2 => v = none ∧ V2 = V ∧ True) (fun _ V2 => False ∧ V2 = V) := by
  refine KX.of (by decide) (Nat.le_of_ble_eq_true rfl) ?_
  exact G.toX (g_vret (pc := 0) (Nat.zero_le _) (Nat.zero_le _) ⟨rfl, rfl, trivial⟩ dX1_fail_0)
def tossT : List (Nat × Nat × Nat × Nat) := [(16, 20, 23, 224), (16, 20, 29, 255), (16, 20, 38, 217)]
/-- a thrown thing caught by toss -/
theorem toss_catch {p : Program} {e : Env} {s : State} {m : MethodId} {args : Array Value} {below : List Frame} {meth : Method} {c : Code} {H : Heap} {locs : List Loc} {ls : Array Slot} {ret : Option FieldType} {nm E9 : String} {ce : Cell} {q9 : Addr} {q : Nat} {T9 : State → Prop} (X : gX D Z b0 RX11 cc nL p s m args meth c) (hE : gEx ret nm b0 (tableOf tossT) meth args s) (hcode : meth.code = some c) (hFE : FE E9 q) (hce : H[q9]? = some ce) (hcv : ce.vm = .none) (hcl : s.vm.findClass E9 = some ce.cls)
    (k1 : q ≠ 3 → q ≠ 4 → q ≠ 7 → W p l e R s m args below meth c H locs k n T9 (F0 m 23 ls [.ref q9])) (k2 : q = 3 → W p l e R s m args below meth c H locs k n T9 (F0 m 29 ls [.ref q9])) (k3 : q = 4 → W p l e R s m args below meth c H locs k n T9 (F0 m 38 ls [.ref q9])) : vx_W p l e R s m args below meth c H locs k n T9 (F0 m 17 ls rest) q9 := by
  have ts := X.2.2.2.2.1
  have htab : c.exceptionTable.toList = tableOf tossT := hE.2.2.2 c hcode
  have hz := hE.2.2.1.2.2
  have cst : ∀ w ∈ zBad, w.before args s = true := fun w hw => va_Nw.use (zBad_on w hw) (hz.2.1 w hw)
  rcases hFE with ⟨h3, h4, h7, rfl⟩ | ⟨h3, rfl⟩ | ⟨h4, rfl⟩
  · exact vx_catch X.2.2.2.1 [] ⟨16, 20, 23, 224⟩ [⟨16, 20, 29, 255⟩, ⟨16, 20, 38, 217⟩] htab (fun z hz => by cases hz) (by decide) (by decide) (ts _ clX11_224) (cst _ (by decide +kernel)) hce hcv hcl (k1 h3 h4 h7)
  · exact vx_catch X.2.2.2.1 [⟨16, 20, 23, 224⟩] ⟨16, 20, 29, 255⟩ [⟨16, 20, 38, 217⟩] htab (fun z hz9 => by
      rcases List.mem_cons.mp hz9 with h | h
      · subst h; exact Or.inr ⟨by decide, _, ts _ clX11_224, hz.2.2.1⟩
      · cases h) (by decide) (by decide) (ts _ clX11_255) (cst _ (by decide +kernel)) hce hcv hcl (k2 h3)
  · exact vx_catch X.2.2.2.1 [⟨16, 20, 23, 224⟩, ⟨16, 20, 29, 255⟩] ⟨16, 20, 38, 217⟩ [] htab (fun z hz9 => by
      rcases List.mem_cons.mp hz9 with h | h
      · subst h; exact Or.inr ⟨by decide, _, ts _ clX11_224, hz.2.2.2.1⟩
      · rcases List.mem_cons.mp h with h | h
        · subst h; exact Or.inr ⟨by decide, _, ts _ clX11_255, hz.2.2.2.2.1⟩
        · cases h) (by decide) (by decide) (ts _ clX11_217) (cst _ (by decide +kernel)) hce hcv hcl (k3 h4)
theorem g_failO1 {y : MethodName} {bytes : ByteArray} {C : String} {ci N : Nat} {F : u_T} {fs : List Value} {P0 : Prop} {PE : String → Prop} {ret : Option FieldType} {nm : String} {a q : Nat} (hb : V a = some (vO ci fs)) (hc : vwCl[ci]? = some (C, F, N)) (hM : KX l D Z b0 y (.code y bytes 1 none) rmfail [.ref a] V (fun v V2 => v = none ∧ V2 = V ∧ P0) (fun E V2 => PE E ∧ V2 = V)) (hsel : Cond.selects C yX6_fail y ∈ TB) (hm : mV y bytes 1 none 0) (hFE : ∀ E, PE E → FE E q) (hR : 7 ≤ R.frames ∧ 120 ≤ R.locals) (hdg : decode cc 17 = .ok (.invokevirtual 252, 3)) (hf : k + 1 ≤ R.cells ∧ n + 6 ≤ R.slots)
    (k0 : P0 → G l D Z b0 R RX11 cc nL (gEx ret nm b0 (tableOf tossT)) T V L (k + 1) (n + 6) 20 []) (k1 : (∃ E, PE E) → q ≠ 3 → q ≠ 4 → q ≠ 7 → ∀ e9, G l D Z b0 R RX11 cc nL (gEx ret nm b0 (tableOf tossT)) T V L (k + 1) (n + 6) 23 [.ref e9]) (k2 : (∃ E, PE E) → q = 3 → ∀ e9, G l D Z b0 R RX11 cc nL (gEx ret nm b0 (tableOf tossT)) T V L (k + 1) (n + 6) 29 [.ref e9]) (k3 : (∃ E, PE E) → q = 4 → ∀ e9, G l D Z b0 R RX11 cc nL (gEx ret nm b0 (tableOf tossT)) T V L (k + 1) (n + 6) 38 [.ref e9]) :
    G l D Z b0 R RX11 cc nL (gEx ret nm b0 (tableOf tossT)) T V L k n 17 [.ref a] := by
  intro p e s m args below meth c H locs ls X hE hV hS hL T9 hT X9
  have hts := X.2.2.2.2.1
  have hrun := vy_runU (p := p) (l := l) (e := e) (R := R) (s := s) (m := m) (args := args) (below := below) (meth := meth) (c := c) (H := H) (locs := locs) ⟨X.1, X.2.1, X.2.2.1, X.2.2.2.1, hts⟩ hM (va_cwO (owner := yX6_fail.cls) 0 hts (gO_ws mlX11_252 smX6_X6_fail mX6_fail.1.1 hsel hm.1.1 hm.1.2.1 hm.1.2.2) rfl rfl rfl mX6_fail.1.2.2 mX6_fail.2 ⟨by show 6 + 1 ≤ _; omega, by show 8 + (1 + 11) + 90 ≤ _; omega⟩) ⟨kPz.blind, va_recv X.2.2.2.2.2.1.1 (hV.one hb) (ci := ci) (q0 := 0) hc rfl, fun U hU hW => ⟨rfl, by rw [hU]; exact hV, X.2.2.2.2.2.1.warm hW, by rw [hU]; exact Nat.le_trans X.2.2.2.2.2.2.1 hS.1, hE.2.2.1.to hU hW hS⟩⟩ (g := F0 m 17 ls [.ref a]) (As := []) (rest := []) (cells := k) (slots := n) rfl rfl hL.1 rfl (Nat.le_of_ble_eq_true rfl) hdg hf
  have nx : ∀ (st₀ t T' : State) (L9 : List Loc), st₀.heap = H → T'.heap = t.heap → va_F (fun q => b0 ≤ q) st₀ t → (∀ z ∈ L9, b0 ≤ z.base) → va_S (fun q => b0 ≤ q) s.heap T'.heap (locs ++ L9) := fun st₀ t T' L9 h0 e1 hF hL9 => by
    obtain ⟨hz, hk⟩ := hF
    rw [h0] at hz hk
    exact ⟨Nat.le_trans hS.1 (by rw [e1]; exact hz), fun q h1 h2 => by rw [e1, hk q (Nat.lt_of_lt_of_le h1 hS.1) h2]; exact hS.2.1 q h1 h2, fun q hq => by
      rcases List.mem_append.mp hq with h | h
      · exact hS.2.2 q h
      · exact hL9 q h⟩
  rcases hrun T9 hT X9 with ⟨v, st₀, t, T', L9, h0, X', hL9, e1, e2, ⟨⟨v', V', hv, hp, hb9⟩, hF⟩, stp⟩ | ⟨q9, st₀, t, T', L9, E9, ce, h0, X', hL9, e1, e2, ⟨V', hp, hb9, hF⟩, hce, hcv, hcl, stp⟩
  · cases hv
    obtain ⟨rfl, rfl, hp0⟩ := hp
    obtain ⟨t2, a1, b1⟩ := k0 hp0 p e s m args below meth c T'.heap (locs ++ L9) ls X hE (by rw [e1]; exact hb9) (nx st₀ t T' L9 h0 e1 hF hL9) hL T' rfl X'
    exact ⟨t2, stp t2 a1, b1⟩
  · obtain ⟨hpe, rfl⟩ := hp
    have hV' : hvP D V' T'.heap := by rw [e1]; exact hb9
    have hS' := nx st₀ t T' L9 h0 e1 hF hL9
    obtain ⟨t2, a1, b1⟩ := toss_catch (k := k + 1) (n := n + 6) (rest := []) X hE X9.code (hFE E9 hpe) (by rw [e1]; exact hce) hcv hcl (fun h3 h4 h7 => k1 ⟨E9, hpe⟩ h3 h4 h7 q9 p e s m args below meth c T'.heap (locs ++ L9) ls X hE hV' hS' hL) (fun h3 => k2 ⟨E9, hpe⟩ h3 q9 p e s m args below meth c T'.heap (locs ++ L9) ls X hE hV' hS' hL) (fun h4 => k3 ⟨E9, hpe⟩ h4 q9 p e s m args below meth c T'.heap (locs ++ L9) ls X hE hV' hS' hL) T' rfl X'
    exact ⟨t2, stp.trans a1, b1⟩
theorem g_failO {ret : Option FieldType} {nm : String} {a q f : Nat} (hfl : l.stackTraces = false) (hr : Rk V a q f) (hR : 7 ≤ R.frames ∧ 120 ≤ R.locals) (hdg : decode cc 17 = .ok (.invokevirtual 252, 3)) (hf : k + 1 ≤ R.cells ∧ n + 6 ≤ R.slots)
    (k0 : q = 7 ∨ f = 0 → G l D Z b0 R RX11 cc nL (gEx ret nm b0 (tableOf tossT)) T V L (k + 1) (n + 6) 20 []) (k1 : 0 < f → q ≠ 3 → q ≠ 4 → q ≠ 7 → ∀ e9, G l D Z b0 R RX11 cc nL (gEx ret nm b0 (tableOf tossT)) T V L (k + 1) (n + 6) 23 [.ref e9]) (k2 : 0 < f → q = 3 → ∀ e9, G l D Z b0 R RX11 cc nL (gEx ret nm b0 (tableOf tossT)) T V L (k + 1) (n + 6) 29 [.ref e9]) (k3 : 0 < f → q = 4 → ∀ e9, G l D Z b0 R RX11 cc nL (gEx ret nm b0 (tableOf tossT)) T V L (k + 1) (n + 6) 38 [.ref e9]) : G l D Z b0 R RX11 cc nL (gEx ret nm b0 (tableOf tossT)) T V L k n 17 [.ref a] := by
  rcases (by have := hr.1; omega : q = 0 ∨ q = 1 ∨ q = 2 ∨ q = 3 ∨ q = 4 ∨ q = 5 ∨ q = 6 ∨ q = 7) with rfl | rfl | rfl | rfl | rfl | rfl | rfl | rfl
  · exact g_failO1 (PE := fun E => FE E 0 ∧ 0 < f) hr.2.2 rfl (x_X6_fail hfl hr (by decide) (by decide) (by decide)) selX6_X6_fail_X6_fail mX6_fail (fun _ h => h.1) hR hdg hf (fun h => k0 (Or.inr h)) (fun h => k1 h.choose_spec.2) (fun h => k2 h.choose_spec.2) (fun h => k3 h.choose_spec.2)
  · exact g_failO1 (PE := fun E => FE E 1 ∧ 0 < f) hr.2.2 rfl (x_X6_fail hfl hr (by decide) (by decide) (by decide)) selX3_X6_fail_X6_fail mX6_fail (fun _ h => h.1) hR hdg hf (fun h => k0 (Or.inr h)) (fun h => k1 h.choose_spec.2) (fun h => k2 h.choose_spec.2) (fun h => k3 h.choose_spec.2)
  · exact g_failO1 (PE := fun E => FE E 2 ∧ 0 < f) hr.2.2 rfl (x_X6_fail hfl hr (by decide) (by decide) (by decide)) selX0_X6_fail_X6_fail mX6_fail (fun _ h => h.1) hR hdg hf (fun h => k0 (Or.inr h)) (fun h => k1 h.choose_spec.2) (fun h => k2 h.choose_spec.2) (fun h => k3 h.choose_spec.2)
  · exact g_failO1 (PE := fun E => FE E 3 ∧ 0 < f) hr.2.2 rfl (x_X9_fail hfl hr rfl) selX9_X6_fail_X9_fail mX9_fail (fun _ h => h.1) hR hdg hf (fun h => k0 (Or.inr h)) (fun h => k1 h.choose_spec.2) (fun h => k2 h.choose_spec.2) (fun h => k3 h.choose_spec.2)
  · exact g_failO1 (PE := fun E => FE E 4 ∧ 0 < f) hr.2.2 rfl (x_X8_fail hfl hr rfl) selX8_X6_fail_X8_fail mX8_fail (fun _ h => h.1) hR hdg hf (fun h => k0 (Or.inr h)) (fun h => k1 h.choose_spec.2) (fun h => k2 h.choose_spec.2) (fun h => k3 h.choose_spec.2)
  · exact g_failO1 (PE := fun E => FE E 5 ∧ 0 < f) hr.2.2 rfl (x_X6_fail hfl hr (by decide) (by decide) (by decide)) selX4_X6_fail_X6_fail mX6_fail (fun _ h => h.1) hR hdg hf (fun h => k0 (Or.inr h)) (fun h => k1 h.choose_spec.2) (fun h => k2 h.choose_spec.2) (fun h => k3 h.choose_spec.2)
  · exact g_failO1 (PE := fun E => FE E 6 ∧ 0 < f) hr.2.2 rfl (x_X6_fail hfl hr (by decide) (by decide) (by decide)) selX2_X6_fail_X6_fail mX6_fail (fun _ h => h.1) hR hdg hf (fun h => k0 (Or.inr h)) (fun h => k1 h.choose_spec.2) (fun h => k2 h.choose_spec.2) (fun h => k3 h.choose_spec.2)
  · exact g_failO1 (q := 7) hr.2.2 rfl (x_X1_fail hr) selX1_X6_fail_X1_fail mX1_fail (fun _ h => absurd h id) hR hdg hf (fun _ => k0 (Or.inl rfl)) (fun h => absurd h.choose_spec id) (fun h => absurd h.choose_spec id) (fun h => absurd h.choose_spec id)
end FY
