/-! ===== the words: all good ones of the tables in one list ===== -/
def TB : List Cond := lw_tbl.filter goodWord
theorem TB_in {w : Cond} (i : Nat) (h : lw_tbl[i]? = some w) (g : goodWord w = true) : w ∈ TB := List.mem_filter.mpr ⟨List.mem_of_getElem? h, g⟩
theorem TB_good : ∀ w ∈ TB, goodWord w = true := fun _ h => (List.mem_filter.mp h).2
theorem TB_sub {ws : List Cond} (h : ∀ w ∈ ws, w ∈ TB) : GoodIn TB ws := fun w hw => ⟨h w hw, good_of_word (TB_good w (h w hw))⟩
theorem TB_cons {c : Cond} (hc : c ∈ TB) : ∀ w ∈ c :: TB, w ∈ TB := fun w h => (List.mem_cons.mp h).elim (fun e => e ▸ hc) id
/-! ===== a view of the heap: what is known of the cells, by their addresses ===== -/
abbrev HV : Type := Nat → Option va_E
def hvP (D : va_G) (V : HV) (H : Heap) : Prop := ∀ (q : Nat) (e : va_E), V q = some e → va_at D vwCl (q, e) H
def upv (V : HV) (a : Nat) (e : va_E) : HV := fun q => if q = a then some e else V q
theorem upv_eq (V : HV) (a : Nat) (e : va_E) : upv V a e a = some e := if_pos rfl
theorem upv_ne {V : HV} {a q : Nat} {e : va_E} (h : q ≠ a) : upv V a e q = V q := if_neg h
def vI (Z : Nat → ClassId) (t n : Nat) (f : Nat → Int32) : va_E := .inl (Z t, (n, .inl f))
def vL (Z : Nat → ClassId) (t n : Nat) (f : Nat → Int64) : va_E := .inl (Z t, (n, .inr (.inl f)))
def vQ (Z : Nat → ClassId) (t n : Nat) (f : Nat → Option Nat) : va_E := .inl (Z t, (n, .inr (.inr (.inr (.inr f)))))
def vO (ci : Nat) (fs : List Value) : va_E := .inr (ci, fs)
theorem hvP.set {D : va_G} {V : HV} {a : Nat} {e : va_E} {H H1 : Heap} (h : hvP D V H) (he : va_at D vwCl (a, e) H1) (oq : ∀ q : Nat, q ≠ a → H1[q]? = H[q]?) : hvP D (upv V a e) H1 := by
  intro q e' hq
  by_cases hqa : q = a
  · subst hqa
    rw [upv_eq] at hq
    cases hq
    exact he
  · rw [upv_ne hqa] at hq
    exact (h q e' hq).kept (oq q hqa)
theorem hvP.push {D : va_G} {V : HV} {e : va_E} {H H1 : Heap} (h : hvP D V H) (he : va_at D vwCl (H.size, e) H1) (oq : ∀ q : Nat, q < H.size → H1[q]? = H[q]?) : hvP D (upv V H.size e) H1 := by
  intro q e' hq
  by_cases hqa : q = H.size
  · subst hqa
    rw [upv_eq] at hq
    cases hq
    exact he
  · rw [upv_ne hqa] at hq
    exact (h q e' hq).kept (oq q (h q e' hq).lt)
theorem hvP.new {D : va_G} {V : HV} {H : Heap} (h : hvP D V H) : V H.size = none := by
  cases hv : V H.size with
  | none => rfl
  | some e => exact absurd (h _ _ hv).lt (Nat.lt_irrefl _)
theorem hvP.one {D : va_G} {V : HV} {H : Heap} {a : Nat} {e : va_E} (h : hvP D V H) (ha : V a = some e) : va_P D vwCl [(a, e)] H := by
  intro k q hk
  match k, hk with
  | 0, hk => cases hk; exact h a e ha
  | k + 1, hk => simp at hk
theorem va_S.push1 {A : Nat → Prop} {H0 H H1 : Heap} {locs : List Loc} (h : va_S A H0 H locs) (z : H1.size = H.size + 1) (oq : ∀ q : Nat, q < H.size → H1[q]? = H[q]?) : va_S A H0 H1 locs :=
  ⟨Nat.le_trans h.1 (by omega), fun x h1 h2 => (oq x (Nat.lt_of_lt_of_le h1 h.1)).trans (h.2.1 x h1 h2), h.2.2⟩
/-! ===== the world's constants: D the classes' numbers and slots, Z the array classes, b0 the first new cell ===== -/
def kTys (Z : Nat → ClassId) : List (ClassId × FieldType) := [(Z 0, .int), (Z 1, .boolean), (Z 2, .object RX6), (Z 3, .object RX7), (Z 4, .long)]
def kCast : List String := [RX0, RX1, RX2, RX3, RX4, RX8, RX9]
def kNs (U : State) : Prop := va_Nw (.methodLinkNest RX11 34 yX10_init RX11) U ∧ va_Nw (.methodLinkNest RX11 49 yX7_init RX11) U ∧ va_Nw (.methodLinkNest RX5 34 yX11_neighbour RX11) U ∧ va_Nw (.methodLinkNest RX7 29 yX11_isBelow RX11) U ∧ va_Nw (.methodLinkNest RX10 52 yX11_neighbour RX11) U ∧ va_AO RX6 U ∧ va_AO RX7 U ∧ ∀ C ∈ kCast, va_Nw (.castable C RX6) U
def kW (D : va_G) (Z : Nat → ClassId) (U : State) : Prop := va_K D vwCl (kTys Z) U ∧ kNs U
theorem kNs.warm {s U : State} (hW : s.WarmedH U.vm) (h : kNs s) : kNs U := ⟨h.1.warmM hW, h.2.1.warmM hW, h.2.2.1.warmM hW, h.2.2.2.1.warmM hW, h.2.2.2.2.1.warmM hW, h.2.2.2.2.2.1.moved hW.alike, h.2.2.2.2.2.2.1.moved hW.alike, fun C hC => (h.2.2.2.2.2.2.2 C hC).warmC hW⟩
theorem kNs.same {s U : State} (hW : s.vm = U.vm) (h : kNs s) : kNs U := ⟨h.1.same rfl hW, h.2.1.same rfl hW, h.2.2.1.same rfl hW, h.2.2.2.1.same rfl hW, h.2.2.2.2.1.same rfl hW, h.2.2.2.2.2.1.moved (hW ▸ Vm.Alike.refl _), h.2.2.2.2.2.2.1.moved (hW ▸ Vm.Alike.refl _), fun C hC => (h.2.2.2.2.2.2.2 C hC).same rfl hW⟩
theorem kW.warm {D : va_G} {Z : Nat → ClassId} {s U : State} (hW : s.WarmedH U.vm) (h : kW D Z s) : kW D Z U := ⟨va_K.moved hW.alike h.1, h.2.warm hW⟩
/-! ===== the judgement ===== -/
def gX (D : va_G) (Z : Nat → ClassId) (b0 : Nat) (own : String) (cc : ByteArray) (nL : Nat) (p : Program) (s : State) (m : MethodId) (args : Array Value) (meth : Method) (c : Code) : Prop :=
  p.tables.exec = Jvm.exec ∧ c.code = cc ∧ c.maxLocals = nL ∧ s.vm.findClass own = some m.cls ∧ (∀ w ∈ TB, w.before args s = true) ∧ kW D Z s ∧ b0 ≤ s.heap.size ∧ meth.locks = false
def G (l : Launch) (D : va_G) (Z : Nat → ClassId) (b0 : Nat) (R : Room) (own : String) (cc : ByteArray) (nL : Nat) (E : Method → Array Value → State → Prop) (T : List Frame → Array Value → State → State → Prop) (V : HV) (L : List (Nat × Value)) (k n pc : Nat) (st : List Value) : Prop :=
  ∀ (p : Program) (e : Env) (s : State) (m : MethodId) (args : Array Value) (below : List Frame) (meth : Method) (c : Code) (H : Heap) (locs : List Loc) (ls : Array Slot),
    gX D Z b0 own cc nL p s m args meth c → E meth args s → hvP D V H → va_S (fun q => b0 ≤ q) s.heap H locs → lv_has ls nL L → W p l e R s m args below meth c H locs k n (T below args s) (F0 m pc ls st)
section GR
variable {l : Launch} {D : va_G} {Z : Nat → ClassId} {b0 : Nat} {R : Room} {own : String} {cc : ByteArray} {nL : Nat} {E : Method → Array Value → State → Prop} {T : List Frame → Array Value → State → State → Prop} {V : HV} {L : List (Nat × Value)} {k n pc : Nat} {rest : List Value}
theorem G.locals {L' : List (Nat × Value)} {st : List Value} (ks : List Nat) (hl : lv_pick L ks = L') (kk : G l D Z b0 R own cc nL E T V L' k n pc st) : G l D Z b0 R own cc nL E T V L k n pc st := fun p e s m args below meth c H locs ls X hE hV hS hL => kk p e s m args below meth c H locs ls X hE hV hS (lv_sub hL ks hl)
theorem G.widen {k' n' : Nat} {st : List Value} (h1 : k ≤ k') (h2 : n ≤ n') (kk : G l D Z b0 R own cc nL E T V L k' n' pc st) : G l D Z b0 R own cc nL E T V L k n pc st := fun p e s m args below meth c H locs ls X hE hV hS hL => W.widen h1 h2 (kk p e s m args below meth c H locs ls X hE hV hS hL)
theorem G.view {V' : HV} {st : List Value} (h : ∀ q e, V' q = some e → V q = some e) (kk : G l D Z b0 R own cc nL E T V' L k n pc st) : G l D Z b0 R own cc nL E T V L k n pc st := fun p e s m args below meth c H locs ls X hE hV hS hL => kk p e s m args below meth c H locs ls X hE (fun q e' hq => hV q e' (h q e' hq)) hS hL
theorem G.veq {V' : HV} {st : List Value} (h : V = V') (kk : G l D Z b0 R own cc nL E T V' L k n pc st) : G l D Z b0 R own cc nL E T V L k n pc st := h ▸ kk
/-- a loop: a measure that falls -/
theorem g_loop {α : Type} (mu : α → Nat) (Inv : α → Prop) (P : α → Prop) (h : ∀ a, Inv a → (∀ b, Inv b → mu b < mu a → P b) → P a) : ∀ a, Inv a → P a := by
  have key : ∀ (N : Nat) (a : α), mu a < N → Inv a → P a := by
    intro N
    induction N with
    | zero => intro a ha; exact absurd ha (Nat.not_lt_zero _)
    | succ N ih => intro a ha hi; exact h a hi (fun b hb hlt => ih b (by omega) hb)
  exact fun a hi => key (mu a + 1) a (Nat.lt_succ_self _) hi
theorem g_iconst {z : Int} {v : Int32} (hdg : decode cc pc = .ok (.iconst z, 1)) (hv : Int32.ofInt z = v) (kk : G l D Z b0 R own cc nL E T V L k n (pc + 1) (.int v :: rest)) : G l D Z b0 R own cc nL E T V L k n pc (rest) := fun p e s m args below meth c H locs ls X hE hV hS hL => lv_iconst X.1 X.2.1 hdg hv (kk p e s m args below meth c H locs ls X hE hV hS hL)
theorem g_bipush {z : Int} {v : Int32} (hdg : decode cc pc = .ok (.bipush z, 2)) (hv : (Int8.ofInt z).toInt32 = v) (kk : G l D Z b0 R own cc nL E T V L k n (pc + 2) (.int v :: rest)) : G l D Z b0 R own cc nL E T V L k n pc (rest) := fun p e s m args below meth c H locs ls X hE hV hS hL => lv_bipush X.1 X.2.1 hdg hv (kk p e s m args below meth c H locs ls X hE hV hS hL)
theorem g_sipush {z : Int} {v : Int32} (hdg : decode cc pc = .ok (.sipush z, 3)) (hv : (Int16.ofInt z).toInt32 = v) (kk : G l D Z b0 R own cc nL E T V L k n (pc + 3) (.int v :: rest)) : G l D Z b0 R own cc nL E T V L k n pc (rest) := fun p e s m args below meth c H locs ls X hE hV hS hL => lv_sipush X.1 X.2.1 hdg hv (kk p e s m args below meth c H locs ls X hE hV hS hL)
theorem g_lconst {z : Fin 2} {v : Int64} (hdg : decode cc pc = .ok (.lconst z, 1)) (hv : Int64.ofNat (z : Nat) = v) (kk : G l D Z b0 R own cc nL E T V L k n (pc + 1) (.long v :: rest)) : G l D Z b0 R own cc nL E T V L k n pc (rest) := fun p e s m args below meth c H locs ls X hE hV hS hL => lv_lconst X.1 X.2.1 hdg hv (kk p e s m args below meth c H locs ls X hE hV hS hL)
theorem g_iadd {x y : Int32} (hdg : decode cc pc = .ok (.iadd, 1)) (kk : G l D Z b0 R own cc nL E T V L k n (pc + 1) (.int (x + y) :: rest)) : G l D Z b0 R own cc nL E T V L k n pc (.int y :: .int x :: rest) := fun p e s m args below meth c H locs ls X hE hV hS hL => lv_iadd X.1 X.2.1 hdg (kk p e s m args below meth c H locs ls X hE hV hS hL)
theorem g_isub {x y : Int32} (hdg : decode cc pc = .ok (.isub, 1)) (kk : G l D Z b0 R own cc nL E T V L k n (pc + 1) (.int (x - y) :: rest)) : G l D Z b0 R own cc nL E T V L k n pc (.int y :: .int x :: rest) := fun p e s m args below meth c H locs ls X hE hV hS hL => lv_isub X.1 X.2.1 hdg (kk p e s m args below meth c H locs ls X hE hV hS hL)
theorem g_imul {x y : Int32} (hdg : decode cc pc = .ok (.imul, 1)) (kk : G l D Z b0 R own cc nL E T V L k n (pc + 1) (.int (x * y) :: rest)) : G l D Z b0 R own cc nL E T V L k n pc (.int y :: .int x :: rest) := fun p e s m args below meth c H locs ls X hE hV hS hL => lv_imul X.1 X.2.1 hdg (kk p e s m args below meth c H locs ls X hE hV hS hL)
theorem g_iand {x y : Int32} (hdg : decode cc pc = .ok (.iand, 1)) (kk : G l D Z b0 R own cc nL E T V L k n (pc + 1) (.int (x &&& y) :: rest)) : G l D Z b0 R own cc nL E T V L k n pc (.int y :: .int x :: rest) := fun p e s m args below meth c H locs ls X hE hV hS hL => lv_iand X.1 X.2.1 hdg (kk p e s m args below meth c H locs ls X hE hV hS hL)
theorem g_ior {x y : Int32} (hdg : decode cc pc = .ok (.ior, 1)) (kk : G l D Z b0 R own cc nL E T V L k n (pc + 1) (.int (x ||| y) :: rest)) : G l D Z b0 R own cc nL E T V L k n pc (.int y :: .int x :: rest) := fun p e s m args below meth c H locs ls X hE hV hS hL => lv_ior X.1 X.2.1 hdg (kk p e s m args below meth c H locs ls X hE hV hS hL)
theorem g_ixor {x y : Int32} (hdg : decode cc pc = .ok (.ixor, 1)) (kk : G l D Z b0 R own cc nL E T V L k n (pc + 1) (.int (x ^^^ y) :: rest)) : G l D Z b0 R own cc nL E T V L k n pc (.int y :: .int x :: rest) := fun p e s m args below meth c H locs ls X hE hV hS hL => lv_ixor X.1 X.2.1 hdg (kk p e s m args below meth c H locs ls X hE hV hS hL)
theorem g_idiv {x y : Int32} (hdg : decode cc pc = .ok (.idiv, 1)) (hne : ¬ y = 0) (kk : G l D Z b0 R own cc nL E T V L k n (pc + 1) (.int (x / y) :: rest)) : G l D Z b0 R own cc nL E T V L k n pc (.int y :: .int x :: rest) := fun p e s m args below meth c H locs ls X hE hV hS hL => lv_idiv X.1 X.2.1 hdg hne (kk p e s m args below meth c H locs ls X hE hV hS hL)
theorem g_irem {x y : Int32} (hdg : decode cc pc = .ok (.irem, 1)) (hne : ¬ y = 0) (kk : G l D Z b0 R own cc nL E T V L k n (pc + 1) (.int (x - x / y * y) :: rest)) : G l D Z b0 R own cc nL E T V L k n pc (.int y :: .int x :: rest) := fun p e s m args below meth c H locs ls X hE hV hS hL => lv_irem X.1 X.2.1 hdg hne (kk p e s m args below meth c H locs ls X hE hV hS hL)
theorem g_ineg {x : Int32} (hdg : decode cc pc = .ok (.ineg, 1)) (kk : G l D Z b0 R own cc nL E T V L k n (pc + 1) (.int (-x) :: rest)) : G l D Z b0 R own cc nL E T V L k n pc (.int x :: rest) := fun p e s m args below meth c H locs ls X hE hV hS hL => lv_ineg X.1 X.2.1 hdg (kk p e s m args below meth c H locs ls X hE hV hS hL)
theorem g_ladd {x y : Int64} (hdg : decode cc pc = .ok (.ladd, 1)) (kk : G l D Z b0 R own cc nL E T V L k n (pc + 1) (.long (x + y) :: rest)) : G l D Z b0 R own cc nL E T V L k n pc (.long y :: .long x :: rest) := fun p e s m args below meth c H locs ls X hE hV hS hL => lv_ladd X.1 X.2.1 hdg (kk p e s m args below meth c H locs ls X hE hV hS hL)
theorem g_lsub {x y : Int64} (hdg : decode cc pc = .ok (.lsub, 1)) (kk : G l D Z b0 R own cc nL E T V L k n (pc + 1) (.long (x - y) :: rest)) : G l D Z b0 R own cc nL E T V L k n pc (.long y :: .long x :: rest) := fun p e s m args below meth c H locs ls X hE hV hS hL => lv_lsub X.1 X.2.1 hdg (kk p e s m args below meth c H locs ls X hE hV hS hL)
theorem g_ishl {x y : Int32} (hdg : decode cc pc = .ok (.ishl, 1)) (kk : G l D Z b0 R own cc nL E T V L k n (pc + 1) (.int (x <<< (y &&& 31)) :: rest)) : G l D Z b0 R own cc nL E T V L k n pc (.int y :: .int x :: rest) := fun p e s m args below meth c H locs ls X hE hV hS hL => lv_ishl X.1 X.2.1 hdg (kk p e s m args below meth c H locs ls X hE hV hS hL)
theorem g_ishr {x y : Int32} (hdg : decode cc pc = .ok (.ishr, 1)) (kk : G l D Z b0 R own cc nL E T V L k n (pc + 1) (.int (x >>> (y &&& 31)) :: rest)) : G l D Z b0 R own cc nL E T V L k n pc (.int y :: .int x :: rest) := fun p e s m args below meth c H locs ls X hE hV hS hL => lv_ishr X.1 X.2.1 hdg (kk p e s m args below meth c H locs ls X hE hV hS hL)
theorem g_i2l {x : Int32} {v : Int64} (hdg : decode cc pc = .ok (.i2l, 1)) (hv : x.toInt64 = v) (kk : G l D Z b0 R own cc nL E T V L k n (pc + 1) (.long v :: rest)) : G l D Z b0 R own cc nL E T V L k n pc (.int x :: rest) := fun p e s m args below meth c H locs ls X hE hV hS hL => lv_i2l X.1 X.2.1 hdg hv (kk p e s m args below meth c H locs ls X hE hV hS hL)
theorem g_l2i {x : Int64} {v : Int32} (hdg : decode cc pc = .ok (.l2i, 1)) (hv : x.toInt32 = v) (kk : G l D Z b0 R own cc nL E T V L k n (pc + 1) (.int v :: rest)) : G l D Z b0 R own cc nL E T V L k n pc (.long x :: rest) := fun p e s m args below meth c H locs ls X hE hV hS hL => lv_l2i X.1 X.2.1 hdg hv (kk p e s m args below meth c H locs ls X hE hV hS hL)
theorem g_i2b {x : Int32} {v : Int32} (hdg : decode cc pc = .ok (.i2b, 1)) (hv : x.toInt8.toInt32 = v) (kk : G l D Z b0 R own cc nL E T V L k n (pc + 1) (.int v :: rest)) : G l D Z b0 R own cc nL E T V L k n pc (.int x :: rest) := fun p e s m args below meth c H locs ls X hE hV hS hL => lv_i2b X.1 X.2.1 hdg hv (kk p e s m args below meth c H locs ls X hE hV hS hL)
theorem g_i2s {x : Int32} {v : Int32} (hdg : decode cc pc = .ok (.i2s, 1)) (hv : x.toInt16.toInt32 = v) (kk : G l D Z b0 R own cc nL E T V L k n (pc + 1) (.int v :: rest)) : G l D Z b0 R own cc nL E T V L k n pc (.int x :: rest) := fun p e s m args below meth c H locs ls X hE hV hS hL => lv_i2s X.1 X.2.1 hdg hv (kk p e s m args below meth c H locs ls X hE hV hS hL)
theorem g_dup {va : Value} (hdg : decode cc pc = .ok (.dup, 1)) (hva : va.category = 1) (kk : G l D Z b0 R own cc nL E T V L k n (pc + 1) (va :: va :: rest)) : G l D Z b0 R own cc nL E T V L k n pc (va :: rest) := fun p e s m args below meth c H locs ls X hE hV hS hL => lv_dup X.1 X.2.1 hdg hva (kk p e s m args below meth c H locs ls X hE hV hS hL)
theorem g_pop {va : Value} (hdg : decode cc pc = .ok (.pop, 1)) (hva : va.category = 1) (kk : G l D Z b0 R own cc nL E T V L k n (pc + 1) (rest)) : G l D Z b0 R own cc nL E T V L k n pc (va :: rest) := fun p e s m args below meth c H locs ls X hE hV hS hL => lv_pop X.1 X.2.1 hdg hva (kk p e s m args below meth c H locs ls X hE hV hS hL)
theorem g_dup2_11 {va vb : Value} (hdg : decode cc pc = .ok (.dup2, 1)) (hva : va.category = 1) (hvb : vb.category = 1) (kk : G l D Z b0 R own cc nL E T V L k n (pc + 1) (va :: vb :: va :: vb :: rest)) : G l D Z b0 R own cc nL E T V L k n pc (va :: vb :: rest) := fun p e s m args below meth c H locs ls X hE hV hS hL => lv_dup2_11 X.1 X.2.1 hdg hva hvb (kk p e s m args below meth c H locs ls X hE hV hS hL)
theorem g_goto {off : Int} {tgt : Nat} (hdg : decode cc pc = .ok (.goto off, 3)) (ht : (pc : Int) + off = (tgt : Int)) (kk : G l D Z b0 R own cc nL E T V L k n tgt rest) : G l D Z b0 R own cc nL E T V L k n pc rest := fun p e s m args below meth c H locs ls X hE hV hS hL => lv_goto X.1 X.2.1 hdg ht (kk p e s m args below meth c H locs ls X hE hV hS hL)
theorem g_iload_n {j : Fin 4} {i q : Nat} {x : Int32} (hdg : decode cc pc = .ok (.iload_n j, 1)) (hi : (j : Nat) = i) (hl : L[q]? = some (i, .int x)) (kk : G l D Z b0 R own cc nL E T V L k n (pc + 1) (.int x :: rest)) : G l D Z b0 R own cc nL E T V L k n pc rest := fun p e s m args below meth c H locs ls X hE hV hS hL => lv_iload_n X.1 X.2.1 hdg hi (lv_at hL q hl) (kk p e s m args below meth c H locs ls X hE hV hS hL)
theorem g_iload {i q : Nat} {x : Int32} (hdg : decode cc pc = .ok (.iload i, 2)) (hl : L[q]? = some (i, .int x)) (kk : G l D Z b0 R own cc nL E T V L k n (pc + 2) (.int x :: rest)) : G l D Z b0 R own cc nL E T V L k n pc rest := fun p e s m args below meth c H locs ls X hE hV hS hL => lv_iload X.1 X.2.1 hdg (lv_at hL q hl) (kk p e s m args below meth c H locs ls X hE hV hS hL)
theorem g_lload_n {j : Fin 4} {i q : Nat} {x : Int64} (hdg : decode cc pc = .ok (.lload_n j, 1)) (hi : (j : Nat) = i) (hl : L[q]? = some (i, .long x)) (kk : G l D Z b0 R own cc nL E T V L k n (pc + 1) (.long x :: rest)) : G l D Z b0 R own cc nL E T V L k n pc rest := fun p e s m args below meth c H locs ls X hE hV hS hL => lv_lload_n X.1 X.2.1 hdg hi (lv_at hL q hl) (kk p e s m args below meth c H locs ls X hE hV hS hL)
theorem g_lload {i q : Nat} {x : Int64} (hdg : decode cc pc = .ok (.lload i, 2)) (hl : L[q]? = some (i, .long x)) (kk : G l D Z b0 R own cc nL E T V L k n (pc + 2) (.long x :: rest)) : G l D Z b0 R own cc nL E T V L k n pc rest := fun p e s m args below meth c H locs ls X hE hV hS hL => lv_lload X.1 X.2.1 hdg (lv_at hL q hl) (kk p e s m args below meth c H locs ls X hE hV hS hL)
theorem g_aload_n {j : Fin 4} {i q : Nat} {x : Nat} (hdg : decode cc pc = .ok (.aload_n j, 1)) (hi : (j : Nat) = i) (hl : L[q]? = some (i, .ref x)) (kk : G l D Z b0 R own cc nL E T V L k n (pc + 1) (.ref x :: rest)) : G l D Z b0 R own cc nL E T V L k n pc rest := fun p e s m args below meth c H locs ls X hE hV hS hL => lv_aload_n X.1 X.2.1 hdg hi (lv_at hL q hl) (kk p e s m args below meth c H locs ls X hE hV hS hL)
theorem g_aload {i q : Nat} {x : Nat} (hdg : decode cc pc = .ok (.aload i, 2)) (hl : L[q]? = some (i, .ref x)) (kk : G l D Z b0 R own cc nL E T V L k n (pc + 2) (.ref x :: rest)) : G l D Z b0 R own cc nL E T V L k n pc rest := fun p e s m args below meth c H locs ls X hE hV hS hL => lv_aload X.1 X.2.1 hdg (lv_at hL q hl) (kk p e s m args below meth c H locs ls X hE hV hS hL)
theorem g_aload_nN {j : Fin 4} {i q : Nat} (hdg : decode cc pc = .ok (.aload_n j, 1)) (hi : (j : Nat) = i) (hl : L[q]? = some (i, .null)) (kk : G l D Z b0 R own cc nL E T V L k n (pc + 1) (.null :: rest)) : G l D Z b0 R own cc nL E T V L k n pc rest := fun p e s m args below meth c H locs ls X hE hV hS hL => lv_aload_nN X.1 X.2.1 hdg hi (lv_at hL q hl) (kk p e s m args below meth c H locs ls X hE hV hS hL)
theorem g_aloadN {i q : Nat} (hdg : decode cc pc = .ok (.aload i, 2)) (hl : L[q]? = some (i, .null)) (kk : G l D Z b0 R own cc nL E T V L k n (pc + 2) (.null :: rest)) : G l D Z b0 R own cc nL E T V L k n pc rest := fun p e s m args below meth c H locs ls X hE hV hS hL => lv_aloadN X.1 X.2.1 hdg (lv_at hL q hl) (kk p e s m args below meth c H locs ls X hE hV hS hL)
theorem g_istore_n {j : Fin 4} {i : Nat} {x : Int32} {lv' : List (Nat × Value)} (hdg : decode cc pc = .ok (.istore_n j, 1)) (hi : (j : Nat) = i) (hn : i < nL) (hl : (i, Value.int x) :: L.filter (fun q => !(q.1 == i) && !(q.1 + 1 == i && q.2.category == 2)) = lv') (kk : G l D Z b0 R own cc nL E T V lv' k n (pc + 1) rest) : G l D Z b0 R own cc nL E T V L k n pc (.int x :: rest) := fun p e s m args below meth c H locs ls X hE hV hS hL => lv_istore_n X.1 X.2.1 hdg hi hL hn hl (fun ls hL => kk p e s m args below meth c H locs ls X hE hV hS hL)
theorem g_istore {i : Nat} {x : Int32} {lv' : List (Nat × Value)} (hdg : decode cc pc = .ok (.istore i, 2)) (hn : i < nL) (hl : (i, Value.int x) :: L.filter (fun q => !(q.1 == i) && !(q.1 + 1 == i && q.2.category == 2)) = lv') (kk : G l D Z b0 R own cc nL E T V lv' k n (pc + 2) rest) : G l D Z b0 R own cc nL E T V L k n pc (.int x :: rest) := fun p e s m args below meth c H locs ls X hE hV hS hL => lv_istore X.1 X.2.1 hdg hL hn hl (fun ls hL => kk p e s m args below meth c H locs ls X hE hV hS hL)
theorem g_astore_n {j : Fin 4} {i : Nat} {x : Nat} {lv' : List (Nat × Value)} (hdg : decode cc pc = .ok (.astore_n j, 1)) (hi : (j : Nat) = i) (hn : i < nL) (hl : (i, Value.ref x) :: L.filter (fun q => !(q.1 == i) && !(q.1 + 1 == i && q.2.category == 2)) = lv') (kk : G l D Z b0 R own cc nL E T V lv' k n (pc + 1) rest) : G l D Z b0 R own cc nL E T V L k n pc (.ref x :: rest) := fun p e s m args below meth c H locs ls X hE hV hS hL => lv_astore_n X.1 X.2.1 hdg hi hL hn hl (fun ls hL => kk p e s m args below meth c H locs ls X hE hV hS hL)
theorem g_astore {i : Nat} {x : Nat} {lv' : List (Nat × Value)} (hdg : decode cc pc = .ok (.astore i, 2)) (hn : i < nL) (hl : (i, Value.ref x) :: L.filter (fun q => !(q.1 == i) && !(q.1 + 1 == i && q.2.category == 2)) = lv') (kk : G l D Z b0 R own cc nL E T V lv' k n (pc + 2) rest) : G l D Z b0 R own cc nL E T V L k n pc (.ref x :: rest) := fun p e s m args below meth c H locs ls X hE hV hS hL => lv_astore X.1 X.2.1 hdg hL hn hl (fun ls hL => kk p e s m args below meth c H locs ls X hE hV hS hL)
theorem g_astore_nN {j : Fin 4} {i : Nat} {lv' : List (Nat × Value)} (hdg : decode cc pc = .ok (.astore_n j, 1)) (hi : (j : Nat) = i) (hn : i < nL) (hl : (i, Value.null) :: L.filter (fun q => !(q.1 == i) && !(q.1 + 1 == i && q.2.category == 2)) = lv') (kk : G l D Z b0 R own cc nL E T V lv' k n (pc + 1) rest) : G l D Z b0 R own cc nL E T V L k n pc (.null :: rest) := fun p e s m args below meth c H locs ls X hE hV hS hL => lv_astore_nN X.1 X.2.1 hdg hi hL hn hl (fun ls hL => kk p e s m args below meth c H locs ls X hE hV hS hL)
theorem g_astoreN {i : Nat} {lv' : List (Nat × Value)} (hdg : decode cc pc = .ok (.astore i, 2)) (hn : i < nL) (hl : (i, Value.null) :: L.filter (fun q => !(q.1 == i) && !(q.1 + 1 == i && q.2.category == 2)) = lv') (kk : G l D Z b0 R own cc nL E T V lv' k n (pc + 2) rest) : G l D Z b0 R own cc nL E T V L k n pc (.null :: rest) := fun p e s m args below meth c H locs ls X hE hV hS hL => lv_astoreN X.1 X.2.1 hdg hL hn hl (fun ls hL => kk p e s m args below meth c H locs ls X hE hV hS hL)
theorem g_iinc {i q : Nat} {z : Int} {x v : Int32} {lv' : List (Nat × Value)} (hdg : decode cc pc = .ok (.iinc i z, 3)) (hk : L[q]? = some (i, .int x)) (hv : x + Int32.ofInt z = v) (hn : i < nL) (hl : (i, Value.int v) :: L.filter (fun q => !(q.1 == i) && !(q.1 + 1 == i && q.2.category == 2)) = lv') (kk : G l D Z b0 R own cc nL E T V lv' k n (pc + 3) rest) : G l D Z b0 R own cc nL E T V L k n pc rest := fun p e s m args below meth c H locs ls X hE hV hS hL => lv_iinc X.1 X.2.1 hdg hL hk hv hn hl (fun ls hL => kk p e s m args below meth c H locs ls X hE hV hS hL)
theorem g_lstore {i : Nat} {x : Int64} {lv' : List (Nat × Value)} (hdg : decode cc pc = .ok (.lstore i, 2)) (hn : i + 1 < nL) (hl : (i, Value.long x) :: L.filter (fun q => !(q.1 == i) && (!(q.1 == i + 1) && !(q.1 + 1 == i && q.2.category == 2))) = lv') (kk : G l D Z b0 R own cc nL E T V lv' k n (pc + 2) rest) : G l D Z b0 R own cc nL E T V L k n pc (.long x :: rest) := fun p e s m args below meth c H locs ls X hE hV hS hL => lv_lstore X.1 X.2.1 hdg hL hn hl (fun ls hL => kk p e s m args below meth c H locs ls X hE hV hS hL)
theorem g_if_eq {x : Int32} {off : Int} {tgt : Nat} (hdg : decode cc pc = .ok (.ifCond .eq off, 3)) (ht : (pc : Int) + off = (tgt : Int)) (kt : x = 0 → G l D Z b0 R own cc nL E T V L k n tgt rest) (kf : ¬ x = 0 → G l D Z b0 R own cc nL E T V L k n (pc + 3) rest) : G l D Z b0 R own cc nL E T V L k n pc (.int x :: rest) := fun p e s m args below meth c H locs ls X hE hV hS hL => lv_if_eq X.1 X.2.1 hdg ht (fun c0 => kt c0 p e s m args below meth c H locs ls X hE hV hS hL) (fun c0 => kf c0 p e s m args below meth c H locs ls X hE hV hS hL)
theorem g_icmp_eq {x y : Int32} {off : Int} {tgt : Nat} (hdg : decode cc pc = .ok (.if_icmp .eq off, 3)) (ht : (pc : Int) + off = (tgt : Int)) (kt : x = y → G l D Z b0 R own cc nL E T V L k n tgt rest) (kf : ¬ x = y → G l D Z b0 R own cc nL E T V L k n (pc + 3) rest) : G l D Z b0 R own cc nL E T V L k n pc (.int y :: .int x :: rest) := fun p e s m args below meth c H locs ls X hE hV hS hL => lv_icmp_eq X.1 X.2.1 hdg ht (fun c0 => kt c0 p e s m args below meth c H locs ls X hE hV hS hL) (fun c0 => kf c0 p e s m args below meth c H locs ls X hE hV hS hL)
theorem g_if_ne {x : Int32} {off : Int} {tgt : Nat} (hdg : decode cc pc = .ok (.ifCond .ne off, 3)) (ht : (pc : Int) + off = (tgt : Int)) (kt : ¬ x = 0 → G l D Z b0 R own cc nL E T V L k n tgt rest) (kf : x = 0 → G l D Z b0 R own cc nL E T V L k n (pc + 3) rest) : G l D Z b0 R own cc nL E T V L k n pc (.int x :: rest) := fun p e s m args below meth c H locs ls X hE hV hS hL => lv_if_ne X.1 X.2.1 hdg ht (fun c0 => kt c0 p e s m args below meth c H locs ls X hE hV hS hL) (fun c0 => kf c0 p e s m args below meth c H locs ls X hE hV hS hL)
theorem g_icmp_ne {x y : Int32} {off : Int} {tgt : Nat} (hdg : decode cc pc = .ok (.if_icmp .ne off, 3)) (ht : (pc : Int) + off = (tgt : Int)) (kt : ¬ x = y → G l D Z b0 R own cc nL E T V L k n tgt rest) (kf : x = y → G l D Z b0 R own cc nL E T V L k n (pc + 3) rest) : G l D Z b0 R own cc nL E T V L k n pc (.int y :: .int x :: rest) := fun p e s m args below meth c H locs ls X hE hV hS hL => lv_icmp_ne X.1 X.2.1 hdg ht (fun c0 => kt c0 p e s m args below meth c H locs ls X hE hV hS hL) (fun c0 => kf c0 p e s m args below meth c H locs ls X hE hV hS hL)
theorem g_if_lt {x : Int32} {off : Int} {tgt : Nat} (hdg : decode cc pc = .ok (.ifCond .lt off, 3)) (ht : (pc : Int) + off = (tgt : Int)) (kt : x < 0 → G l D Z b0 R own cc nL E T V L k n tgt rest) (kf : ¬ x < 0 → G l D Z b0 R own cc nL E T V L k n (pc + 3) rest) : G l D Z b0 R own cc nL E T V L k n pc (.int x :: rest) := fun p e s m args below meth c H locs ls X hE hV hS hL => lv_if_lt X.1 X.2.1 hdg ht (fun c0 => kt c0 p e s m args below meth c H locs ls X hE hV hS hL) (fun c0 => kf c0 p e s m args below meth c H locs ls X hE hV hS hL)
theorem g_icmp_lt {x y : Int32} {off : Int} {tgt : Nat} (hdg : decode cc pc = .ok (.if_icmp .lt off, 3)) (ht : (pc : Int) + off = (tgt : Int)) (kt : x < y → G l D Z b0 R own cc nL E T V L k n tgt rest) (kf : ¬ x < y → G l D Z b0 R own cc nL E T V L k n (pc + 3) rest) : G l D Z b0 R own cc nL E T V L k n pc (.int y :: .int x :: rest) := fun p e s m args below meth c H locs ls X hE hV hS hL => lv_icmp_lt X.1 X.2.1 hdg ht (fun c0 => kt c0 p e s m args below meth c H locs ls X hE hV hS hL) (fun c0 => kf c0 p e s m args below meth c H locs ls X hE hV hS hL)
theorem g_if_ge {x : Int32} {off : Int} {tgt : Nat} (hdg : decode cc pc = .ok (.ifCond .ge off, 3)) (ht : (pc : Int) + off = (tgt : Int)) (kt : 0 ≤ x → G l D Z b0 R own cc nL E T V L k n tgt rest) (kf : ¬ 0 ≤ x → G l D Z b0 R own cc nL E T V L k n (pc + 3) rest) : G l D Z b0 R own cc nL E T V L k n pc (.int x :: rest) := fun p e s m args below meth c H locs ls X hE hV hS hL => lv_if_ge X.1 X.2.1 hdg ht (fun c0 => kt c0 p e s m args below meth c H locs ls X hE hV hS hL) (fun c0 => kf c0 p e s m args below meth c H locs ls X hE hV hS hL)
theorem g_icmp_ge {x y : Int32} {off : Int} {tgt : Nat} (hdg : decode cc pc = .ok (.if_icmp .ge off, 3)) (ht : (pc : Int) + off = (tgt : Int)) (kt : y ≤ x → G l D Z b0 R own cc nL E T V L k n tgt rest) (kf : ¬ y ≤ x → G l D Z b0 R own cc nL E T V L k n (pc + 3) rest) : G l D Z b0 R own cc nL E T V L k n pc (.int y :: .int x :: rest) := fun p e s m args below meth c H locs ls X hE hV hS hL => lv_icmp_ge X.1 X.2.1 hdg ht (fun c0 => kt c0 p e s m args below meth c H locs ls X hE hV hS hL) (fun c0 => kf c0 p e s m args below meth c H locs ls X hE hV hS hL)
theorem g_if_gt {x : Int32} {off : Int} {tgt : Nat} (hdg : decode cc pc = .ok (.ifCond .gt off, 3)) (ht : (pc : Int) + off = (tgt : Int)) (kt : 0 < x → G l D Z b0 R own cc nL E T V L k n tgt rest) (kf : ¬ 0 < x → G l D Z b0 R own cc nL E T V L k n (pc + 3) rest) : G l D Z b0 R own cc nL E T V L k n pc (.int x :: rest) := fun p e s m args below meth c H locs ls X hE hV hS hL => lv_if_gt X.1 X.2.1 hdg ht (fun c0 => kt c0 p e s m args below meth c H locs ls X hE hV hS hL) (fun c0 => kf c0 p e s m args below meth c H locs ls X hE hV hS hL)
theorem g_icmp_gt {x y : Int32} {off : Int} {tgt : Nat} (hdg : decode cc pc = .ok (.if_icmp .gt off, 3)) (ht : (pc : Int) + off = (tgt : Int)) (kt : y < x → G l D Z b0 R own cc nL E T V L k n tgt rest) (kf : ¬ y < x → G l D Z b0 R own cc nL E T V L k n (pc + 3) rest) : G l D Z b0 R own cc nL E T V L k n pc (.int y :: .int x :: rest) := fun p e s m args below meth c H locs ls X hE hV hS hL => lv_icmp_gt X.1 X.2.1 hdg ht (fun c0 => kt c0 p e s m args below meth c H locs ls X hE hV hS hL) (fun c0 => kf c0 p e s m args below meth c H locs ls X hE hV hS hL)
theorem g_if_le {x : Int32} {off : Int} {tgt : Nat} (hdg : decode cc pc = .ok (.ifCond .le off, 3)) (ht : (pc : Int) + off = (tgt : Int)) (kt : x ≤ 0 → G l D Z b0 R own cc nL E T V L k n tgt rest) (kf : ¬ x ≤ 0 → G l D Z b0 R own cc nL E T V L k n (pc + 3) rest) : G l D Z b0 R own cc nL E T V L k n pc (.int x :: rest) := fun p e s m args below meth c H locs ls X hE hV hS hL => lv_if_le X.1 X.2.1 hdg ht (fun c0 => kt c0 p e s m args below meth c H locs ls X hE hV hS hL) (fun c0 => kf c0 p e s m args below meth c H locs ls X hE hV hS hL)
theorem g_icmp_le {x y : Int32} {off : Int} {tgt : Nat} (hdg : decode cc pc = .ok (.if_icmp .le off, 3)) (ht : (pc : Int) + off = (tgt : Int)) (kt : x ≤ y → G l D Z b0 R own cc nL E T V L k n tgt rest) (kf : ¬ x ≤ y → G l D Z b0 R own cc nL E T V L k n (pc + 3) rest) : G l D Z b0 R own cc nL E T V L k n pc (.int y :: .int x :: rest) := fun p e s m args below meth c H locs ls X hE hV hS hL => lv_icmp_le X.1 X.2.1 hdg ht (fun c0 => kt c0 p e s m args below meth c H locs ls X hE hV hS hL) (fun c0 => kf c0 p e s m args below meth c H locs ls X hE hV hS hL)
theorem g_icmp_eq_N {i j : Nat} {off : Int} {tgt : Nat} (hi : i < 2147483648) (hj : j < 2147483648) (hdg : decode cc pc = .ok (.if_icmp .eq off, 3)) (ht : (pc : Int) + off = (tgt : Int)) (kt : i = j → G l D Z b0 R own cc nL E T V L k n tgt rest) (kf : ¬ i = j → G l D Z b0 R own cc nL E T V L k n (pc + 3) rest) : G l D Z b0 R own cc nL E T V L k n pc (.int (nI j) :: .int (nI i) :: rest) := g_icmp_eq hdg ht (fun c0 => kt (by have h1 := nI_toInt (n := i) (by omega); have h2 := nI_toInt (n := j) (by omega); simp only [← Int32.toInt_inj, Int32.le_iff_toInt_le, Int32.lt_iff_toInt_lt, ge_iff_le, gt_iff_lt, h1, h2] at c0; omega)) (fun c0 => kf (by have h1 := nI_toInt (n := i) (by omega); have h2 := nI_toInt (n := j) (by omega); simp only [← Int32.toInt_inj, Int32.le_iff_toInt_le, Int32.lt_iff_toInt_lt, ge_iff_le, gt_iff_lt, h1, h2] at c0; omega))
theorem g_icmp_ne_N {i j : Nat} {off : Int} {tgt : Nat} (hi : i < 2147483648) (hj : j < 2147483648) (hdg : decode cc pc = .ok (.if_icmp .ne off, 3)) (ht : (pc : Int) + off = (tgt : Int)) (kt : ¬ i = j → G l D Z b0 R own cc nL E T V L k n tgt rest) (kf : i = j → G l D Z b0 R own cc nL E T V L k n (pc + 3) rest) : G l D Z b0 R own cc nL E T V L k n pc (.int (nI j) :: .int (nI i) :: rest) := g_icmp_ne hdg ht (fun c0 => kt (by have h1 := nI_toInt (n := i) (by omega); have h2 := nI_toInt (n := j) (by omega); simp only [← Int32.toInt_inj, Int32.le_iff_toInt_le, Int32.lt_iff_toInt_lt, ge_iff_le, gt_iff_lt, h1, h2] at c0; omega)) (fun c0 => kf (by have h1 := nI_toInt (n := i) (by omega); have h2 := nI_toInt (n := j) (by omega); simp only [← Int32.toInt_inj, Int32.le_iff_toInt_le, Int32.lt_iff_toInt_lt, ge_iff_le, gt_iff_lt, h1, h2] at c0; omega))
theorem g_icmp_lt_N {i j : Nat} {off : Int} {tgt : Nat} (hi : i < 2147483648) (hj : j < 2147483648) (hdg : decode cc pc = .ok (.if_icmp .lt off, 3)) (ht : (pc : Int) + off = (tgt : Int)) (kt : i < j → G l D Z b0 R own cc nL E T V L k n tgt rest) (kf : j ≤ i → G l D Z b0 R own cc nL E T V L k n (pc + 3) rest) : G l D Z b0 R own cc nL E T V L k n pc (.int (nI j) :: .int (nI i) :: rest) := g_icmp_lt hdg ht (fun c0 => kt (by have h1 := nI_toInt (n := i) (by omega); have h2 := nI_toInt (n := j) (by omega); simp only [← Int32.toInt_inj, Int32.le_iff_toInt_le, Int32.lt_iff_toInt_lt, ge_iff_le, gt_iff_lt, h1, h2] at c0; omega)) (fun c0 => kf (by have h1 := nI_toInt (n := i) (by omega); have h2 := nI_toInt (n := j) (by omega); simp only [← Int32.toInt_inj, Int32.le_iff_toInt_le, Int32.lt_iff_toInt_lt, ge_iff_le, gt_iff_lt, h1, h2] at c0; omega))
theorem g_icmp_ge_N {i j : Nat} {off : Int} {tgt : Nat} (hi : i < 2147483648) (hj : j < 2147483648) (hdg : decode cc pc = .ok (.if_icmp .ge off, 3)) (ht : (pc : Int) + off = (tgt : Int)) (kt : j ≤ i → G l D Z b0 R own cc nL E T V L k n tgt rest) (kf : i < j → G l D Z b0 R own cc nL E T V L k n (pc + 3) rest) : G l D Z b0 R own cc nL E T V L k n pc (.int (nI j) :: .int (nI i) :: rest) := g_icmp_ge hdg ht (fun c0 => kt (by have h1 := nI_toInt (n := i) (by omega); have h2 := nI_toInt (n := j) (by omega); simp only [← Int32.toInt_inj, Int32.le_iff_toInt_le, Int32.lt_iff_toInt_lt, ge_iff_le, gt_iff_lt, h1, h2] at c0; omega)) (fun c0 => kf (by have h1 := nI_toInt (n := i) (by omega); have h2 := nI_toInt (n := j) (by omega); simp only [← Int32.toInt_inj, Int32.le_iff_toInt_le, Int32.lt_iff_toInt_lt, ge_iff_le, gt_iff_lt, h1, h2] at c0; omega))
theorem g_icmp_gt_N {i j : Nat} {off : Int} {tgt : Nat} (hi : i < 2147483648) (hj : j < 2147483648) (hdg : decode cc pc = .ok (.if_icmp .gt off, 3)) (ht : (pc : Int) + off = (tgt : Int)) (kt : j < i → G l D Z b0 R own cc nL E T V L k n tgt rest) (kf : i ≤ j → G l D Z b0 R own cc nL E T V L k n (pc + 3) rest) : G l D Z b0 R own cc nL E T V L k n pc (.int (nI j) :: .int (nI i) :: rest) := g_icmp_gt hdg ht (fun c0 => kt (by have h1 := nI_toInt (n := i) (by omega); have h2 := nI_toInt (n := j) (by omega); simp only [← Int32.toInt_inj, Int32.le_iff_toInt_le, Int32.lt_iff_toInt_lt, ge_iff_le, gt_iff_lt, h1, h2] at c0; omega)) (fun c0 => kf (by have h1 := nI_toInt (n := i) (by omega); have h2 := nI_toInt (n := j) (by omega); simp only [← Int32.toInt_inj, Int32.le_iff_toInt_le, Int32.lt_iff_toInt_lt, ge_iff_le, gt_iff_lt, h1, h2] at c0; omega))
theorem g_icmp_le_N {i j : Nat} {off : Int} {tgt : Nat} (hi : i < 2147483648) (hj : j < 2147483648) (hdg : decode cc pc = .ok (.if_icmp .le off, 3)) (ht : (pc : Int) + off = (tgt : Int)) (kt : i ≤ j → G l D Z b0 R own cc nL E T V L k n tgt rest) (kf : j < i → G l D Z b0 R own cc nL E T V L k n (pc + 3) rest) : G l D Z b0 R own cc nL E T V L k n pc (.int (nI j) :: .int (nI i) :: rest) := g_icmp_le hdg ht (fun c0 => kt (by have h1 := nI_toInt (n := i) (by omega); have h2 := nI_toInt (n := j) (by omega); simp only [← Int32.toInt_inj, Int32.le_iff_toInt_le, Int32.lt_iff_toInt_lt, ge_iff_le, gt_iff_lt, h1, h2] at c0; omega)) (fun c0 => kf (by have h1 := nI_toInt (n := i) (by omega); have h2 := nI_toInt (n := j) (by omega); simp only [← Int32.toInt_inj, Int32.le_iff_toInt_le, Int32.lt_iff_toInt_lt, ge_iff_le, gt_iff_lt, h1, h2] at c0; omega))
theorem nI_nneg {i : Nat} (hi : i < 2147483648) : ¬ nI i < 0 := by rw [Int32.lt_iff_toInt_lt, nI_toInt (by omega), Int32.toInt_zero]; omega
theorem nI_0le {i : Nat} (hi : i < 2147483648) : 0 ≤ nI i := by rw [Int32.le_iff_toInt_le, nI_toInt (by omega), Int32.toInt_zero]; omega
theorem g_if_lt_N {i : Nat} {off : Int} {tgt : Nat} (hi : i < 2147483648) (hdg : decode cc pc = .ok (.ifCond .lt off, 3)) (ht : (pc : Int) + off = (tgt : Int)) (kf : G l D Z b0 R own cc nL E T V L k n (pc + 3) rest) : G l D Z b0 R own cc nL E T V L k n pc (.int (nI i) :: rest) := g_if_lt hdg ht (fun c0 => absurd c0 (nI_nneg hi)) (fun _ => kf)
theorem g_if_ge_N {i : Nat} {off : Int} {tgt : Nat} (hi : i < 2147483648) (hdg : decode cc pc = .ok (.ifCond .ge off, 3)) (ht : (pc : Int) + off = (tgt : Int)) (kt : G l D Z b0 R own cc nL E T V L k n tgt rest) : G l D Z b0 R own cc nL E T V L k n pc (.int (nI i) :: rest) := g_if_ge hdg ht (fun _ => kt) (fun c0 => absurd (nI_0le hi) c0)
theorem g_if_eq_N {i : Nat} {off : Int} {tgt : Nat} (hi : i < 2147483648) (hdg : decode cc pc = .ok (.ifCond .eq off, 3)) (ht : (pc : Int) + off = (tgt : Int)) (kt : i = 0 → G l D Z b0 R own cc nL E T V L k n tgt rest) (kf : ¬ i = 0 → G l D Z b0 R own cc nL E T V L k n (pc + 3) rest) : G l D Z b0 R own cc nL E T V L k n pc (.int (nI i) :: rest) := g_if_eq hdg ht (fun c0 => kt (by have h1 := nI_toInt (n := i) (by omega); simp only [← Int32.toInt_inj, Int32.le_iff_toInt_le, Int32.lt_iff_toInt_lt, ge_iff_le, gt_iff_lt, h1, Int32.toInt_zero] at c0; omega)) (fun c0 => kf (by have h1 := nI_toInt (n := i) (by omega); simp only [← Int32.toInt_inj, Int32.le_iff_toInt_le, Int32.lt_iff_toInt_lt, ge_iff_le, gt_iff_lt, h1, Int32.toInt_zero] at c0; omega))
theorem g_if_ne_N {i : Nat} {off : Int} {tgt : Nat} (hi : i < 2147483648) (hdg : decode cc pc = .ok (.ifCond .ne off, 3)) (ht : (pc : Int) + off = (tgt : Int)) (kt : ¬ i = 0 → G l D Z b0 R own cc nL E T V L k n tgt rest) (kf : i = 0 → G l D Z b0 R own cc nL E T V L k n (pc + 3) rest) : G l D Z b0 R own cc nL E T V L k n pc (.int (nI i) :: rest) := g_if_ne hdg ht (fun c0 => kt (by have h1 := nI_toInt (n := i) (by omega); simp only [← Int32.toInt_inj, Int32.le_iff_toInt_le, Int32.lt_iff_toInt_lt, ge_iff_le, gt_iff_lt, h1, Int32.toInt_zero] at c0; omega)) (fun c0 => kf (by have h1 := nI_toInt (n := i) (by omega); simp only [← Int32.toInt_inj, Int32.le_iff_toInt_le, Int32.lt_iff_toInt_lt, ge_iff_le, gt_iff_lt, h1, Int32.toInt_zero] at c0; omega))
theorem g_if_gt_N {i : Nat} {off : Int} {tgt : Nat} (hi : i < 2147483648) (hdg : decode cc pc = .ok (.ifCond .gt off, 3)) (ht : (pc : Int) + off = (tgt : Int)) (kt : 0 < i → G l D Z b0 R own cc nL E T V L k n tgt rest) (kf : i = 0 → G l D Z b0 R own cc nL E T V L k n (pc + 3) rest) : G l D Z b0 R own cc nL E T V L k n pc (.int (nI i) :: rest) := g_if_gt hdg ht (fun c0 => kt (by have h1 := nI_toInt (n := i) (by omega); simp only [← Int32.toInt_inj, Int32.le_iff_toInt_le, Int32.lt_iff_toInt_lt, ge_iff_le, gt_iff_lt, h1, Int32.toInt_zero] at c0; omega)) (fun c0 => kf (by have h1 := nI_toInt (n := i) (by omega); simp only [← Int32.toInt_inj, Int32.le_iff_toInt_le, Int32.lt_iff_toInt_lt, ge_iff_le, gt_iff_lt, h1, Int32.toInt_zero] at c0; omega))
theorem g_if_le_N {i : Nat} {off : Int} {tgt : Nat} (hi : i < 2147483648) (hdg : decode cc pc = .ok (.ifCond .le off, 3)) (ht : (pc : Int) + off = (tgt : Int)) (kt : i = 0 → G l D Z b0 R own cc nL E T V L k n tgt rest) (kf : 0 < i → G l D Z b0 R own cc nL E T V L k n (pc + 3) rest) : G l D Z b0 R own cc nL E T V L k n pc (.int (nI i) :: rest) := g_if_le hdg ht (fun c0 => kt (by have h1 := nI_toInt (n := i) (by omega); simp only [← Int32.toInt_inj, Int32.le_iff_toInt_le, Int32.lt_iff_toInt_lt, ge_iff_le, gt_iff_lt, h1, Int32.toInt_zero] at c0; omega)) (fun c0 => kf (by have h1 := nI_toInt (n := i) (by omega); simp only [← Int32.toInt_inj, Int32.le_iff_toInt_le, Int32.lt_iff_toInt_lt, ge_iff_le, gt_iff_lt, h1, Int32.toInt_zero] at c0; omega))
theorem g_lookup {dflt : Int} {ps : Array (Int × Int)} {len : Nat} {x : Int32} {off : Int} {tgt : Nat} (hdg : decode cc pc = .ok (.lookupswitch dflt ps, len)) (hp : (ps.toList.zip (ps.toList.drop 1)).all (fun (a, next) => a.1 < next.1) = true) (ho : Op.lookupswitch.offset ps.toList dflt x.toInt = off) (ht : (pc : Int) + off = (tgt : Int)) (kk : G l D Z b0 R own cc nL E T V L k n tgt rest) : G l D Z b0 R own cc nL E T V L k n pc (.int x :: rest) := fun p e s m args below meth c H locs ls X hE hV hS hL => lv_lookup X.1 X.2.1 hdg hp ho ht (kk p e s m args below meth c H locs ls X hE hV hS hL)
theorem g_tableOut {dflt lo hi : Int} {offs : Array Int} {len : Nat} {x : Int32} {tgt : Nat} (hdg : decode cc pc = .ok (.tableswitch dflt lo hi offs, len)) (h : x.toInt < lo ∨ hi < x.toInt) (ht : (pc : Int) + dflt = (tgt : Int)) (kk : G l D Z b0 R own cc nL E T V L k n tgt rest) : G l D Z b0 R own cc nL E T V L k n pc (.int x :: rest) := fun p e s m args below meth c H locs ls X hE hV hS hL => lv_tableOut X.1 X.2.1 hdg h ht (kk p e s m args below meth c H locs ls X hE hV hS hL)
theorem g_tableIn {dflt lo hi : Int} {offs : Array Int} {len : Nat} {x : Int32} {off : Int} {tgt : Nat} (hdg : decode cc pc = .ok (.tableswitch dflt lo hi offs, len)) (h1 : ¬ x.toInt < lo) (h2 : ¬ hi < x.toInt) (ho : offs[(x.toInt - lo).toNat]? = some off) (ht : (pc : Int) + off = (tgt : Int)) (kk : G l D Z b0 R own cc nL E T V L k n tgt rest) : G l D Z b0 R own cc nL E T V L k n pc (.int x :: rest) := fun p e s m args below meth c H locs ls X hE hV hS hL => lv_tableIn X.1 X.2.1 hdg h1 h2 ho ht (kk p e s m args below meth c H locs ls X hE hV hS hL)
theorem g_ifnonnull {x : Nat} {off : Int} {tgt : Nat} (hdg : decode cc pc = .ok (.ifnonnull off, 3)) (ht : (pc : Int) + off = (tgt : Int)) (kk : G l D Z b0 R own cc nL E T V L k n (tgt) rest) : G l D Z b0 R own cc nL E T V L k n pc (.ref x :: rest) := fun p e s m args below meth c H locs ls X hE hV hS hL => lv_ifnonnull X.1 X.2.1 hdg ht (kk p e s m args below meth c H locs ls X hE hV hS hL)
theorem g_ifnull {x : Nat} {off : Int} (hdg : decode cc pc = .ok (.ifnull off, 3)) (kk : G l D Z b0 R own cc nL E T V L k n (pc + 3) rest) : G l D Z b0 R own cc nL E T V L k n pc (.ref x :: rest) := fun p e s m args below meth c H locs ls X hE hV hS hL => lv_ifnull X.1 X.2.1 hdg (kk p e s m args below meth c H locs ls X hE hV hS hL)
theorem g_ifnullN {off : Int} {tgt : Nat} (hdg : decode cc pc = .ok (.ifnull off, 3)) (ht : (pc : Int) + off = (tgt : Int)) (kk : G l D Z b0 R own cc nL E T V L k n (tgt) rest) : G l D Z b0 R own cc nL E T V L k n pc (.null :: rest) := fun p e s m args below meth c H locs ls X hE hV hS hL => lv_ifnullN X.1 X.2.1 hdg ht (kk p e s m args below meth c H locs ls X hE hV hS hL)
theorem g_ifnonnullN {off : Int} (hdg : decode cc pc = .ok (.ifnonnull off, 3)) (kk : G l D Z b0 R own cc nL E T V L k n (pc + 3) rest) : G l D Z b0 R own cc nL E T V L k n pc (.null :: rest) := fun p e s m args below meth c H locs ls X hE hV hS hL => lv_ifnonnullN X.1 X.2.1 hdg (kk p e s m args below meth c H locs ls X hE hV hS hL)
theorem g_null (hdg : decode cc pc = .ok (.aconst_null, 1)) (kk : G l D Z b0 R own cc nL E T V L k n (pc + 1) (.null :: rest)) : G l D Z b0 R own cc nL E T V L k n pc rest := fun p e s m args below meth c H locs ls X hE hV hS hL => lv_null X.1 X.2.1 hdg (kk p e s m args below meth c H locs ls X hE hV hS hL)
theorem g_lcmp {x y : Int64} (hdg : decode cc pc = .ok (.lcmp, 1)) (kk : G l D Z b0 R own cc nL E T V L k n (pc + 1) (.int (lg_cmp x y) :: rest)) : G l D Z b0 R own cc nL E T V L k n pc (.long y :: .long x :: rest) := fun p e s m args below meth c H locs ls X hE hV hS hL => W.lcmp X.1 X.2.1 hdg (kk p e s m args below meth c H locs ls X hE hV hS hL)
theorem g_ldc {index : Nat} {v : Int32} (hc : Jvm.Cond.constant own index v ∈ TB) (hdg : decode cc pc = .ok (.ldc index, 2)) (kk : G l D Z b0 R own cc nL E T V L k n (pc + 2) (.int v :: rest)) : G l D Z b0 R own cc nL E T V L k n pc rest := fun p e s m args below meth c H locs ls X hE hV hS hL => lv_ldc X.1 X.2.1 X.2.2.2.1 (X.2.2.2.2.1 _ hc) hdg (kk p e s m args below meth c H locs ls X hE hV hS hL)
theorem g_ldcw {index : Nat} {v : Int32} (hc : Jvm.Cond.constant own index v ∈ TB) (hdg : decode cc pc = .ok (.ldc_w index, 3)) (kk : G l D Z b0 R own cc nL E T V L k n (pc + 3) (.int v :: rest)) : G l D Z b0 R own cc nL E T V L k n pc rest := fun p e s m args below meth c H locs ls X hE hV hS hL => lv_ldcw X.1 X.2.1 X.2.2.2.1 (X.2.2.2.2.1 _ hc) hdg (kk p e s m args below meth c H locs ls X hE hV hS hL)
theorem g_ldc2 {index : Nat} {v : Int64} (hc : Jvm.Cond.constantLong own index v ∈ TB) (hdg : decode cc pc = .ok (.ldc2_w index, 3)) (kk : G l D Z b0 R own cc nL E T V L k n (pc + 3) (.long v :: rest)) : G l D Z b0 R own cc nL E T V L k n pc rest := fun p e s m args below meth c H locs ls X hE hV hS hL => lv_ldc2 X.1 X.2.1 X.2.2.2.1 (X.2.2.2.2.1 _ hc) hdg (kk p e s m args below meth c H locs ls X hE hV hS hL)
theorem g_get {ref C : String} {F : u_T} {N ci index a : Nat} {fs : List Value} {v : Value} (ha : V a = some (vO ci fs)) (hc : vwCl[ci]? = some (C, F, N)) (hin : ∀ w ∈ u_ws C F N, w ∈ TB) (j : Nat) (hj : j < N) (hlink : Cond.fieldLink own index ref (F j).2.1 (F j).2.2.1 ∈ TB) (hsame : ref = (F j).1 ∨ Cond.sameField ref (F j).1 (F j).2.1 (F j).2.2.1 ∈ TB) (hv : fs[j]? = some v) (hdg : decode cc pc = .ok (.getfield index, 3)) (kk : G l D Z b0 R own cc nL E T V L k n (pc + 3) (v :: rest)) : G l D Z b0 R own cc nL E T V L k n pc (.ref a :: rest) := fun p e s m args below meth c H locs ls X hE hV hS hL => va_get (D := D) (ci := ci) (v := v) (C := C) (T := F) (N := N) X.1 X.2.1 X.2.2.2.2.1 hin X.2.2.2.1 X.2.2.2.2.2.1.1 (hV.one ha) 0 rfl hc j hj (X.2.2.2.2.1 _ hlink) (fun x hx => by
    rcases hsame with h | h
    · rw [h]; exact hx
    · exact u_same (X.2.2.2.2.1 _ h) x hx) hv hdg (kk p e s m args below meth c H locs ls X hE hV hS hL)
theorem g_put {ref C : String} {F : u_T} {N ci index a : Nat} {fs : List Value} {v : Value} {ty : FieldType} (ha : V a = some (vO ci fs)) (hc : vwCl[ci]? = some (C, F, N)) (hin : ∀ w ∈ u_ws C F N, w ∈ TB) (ty0 : Nat → FieldType) (hty : ∀ j, j < N → parseFieldDescriptor (F j).2.2.1 = some (ty0 j)) (hnm : ∀ a, a < N → ∀ b, b < N → a ≠ b → (F a).2.1 ≠ (F b).2.1) (j : Nat) (hj : j < N) (hlink : Cond.fieldLink own index ref (F j).2.1 (F j).2.2.1 ∈ TB) (hsame : ref = (F j).1) (hfin : (F j).2.2.2 = false) (hd : parseFieldDescriptor (F j).2.2.1 = some ty) (hn : narrow ty v = v) (hfit : fits ty v = true) (hl : j < fs.length) (hb0 : b0 ≤ a) (hdg : decode cc pc = .ok (.putfield index, 3)) (kk : G l D Z b0 R own cc nL E T (upv V a (vO ci (fs.set j v))) L k n (pc + 3) rest) : G l D Z b0 R own cc nL E T V L k n pc (v :: .ref a :: rest) := by
  intro p e s m args below meth c H locs ls X hE hV hS hL
  have hP := hV.one ha
  have hap := va_apart (own := own) X.2.2.2.2.1 hin ty0 hty hnm X.2.2.2.2.2.1.1 hc
  obtain ⟨r, h1, cell, q1, q2, q3, q4⟩ := hP 0 _ rfl
  have hr : r = (C, F, N) := Option.some.inj (h1.symm.trans hc)
  subst hr
  obtain ⟨hS9, hfc, kC, hkC, hkind⟩ := X.2.2.2.2.2.1.1.1 ci _ hc
  obtain ⟨cf, kf, fi, f, hi, hsl⟩ := hS9 j hj
  have hlay := X.2.2.2.2.1 _ (hin _ (u_in_lay hj))
  unfold u_lay at hlay
  rw [if_neg (by rw [hfin]; decide)] at hlay
  have hst := (u_facts hfc hkC (u_lays X.2.2.2.2.1 hin hj) hi).1
  have h6 := u_store hfc hkC hkind hlay hi hd hn hfit
  refine W.putK X.1 X.2.1 (f := f) ⟨X.2.2.2.1, X.2.2.2.2.1 _ hlink, ⟨_, _, _, by rw [hsame]; exact hi⟩, hst⟩ (by rw [q2]; exact h6) q1 q3 (by rw [hsl]; exact k2_hasslot (q4 j hj)) rfl rfl hdg fun H' e1 e2 e3 => ?_
  rw [hsl] at e1 ⊢
  exact kk p e s m args below meth c H' _ ls X hE (hV.set ⟨_, hc, t_OB.to (V := updV (vp_V fs) j v) ⟨_, e1, q2, q3, t_set q4 hap hj v⟩ (fun i _ => vp_updV_set hl v i)⟩ e3) (hS.put e2 e3 hb0) hL
theorem g_putF {ref C : String} {F : u_T} {N ci index a : Nat} {fs : List Value} {v : Value} {ty : FieldType} (ha : V a = some (vO ci fs)) (hc : vwCl[ci]? = some (C, F, N)) (hin : ∀ w ∈ u_ws C F N, w ∈ TB) (ty0 : Nat → FieldType) (hty : ∀ j, j < N → parseFieldDescriptor (F j).2.2.1 = some (ty0 j)) (hnm : ∀ a, a < N → ∀ b, b < N → a ≠ b → (F a).2.1 ≠ (F b).2.1) (j : Nat) (hj : j < N) (hlink : Cond.fieldLink own index ref (F j).2.1 (F j).2.2.1 ∈ TB) (hsame : ref = (F j).1) (hfin : (F j).2.2.2 = true) (hdecl : (F j).1 = own) (hini : ∀ meth args s, E meth args s → meth.name = "<init>") (hd : parseFieldDescriptor (F j).2.2.1 = some ty) (hn : narrow ty v = v) (hfit : fits ty v = true) (hl : j < fs.length) (hb0 : b0 ≤ a) (hdg : decode cc pc = .ok (.putfield index, 3)) (kk : G l D Z b0 R own cc nL E T (upv V a (vO ci (fs.set j v))) L k n (pc + 3) rest) : G l D Z b0 R own cc nL E T V L k n pc (v :: .ref a :: rest) := by
  intro p e s m args below meth c H locs ls X hE hV hS hL
  have hP := hV.one ha
  have hap := va_apart (own := own) X.2.2.2.2.1 hin ty0 hty hnm X.2.2.2.2.2.1.1 hc
  obtain ⟨r, h1, cell, q1, q2, q3, q4⟩ := hP 0 _ rfl
  have hr : r = (C, F, N) := Option.some.inj (h1.symm.trans hc)
  subst hr
  obtain ⟨hS9, hfc, kC, hkC, hkind⟩ := X.2.2.2.2.2.1.1.1 ci _ hc
  obtain ⟨cf, kf, fi, f, hi, hsl⟩ := hS9 j hj
  have hlay := X.2.2.2.2.1 _ (hin _ (u_in_lay hj))
  unfold u_lay at hlay
  rw [if_pos hfin] at hlay
  have hst := (u_facts hfc hkC (u_lays X.2.2.2.2.1 hin hj) hi).1
  have hcf : m.cls = cf := by
    obtain ⟨_, _, c', _, _, _, -, -, hf', -, -, -, hown2, -⟩ := Cond.laysFinal_spec hlay
    have e1 : c' = cf := by have := hi.symm.trans hf'; simp at this; exact this.1.symm
    rw [hdecl] at hown2
    rw [← e1]; exact Option.some.inj (X.2.2.2.1.symm.trans hown2)
  have h6 := u_fits hfc hkC hkind (Or.inr hlay) hi hd hn hfit
  refine W.putFinK X.1 X.2.1 X.2.2.2.1 (X.2.2.2.2.1 _ hlink) (by rw [hsame]; exact hi) hst hcf (hini _ _ _ hE) (by rw [q2]; exact h6) q1 q3 (by rw [hsl]; exact k2_hasslot (q4 j hj)) rfl rfl hdg fun H' e1 e2 e3 => ?_
  rw [hsl] at e1 ⊢
  exact kk p e s m args below meth c H' _ ls X hE (hV.set ⟨_, hc, t_OB.to (V := updV (vp_V fs) j v) ⟨_, e1, q2, q3, t_set q4 hap hj v⟩ (fun i _ => vp_updV_set hl v i)⟩ e3) (hS.put e2 e3 hb0) hL
theorem g_iald {N : Nat} {a : Nat} {f : Nat → Int32} {i : Int32} (ha : V a = some (vI Z 0 N f)) (hin : vp_in i N) (hdg : decode cc pc = .ok (.iaload, 1)) (kk : G l D Z b0 R own cc nL E T V L k n (pc + 1) (.int (f i.toNatClampNeg) :: rest)) : G l D Z b0 R own cc nL E T V L k n pc (.int i :: .ref a :: rest) := fun p e s m args below meth c H locs ls X hE hV hS hL => va_iald X.1 X.2.1 X.2.2.2.2.2.1.1 (hV.one ha) 0 0 rfl rfl hin hdg (kk p e s m args below meth c H locs ls X hE hV hS hL)
theorem g_zald {N : Nat} {a : Nat} {f : Nat → Int32} {i : Int32} (ha : V a = some (vI Z 1 N f)) (hin : vp_in i N) (hdg : decode cc pc = .ok (.baload, 1)) (kk : G l D Z b0 R own cc nL E T V L k n (pc + 1) (.int (f i.toNatClampNeg) :: rest)) : G l D Z b0 R own cc nL E T V L k n pc (.int i :: .ref a :: rest) := fun p e s m args below meth c H locs ls X hE hV hS hL => va_zald X.1 X.2.1 X.2.2.2.2.2.1.1 (hV.one ha) 0 1 rfl rfl hin hdg (kk p e s m args below meth c H locs ls X hE hV hS hL)
theorem g_lald {N : Nat} {a : Nat} {f : Nat → Int64} {i : Int32} (ha : V a = some (vL Z 4 N f)) (hin : vp_in i N) (hdg : decode cc pc = .ok (.laload, 1)) (kk : G l D Z b0 R own cc nL E T V L k n (pc + 1) (.long (f i.toNatClampNeg) :: rest)) : G l D Z b0 R own cc nL E T V L k n pc (.int i :: .ref a :: rest) := fun p e s m args below meth c H locs ls X hE hV hS hL => va_lald X.1 X.2.1 X.2.2.2.2.2.1.1 (hV.one ha) 0 4 rfl rfl hin hdg (kk p e s m args below meth c H locs ls X hE hV hS hL)
theorem g_aald2 {N : Nat} {a : Nat} {f : Nat → Option Nat} {i : Int32} (ha : V a = some (vQ Z 2 N f)) (hin : vp_in i N) (hdg : decode cc pc = .ok (.aaload, 1)) (kk : G l D Z b0 R own cc nL E T V L k n (pc + 1) (va_rf (f i.toNatClampNeg) :: rest)) : G l D Z b0 R own cc nL E T V L k n pc (.int i :: .ref a :: rest) := fun p e s m args below meth c H locs ls X hE hV hS hL => va_aldq X.1 X.2.1 X.2.2.2.2.2.1.1 (hV.one ha) 0 2 rfl rfl hin hdg (kk p e s m args below meth c H locs ls X hE hV hS hL)
theorem g_aald3 {N : Nat} {a : Nat} {f : Nat → Option Nat} {i : Int32} (ha : V a = some (vQ Z 3 N f)) (hin : vp_in i N) (hdg : decode cc pc = .ok (.aaload, 1)) (kk : G l D Z b0 R own cc nL E T V L k n (pc + 1) (va_rf (f i.toNatClampNeg) :: rest)) : G l D Z b0 R own cc nL E T V L k n pc (.int i :: .ref a :: rest) := fun p e s m args below meth c H locs ls X hE hV hS hL => va_aldq X.1 X.2.1 X.2.2.2.2.2.1.1 (hV.one ha) 0 3 rfl rfl hin hdg (kk p e s m args below meth c H locs ls X hE hV hS hL)
theorem g_iast {N : Nat} {a : Nat} {f : Nat → Int32} {i : Int32} {x : Int32} (ha : V a = some (vI Z 0 N f)) (hin : vp_in i N) (hb0 : b0 ≤ a) (hdg : decode cc pc = .ok (.iastore, 1)) (kk : G l D Z b0 R own cc nL E T (upv V a (vI Z 0 N (upd f i.toNatClampNeg x))) L k n (pc + 1) rest) : G l D Z b0 R own cc nL E T V L k n pc (.int x :: .int i :: .ref a :: rest) := by
  intro p e s m args below meth c H locs ls X hE hV hS hL
  have hq := hV a _ ha
  refine W.iast X.1 X.2.1 hq ((X.2.2.2.2.2.1.1.2 0 _ rfl).1 N (fun j => .int (f j))) (fun q => by cases q) (by show ¬ (i < 0 ∨ (arrV _ _ _).slots.size ≤ _); rw [arrV_size]; exact hin) rfl rfl hdg fun H1 e z oq => ?_
  refine kk p _ s m args below meth c H1 _ ls X hE (hV.set ?_ oq) (hS.put z oq hb0) hL
  show H1[a]? = some (vp_cell _ _)
  rw [e]
  rw [vp_cell_i, vp_cell_i, arrV_store]
  congr 2
  funext q
  by_cases hq : q = i.toNatClampNeg
  · subst hq
    simp [updV, upd]
  · simp [updV, upd, hq]
theorem g_zast {N : Nat} {a : Nat} {f : Nat → Int32} {i : Int32} {x : Int32} (ha : V a = some (vI Z 1 N f)) (hin : vp_in i N) (hb0 : b0 ≤ a) (hdg : decode cc pc = .ok (.bastore, 1)) (kk : G l D Z b0 R own cc nL E T (upv V a (vI Z 1 N (upd f i.toNatClampNeg (vp_nar .boolean x)))) L k n (pc + 1) rest) : G l D Z b0 R own cc nL E T V L k n pc (.int x :: .int i :: .ref a :: rest) := by
  intro p e s m args below meth c H locs ls X hE hV hS hL
  have hq := hV a _ ha
  refine W.zast X.1 X.2.1 hq ((X.2.2.2.2.2.1.1.2 1 _ rfl).1 N (fun j => .int (f j))) (fun q => by cases q) (by show ¬ (i < 0 ∨ (arrV _ _ _).slots.size ≤ _); rw [arrV_size]; exact hin) rfl rfl hdg fun H1 e z oq => ?_
  refine kk p _ s m args below meth c H1 _ ls X hE (hV.set ?_ oq) (hS.put z oq hb0) hL
  show H1[a]? = some (vp_cell _ _)
  rw [e]
  rw [vp_cell_i, vp_cell_i, arrV_store]
  congr 2
  funext q
  by_cases hq : q = i.toNatClampNeg
  · subst hq
    simp [updV, upd, vp_nar]
    try rfl
  · simp [updV, upd, hq]
theorem g_last {N : Nat} {a : Nat} {f : Nat → Int64} {i : Int32} {x : Int64} (ha : V a = some (vL Z 4 N f)) (hin : vp_in i N) (hb0 : b0 ≤ a) (hdg : decode cc pc = .ok (.lastore, 1)) (kk : G l D Z b0 R own cc nL E T (upv V a (vL Z 4 N (vp_updL f i.toNatClampNeg x))) L k n (pc + 1) rest) : G l D Z b0 R own cc nL E T V L k n pc (.long x :: .int i :: .ref a :: rest) := by
  intro p e s m args below meth c H locs ls X hE hV hS hL
  have hq := hV a _ ha
  refine W.last X.1 X.2.1 hq ((X.2.2.2.2.2.1.1.2 4 _ rfl).1 N (fun j => .long (f j))) (fun q => by cases q) (by show ¬ (i < 0 ∨ (arrV _ _ _).slots.size ≤ _); rw [arrV_size]; exact hin) rfl rfl hdg fun H1 e z oq => ?_
  refine kk p _ s m args below meth c H1 _ ls X hE (hV.set ?_ oq) (hS.put z oq hb0) hL
  show H1[a]? = some (vp_cell _ _)
  rw [e]
  rw [vp_cell_l, vp_cell_l, arrV_store]
  congr 2
  funext q
  by_cases hq : q = i.toNatClampNeg
  · subst hq
    simp [updV, vp_updL]
  · simp [updV, vp_updL, hq]
theorem g_aast3 {C : String} {F : u_T} {N N1 ci : Nat} {vs : List Value} {a v : Nat} {f : Nat → Option Nat} {i : Int32} (ha : V a = some (vQ Z 3 N f)) (hv : V v = some (vO ci vs)) (hc : vwCl[ci]? = some (RX7, F, N1)) (hin : vp_in i N) (hb0 : b0 ≤ a) (hdg : decode cc pc = .ok (.aastore, 1)) (kk : G l D Z b0 R own cc nL E T (upv V a (vQ Z 3 N (va_up f i.toNatClampNeg (some v)))) L k n (pc + 1) rest) : G l D Z b0 R own cc nL E T V L k n pc (.ref v :: .int i :: .ref a :: rest) := by
  intro p e s m args below meth c H locs ls X hE hV hS hL
  have hK := X.2.2.2.2.2.1.1
  have hlt : i.toNatClampNeg < N := Nat.not_le.mp fun q => hin (Or.inr q)
  have h0 : ¬ i < 0 := fun q => hin (Or.inl q)
  obtain ⟨r', hr', cellV, g1, g2, g3, -⟩ := hV v _ hv
  have hcls := (hK.1 ci _ hc).2
  obtain ⟨kA, comp, k1, k2, k3, -⟩ := (hK.2 3 _ rfl).2
  have hcomp : comp = D.1 ci := Option.some.inj (k3.symm.trans hcls.1)
  subst hcomp
  obtain ⟨kC, hkC, -⟩ := hcls.2
  refine W.aast X.1 X.2.1 (hV a _ ha) (fun q h => by cases h) (fun h => by cases h) k1 k2 rfl hkC ⟨h0, by show _ < (arrV _ _ _).slots.size; rw [arrV_size]; exact hlt⟩ g1 (fun q h => by rw [g3] at h; cases h) (by rw [g2]; exact hkC) (by rw [g2]; exact va_assign hcls) rfl rfl hdg fun H1 e z oq => ?_
  refine kk p _ s m args below meth c H1 _ ls X hE (hV.set ?_ oq) (hS.put z oq hb0) hL
  show H1[a]? = some (vp_cell _ _)
  rw [e]
  rw [vp_cell_q, vp_cell_q, arrV_store]
  congr 2
  funext q
  by_cases hq : q = i.toNatClampNeg
  · subst hq
    simp [updV, va_up, va_rf]
  · simp [updV, va_up, hq]
theorem g_aast2 {C : String} {F : u_T} {N N1 ci : Nat} {vs : List Value} {a v : Nat} {f : Nat → Option Nat} {i : Int32} (ha : V a = some (vQ Z 2 N f)) (hv : V v = some (vO ci vs)) (hc : vwCl[ci]? = some (RX6, F, N1)) (hin : vp_in i N) (hb0 : b0 ≤ a) (hdg : decode cc pc = .ok (.aastore, 1)) (kk : G l D Z b0 R own cc nL E T (upv V a (vQ Z 2 N (va_up f i.toNatClampNeg (some v)))) L k n (pc + 1) rest) : G l D Z b0 R own cc nL E T V L k n pc (.ref v :: .int i :: .ref a :: rest) := by
  intro p e s m args below meth c H locs ls X hE hV hS hL
  have hK := X.2.2.2.2.2.1.1
  have hlt : i.toNatClampNeg < N := Nat.not_le.mp fun q => hin (Or.inr q)
  have h0 : ¬ i < 0 := fun q => hin (Or.inl q)
  obtain ⟨r', hr', cellV, g1, g2, g3, -⟩ := hV v _ hv
  have hcls := (hK.1 ci _ hc).2
  obtain ⟨kA, comp, k1, k2, k3, -⟩ := (hK.2 2 _ rfl).2
  have hcomp : comp = D.1 ci := Option.some.inj (k3.symm.trans hcls.1)
  subst hcomp
  obtain ⟨kC, hkC, -⟩ := hcls.2
  refine W.aast X.1 X.2.1 (hV a _ ha) (fun q h => by cases h) (fun h => by cases h) k1 k2 rfl hkC ⟨h0, by show _ < (arrV _ _ _).slots.size; rw [arrV_size]; exact hlt⟩ g1 (fun q h => by rw [g3] at h; cases h) (by rw [g2]; exact hkC) (by rw [g2]; exact va_assign hcls) rfl rfl hdg fun H1 e z oq => ?_
  refine kk p _ s m args below meth c H1 _ ls X hE (hV.set ?_ oq) (hS.put z oq hb0) hL
  show H1[a]? = some (vp_cell _ _)
  rw [e]
  rw [vp_cell_q, vp_cell_q, arrV_store]
  congr 2
  funext q
  by_cases hq : q = i.toNatClampNeg
  · subst hq
    simp [updV, va_up, va_rf]
  · simp [updV, va_up, hq]
theorem g_aast2c {C : String} (hca : C ∈ kCast) {F : u_T} {N N1 ci : Nat} {vs : List Value} {a v : Nat} {f : Nat → Option Nat} {i : Int32} (ha : V a = some (vQ Z 2 N f)) (hv : V v = some (vO ci vs)) (hc : vwCl[ci]? = some (C, F, N1)) (hin : vp_in i N) (hb0 : b0 ≤ a) (hdg : decode cc pc = .ok (.aastore, 1)) (kk : G l D Z b0 R own cc nL E T (upv V a (vQ Z 2 N (va_up f i.toNatClampNeg (some v)))) L k n (pc + 1) rest) : G l D Z b0 R own cc nL E T V L k n pc (.ref v :: .int i :: .ref a :: rest) := by
  intro p e s m args below meth c H locs ls X hE hV hS hL
  have hK := X.2.2.2.2.2.1.1
  have hlt : i.toNatClampNeg < N := Nat.not_le.mp fun q => hin (Or.inr q)
  have h0 : ¬ i < 0 := fun q => hin (Or.inl q)
  obtain ⟨r', hr', cellV, g1, g2, g3, -⟩ := hV v _ hv
  have hcls := (hK.1 ci _ hc).2
  obtain ⟨kA, comp, k1, k2, k3, -⟩ := (hK.2 2 _ rfl).2
  obtain ⟨kE, hkE, -⟩ := Vm.findClass_spec k3
  obtain ⟨c0, t1, f1, f2, f3⟩ := Cond.castable_spec (va_Nw.use (A := args) rfl (X.2.2.2.2.2.1.2.2.2.2.2.2.2.2 C hca))
  cases hcls.1.symm.trans f1
  cases k3.symm.trans f2
  obtain ⟨kC, hkC, -⟩ := hcls.2
  refine W.aast X.1 X.2.1 (hV a _ ha) (fun q h => by cases h) (fun h => by cases h) k1 k2 rfl hkE ⟨h0, by show _ < (arrV _ _ _).slots.size; rw [arrV_size]; exact hlt⟩ g1 (fun q h => by rw [g3] at h; cases h) (by rw [g2]; exact hkC) (by rw [g2]; exact f3) rfl rfl hdg fun H1 e z oq => ?_
  refine kk p _ s m args below meth c H1 _ ls X hE (hV.set ?_ oq) (hS.put z oq hb0) hL
  show H1[a]? = some (vp_cell _ _)
  rw [e]
  rw [vp_cell_q, vp_cell_q, arrV_store]
  congr 2
  funext q
  by_cases hq : q = i.toNatClampNeg
  · subst hq
    simp [updV, va_up, va_rf]
  · simp [updV, va_up, hq]
theorem g_newa0 {x : Int32} {N : Nat} (hw : Cond.arrayClass (newarray.typeOf .int) ∈ TB) (hn : ¬ x < 0) (hN : x.toNatClampNeg = N) (hbytes : N * componentBytes (newarray.typeOf .int) ≤ 536870912) (hc : k + 1 ≤ R.cells) (hs : n + N ≤ R.slots) (hdg : decode cc pc = .ok (.newarray .int, 2)) (kk : ∀ a, b0 ≤ a → V a = none → (∀ q e, V q = some e → q < a) → G l D Z b0 R own cc nL E T (upv V a (vI Z 0 N (fun _ => 0))) L (k + 1) (n + N) (pc + 2) (.ref a :: rest)) : G l D Z b0 R own cc nL E T V L k n pc (.int x :: rest) := by
  intro p e s m args below meth c H locs ls X hE hV hS hL
  refine va_newaK X.1 X.2.1 (X.2.2.2.2.1 _ hw) rfl hdg rfl hn hN hbytes hc hs rfl fun H1 cA e1 z1 o1 hAr hNm => ?_
  have hcA : cA = Z 0 := by
    have h2 := (X.2.2.2.2.2.1.1.2 0 _ rfl).2
    exact (Option.some.inj ((show s.vm.findClass _ = some (Z 0) from h2).symm.trans hNm)).symm
  subst hcA
  have hsz : b0 ≤ H.size := Nat.le_trans X.2.2.2.2.2.2.1 hS.1
  exact kk H.size hsz hV.new (fun q e' hq => (hV q e' hq).lt) p _ s m args below meth c H1 _ ls X hE (hV.push (by show H1[H.size]? = some (vp_cell _ _); rw [vp_cell_i]; exact e1) o1) (hS.push1 z1 o1) hL
theorem g_newa1 {x : Int32} {N : Nat} (hw : Cond.arrayClass (newarray.typeOf .boolean) ∈ TB) (hn : ¬ x < 0) (hN : x.toNatClampNeg = N) (hbytes : N * componentBytes (newarray.typeOf .boolean) ≤ 536870912) (hc : k + 1 ≤ R.cells) (hs : n + N ≤ R.slots) (hdg : decode cc pc = .ok (.newarray .boolean, 2)) (kk : ∀ a, b0 ≤ a → V a = none → (∀ q e, V q = some e → q < a) → G l D Z b0 R own cc nL E T (upv V a (vI Z 1 N (fun _ => 0))) L (k + 1) (n + N) (pc + 2) (.ref a :: rest)) : G l D Z b0 R own cc nL E T V L k n pc (.int x :: rest) := by
  intro p e s m args below meth c H locs ls X hE hV hS hL
  refine va_newaK X.1 X.2.1 (X.2.2.2.2.1 _ hw) rfl hdg rfl hn hN hbytes hc hs rfl fun H1 cA e1 z1 o1 hAr hNm => ?_
  have hcA : cA = Z 1 := by
    have h2 := (X.2.2.2.2.2.1.1.2 1 _ rfl).2
    exact (Option.some.inj ((show s.vm.findClass _ = some (Z 1) from h2).symm.trans hNm)).symm
  subst hcA
  have hsz : b0 ≤ H.size := Nat.le_trans X.2.2.2.2.2.2.1 hS.1
  exact kk H.size hsz hV.new (fun q e' hq => (hV q e' hq).lt) p _ s m args below meth c H1 _ ls X hE (hV.push (by show H1[H.size]? = some (vp_cell _ _); rw [vp_cell_i]; exact e1) o1) (hS.push1 z1 o1) hL
theorem g_newa4 {x : Int32} {N : Nat} (hw : Cond.arrayClass (newarray.typeOf .long) ∈ TB) (hn : ¬ x < 0) (hN : x.toNatClampNeg = N) (hbytes : N * componentBytes (newarray.typeOf .long) ≤ 536870912) (hc : k + 1 ≤ R.cells) (hs : n + N ≤ R.slots) (hdg : decode cc pc = .ok (.newarray .long, 2)) (kk : ∀ a, b0 ≤ a → V a = none → (∀ q e, V q = some e → q < a) → G l D Z b0 R own cc nL E T (upv V a (vL Z 4 N (fun _ => 0))) L (k + 1) (n + N) (pc + 2) (.ref a :: rest)) : G l D Z b0 R own cc nL E T V L k n pc (.int x :: rest) := by
  intro p e s m args below meth c H locs ls X hE hV hS hL
  refine va_newaK X.1 X.2.1 (X.2.2.2.2.1 _ hw) rfl hdg rfl hn hN hbytes hc hs rfl fun H1 cA e1 z1 o1 hAr hNm => ?_
  have hcA : cA = Z 4 := by
    have h2 := (X.2.2.2.2.2.1.1.2 4 _ rfl).2
    exact (Option.some.inj ((show s.vm.findClass _ = some (Z 4) from h2).symm.trans hNm)).symm
  subst hcA
  have hsz : b0 ≤ H.size := Nat.le_trans X.2.2.2.2.2.2.1 hS.1
  exact kk H.size hsz hV.new (fun q e' hq => (hV q e' hq).lt) p _ s m args below meth c H1 _ ls X hE (hV.push (by show H1[H.size]? = some (vp_cell _ _); rw [vp_cell_l]; exact e1) o1) (hS.push1 z1 o1) hL
theorem g_anew2 {x : Int32} {N index : Nat} (hl : Cond.classLink own index RX6 ∈ TB) (hn : ¬ x < 0) (hN : x.toNatClampNeg = N) (hbytes : N * 4 ≤ 536870912) (hc : k + 1 ≤ R.cells) (hs : n + N ≤ R.slots) (hdg : decode cc pc = .ok (.anewarray index, 3)) (kk : ∀ a, b0 ≤ a → V a = none → (∀ q e, V q = some e → q < a) → G l D Z b0 R own cc nL E T (upv V a (vQ Z 2 N (fun _ => none))) L (k + 1) (n + N) (pc + 3) (.ref a :: rest)) : G l D Z b0 R own cc nL E T V L k n pc (.int x :: rest) := by
  intro p e s m args below meth c H locs ls X hE hV hS hL
  subst hN
  refine W.anew X.1 X.2.1 X.2.2.2.1 (X.2.2.2.2.1 _ hl) (va_AO.use X.2.2.2.2.2.1.2.2.2.2.2.2.1) rfl hdg rfl hn hbytes hc hs fun cA kA comp f1 f2 f3 f4 => ?_
  generalize hH1 : H.push ({ cls := cA, slots := Array.replicate x.toNatClampNeg .null, vm := .none } : Cell) = H1
  have z1 : H1.size = H.size + 1 := by rw [← hH1, Array.size_push]
  have e1 : H1[H.size]? = some (arrV cA x.toNatClampNeg (fun _ => .null)) := by rw [← hH1, Array.getElem?_push_size, ← arrV_new]
  have o1 : ∀ q : Nat, q < H.size → H1[q]? = H[q]? := fun q hq => by rw [← hH1, Array.getElem?_push, if_neg (Nat.ne_of_lt hq)]
  have hcA : cA = Z 2 := by
    obtain ⟨_, _, _, _, _, h4⟩ := (X.2.2.2.2.2.1.1.2 2 _ rfl).2
    exact (Option.some.inj (h4.symm.trans f1)).symm
  subst hcA
  have hsz : b0 ≤ H.size := Nat.le_trans X.2.2.2.2.2.2.1 hS.1
  exact kk H.size hsz hV.new (fun q e' hq => (hV q e' hq).lt) p _ s m args below meth c H1 _ ls X hE (hV.push (by show H1[H.size]? = some (vp_cell _ _); rw [vp_cell_q]; exact e1) o1) (hS.push1 z1 o1) hL
theorem g_anew3 {x : Int32} {N index : Nat} (hl : Cond.classLink own index RX7 ∈ TB) (hn : ¬ x < 0) (hN : x.toNatClampNeg = N) (hbytes : N * 4 ≤ 536870912) (hc : k + 1 ≤ R.cells) (hs : n + N ≤ R.slots) (hdg : decode cc pc = .ok (.anewarray index, 3)) (kk : ∀ a, b0 ≤ a → V a = none → (∀ q e, V q = some e → q < a) → G l D Z b0 R own cc nL E T (upv V a (vQ Z 3 N (fun _ => none))) L (k + 1) (n + N) (pc + 3) (.ref a :: rest)) : G l D Z b0 R own cc nL E T V L k n pc (.int x :: rest) := by
  intro p e s m args below meth c H locs ls X hE hV hS hL
  subst hN
  refine W.anew X.1 X.2.1 X.2.2.2.1 (X.2.2.2.2.1 _ hl) (va_AO.use X.2.2.2.2.2.1.2.2.2.2.2.2.2.1) rfl hdg rfl hn hbytes hc hs fun cA kA comp f1 f2 f3 f4 => ?_
  generalize hH1 : H.push ({ cls := cA, slots := Array.replicate x.toNatClampNeg .null, vm := .none } : Cell) = H1
  have z1 : H1.size = H.size + 1 := by rw [← hH1, Array.size_push]
  have e1 : H1[H.size]? = some (arrV cA x.toNatClampNeg (fun _ => .null)) := by rw [← hH1, Array.getElem?_push_size, ← arrV_new]
  have o1 : ∀ q : Nat, q < H.size → H1[q]? = H[q]? := fun q hq => by rw [← hH1, Array.getElem?_push, if_neg (Nat.ne_of_lt hq)]
  have hcA : cA = Z 3 := by
    obtain ⟨_, _, _, _, _, h4⟩ := (X.2.2.2.2.2.1.1.2 3 _ rfl).2
    exact (Option.some.inj (h4.symm.trans f1)).symm
  subst hcA
  have hsz : b0 ≤ H.size := Nat.le_trans X.2.2.2.2.2.2.1 hS.1
  exact kk H.size hsz hV.new (fun q e' hq => (hV q e' hq).lt) p _ s m args below meth c H1 _ ls X hE (hV.push (by show H1[H.size]? = some (vp_cell _ _); rw [vp_cell_q]; exact e1) o1) (hS.push1 z1 o1) hL
theorem g_new {C : String} {F : u_T} {N ci index : Nat} {fs : List Value} (hin : ∀ w ∈ u_ws C F N, w ∈ TB) (ty : Nat → FieldType) (hty : ∀ j, j < N → parseFieldDescriptor (F j).2.2.1 = some (ty j)) (hcl : Cond.classLink own index C ∈ TB) (hinst : Cond.instantiable C N ∈ TB) (hini : Cond.initialized C ∈ TB) (hc : vwCl[ci]? = some (C, F, N)) (hfs : ∀ j, j < N → defaultValue (ty j) = vp_V fs j) (hk : k + 1 ≤ R.cells) (hs : n + N ≤ R.slots) (hdg : decode cc pc = .ok (.new index, 3)) (kk : ∀ a, b0 ≤ a → V a = none → (∀ q e, V q = some e → q < a) → G l D Z b0 R own cc nL E T (upv V a (vO ci fs)) L (k + 1) (n + N) (pc + 3) (.ref a :: rest)) : G l D Z b0 R own cc nL E T V L k n pc rest := by
  intro p e s m args below meth c H locs ls X hE hV hS hL
  have hKn := X.2.2.2.2.2.1.1.1 ci _ hc
  refine W.newcK X.1 X.2.1 X.2.2.2.1 (X.2.2.2.2.1 _ hcl) (X.2.2.2.2.1 _ hinst) (X.2.2.2.2.1 _ hini) rfl hdg hk hs hKn.2.1 rfl fun H1 kC hkC e1 z1 o1 => ?_
  have hsz : b0 ≤ H.size := Nat.le_trans X.2.2.2.2.2.2.1 hS.1
  exact kk H.size hsz hV.new (fun q e' hq => (hV q e' hq).lt) p _ s m args below meth c H1 _ ls X hE (hV.push ⟨_, hc, (u_born ty X.2.2.2.2.1 hin hKn hkC e1 hty).to hfs⟩ o1) (hS.push1 z1 o1) hL
theorem g_objInit {index a : Nat} (hlink : Cond.methodLink own index objectInit ∈ TB) (hinst : Cond.instanceMethod objectInit ∈ TB) (hcode : Cond.code objectInit ⟨#[0xb1]⟩ 1 none ∈ TB) (hR : 1 ≤ R.frames ∧ (rest.map fun v => v.category).sum + 12 ≤ R.locals) (hdg : decode cc pc = .ok (.invokespecial index, 3)) (kk : G l D Z b0 R own cc nL E T V L k n (pc + 3) rest) : G l D Z b0 R own cc nL E T V L k n pc (.ref a :: rest) := by
  intro p e s m args below meth c H locs ls X hE hV hS hL
  refine W.objInit X.1 X.2.1 X.2.2.2.1 (X.2.2.2.2.1 _ hlink) (X.2.2.2.2.1 _ hinst) (X.2.2.2.2.1 _ hcode) rfl (hL.1.trans X.2.2.1.symm) rfl hdg hR.1 (by show 2 * 0 + _ + 12 ≤ _; omega) ?_
  exact kk p _ s m args below meth c H _ ls X hE hV hS hL
/-! ===== contracts ===== -/
def kP (D : va_G) (Z : Nat → ClassId) (b0 : Nat) (av : List Value) (V : HV) : Array Value → State → Prop := va_Pc av (fun U => hvP D V U.heap ∧ kW D Z U ∧ b0 ≤ U.heap.size)
def kQ (D : va_G) (b0 : Nat) (Po : Option Value → HV → Prop) : Array Value → State → Outcome → State → Prop := fun _ st oc t => (∃ (v : Option Value) (V' : HV), oc = .returned v ∧ Po v V' ∧ hvP D V' t.heap) ∧ va_F (fun q => b0 ≤ q) st t
def gE (ret : Option FieldType) (nm : String) : Method → Array Value → State → Prop := fun meth _ _ => meth.sig.returnType = ret ∧ meth.name = nm
def gT (D : va_G) (b0 : Nat) (Po : Option Value → HV → Prop) (mc ms : Nat) : List Frame → Array Value → State → State → Prop := fun below args s => MQ below (kQ D b0 Po) args s mc ms (fun q => b0 ≤ q)
def KM (l : Launch) (D : va_G) (Z : Nat → ClassId) (b0 : Nat) (y : MethodName) (bytes : ByteArray) (maxL : Nat) (ret : Option FieldType) (rm : Room) (av : List Value) (V : HV) (Po : Option Value → HV → Prop) : Prop :=
  Met l y (.code y bytes maxL ret :: TB) rm (kP D Z b0 av V) (kQ D b0 Po) rm.cells rm.slots (fun q => b0 ≤ q)
theorem kP.blind {av : List Value} : FrameBlind (kP D Z b0 av V) := fun a U g mk q => by
  obtain ⟨q0, q1, q2, q3⟩ := q
  exact ⟨q0, q1, ⟨va_K.moved (u := U) (U := U.calling g mk a) (Vm.Alike.refl U.vm) q2.1, q2.2.same rfl⟩, q3⟩
theorem KM.of {y : MethodName} {bytes : ByteArray} {maxL : Nat} {ret : Option FieldType} {rm : Room} {av : List Value} {Po : Option Value → HV → Prop} (hy : plainName y.cls = true) (hav : (lg_sl av).length ≤ maxL) (g : G l D Z b0 rm y.cls bytes maxL (gE ret y.name) (gT D b0 Po rm.cells rm.slots) V (lv_args 0 av) 0 0 0 []) : KM l D Z b0 y bytes maxL ret rm av V Po := by
  refine Met.ofW (cc := bytes) (maxL := maxL) (ret := ret) hy rfl ?_
  intro p e s m args below meth c s₁ B hml hv
  obtain ⟨rfl, hV, hK, hb0⟩ := hv
  have hts := atoms_spec (ws := .code y bytes maxL ret :: TB) B.pre
  rw [lg_entry_eq]
  exact g p e s m _ below meth c s.heap [] _ ⟨B.exec, B.bytes, hml, findClass_of_methodNamed B.named, fun w h => hts w (List.mem_cons_of_mem _ h), hK, hb0, B.notSynchronized⟩ ⟨B.returns, (name_of_methodNamed B.named B.method).1⟩ hV va_S.rf (lv_entry av hav)
theorem KM.weak {y : MethodName} {bytes : ByteArray} {maxL : Nat} {ret : Option FieldType} {rm : Room} {av : List Value} {Po Po' : Option Value → HV → Prop} (h : ∀ v V', Po v V' → Po' v V') (hM : KM l D Z b0 y bytes maxL ret rm av V Po) : KM l D Z b0 y bytes maxL ret rm av V Po' := by
  unfold KM Met at hM ⊢
  exact MetFree.mono hM (fun _ _ q => q) (fun _ _ _ _ _ q => q) (fun a st o t _ q9 => by
    obtain ⟨⟨⟨v, V', q1, q2, q3⟩, q4⟩, q5⟩ := q9
    exact ⟨⟨⟨v, V', q1, h v V' q2, q3⟩, q4⟩, q5⟩)
/-- the words that calls of a method ask -/
def mV (y : MethodName) (bytes : ByteArray) (maxL : Nat) (ret : Option FieldType) (n0 : Nat) : Prop := (Cond.instanceMethod y ∈ TB ∧ Cond.initialized y.cls ∈ TB ∧ Cond.code y bytes maxL ret ∈ TB) ∧ (y.cls ≠ "java/lang/invoke/MethodHandle" ∧ y.cls ≠ "java/lang/invoke/VarHandle" ∧ (parseMethodDescriptor y.desc).map (fun d => d.parameters.length) = some n0)
def mS (y : MethodName) (bytes : ByteArray) (maxL : Nat) (ret : Option FieldType) (n0 : Nat) : Prop := (Cond.static y ∈ TB ∧ Cond.initialized y.cls ∈ TB ∧ Cond.code y bytes maxL ret ∈ TB) ∧ (y.cls ≠ "java/lang/invoke/MethodHandle" ∧ y.cls ≠ "java/lang/invoke/VarHandle" ∧ (parseMethodDescriptor y.desc).map (fun d => d.parameters.length) = some n0)
theorem gU_ws {C owner : String} {x y : MethodName} {index maxL : Nat} {bytes : ByteArray} {ret : Option FieldType} (h1 : Cond.methodLink own index x ∈ TB) (h2 : Cond.sameMethod x.cls owner x.name x.desc ∈ TB) (h3 : Cond.selects C x y ∈ TB) (h4 : Cond.instanceMethod y ∈ TB) (h5 : Cond.initialized y.cls ∈ TB) (h6 : Cond.code y bytes maxL ret ∈ TB) : GoodIn TB (va_wsU own index C owner x y (.code y bytes maxL ret :: TB)) := TB_sub (by
  intro w hw
  simp only [va_wsU, List.cons_append, List.nil_append, List.mem_cons] at hw
  rcases hw with rfl | rfl | rfl | rfl | rfl | rfl | hw <;> assumption)
theorem gP_ws {y : MethodName} {index maxL : Nat} {bytes : ByteArray} {ret : Option FieldType} (h1 : Cond.methodLink own index y ∈ TB) (h2 : Cond.sameMethod y.cls y.cls y.name y.desc ∈ TB) (h3 : Cond.superclass own y.cls ∈ TB) (h4 : Cond.instanceMethod y ∈ TB) (h5 : Cond.initialized y.cls ∈ TB) (h6 : Cond.code y bytes maxL ret ∈ TB) : GoodIn TB (va_wsSU own index y (.code y bytes maxL ret :: TB)) := TB_sub (by
  intro w hw
  simp only [va_wsSU, List.cons_append, List.nil_append, List.mem_cons] at hw
  rcases hw with rfl | rfl | rfl | rfl | rfl | rfl | hw <;> assumption)
theorem g_callS {y : MethodName} {bytes : ByteArray} {maxL n0 index : Nat} {ret : Option FieldType} {rm : Room} {Po : Option Value → HV → Prop} {As st : List Value} (hM : KM l D Z b0 y bytes maxL ret rm (As) V Po) (hl : Cond.methodLink own index y ∈ TB) (hm : mS y bytes maxL ret n0) (hR : rm.frames + 1 ≤ R.frames ∧ 8 + (maxL + 11) + rm.locals ≤ R.locals) (hn : As.length = n0) (hst : st = As.reverse ++ rest) (hcat : (rest.map fun v => v.category).sum ≤ 8) (hdg : decode cc pc = .ok (.invokestatic index, 3)) (hf : k + rm.cells ≤ R.cells ∧ n + rm.slots ≤ R.slots) (kk : ∀ (v : Option Value) (V' : HV), Po v V' → G l D Z b0 R own cc nL E T V' L (k + rm.cells) (n + rm.slots) (pc + 3) (v.toList ++ rest)) : G l D Z b0 R own cc nL E T V L k n pc st := by
  intro p e s m args below meth c H locs ls X hE hV hS hL T9 hT X9
  have hG : GoodIn TB (.code y bytes maxL ret :: TB) := TB_sub (TB_cons hm.1.2.2)
  have hts := X.2.2.2.2.1
  obtain ⟨v, st₀, t, T', L9, h0, X', hL9, e1, e2, ⟨⟨v', V', hv, hp, hb⟩, hz, hk⟩, stp⟩ := va_runS ⟨X.1, X.2.1, X.2.2.1, X.2.2.2.1, hts⟩ hM ⟨callB_of n0 hts hG rfl rfl rfl (hts _ hm.1.2.1) (hts _ hl) hm.2 hR, hts _ hm.1.1⟩ ⟨kP.blind, fun U hU hW => ⟨rfl, by rw [hU]; exact hV, X.2.2.2.2.2.1.warm hW, by rw [hU]; exact Nat.le_trans X.2.2.2.2.2.2.1 hS.1⟩⟩ (g := F0 m pc ls st) (rest := rest) (cells := k) (slots := n) rfl hn hL.1 hst (lv_room (ls := ls) (rest := st) hcat) hdg hf T9 hT X9
  cases hv
  rw [h0] at hz hk
  obtain ⟨t2, a1, b1⟩ := kk v V' hp p e s m args below meth c T'.heap (locs ++ L9) ls X hE (by rw [e1]; exact hb) ⟨Nat.le_trans hS.1 (by rw [e1]; exact hz), fun q h1 h2 => by rw [e1, hk q (Nat.lt_of_lt_of_le h1 hS.1) h2]; exact hS.2.1 q h1 h2, fun q hq => by
      rcases List.mem_append.mp hq with h | h
      · exact hS.2.2 q h
      · exact hL9 q h⟩ hL T' rfl X'
  exact ⟨t2, stp t2 a1, b1⟩
theorem g_callV {y : MethodName} {bytes : ByteArray} {maxL n0 index : Nat} {ret : Option FieldType} {rm : Room} {Po : Option Value → HV → Prop} {As st : List Value} {b ci N : Nat} {F : u_T} {fs : List Value} (hb : V b = some (vO ci fs)) (hc : vwCl[ci]? = some (y.cls, F, N)) (hM : KM l D Z b0 y bytes maxL ret rm (.ref b :: As) V Po) (hl : Cond.methodLink own index y ∈ TB) (hsel : Cond.selects y.cls y y ∈ TB) (hm : mV y bytes maxL ret n0) (hR : rm.frames + 1 ≤ R.frames ∧ 8 + (maxL + 11) + rm.locals ≤ R.locals) (hn : As.length = n0) (hst : st = As.reverse ++ .ref b :: rest) (hcat : (rest.map fun v => v.category).sum ≤ 8) (hdg : decode cc pc = .ok (.invokevirtual index, 3)) (hf : k + rm.cells ≤ R.cells ∧ n + rm.slots ≤ R.slots) (kk : ∀ (v : Option Value) (V' : HV), Po v V' → G l D Z b0 R own cc nL E T V' L (k + rm.cells) (n + rm.slots) (pc + 3) (v.toList ++ rest)) : G l D Z b0 R own cc nL E T V L k n pc st := by
  intro p e s m args below meth c H locs ls X hE hV hS hL T9 hT X9
  have hG : GoodIn TB (.code y bytes maxL ret :: TB) := TB_sub (TB_cons hm.1.2.2)
  have hts := X.2.2.2.2.1
  obtain ⟨v, st₀, t, T', L9, h0, X', hL9, e1, e2, ⟨⟨v', V', hv, hp, hb⟩, hz, hk⟩, stp⟩ := va_runV ⟨X.1, X.2.1, X.2.2.1, X.2.2.2.1, hts⟩ hM ⟨callB_of n0 hts hG rfl rfl rfl (hts _ hm.1.2.1) (hts _ hl) hm.2 hR, hts _ hm.1.1, hts _ hsel⟩ ⟨kP.blind, va_recv X.2.2.2.2.2.1.1 (hV.one hb) (ci := ci) (q0 := 0) hc rfl, fun U hU hW => ⟨rfl, by rw [hU]; exact hV, X.2.2.2.2.2.1.warm hW, by rw [hU]; exact Nat.le_trans X.2.2.2.2.2.2.1 hS.1⟩⟩ (g := F0 m pc ls st) (rest := rest) (cells := k) (slots := n) rfl hn hL.1 hst (lv_room (ls := ls) (rest := st) hcat) hdg hf T9 hT X9
  cases hv
  rw [h0] at hz hk
  obtain ⟨t2, a1, b1⟩ := kk v V' hp p e s m args below meth c T'.heap (locs ++ L9) ls X hE (by rw [e1]; exact hb) ⟨Nat.le_trans hS.1 (by rw [e1]; exact hz), fun q h1 h2 => by rw [e1, hk q (Nat.lt_of_lt_of_le h1 hS.1) h2]; exact hS.2.1 q h1 h2, fun q hq => by
      rcases List.mem_append.mp hq with h | h
      · exact hS.2.2 q h
      · exact hL9 q h⟩ hL T' rfl X'
  exact ⟨t2, stp t2 a1, b1⟩
theorem g_callI {y : MethodName} {bytes : ByteArray} {maxL n0 index : Nat} {ret : Option FieldType} {rm : Room} {Po : Option Value → HV → Prop} {As st : List Value} {b : Nat} (hy : y.name = "<init>") (hM : KM l D Z b0 y bytes maxL none rm (.ref b :: As) V Po) (hl : Cond.methodLink own index y ∈ TB) (hm : mV y bytes maxL none n0) (hR : rm.frames + 1 ≤ R.frames ∧ 8 + (maxL + 11) + rm.locals ≤ R.locals) (hn : As.length = n0) (hst : st = As.reverse ++ .ref b :: rest) (hcat : (rest.map fun v => v.category).sum ≤ 8) (hdg : decode cc pc = .ok (.invokespecial index, 3)) (hf : k + rm.cells ≤ R.cells ∧ n + rm.slots ≤ R.slots) (kk : ∀ (v : Option Value) (V' : HV), Po v V' → G l D Z b0 R own cc nL E T V' L (k + rm.cells) (n + rm.slots) (pc + 3) (v.toList ++ rest)) : G l D Z b0 R own cc nL E T V L k n pc st := by
  intro p e s m args below meth c H locs ls X hE hV hS hL T9 hT X9
  have hG : GoodIn TB (.code y bytes maxL none :: TB) := TB_sub (TB_cons hm.1.2.2)
  have hts := X.2.2.2.2.1
  obtain ⟨v, st₀, t, T', L9, h0, X', hL9, e1, e2, ⟨⟨v', V', hv, hp, hb⟩, hz, hk⟩, stp⟩ := va_runI ⟨X.1, X.2.1, X.2.2.1, X.2.2.2.1, hts⟩ hM ⟨callB_of n0 hts hG rfl rfl rfl (hts _ hm.1.2.1) (hts _ hl) hm.2 hR, hy, hts _ hm.1.1⟩ ⟨kP.blind, fun U hU hW => ⟨rfl, by rw [hU]; exact hV, X.2.2.2.2.2.1.warm hW, by rw [hU]; exact Nat.le_trans X.2.2.2.2.2.2.1 hS.1⟩⟩ (g := F0 m pc ls st) (rest := rest) (cells := k) (slots := n) rfl hn hL.1 hst (lv_room (ls := ls) (rest := st) hcat) hdg hf T9 hT X9
  cases hv
  rw [h0] at hz hk
  obtain ⟨t2, a1, b1⟩ := kk v V' hp p e s m args below meth c T'.heap (locs ++ L9) ls X hE (by rw [e1]; exact hb) ⟨Nat.le_trans hS.1 (by rw [e1]; exact hz), fun q h1 h2 => by rw [e1, hk q (Nat.lt_of_lt_of_le h1 hS.1) h2]; exact hS.2.1 q h1 h2, fun q hq => by
      rcases List.mem_append.mp hq with h | h
      · exact hS.2.2 q h
      · exact hL9 q h⟩ hL T' rfl X'
  exact ⟨t2, stp t2 a1, b1⟩
theorem g_callSN {y : MethodName} {bytes : ByteArray} {maxL n0 index : Nat} {ret : Option FieldType} {rm : Room} {Po : Option Value → HV → Prop} {As st : List Value} (hM : KM l D Z b0 y bytes maxL ret rm (As) V Po) {host : String} (hl : ∀ U, kNs U → va_Nw (.methodLinkNest own index y host) U) (hm : mS y bytes maxL ret n0) (hR : rm.frames + 1 ≤ R.frames ∧ 8 + (maxL + 11) + rm.locals ≤ R.locals) (hn : As.length = n0) (hst : st = As.reverse ++ rest) (hcat : (rest.map fun v => v.category).sum ≤ 8) (hdg : decode cc pc = .ok (.invokestatic index, 3)) (hf : k + rm.cells ≤ R.cells ∧ n + rm.slots ≤ R.slots) (kk : ∀ (v : Option Value) (V' : HV), Po v V' → G l D Z b0 R own cc nL E T V' L (k + rm.cells) (n + rm.slots) (pc + 3) (v.toList ++ rest)) : G l D Z b0 R own cc nL E T V L k n pc st := by
  intro p e s m args below meth c H locs ls X hE hV hS hL T9 hT X9
  have hG : GoodIn TB (.code y bytes maxL ret :: TB) := TB_sub (TB_cons hm.1.2.2)
  have hts := X.2.2.2.2.1
  obtain ⟨v, st₀, t, T', L9, h0, X', hL9, e1, e2, ⟨⟨v', V', hv, hp, hb⟩, hz, hk⟩, stp⟩ := va_runSN ⟨X.1, X.2.1, X.2.2.1, X.2.2.2.1, hts⟩ hM ⟨va_cnB n0 hts hG rfl rfl rfl (hl s X.2.2.2.2.2.1.2) (hts _ hm.1.2.1) hm.2 hR, hts _ hm.1.1, trivial⟩ ⟨kP.blind, fun U hU hW => ⟨rfl, by rw [hU]; exact hV, X.2.2.2.2.2.1.warm hW, by rw [hU]; exact Nat.le_trans X.2.2.2.2.2.2.1 hS.1⟩⟩ (g := F0 m pc ls st) (rest := rest) (cells := k) (slots := n) rfl hn hL.1 hst (lv_room (ls := ls) (rest := st) hcat) hdg hf T9 hT X9
  cases hv
  rw [h0] at hz hk
  obtain ⟨t2, a1, b1⟩ := kk v V' hp p e s m args below meth c T'.heap (locs ++ L9) ls X hE (by rw [e1]; exact hb) ⟨Nat.le_trans hS.1 (by rw [e1]; exact hz), fun q h1 h2 => by rw [e1, hk q (Nat.lt_of_lt_of_le h1 hS.1) h2]; exact hS.2.1 q h1 h2, fun q hq => by
      rcases List.mem_append.mp hq with h | h
      · exact hS.2.2 q h
      · exact hL9 q h⟩ hL T' rfl X'
  exact ⟨t2, stp t2 a1, b1⟩
theorem g_callIN {y : MethodName} {bytes : ByteArray} {maxL n0 index : Nat} {ret : Option FieldType} {rm : Room} {Po : Option Value → HV → Prop} {As st : List Value} {b : Nat} (hy : y.name = "<init>") (hM : KM l D Z b0 y bytes maxL none rm (.ref b :: As) V Po) {host : String} (hl : ∀ U, kNs U → va_Nw (.methodLinkNest own index y host) U) (hm : mV y bytes maxL none n0) (hR : rm.frames + 1 ≤ R.frames ∧ 8 + (maxL + 11) + rm.locals ≤ R.locals) (hn : As.length = n0) (hst : st = As.reverse ++ .ref b :: rest) (hcat : (rest.map fun v => v.category).sum ≤ 8) (hdg : decode cc pc = .ok (.invokespecial index, 3)) (hf : k + rm.cells ≤ R.cells ∧ n + rm.slots ≤ R.slots) (kk : ∀ (v : Option Value) (V' : HV), Po v V' → G l D Z b0 R own cc nL E T V' L (k + rm.cells) (n + rm.slots) (pc + 3) (v.toList ++ rest)) : G l D Z b0 R own cc nL E T V L k n pc st := by
  intro p e s m args below meth c H locs ls X hE hV hS hL T9 hT X9
  have hG : GoodIn TB (.code y bytes maxL none :: TB) := TB_sub (TB_cons hm.1.2.2)
  have hts := X.2.2.2.2.1
  obtain ⟨v, st₀, t, T', L9, h0, X', hL9, e1, e2, ⟨⟨v', V', hv, hp, hb⟩, hz, hk⟩, stp⟩ := va_runIN ⟨X.1, X.2.1, X.2.2.1, X.2.2.2.1, hts⟩ hM ⟨va_cnB n0 hts hG rfl rfl rfl (hl s X.2.2.2.2.2.1.2) (hts _ hm.1.2.1) hm.2 hR, hy, hts _ hm.1.1⟩ ⟨kP.blind, fun U hU hW => ⟨rfl, by rw [hU]; exact hV, X.2.2.2.2.2.1.warm hW, by rw [hU]; exact Nat.le_trans X.2.2.2.2.2.2.1 hS.1⟩⟩ (g := F0 m pc ls st) (rest := rest) (cells := k) (slots := n) rfl hn hL.1 hst (lv_room (ls := ls) (rest := st) hcat) hdg hf T9 hT X9
  cases hv
  rw [h0] at hz hk
  obtain ⟨t2, a1, b1⟩ := kk v V' hp p e s m args below meth c T'.heap (locs ++ L9) ls X hE (by rw [e1]; exact hb) ⟨Nat.le_trans hS.1 (by rw [e1]; exact hz), fun q h1 h2 => by rw [e1, hk q (Nat.lt_of_lt_of_le h1 hS.1) h2]; exact hS.2.1 q h1 h2, fun q hq => by
      rcases List.mem_append.mp hq with h | h
      · exact hS.2.2 q h
      · exact hL9 q h⟩ hL T' rfl X'
  exact ⟨t2, stp t2 a1, b1⟩
theorem g_callU {y : MethodName} {bytes : ByteArray} {maxL n0 index : Nat} {ret : Option FieldType} {rm : Room} {Po : Option Value → HV → Prop} {As st : List Value} {x : MethodName} {C owner : String} {b ci N : Nat} {F : u_T} {fs : List Value} (hb : V b = some (vO ci fs)) (hc : vwCl[ci]? = some (C, F, N)) (hyx : y = ⟨owner, x.name, x.desc⟩) (hx : owner ≠ "java/lang/invoke/MethodHandle" ∧ owner ≠ "java/lang/invoke/VarHandle" ∧ (parseMethodDescriptor x.desc).map (fun d => d.parameters.length) = some n0) (hM : KM l D Z b0 y bytes maxL ret rm (.ref b :: As) V Po) (hl : Cond.methodLink own index x ∈ TB) (hsm : Cond.sameMethod x.cls owner x.name x.desc ∈ TB) (hsel : Cond.selects C x y ∈ TB) (hm : mV y bytes maxL ret n0) (hR : rm.frames + 1 ≤ R.frames ∧ 8 + (maxL + 11) + rm.locals ≤ R.locals) (hn : As.length = n0) (hst : st = As.reverse ++ .ref b :: rest) (hcat : (rest.map fun v => v.category).sum ≤ 8) (hdg : decode cc pc = .ok (.invokevirtual index, 3)) (hf : k + rm.cells ≤ R.cells ∧ n + rm.slots ≤ R.slots) (kk : ∀ (v : Option Value) (V' : HV), Po v V' → G l D Z b0 R own cc nL E T V' L (k + rm.cells) (n + rm.slots) (pc + 3) (v.toList ++ rest)) : G l D Z b0 R own cc nL E T V L k n pc st := by
  intro p e s m args below meth c H locs ls X hE hV hS hL T9 hT X9
  have hG : GoodIn TB (.code y bytes maxL ret :: TB) := TB_sub (TB_cons hm.1.2.2)
  have hts := X.2.2.2.2.1
  obtain ⟨v, st₀, t, T', L9, h0, X', hL9, e1, e2, ⟨⟨v', V', hv, hp, hb⟩, hz, hk⟩, stp⟩ := va_runU ⟨X.1, X.2.1, X.2.2.1, X.2.2.2.1, hts⟩ hM (va_cwU n0 hts (gU_ws hl hsm hsel hm.1.1 hm.1.2.1 hm.1.2.2) rfl rfl rfl hyx hx hR) ⟨kP.blind, va_recv X.2.2.2.2.2.1.1 (hV.one hb) (ci := ci) (q0 := 0) hc rfl, fun U hU hW => ⟨rfl, by rw [hU]; exact hV, X.2.2.2.2.2.1.warm hW, by rw [hU]; exact Nat.le_trans X.2.2.2.2.2.2.1 hS.1⟩⟩ (g := F0 m pc ls st) (rest := rest) (cells := k) (slots := n) rfl hn hL.1 hst (lv_room (ls := ls) (rest := st) hcat) hdg hf T9 hT X9
  cases hv
  rw [h0] at hz hk
  obtain ⟨t2, a1, b1⟩ := kk v V' hp p e s m args below meth c T'.heap (locs ++ L9) ls X hE (by rw [e1]; exact hb) ⟨Nat.le_trans hS.1 (by rw [e1]; exact hz), fun q h1 h2 => by rw [e1, hk q (Nat.lt_of_lt_of_le h1 hS.1) h2]; exact hS.2.1 q h1 h2, fun q hq => by
      rcases List.mem_append.mp hq with h | h
      · exact hS.2.2 q h
      · exact hL9 q h⟩ hL T' rfl X'
  exact ⟨t2, stp t2 a1, b1⟩
theorem g_callP {y : MethodName} {bytes : ByteArray} {maxL n0 index : Nat} {ret : Option FieldType} {rm : Room} {Po : Option Value → HV → Prop} {As st : List Value} {C : String} {b ci N : Nat} {F : u_T} {fs : List Value} (hb : V b = some (vO ci fs)) (hc : vwCl[ci]? = some (C, F, N)) (hx : y.name ≠ "<init>") (hM : KM l D Z b0 y bytes maxL ret rm (.ref b :: As) V Po) (hl : Cond.methodLink own index y ∈ TB) (hsm : Cond.sameMethod y.cls y.cls y.name y.desc ∈ TB) (hsup : Cond.superclass own y.cls ∈ TB) (hm : mV y bytes maxL ret n0) (hR : rm.frames + 1 ≤ R.frames ∧ 8 + (maxL + 11) + rm.locals ≤ R.locals) (hn : As.length = n0) (hst : st = As.reverse ++ .ref b :: rest) (hcat : (rest.map fun v => v.category).sum ≤ 8) (hdg : decode cc pc = .ok (.invokespecial index, 3)) (hf : k + rm.cells ≤ R.cells ∧ n + rm.slots ≤ R.slots) (kk : ∀ (v : Option Value) (V' : HV), Po v V' → G l D Z b0 R own cc nL E T V' L (k + rm.cells) (n + rm.slots) (pc + 3) (v.toList ++ rest)) : G l D Z b0 R own cc nL E T V L k n pc st := by
  intro p e s m args below meth c H locs ls X hE hV hS hL T9 hT X9
  have hG : GoodIn TB (.code y bytes maxL ret :: TB) := TB_sub (TB_cons hm.1.2.2)
  have hts := X.2.2.2.2.1
  obtain ⟨v, st₀, t, T', L9, h0, X', hL9, e1, e2, ⟨⟨v', V', hv, hp, hb⟩, hz, hk⟩, stp⟩ := va_runSU ((X.2.2.2.2.2.1.1.1 ci _ hc).2) ⟨X.1, X.2.1, X.2.2.1, X.2.2.2.1, hts⟩ hM (va_cwSU n0 hts (gP_ws hl hsm hsup hm.1.1 hm.1.2.1 hm.1.2.2) rfl rfl rfl ⟨hx, hm.2.2.2⟩ hR) ⟨kP.blind, va_recv X.2.2.2.2.2.1.1 (hV.one hb) (ci := ci) (q0 := 0) hc rfl, fun U hU hW => ⟨rfl, by rw [hU]; exact hV, X.2.2.2.2.2.1.warm hW, by rw [hU]; exact Nat.le_trans X.2.2.2.2.2.2.1 hS.1⟩⟩ (g := F0 m pc ls st) (rest := rest) (cells := k) (slots := n) rfl hn hL.1 hst (lv_room (ls := ls) (rest := st) hcat) hdg hf T9 hT X9
  cases hv
  rw [h0] at hz hk
  obtain ⟨t2, a1, b1⟩ := kk v V' hp p e s m args below meth c T'.heap (locs ++ L9) ls X hE (by rw [e1]; exact hb) ⟨Nat.le_trans hS.1 (by rw [e1]; exact hz), fun q h1 h2 => by rw [e1, hk q (Nat.lt_of_lt_of_le h1 hS.1) h2]; exact hS.2.1 q h1 h2, fun q hq => by
      rcases List.mem_append.mp hq with h | h
      · exact hS.2.2 q h
      · exact hL9 q h⟩ hL T' rfl X'
  exact ⟨t2, stp t2 a1, b1⟩
theorem g_iret {Po : Option Value → HV → Prop} {nm : String} {mc ms : Nat} {v : Int32} (hk : k ≤ mc) (hn : n ≤ ms) (hp : Po (some (.int v)) V) (hdg : decode cc pc = .ok (.ireturn, 1)) : G l D Z b0 R own cc nL (gE (some .int) nm) (gT D b0 Po mc ms) V L k n pc [.int v] := fun p e s m args below meth c H locs ls X hE hV hS hL => W.widen hk hn (W.iret X.1 X.2.1 hE.1 (fun t ht hW => ⟨⟨_, V, rfl, hp, by rw [ht]; exact hV⟩, hS.F ht⟩) hS.2.2 hdg X.2.2.2.2.2.2.2)
theorem g_zret {Po : Option Value → HV → Prop} {nm : String} {mc ms : Nat} {v : Int32} (hz : narrow .boolean (.int v) = .int v) (hk : k ≤ mc) (hn : n ≤ ms) (hp : Po (some (.int v)) V) (hdg : decode cc pc = .ok (.ireturn, 1)) : G l D Z b0 R own cc nL (gE (some .boolean) nm) (gT D b0 Po mc ms) V L k n pc [.int v] := fun p e s m args below meth c H locs ls X hE hV hS hL => W.widen hk hn (W.zret X.1 X.2.1 hE.1 hz (fun t ht hW => ⟨⟨_, V, rfl, hp, by rw [ht]; exact hV⟩, hS.F ht⟩) hS.2.2 hdg X.2.2.2.2.2.2.2)
theorem g_vret {Po : Option Value → HV → Prop} {nm : String} {mc ms : Nat} (hk : k ≤ mc) (hn : n ≤ ms) (hp : Po (none) V) (hdg : decode cc pc = .ok (.return_, 1)) : G l D Z b0 R own cc nL (gE (none) nm) (gT D b0 Po mc ms) V L k n pc [] := fun p e s m args below meth c H locs ls X hE hV hS hL => W.widen hk hn (W.vret X.1 X.2.1 hE.1 (fun t ht hW => ⟨⟨_, V, rfl, hp, by rw [ht]; exact hV⟩, hS.F ht⟩) hS.2.2 hdg X.2.2.2.2.2.2.2)
theorem g_lret {Po : Option Value → HV → Prop} {nm : String} {mc ms : Nat} {v : Int64} (hk : k ≤ mc) (hn : n ≤ ms) (hp : Po (some (.long v)) V) (hdg : decode cc pc = .ok (.lreturn, 1)) : G l D Z b0 R own cc nL (gE (some .long) nm) (gT D b0 Po mc ms) V L k n pc [.long v] := fun p e s m args below meth c H locs ls X hE hV hS hL => W.widen hk hn (W.lret X.1 X.2.1 hE.1 (fun t ht hW => ⟨⟨_, V, rfl, hp, by rw [ht]; exact hV⟩, hS.F ht⟩) hS.2.2 hdg X.2.2.2.2.2.2.2)
theorem g_aret {Po : Option Value → HV → Prop} {nm : String} {mc ms : Nat} {v : Value} {C : String} (hv : v = .null ∨ ∃ a, v = .ref a) (hk : k ≤ mc) (hn : n ≤ ms) (hp : Po (some v) V) (hdg : decode cc pc = .ok (.areturn, 1)) : G l D Z b0 R own cc nL (gE (some (.object C)) nm) (gT D b0 Po mc ms) V L k n pc [v] := fun p e s m args below meth c H locs ls X hE hV hS hL => W.widen hk hn (W.aret X.1 X.2.1 hE.1 (Or.inl ⟨C, rfl⟩) hv (fun t ht hW => ⟨⟨_, V, rfl, hp, by rw [ht]; exact hV⟩, hS.F ht⟩) hS.2.2 hdg X.2.2.2.2.2.2.2)
end GR
