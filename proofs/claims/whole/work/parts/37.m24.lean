def Ext (V V2 : HV) : Prop := ∀ q e, V q = some e → V2 q = some e
theorem Ext.refl (V : HV) : Ext V V := fun _ _ h => h
theorem Ext.new {Vb V : HV} {a : Nat} {e : va_E} (h : Ext Vb V) (ha : V a = none) : Ext Vb (upv V a e) := fun q x hq => by
  have h1 := h q x hq
  rw [upv_ne (fun z => by subst z; rw [h1] at ha; cases ha)]; exact h1
/-- the shelves of both sides -/
def Sh (V : HV) (KR : Nat → Option Nat) (SO : Nat → Int32) (SZ : Nat → Nat) (EL : Nat → Nat → Int32) (kp so sz : Nat → Nat) (el ki kf : Nat → Int32) : Prop := ∀ d, d < 8 →
  (kp d = 0 ∧ KR d = none ∧ SO d = (-1)) ∨
  (kp d = 1 ∧ (∃ a q f, KR d = some a ∧ Rk V a q f ∧ ki d = nI q ∧ kf d = nI f) ∧ SO d = (-1)) ∨
  (kp d = 2 ∧ KR d = none ∧ SO d = nI (so d) ∧ so d < 3 ∧ SZ d = sz d ∧ sz d ≤ 100 ∧ ∀ i, i < sz d → EL d i = el (100 * d + i))
theorem Sh.new {V : HV} {KR : Nat → Option Nat} {SO : Nat → Int32} {SZ : Nat → Nat} {EL : Nat → Nat → Int32} {kp so sz : Nat → Nat} {el ki kf : Nat → Int32} {a : Nat} {e : va_E} (h : Sh V KR SO SZ EL kp so sz el ki kf) (ha : V a = none) : Sh (upv V a e) KR SO SZ EL kp so sz el ki kf := fun d hd => by
  rcases h d hd with q | ⟨q1, ⟨b, x, f, q2, q3, q4, q5⟩, q6⟩ | q
  · exact Or.inl q
  · exact Or.inr (Or.inl ⟨q1, ⟨b, x, f, q2, q3.new ha, q4, q5⟩, q6⟩)
  · exact Or.inr (Or.inr q)
theorem gC {Po : Option Value → HV → Prop} {a b : Int32} {P : HV → Prop} {V : HV} (h : ∀ v V', (v = some (.int a) ∧ P V') → Po v V') (e : a = b) (hp : P V) : Po (some (.int b)) V := h _ _ ⟨by rw [e], hp⟩
def CH (b0 : Nat) (cd : Nat → Nat) (Vb V : HV) (ugA ugB : Nat) (rA rC : Nat → Nat) (kd fg pl ikd ifg ipl : Nat → Nat) (KR : Nat → Option Nat) (SO : Nat → Int32) (SZ : Nat → Nat) (EL : Nat → Nat → Int32) (kp so sz : Nat → Nat) (el ki kf : Nat → Int32) : Prop := oC b0 cd V ∧ Ext Vb V ∧ Rk V ugA 7 0 ∧ Rk V ugB 7 0 ∧ mo V rA kd fg ∧ mo V rC ikd ifg ∧ (∀ g, g < 2 → pl g < 20) ∧ (∀ g, g < 2 → ipl g < 20) ∧ Sh V KR SO SZ EL kp so sz el ki kf
def CI (Z : Nat → ClassId) (b0 : Nat) (cd : Nat → Nat) (Vb : HV) (ik : Int32) (kd fg pl : Nat → Nat) (hr : Nat → Int32) (ikd ifg ipl : Nat → Nat) (ihr : Nat → Int32) (kp so sz : Nat → Nat) (el ki kf : Nat → Int32) (V2 : HV) : Prop := ∃ (ugA : Nat) (ugB : Nat) (ugC : Nat) (rA : Nat → Nat) (rB : Nat → Nat) (pB : Nat → Int32) (tB : Nat → Int32) (rC : Nat → Nat) (cX : Nat → Int32) (lX : Nat → Int32) (oX : Nat → Int32) (nX : Nat → Int32) (sX : Nat → Int32) (zX : Nat → Int32) (cY : Nat → Int32) (lY : Nat → Int32) (oY : Nat → Int32) (nY : Nat → Int32) (sY : Nat → Int32) (zY : Nat → Int32) (tm : Nat → Int32) (cl : Nat → Int32) (KR : Nat → Option Nat) (SO : Nat → Int32) (SZ : Nat → Nat) (EL : Nat → Nat → Int32) (V : HV), V2 = wC Z cd ik ugA ugB ugC rA (nf pl) hr rB pB tB rC (nf ipl) ihr cX lX oX nX sX zX cY lY oY nY sY zY tm cl KR SO SZ EL V ∧ CH b0 cd Vb V ugA ugB rA rC kd fg pl ikd ifg ipl KR SO SZ EL kp so sz el ki kf
theorem CI.mk {ugA : Nat} {ugB : Nat} {ugC : Nat} {rA : Nat → Nat} {rB : Nat → Nat} {pB : Nat → Int32} {tB : Nat → Int32} {rC : Nat → Nat} {cX : Nat → Int32} {lX : Nat → Int32} {oX : Nat → Int32} {nX : Nat → Int32} {sX : Nat → Int32} {zX : Nat → Int32} {cY : Nat → Int32} {lY : Nat → Int32} {oY : Nat → Int32} {nY : Nat → Int32} {sY : Nat → Int32} {zY : Nat → Int32} {tm : Nat → Int32} {cl : Nat → Int32} {KR : Nat → Option Nat} {SO : Nat → Int32} {SZ : Nat → Nat} {EL : Nat → Nat → Int32} {Vb V : HV} {kd fg pl ikd ifg ipl : Nat → Nat} {hr ihr : Nat → Int32} {kp so sz : Nat → Nat} {el ki kf : Nat → Int32} {Z : Nat → ClassId} {b0 : Nat} {cd : Nat → Nat} {ik : Int32} (h : CH b0 cd Vb V ugA ugB rA rC kd fg pl ikd ifg ipl KR SO SZ EL kp so sz el ki kf) : CI Z b0 cd Vb ik kd fg pl hr ikd ifg ipl ihr kp so sz el ki kf (wC Z cd ik ugA ugB ugC rA (nf pl) hr rB pB tB rC (nf ipl) ihr cX lX oX nX sX zX cY lY oY nY sY zY tm cl KR SO SZ EL V) := ⟨ugA, ugB, ugC, rA, rB, pB, tB, rC, cX, lX, oX, nX, sX, zX, cY, lY, oY, nY, sY, zY, tm, cl, KR, SO, SZ, EL, V, rfl, h⟩
section MS
variable {l : Launch} {D : va_G} {Z : Nat → ClassId} {b0 : Nat} {cd : Nat → Nat} {ik : Int32} {ugA ugB ugC : Nat} {rA : Nat → Nat} {pA tA : Nat → Int32} {rB : Nat → Nat} {pB tB : Nat → Int32} {rC : Nat → Nat} {pC tC cX lX oX nX sX zX cY lY oY nY sY zY tm cl : Nat → Int32} {KR : Nat → Option Nat} {SO : Nat → Int32} {SZ : Nat → Nat} {EL : Nat → Nat → Int32} {V Vb : HV} {kd fg pl ikd ifg ipl kp so sz : Nat → Nat} {hr ihr el ki kf : Nat → Int32}
def rmX11_rockOn : Room := { frames := 1, cells := 0, slots := 0, locals := 21 }
set_option maxHeartbeats 8000000 in
theorem c_X11_rockOn_N {d : Nat} (hA : oC b0 cd V) (hd : d < 8) (hk : KR d = none) : KE l D Z b0 yX11_rockOn cX11_rockOn 2 (some (.object "KnocksThroughRock$Rock")) rmX11_rockOn [.ref (cd 0), .int (nI d)] (wC Z cd ik ugA ugB ugC rA pA tA rB pB tB rC pC tC cX lX oX nX sX zX cY lY oY nY sY zY tm cl KR SO SZ EL V) (some (.null)) (wC Z cd ik ugA ugB ugC rA pA tA rB pB tB rC pC tC cX lX oX nX sX zX cY lY oY nY sY zY tm cl KR SO SZ EL V) := by
  refine KE.of (by decide) (Nat.le_of_ble_eq_true rfl) (fun Po hPo => ?_)
  refine G.locals (L' := [(0, .ref (cd 0)), (1, .int (nI d))]) [0, 1] rfl ?_
  refine g_iload_n (q := 1) (pc := 0) dX11_rockOn_0 rfl rfl ?_
  refine g_bipush (v := nI 8) (pc := 1) dX11_rockOn_1 (by decide) ?_
  refine e_callS (k2 := 0) (n2 := 0) (As := [.int (nI d), .int (nI 8)]) (rest := []) (pc := 3) (c_X11_isBelowN (by decide) (by omega)) mlX11_69 mX11_isBelow ⟨Nat.le_of_ble_eq_true rfl, Nat.le_of_ble_eq_true rfl⟩ rfl rfl (Nat.le_of_ble_eq_true rfl) dX11_rockOn_3 (by decide) rfl rfl ?_
  refine g_if_eq_B (tgt := 21) (pc := 6) dX11_rockOn_6 (by decide) (fun c1 => ?_) (fun c1 => ?_)
  · -- T c1
    exact absurd (of_decide_eq_false c1) (by omega)
  · -- F c1
    have c1 := of_decide_eq_true c1
    refine g_aload_n (q := 0) (pc := 9) dX11_rockOn_9 rfl rfl ?_
    refine gc_get_O_shelves (pc := 10) hA flX11_28 dX11_rockOn_10 ?_
    refine g_iload_n (q := 1) (pc := 13) dX11_rockOn_13 rfl rfl ?_
    refine gc_ld_SH (pc := 14) (d := d) hA (by omega) dX11_rockOn_14 ?_
    refine gc_get_S_rockN (pc := 15) (d := d) hA (by omega) hk flX11_280 dX11_rockOn_15 ?_
    refine g_goto (tgt := 22) (pc := 18) dX11_rockOn_18 (by decide) ?_
    exact g_aret (pc := 22) (Or.inl rfl) (by decide) (by decide) (hPo) dX11_rockOn_22
set_option maxHeartbeats 8000000 in
theorem c_X11_rockOn_R {d a : Nat} (hA : oC b0 cd V) (hd : d < 8) (hk : KR d = some a) : KE l D Z b0 yX11_rockOn cX11_rockOn 2 (some (.object "KnocksThroughRock$Rock")) rmX11_rockOn [.ref (cd 0), .int (nI d)] (wC Z cd ik ugA ugB ugC rA pA tA rB pB tB rC pC tC cX lX oX nX sX zX cY lY oY nY sY zY tm cl KR SO SZ EL V) (some (.ref a)) (wC Z cd ik ugA ugB ugC rA pA tA rB pB tB rC pC tC cX lX oX nX sX zX cY lY oY nY sY zY tm cl KR SO SZ EL V) := by
  refine KE.of (by decide) (Nat.le_of_ble_eq_true rfl) (fun Po hPo => ?_)
  refine G.locals (L' := [(0, .ref (cd 0)), (1, .int (nI d))]) [0, 1] rfl ?_
  refine g_iload_n (q := 1) (pc := 0) dX11_rockOn_0 rfl rfl ?_
  refine g_bipush (v := nI 8) (pc := 1) dX11_rockOn_1 (by decide) ?_
  refine e_callS (k2 := 0) (n2 := 0) (As := [.int (nI d), .int (nI 8)]) (rest := []) (pc := 3) (c_X11_isBelowN (by decide) (by omega)) mlX11_69 mX11_isBelow ⟨Nat.le_of_ble_eq_true rfl, Nat.le_of_ble_eq_true rfl⟩ rfl rfl (Nat.le_of_ble_eq_true rfl) dX11_rockOn_3 (by decide) rfl rfl ?_
  refine g_if_eq_B (tgt := 21) (pc := 6) dX11_rockOn_6 (by decide) (fun c1 => ?_) (fun c1 => ?_)
  · -- T c1
    exact absurd (of_decide_eq_false c1) (by omega)
  · -- F c1
    have c1 := of_decide_eq_true c1
    refine g_aload_n (q := 0) (pc := 9) dX11_rockOn_9 rfl rfl ?_
    refine gc_get_O_shelves (pc := 10) hA flX11_28 dX11_rockOn_10 ?_
    refine g_iload_n (q := 1) (pc := 13) dX11_rockOn_13 rfl rfl ?_
    refine gc_ld_SH (pc := 14) (d := d) hA (by omega) dX11_rockOn_14 ?_
    refine gc_get_S_rockR (pc := 15) (a := a) (d := d) hA (by omega) hk flX11_280 dX11_rockOn_15 ?_
    refine g_goto (tgt := 22) (pc := 18) dX11_rockOn_18 (by decide) ?_
    exact g_aret (pc := 22) (Or.inr ⟨_, rfl⟩) (by decide) (by decide) (hPo) dX11_rockOn_22
set_option maxHeartbeats 8000000 in
theorem c_X11_rockOn_o {d : Int32} (hA : oC b0 cd V) (ho : inR d 8 = false) : KE l D Z b0 yX11_rockOn cX11_rockOn 2 (some (.object "KnocksThroughRock$Rock")) rmX11_rockOn [.ref (cd 0), .int d] (wC Z cd ik ugA ugB ugC rA pA tA rB pB tB rC pC tC cX lX oX nX sX zX cY lY oY nY sY zY tm cl KR SO SZ EL V) (some (.null)) (wC Z cd ik ugA ugB ugC rA pA tA rB pB tB rC pC tC cX lX oX nX sX zX cY lY oY nY sY zY tm cl KR SO SZ EL V) := by
  refine KE.of (by decide) (Nat.le_of_ble_eq_true rfl) (fun Po hPo => ?_)
  refine G.locals (L' := [(0, .ref (cd 0)), (1, .int d)]) [0, 1] rfl ?_
  refine g_iload_n (q := 1) (pc := 0) dX11_rockOn_0 rfl rfl ?_
  refine g_bipush (v := nI 8) (pc := 1) dX11_rockOn_1 (by decide) ?_
  refine e_callS (k2 := 0) (n2 := 0) (As := [.int d, .int (nI 8)]) (rest := []) (pc := 3) (c_X11_isBelow (by decide)) mlX11_69 mX11_isBelow ⟨Nat.le_of_ble_eq_true rfl, Nat.le_of_ble_eq_true rfl⟩ rfl rfl (Nat.le_of_ble_eq_true rfl) dX11_rockOn_3 (by decide) rfl rfl ?_
  refine g_if_eq_B (tgt := 21) (pc := 6) dX11_rockOn_6 (by decide) (fun c1 => ?_) (fun c1 => ?_)
  · -- T c1
    refine g_null (pc := 21) dX11_rockOn_21 ?_
    exact g_aret (pc := 22) (Or.inl rfl) (by decide) (by decide) (hPo) dX11_rockOn_22
  · -- F c1
    rw [ho] at c1; cases c1
def rmX11_rowOn : Room := { frames := 1, cells := 0, slots := 0, locals := 21 }
set_option maxHeartbeats 8000000 in
theorem c_X11_rowOn_e {d : Nat} (hA : oC b0 cd V) (hd : d < 8) (hs : SO d = (-1)) : KE l D Z b0 yX11_rowOn cX11_rowOn 2 (some (.object "KnocksThroughRock$Shelf")) rmX11_rowOn [.ref (cd 0), .int (nI d)] (wC Z cd ik ugA ugB ugC rA pA tA rB pB tB rC pC tC cX lX oX nX sX zX cY lY oY nY sY zY tm cl KR SO SZ EL V) (some (.null)) (wC Z cd ik ugA ugB ugC rA pA tA rB pB tB rC pC tC cX lX oX nX sX zX cY lY oY nY sY zY tm cl KR SO SZ EL V) := by
  refine KE.of (by decide) (Nat.le_of_ble_eq_true rfl) (fun Po hPo => ?_)
  refine G.locals (L' := [(0, .ref (cd 0)), (1, .int (nI d))]) [0, 1] rfl ?_
  refine g_iload_n (q := 1) (pc := 0) dX11_rowOn_0 rfl rfl ?_
  refine g_bipush (v := nI 8) (pc := 1) dX11_rowOn_1 (by decide) ?_
  refine e_callS (k2 := 0) (n2 := 0) (As := [.int (nI d), .int (nI 8)]) (rest := []) (pc := 3) (c_X11_isBelowN (by decide) (by omega)) mlX11_69 mX11_isBelow ⟨Nat.le_of_ble_eq_true rfl, Nat.le_of_ble_eq_true rfl⟩ rfl rfl (Nat.le_of_ble_eq_true rfl) dX11_rowOn_3 (by decide) rfl rfl ?_
  refine g_if_eq_B (tgt := 31) (pc := 6) dX11_rowOn_6 (by decide) (fun c1 => ?_) (fun c1 => ?_)
  · -- T c1
    exact absurd (of_decide_eq_false c1) (by omega)
  · -- F c1
    have c1 := of_decide_eq_true c1
    refine g_aload_n (q := 0) (pc := 9) dX11_rowOn_9 rfl rfl ?_
    refine gc_get_O_shelves (pc := 10) hA flX11_28 dX11_rowOn_10 ?_
    refine g_iload_n (q := 1) (pc := 13) dX11_rowOn_13 rfl rfl ?_
    refine gc_ld_SH (pc := 14) (d := d) hA (by omega) dX11_rowOn_14 ?_
    refine gc_get_S_sortx (pc := 15) (x := (-1)) (d := d) hA (by omega) hs flX11_234 dX11_rowOn_15 ?_
    refine g_iconst (v := (-1)) (pc := 18) dX11_rowOn_18 (by decide) ?_
    refine g_icmp_eq (tgt := 31) (pc := 19) dX11_rowOn_19 (by decide) (fun c2 => ?_) (fun c2 => ?_)
    · -- T c2
      refine g_null (pc := 31) dX11_rowOn_31 ?_
      exact g_aret (pc := 32) (Or.inl rfl) (by decide) (by decide) (hPo) dX11_rowOn_32
    · -- F c2
      exact absurd rfl c2
set_option maxHeartbeats 8000000 in
theorem c_X11_rowOn_s {d s : Nat} (hA : oC b0 cd V) (hd : d < 8) (hs : SO d = nI s) (h3 : s < 3) : KE l D Z b0 yX11_rowOn cX11_rowOn 2 (some (.object "KnocksThroughRock$Shelf")) rmX11_rowOn [.ref (cd 0), .int (nI d)] (wC Z cd ik ugA ugB ugC rA pA tA rB pB tB rC pC tC cX lX oX nX sX zX cY lY oY nY sY zY tm cl KR SO SZ EL V) (some (.ref (cd (30 + d)))) (wC Z cd ik ugA ugB ugC rA pA tA rB pB tB rC pC tC cX lX oX nX sX zX cY lY oY nY sY zY tm cl KR SO SZ EL V) := by
  refine KE.of (by decide) (Nat.le_of_ble_eq_true rfl) (fun Po hPo => ?_)
  refine G.locals (L' := [(0, .ref (cd 0)), (1, .int (nI d))]) [0, 1] rfl ?_
  refine g_iload_n (q := 1) (pc := 0) dX11_rowOn_0 rfl rfl ?_
  refine g_bipush (v := nI 8) (pc := 1) dX11_rowOn_1 (by decide) ?_
  refine e_callS (k2 := 0) (n2 := 0) (As := [.int (nI d), .int (nI 8)]) (rest := []) (pc := 3) (c_X11_isBelowN (by decide) (by omega)) mlX11_69 mX11_isBelow ⟨Nat.le_of_ble_eq_true rfl, Nat.le_of_ble_eq_true rfl⟩ rfl rfl (Nat.le_of_ble_eq_true rfl) dX11_rowOn_3 (by decide) rfl rfl ?_
  refine g_if_eq_B (tgt := 31) (pc := 6) dX11_rowOn_6 (by decide) (fun c1 => ?_) (fun c1 => ?_)
  · -- T c1
    exact absurd (of_decide_eq_false c1) (by omega)
  · -- F c1
    have c1 := of_decide_eq_true c1
    refine g_aload_n (q := 0) (pc := 9) dX11_rowOn_9 rfl rfl ?_
    refine gc_get_O_shelves (pc := 10) hA flX11_28 dX11_rowOn_10 ?_
    refine g_iload_n (q := 1) (pc := 13) dX11_rowOn_13 rfl rfl ?_
    refine gc_ld_SH (pc := 14) (d := d) hA (by omega) dX11_rowOn_14 ?_
    refine gc_get_S_sortx (pc := 15) (x := nI s) (d := d) hA (by omega) hs flX11_234 dX11_rowOn_15 ?_
    refine g_iconst (v := (-1)) (pc := 18) dX11_rowOn_18 (by decide) ?_
    refine g_icmp_eq (tgt := 31) (pc := 19) dX11_rowOn_19 (by decide) (fun c2 => ?_) (fun c2 => ?_)
    · -- T c2
      exact absurd c2 (nI_m1 (by omega))
    · -- F c2
      refine g_aload_n (q := 0) (pc := 22) dX11_rowOn_22 rfl rfl ?_
      refine gc_get_O_shelves (pc := 23) hA flX11_28 dX11_rowOn_23 ?_
      refine g_iload_n (q := 1) (pc := 26) dX11_rowOn_26 rfl rfl ?_
      refine gc_ld_SH (pc := 27) (d := d) hA (by omega) dX11_rowOn_27 ?_
      refine g_goto (tgt := 32) (pc := 28) dX11_rowOn_28 (by decide) ?_
      exact g_aret (pc := 32) (Or.inr ⟨_, rfl⟩) (by decide) (by decide) (hPo) dX11_rowOn_32
set_option maxHeartbeats 8000000 in
theorem c_X11_rowOn_o {d : Int32} (hA : oC b0 cd V) (ho : inR d 8 = false) : KE l D Z b0 yX11_rowOn cX11_rowOn 2 (some (.object "KnocksThroughRock$Shelf")) rmX11_rowOn [.ref (cd 0), .int d] (wC Z cd ik ugA ugB ugC rA pA tA rB pB tB rC pC tC cX lX oX nX sX zX cY lY oY nY sY zY tm cl KR SO SZ EL V) (some (.null)) (wC Z cd ik ugA ugB ugC rA pA tA rB pB tB rC pC tC cX lX oX nX sX zX cY lY oY nY sY zY tm cl KR SO SZ EL V) := by
  refine KE.of (by decide) (Nat.le_of_ble_eq_true rfl) (fun Po hPo => ?_)
  refine G.locals (L' := [(0, .ref (cd 0)), (1, .int d)]) [0, 1] rfl ?_
  refine g_iload_n (q := 1) (pc := 0) dX11_rowOn_0 rfl rfl ?_
  refine g_bipush (v := nI 8) (pc := 1) dX11_rowOn_1 (by decide) ?_
  refine e_callS (k2 := 0) (n2 := 0) (As := [.int d, .int (nI 8)]) (rest := []) (pc := 3) (c_X11_isBelow (by decide)) mlX11_69 mX11_isBelow ⟨Nat.le_of_ble_eq_true rfl, Nat.le_of_ble_eq_true rfl⟩ rfl rfl (Nat.le_of_ble_eq_true rfl) dX11_rowOn_3 (by decide) rfl rfl ?_
  refine g_if_eq_B (tgt := 31) (pc := 6) dX11_rowOn_6 (by decide) (fun c1 => ?_) (fun c1 => ?_)
  · -- T c1
    refine g_null (pc := 31) dX11_rowOn_31 ?_
    exact g_aret (pc := 32) (Or.inl rfl) (by decide) (by decide) (hPo) dX11_rowOn_32
  · -- F c1
    rw [ho] at c1; cases c1
def rmX11_rowOn_ : Room := { frames := 2, cells := 0, slots := 0, locals := 42 }
set_option maxHeartbeats 8000000 in
theorem c_X11_rowOn__e {d r : Nat} (hA : oC b0 cd V) (hd : d < 8) (hs : SO d = (-1)) : KE l D Z b0 yX11_rowOn_ cX11_rowOn_ 4 (some (.object "KnocksThroughRock$Shelf")) rmX11_rowOn_ [.ref (cd 0), .int (nI d), .int (nI r)] (wC Z cd ik ugA ugB ugC rA pA tA rB pB tB rC pC tC cX lX oX nX sX zX cY lY oY nY sY zY tm cl KR SO SZ EL V) (some (.null)) (wC Z cd ik ugA ugB ugC rA pA tA rB pB tB rC pC tC cX lX oX nX sX zX cY lY oY nY sY zY tm cl KR SO SZ EL V) := by
  refine KE.of (by decide) (Nat.le_of_ble_eq_true rfl) (fun Po hPo => ?_)
  refine G.locals (L' := [(0, .ref (cd 0)), (1, .int (nI d)), (2, .int (nI r))]) [0, 1, 2] rfl ?_
  refine g_aload_n (q := 0) (pc := 0) dX11_rowOn__0 rfl rfl ?_
  refine g_iload_n (q := 1) (pc := 1) dX11_rowOn__1 rfl rfl ?_
  refine e_callV (k2 := 0) (n2 := 0) (As := [.int (nI d)]) (rest := []) (pc := 2) (wC_0 hA) rfl (c_X11_rowOn_e hA hd hs) mlX11_197 selX11_X11_rowOn_X11_rowOn mX11_rowOn ⟨Nat.le_of_ble_eq_true rfl, Nat.le_of_ble_eq_true rfl⟩ rfl rfl (Nat.le_of_ble_eq_true rfl) dX11_rowOn__2 (by decide) rfl rfl ?_
  refine g_astore_nN (lv' := [(3, .null), (0, .ref (cd 0)), (1, .int (nI d)), (2, .int (nI r))]) (pc := 5) dX11_rowOn__5 rfl (by decide) rfl ?_
  refine g_aload_nN (q := 0) (pc := 6) dX11_rowOn__6 rfl rfl ?_
  refine g_ifnullN (tgt := 22) (pc := 7) dX11_rowOn__7 (by decide) ?_
  refine g_null (pc := 22) dX11_rowOn__22 ?_
  exact g_aret (pc := 23) (Or.inl rfl) (by decide) (by decide) (hPo) dX11_rowOn__23
set_option maxHeartbeats 8000000 in
theorem c_X11_rowOn__s {d s r : Nat} (hA : oC b0 cd V) (hd : d < 8) (hs : SO d = nI s) (h3 : s < 3) (hr : s = r) : KE l D Z b0 yX11_rowOn_ cX11_rowOn_ 4 (some (.object "KnocksThroughRock$Shelf")) rmX11_rowOn_ [.ref (cd 0), .int (nI d), .int (nI r)] (wC Z cd ik ugA ugB ugC rA pA tA rB pB tB rC pC tC cX lX oX nX sX zX cY lY oY nY sY zY tm cl KR SO SZ EL V) (some (.ref (cd (30 + d)))) (wC Z cd ik ugA ugB ugC rA pA tA rB pB tB rC pC tC cX lX oX nX sX zX cY lY oY nY sY zY tm cl KR SO SZ EL V) := by
  refine KE.of (by decide) (Nat.le_of_ble_eq_true rfl) (fun Po hPo => ?_)
  refine G.locals (L' := [(0, .ref (cd 0)), (1, .int (nI d)), (2, .int (nI r))]) [0, 1, 2] rfl ?_
  refine g_aload_n (q := 0) (pc := 0) dX11_rowOn__0 rfl rfl ?_
  refine g_iload_n (q := 1) (pc := 1) dX11_rowOn__1 rfl rfl ?_
  refine e_callV (k2 := 0) (n2 := 0) (As := [.int (nI d)]) (rest := []) (pc := 2) (wC_0 hA) rfl (c_X11_rowOn_s hA hd hs h3) mlX11_197 selX11_X11_rowOn_X11_rowOn mX11_rowOn ⟨Nat.le_of_ble_eq_true rfl, Nat.le_of_ble_eq_true rfl⟩ rfl rfl (Nat.le_of_ble_eq_true rfl) dX11_rowOn__2 (by decide) rfl rfl ?_
  refine g_astore_n (lv' := [(3, .ref (cd (30 + d))), (0, .ref (cd 0)), (1, .int (nI d)), (2, .int (nI r))]) (pc := 5) dX11_rowOn__5 rfl (by decide) rfl ?_
  refine g_aload_n (q := 0) (pc := 6) dX11_rowOn__6 rfl rfl ?_
  refine g_ifnull (pc := 7) dX11_rowOn__7 ?_
  refine g_aload_n (q := 0) (pc := 10) dX11_rowOn__10 rfl rfl ?_
  refine gc_get_S_sortx (pc := 11) (x := nI s) (d := d) hA (by omega) hs flX11_234 dX11_rowOn__11 ?_
  refine g_iload_n (q := 3) (pc := 14) dX11_rowOn__14 rfl rfl ?_
  refine g_icmp_ne_N (tgt := 22) (pc := 15) (by omega) (by omega) dX11_rowOn__15 (by decide) (fun c1 => ?_) (fun c1 => ?_)
  · -- T c1
    exact absurd hr c1
  · -- F c1
    refine g_aload_n (q := 0) (pc := 18) dX11_rowOn__18 rfl rfl ?_
    refine g_goto (tgt := 23) (pc := 19) dX11_rowOn__19 (by decide) ?_
    exact g_aret (pc := 23) (Or.inr ⟨_, rfl⟩) (by decide) (by decide) (hPo) dX11_rowOn__23
set_option maxHeartbeats 8000000 in
theorem c_X11_rowOn__x {d s r : Nat} (hA : oC b0 cd V) (hd : d < 8) (hs : SO d = nI s) (h3 : s < 3) (hr : ¬ s = r) (hr3 : r < 3) : KE l D Z b0 yX11_rowOn_ cX11_rowOn_ 4 (some (.object "KnocksThroughRock$Shelf")) rmX11_rowOn_ [.ref (cd 0), .int (nI d), .int (nI r)] (wC Z cd ik ugA ugB ugC rA pA tA rB pB tB rC pC tC cX lX oX nX sX zX cY lY oY nY sY zY tm cl KR SO SZ EL V) (some (.null)) (wC Z cd ik ugA ugB ugC rA pA tA rB pB tB rC pC tC cX lX oX nX sX zX cY lY oY nY sY zY tm cl KR SO SZ EL V) := by
  refine KE.of (by decide) (Nat.le_of_ble_eq_true rfl) (fun Po hPo => ?_)
  refine G.locals (L' := [(0, .ref (cd 0)), (1, .int (nI d)), (2, .int (nI r))]) [0, 1, 2] rfl ?_
  refine g_aload_n (q := 0) (pc := 0) dX11_rowOn__0 rfl rfl ?_
  refine g_iload_n (q := 1) (pc := 1) dX11_rowOn__1 rfl rfl ?_
  refine e_callV (k2 := 0) (n2 := 0) (As := [.int (nI d)]) (rest := []) (pc := 2) (wC_0 hA) rfl (c_X11_rowOn_s hA hd hs h3) mlX11_197 selX11_X11_rowOn_X11_rowOn mX11_rowOn ⟨Nat.le_of_ble_eq_true rfl, Nat.le_of_ble_eq_true rfl⟩ rfl rfl (Nat.le_of_ble_eq_true rfl) dX11_rowOn__2 (by decide) rfl rfl ?_
  refine g_astore_n (lv' := [(3, .ref (cd (30 + d))), (0, .ref (cd 0)), (1, .int (nI d)), (2, .int (nI r))]) (pc := 5) dX11_rowOn__5 rfl (by decide) rfl ?_
  refine g_aload_n (q := 0) (pc := 6) dX11_rowOn__6 rfl rfl ?_
  refine g_ifnull (pc := 7) dX11_rowOn__7 ?_
  refine g_aload_n (q := 0) (pc := 10) dX11_rowOn__10 rfl rfl ?_
  refine gc_get_S_sortx (pc := 11) (x := nI s) (d := d) hA (by omega) hs flX11_234 dX11_rowOn__11 ?_
  refine g_iload_n (q := 3) (pc := 14) dX11_rowOn__14 rfl rfl ?_
  refine g_icmp_ne_N (tgt := 22) (pc := 15) (by omega) (by omega) dX11_rowOn__15 (by decide) (fun c1 => ?_) (fun c1 => ?_)
  · -- T c1
    refine g_null (pc := 22) dX11_rowOn__22 ?_
    exact g_aret (pc := 23) (Or.inl rfl) (by decide) (by decide) (hPo) dX11_rowOn__23
  · -- F c1
    exact absurd c1 hr
set_option maxHeartbeats 8000000 in
theorem c_X11_rowOn__o {d : Int32} {r : Nat} (hA : oC b0 cd V) (ho : inR d 8 = false) : KE l D Z b0 yX11_rowOn_ cX11_rowOn_ 4 (some (.object "KnocksThroughRock$Shelf")) rmX11_rowOn_ [.ref (cd 0), .int d, .int (nI r)] (wC Z cd ik ugA ugB ugC rA pA tA rB pB tB rC pC tC cX lX oX nX sX zX cY lY oY nY sY zY tm cl KR SO SZ EL V) (some (.null)) (wC Z cd ik ugA ugB ugC rA pA tA rB pB tB rC pC tC cX lX oX nX sX zX cY lY oY nY sY zY tm cl KR SO SZ EL V) := by
  refine KE.of (by decide) (Nat.le_of_ble_eq_true rfl) (fun Po hPo => ?_)
  refine G.locals (L' := [(0, .ref (cd 0)), (1, .int d), (2, .int (nI r))]) [0, 1, 2] rfl ?_
  refine g_aload_n (q := 0) (pc := 0) dX11_rowOn__0 rfl rfl ?_
  refine g_iload_n (q := 1) (pc := 1) dX11_rowOn__1 rfl rfl ?_
  refine e_callV (k2 := 0) (n2 := 0) (As := [.int d]) (rest := []) (pc := 2) (wC_0 hA) rfl (c_X11_rowOn_o hA ho) mlX11_197 selX11_X11_rowOn_X11_rowOn mX11_rowOn ⟨Nat.le_of_ble_eq_true rfl, Nat.le_of_ble_eq_true rfl⟩ rfl rfl (Nat.le_of_ble_eq_true rfl) dX11_rowOn__2 (by decide) rfl rfl ?_
  refine g_astore_nN (lv' := [(3, .null), (0, .ref (cd 0)), (1, .int d), (2, .int (nI r))]) (pc := 5) dX11_rowOn__5 rfl (by decide) rfl ?_
  refine g_aload_nN (q := 0) (pc := 6) dX11_rowOn__6 rfl rfl ?_
  refine g_ifnullN (tgt := 22) (pc := 7) dX11_rowOn__7 (by decide) ?_
  refine g_null (pc := 22) dX11_rowOn__22 ?_
  exact g_aret (pc := 23) (Or.inl rfl) (by decide) (by decide) (hPo) dX11_rowOn__23
def rmX11_whyNot : Room := { frames := 1, cells := 0, slots := 0, locals := 21 }
set_option maxHeartbeats 8000000 in
theorem c_X11_whyNot_o {d : Int32} (hA : oC b0 cd V) (ho : inR d 8 = false) : KE l D Z b0 yX11_whyNot cX11_whyNot 2 (some .int) rmX11_whyNot [.ref (cd 0), .int d] (wC Z cd ik ugA ugB ugC rA pA tA rB pB tB rC pC tC cX lX oX nX sX zX cY lY oY nY sY zY tm cl KR SO SZ EL V) (some (.int (-1))) (wC Z cd ik ugA ugB ugC rA pA tA rB pB tB rC pC tC cX lX oX nX sX zX cY lY oY nY sY zY tm cl KR SO SZ EL V) := by
  refine KE.of (by decide) (Nat.le_of_ble_eq_true rfl) (fun Po hPo => ?_)
  refine G.locals (L' := [(0, .ref (cd 0)), (1, .int d)]) [0, 1] rfl ?_
  refine g_iload_n (q := 1) (pc := 0) dX11_whyNot_0 rfl rfl ?_
  refine g_bipush (v := nI 8) (pc := 1) dX11_whyNot_1 (by decide) ?_
  refine e_callS (k2 := 0) (n2 := 0) (As := [.int d, .int (nI 8)]) (rest := []) (pc := 3) (c_X11_isBelow (by decide)) mlX11_69 mX11_isBelow ⟨Nat.le_of_ble_eq_true rfl, Nat.le_of_ble_eq_true rfl⟩ rfl rfl (Nat.le_of_ble_eq_true rfl) dX11_whyNot_3 (by decide) rfl rfl ?_
  refine g_if_ne_B (tgt := 11) (pc := 6) dX11_whyNot_6 (by decide) (fun c1 => ?_) (fun c1 => ?_)
  · -- T c1
    rw [ho] at c1; cases c1
  · -- F c1
    refine g_iconst (v := (-1)) (pc := 9) dX11_whyNot_9 (by decide) ?_
    exact g_iret (pc := 10) (by decide) (by decide) (hPo) dX11_whyNot_10
set_option maxHeartbeats 8000000 in
theorem c_X11_whyNot_0 {d : Nat} (hA : oC b0 cd V) (hd : d < 8) (hk : KR d = none) (hs : SO d = (-1)) : KE l D Z b0 yX11_whyNot cX11_whyNot 2 (some .int) rmX11_whyNot [.ref (cd 0), .int (nI d)] (wC Z cd ik ugA ugB ugC rA pA tA rB pB tB rC pC tC cX lX oX nX sX zX cY lY oY nY sY zY tm cl KR SO SZ EL V) (some (.int (-11))) (wC Z cd ik ugA ugB ugC rA pA tA rB pB tB rC pC tC cX lX oX nX sX zX cY lY oY nY sY zY tm cl KR SO SZ EL V) := by
  refine KE.of (by decide) (Nat.le_of_ble_eq_true rfl) (fun Po hPo => ?_)
  refine G.locals (L' := [(0, .ref (cd 0)), (1, .int (nI d))]) [0, 1] rfl ?_
  refine g_iload_n (q := 1) (pc := 0) dX11_whyNot_0 rfl rfl ?_
  refine g_bipush (v := nI 8) (pc := 1) dX11_whyNot_1 (by decide) ?_
  refine e_callS (k2 := 0) (n2 := 0) (As := [.int (nI d), .int (nI 8)]) (rest := []) (pc := 3) (c_X11_isBelowN (by decide) (by omega)) mlX11_69 mX11_isBelow ⟨Nat.le_of_ble_eq_true rfl, Nat.le_of_ble_eq_true rfl⟩ rfl rfl (Nat.le_of_ble_eq_true rfl) dX11_whyNot_3 (by decide) rfl rfl ?_
  refine g_if_ne_B (tgt := 11) (pc := 6) dX11_whyNot_6 (by decide) (fun c1 => ?_) (fun c1 => ?_)
  · -- T c1
    have c1 := of_decide_eq_true c1
    refine g_aload_n (q := 0) (pc := 11) dX11_whyNot_11 rfl rfl ?_
    refine gc_get_O_shelves (pc := 12) hA flX11_28 dX11_whyNot_12 ?_
    refine g_iload_n (q := 1) (pc := 15) dX11_whyNot_15 rfl rfl ?_
    refine gc_ld_SH (pc := 16) (d := d) hA (by omega) dX11_whyNot_16 ?_
    refine e_callV (k2 := 0) (n2 := 0) (As := []) (rest := []) (pc := 17) (wC_sh hA hd) rfl (c_X7_isEmpty_e hA hd hk hs) mlX11_231 selX7_X7_isEmpty_X7_isEmpty mX7_isEmpty ⟨Nat.le_of_ble_eq_true rfl, Nat.le_of_ble_eq_true rfl⟩ rfl rfl (Nat.le_of_ble_eq_true rfl) dX11_whyNot_17 (by decide) rfl rfl ?_
    refine g_if_eq (tgt := 28) (pc := 20) dX11_whyNot_20 (by decide) (fun c0 => absurd c0 (by decide)) (fun _ => ?_)
    refine g_bipush (v := (-11)) (pc := 23) dX11_whyNot_23 (by decide) ?_
    refine g_goto (tgt := 30) (pc := 25) dX11_whyNot_25 (by decide) ?_
    exact g_iret (pc := 30) (by decide) (by decide) (hPo) dX11_whyNot_30
  · -- F c1
    exact absurd (of_decide_eq_false c1) (by omega)
set_option maxHeartbeats 8000000 in
theorem c_X11_whyNot_1 {d a : Nat} (hA : oC b0 cd V) (hd : d < 8) (hk : KR d = some a) : KE l D Z b0 yX11_whyNot cX11_whyNot 2 (some .int) rmX11_whyNot [.ref (cd 0), .int (nI d)] (wC Z cd ik ugA ugB ugC rA pA tA rB pB tB rC pC tC cX lX oX nX sX zX cY lY oY nY sY zY tm cl KR SO SZ EL V) (some (.int (-12))) (wC Z cd ik ugA ugB ugC rA pA tA rB pB tB rC pC tC cX lX oX nX sX zX cY lY oY nY sY zY tm cl KR SO SZ EL V) := by
  refine KE.of (by decide) (Nat.le_of_ble_eq_true rfl) (fun Po hPo => ?_)
  refine G.locals (L' := [(0, .ref (cd 0)), (1, .int (nI d))]) [0, 1] rfl ?_
  refine g_iload_n (q := 1) (pc := 0) dX11_whyNot_0 rfl rfl ?_
  refine g_bipush (v := nI 8) (pc := 1) dX11_whyNot_1 (by decide) ?_
  refine e_callS (k2 := 0) (n2 := 0) (As := [.int (nI d), .int (nI 8)]) (rest := []) (pc := 3) (c_X11_isBelowN (by decide) (by omega)) mlX11_69 mX11_isBelow ⟨Nat.le_of_ble_eq_true rfl, Nat.le_of_ble_eq_true rfl⟩ rfl rfl (Nat.le_of_ble_eq_true rfl) dX11_whyNot_3 (by decide) rfl rfl ?_
  refine g_if_ne_B (tgt := 11) (pc := 6) dX11_whyNot_6 (by decide) (fun c1 => ?_) (fun c1 => ?_)
  · -- T c1
    have c1 := of_decide_eq_true c1
    refine g_aload_n (q := 0) (pc := 11) dX11_whyNot_11 rfl rfl ?_
    refine gc_get_O_shelves (pc := 12) hA flX11_28 dX11_whyNot_12 ?_
    refine g_iload_n (q := 1) (pc := 15) dX11_whyNot_15 rfl rfl ?_
    refine gc_ld_SH (pc := 16) (d := d) hA (by omega) dX11_whyNot_16 ?_
    refine e_callV (k2 := 0) (n2 := 0) (As := []) (rest := []) (pc := 17) (wC_sh hA hd) rfl (c_X7_isEmpty_r hA hd hk) mlX11_231 selX7_X7_isEmpty_X7_isEmpty mX7_isEmpty ⟨Nat.le_of_ble_eq_true rfl, Nat.le_of_ble_eq_true rfl⟩ rfl rfl (Nat.le_of_ble_eq_true rfl) dX11_whyNot_17 (by decide) rfl rfl ?_
    refine g_if_eq (tgt := 28) (pc := 20) dX11_whyNot_20 (by decide) (fun _ => ?_) (fun c0 => absurd c0 (by decide))
    refine g_bipush (v := (-12)) (pc := 28) dX11_whyNot_28 (by decide) ?_
    exact g_iret (pc := 30) (by decide) (by decide) (hPo) dX11_whyNot_30
  · -- F c1
    exact absurd (of_decide_eq_false c1) (by omega)
set_option maxHeartbeats 8000000 in
theorem c_X11_whyNot_2 {d s : Nat} (hA : oC b0 cd V) (hd : d < 8) (hk : KR d = none) (hs : SO d = nI s) (h3 : s < 3) : KE l D Z b0 yX11_whyNot cX11_whyNot 2 (some .int) rmX11_whyNot [.ref (cd 0), .int (nI d)] (wC Z cd ik ugA ugB ugC rA pA tA rB pB tB rC pC tC cX lX oX nX sX zX cY lY oY nY sY zY tm cl KR SO SZ EL V) (some (.int (-12))) (wC Z cd ik ugA ugB ugC rA pA tA rB pB tB rC pC tC cX lX oX nX sX zX cY lY oY nY sY zY tm cl KR SO SZ EL V) := by
  refine KE.of (by decide) (Nat.le_of_ble_eq_true rfl) (fun Po hPo => ?_)
  refine G.locals (L' := [(0, .ref (cd 0)), (1, .int (nI d))]) [0, 1] rfl ?_
  refine g_iload_n (q := 1) (pc := 0) dX11_whyNot_0 rfl rfl ?_
  refine g_bipush (v := nI 8) (pc := 1) dX11_whyNot_1 (by decide) ?_
  refine e_callS (k2 := 0) (n2 := 0) (As := [.int (nI d), .int (nI 8)]) (rest := []) (pc := 3) (c_X11_isBelowN (by decide) (by omega)) mlX11_69 mX11_isBelow ⟨Nat.le_of_ble_eq_true rfl, Nat.le_of_ble_eq_true rfl⟩ rfl rfl (Nat.le_of_ble_eq_true rfl) dX11_whyNot_3 (by decide) rfl rfl ?_
  refine g_if_ne_B (tgt := 11) (pc := 6) dX11_whyNot_6 (by decide) (fun c1 => ?_) (fun c1 => ?_)
  · -- T c1
    have c1 := of_decide_eq_true c1
    refine g_aload_n (q := 0) (pc := 11) dX11_whyNot_11 rfl rfl ?_
    refine gc_get_O_shelves (pc := 12) hA flX11_28 dX11_whyNot_12 ?_
    refine g_iload_n (q := 1) (pc := 15) dX11_whyNot_15 rfl rfl ?_
    refine gc_ld_SH (pc := 16) (d := d) hA (by omega) dX11_whyNot_16 ?_
    refine e_callV (k2 := 0) (n2 := 0) (As := []) (rest := []) (pc := 17) (wC_sh hA hd) rfl (c_X7_isEmpty_s hA hd hk hs h3) mlX11_231 selX7_X7_isEmpty_X7_isEmpty mX7_isEmpty ⟨Nat.le_of_ble_eq_true rfl, Nat.le_of_ble_eq_true rfl⟩ rfl rfl (Nat.le_of_ble_eq_true rfl) dX11_whyNot_17 (by decide) rfl rfl ?_
    refine g_if_eq (tgt := 28) (pc := 20) dX11_whyNot_20 (by decide) (fun _ => ?_) (fun c0 => absurd c0 (by decide))
    refine g_bipush (v := (-12)) (pc := 28) dX11_whyNot_28 (by decide) ?_
    exact g_iret (pc := 30) (by decide) (by decide) (hPo) dX11_whyNot_30
  · -- F c1
    exact absurd (of_decide_eq_false c1) (by omega)
def rmX11_knockFrom : Room := { frames := 4, cells := 0, slots := 0, locals := 82 }
set_option maxHeartbeats 8000000 in
theorem c_X11_knockFrom {a : Nat} (hA : oC b0 cd V) (hmA : mo V rA kd fg) (ha : a < 20) : KE l D Z b0 yX11_knockFrom cX11_knockFrom 2 none rmX11_knockFrom [.ref (cd 0), .int (nI a)] (wC Z cd ik ugA ugB ugC rA (nf pl) hr rB pB tB rC (nf ipl) ihr cX lX oX nX sX zX cY lY oY nY sY zY tm cl KR SO SZ EL V) none (wC Z cd ik ugA ugB ugC rA (nf pl) hr rB pB tB rC (nf ipl) ihr (nf (sw kd fg)) (nf (dT kd fg a)) (nf (dL kd fg a)) (dC kd fg a) (nf (lw kd fg)) (bf (fun _ => true)) cY lY oY nY sY zY tm cl KR SO SZ EL V) := by
  refine KE.of (by decide) (Nat.le_of_ble_eq_true rfl) (fun Po hPo => ?_)
  refine G.locals (L' := [(0, .ref (cd 0)), (1, .int (nI a))]) [0, 1] rfl ?_
  refine g_aload_n (q := 0) (pc := 0) dX11_knockFrom_0 rfl rfl ?_
  refine gc_get_O_ways (pc := 1) hA flX11_35 dX11_knockFrom_1 ?_
  refine g_aload_n (q := 0) (pc := 4) dX11_knockFrom_4 rfl rfl ?_
  refine gc_get_O_now (pc := 5) hA flX11_12 dX11_knockFrom_5 ?_
  refine e_callVv (k2 := 0) (n2 := 0) (As := [.ref (cd 1)]) (rest := []) (pc := 8) (wC_14 hA) rfl (c_X10_byKnocks_XA hA hmA) mlX11_139 selX10_X10_byKnocks_X10_byKnocks mX10_byKnocks ⟨Nat.le_of_ble_eq_true rfl, Nat.le_of_ble_eq_true rfl⟩ rfl rfl (Nat.le_of_ble_eq_true rfl) dX11_knockFrom_8 (by decide) rfl rfl ?_
  refine g_aload_n (q := 0) (pc := 11) dX11_knockFrom_11 rfl rfl ?_
  refine gc_get_O_ways (pc := 12) hA flX11_35 dX11_knockFrom_12 ?_
  refine g_iload_n (q := 1) (pc := 15) dX11_knockFrom_15 rfl rfl ?_
  refine g_callV (As := [.int (nI a)]) (rest := []) (pc := 16) (wC_14 hA) rfl (c_X10_spread_X hA (by omega) (mo.sw hmA) (mo.lw hmA)) mlX11_142 selX10_X10_spread_X10_spread mX10_spread ⟨Nat.le_of_ble_eq_true rfl, Nat.le_of_ble_eq_true rfl⟩ rfl rfl (Nat.le_of_ble_eq_true rfl) dX11_knockFrom_16 (by decide)  (fun v9 V9 h9 => ?_)
  obtain ⟨T16, L16, N16, rfl, hSP16, rfl⟩ := h9
  refine G.eqst (k2 := 0) (n2 := 0) (st2 := []) rfl rfl rfl ?_
  have hQ16 := SP.k (pl := fun _ => 0) (mo.ok hmA) (by omega) hSP16
  refine gc_eq_lX (f' := nf (dT kd fg a)) hA hQ16.1 ?_
  refine gc_eq_oX (f' := nf (dL kd fg a)) hA hQ16.2.1 ?_
  refine gc_eq_nX (f' := dC kd fg a) hA hQ16.2.2 ?_
  exact g_vret (pc := 19) (by decide) (by decide) (hPo) dX11_knockFrom_19
end MS
