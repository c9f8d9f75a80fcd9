def ushR (x y : Int32) : Int32 := (x.toUInt32 >>> (y.toUInt32 &&& Int32.toUInt32 31)).toInt32
theorem g_iushr {l : Launch} {D : va_G} {Z : Nat → ClassId} {b0 : Nat} {R : Room} {own : String} {cc : ByteArray} {nL : Nat} {E : Method → Array Value → State → Prop} {T : List Frame → Array Value → State → State → Prop} {V : HV} {L : List (Nat × Value)} {k n pc : Nat} {rest : List Value} {x y : Int32} (hdg : decode cc pc = .ok (.iushr, 1)) (kk : G l D Z b0 R own cc nL E T V L k n (pc + 1) (.int (ushR x y) :: rest)) : G l D Z b0 R own cc nL E T V L k n pc (.int y :: .int x :: rest) := fun p e s m args below meth c H locs ls X hE hV hS hL => lv_iushr X.1 X.2.1 hdg rfl (kk p e s m args below meth c H locs ls X hE hV hS hL)
theorem ctJ6_265 : Cond.constant "java/lang/Integer" 265 (1431655765) ∈ TB := TB_in 603 (by decide +kernel) (by decide +kernel)
theorem ctJ6_266 : Cond.constant "java/lang/Integer" 266 (858993459) ∈ TB := TB_in 604 (by decide +kernel) (by decide +kernel)
theorem ctJ6_267 : Cond.constant "java/lang/Integer" 267 (252645135) ∈ TB := TB_in 605 (by decide +kernel) (by decide +kernel)
theorem bcE : ∀ x, x < 256 → nI (pcN x) = ((((((((nI x) - ((ushR (nI x) (nI 1)) &&& (nI 1431655765))) &&& (nI 858993459)) + ((ushR ((nI x) - ((ushR (nI x) (nI 1)) &&& (nI 1431655765))) (nI 2)) &&& (nI 858993459))) + (ushR ((((nI x) - ((ushR (nI x) (nI 1)) &&& (nI 1431655765))) &&& (nI 858993459)) + ((ushR ((nI x) - ((ushR (nI x) (nI 1)) &&& (nI 1431655765))) (nI 2)) &&& (nI 858993459))) (nI 4))) &&& (nI 252645135)) + (ushR ((((((nI x) - ((ushR (nI x) (nI 1)) &&& (nI 1431655765))) &&& (nI 858993459)) + ((ushR ((nI x) - ((ushR (nI x) (nI 1)) &&& (nI 1431655765))) (nI 2)) &&& (nI 858993459))) + (ushR ((((nI x) - ((ushR (nI x) (nI 1)) &&& (nI 1431655765))) &&& (nI 858993459)) + ((ushR ((nI x) - ((ushR (nI x) (nI 1)) &&& (nI 1431655765))) (nI 2)) &&& (nI 858993459))) (nI 4))) &&& (nI 252645135)) (nI 8))) + (ushR (((((((nI x) - ((ushR (nI x) (nI 1)) &&& (nI 1431655765))) &&& (nI 858993459)) + ((ushR ((nI x) - ((ushR (nI x) (nI 1)) &&& (nI 1431655765))) (nI 2)) &&& (nI 858993459))) + (ushR ((((nI x) - ((ushR (nI x) (nI 1)) &&& (nI 1431655765))) &&& (nI 858993459)) + ((ushR ((nI x) - ((ushR (nI x) (nI 1)) &&& (nI 1431655765))) (nI 2)) &&& (nI 858993459))) (nI 4))) &&& (nI 252645135)) + (ushR ((((((nI x) - ((ushR (nI x) (nI 1)) &&& (nI 1431655765))) &&& (nI 858993459)) + ((ushR ((nI x) - ((ushR (nI x) (nI 1)) &&& (nI 1431655765))) (nI 2)) &&& (nI 858993459))) + (ushR ((((nI x) - ((ushR (nI x) (nI 1)) &&& (nI 1431655765))) &&& (nI 858993459)) + ((ushR ((nI x) - ((ushR (nI x) (nI 1)) &&& (nI 1431655765))) (nI 2)) &&& (nI 858993459))) (nI 4))) &&& (nI 252645135)) (nI 8))) (nI 16))) &&& (nI 63) := by decide +kernel
section MS
variable {l : Launch} {D : va_G} {Z : Nat → ClassId} {b0 : Nat} {cd : Nat → Nat} {ik : Int32} {ugA ugB ugC : Nat} {rA : Nat → Nat} {pA tA : Nat → Int32} {rB : Nat → Nat} {pB tB : Nat → Int32} {rC : Nat → Nat} {pC tC cX lX oX nX sX zX cY lY oY nY sY zY tm cl : Nat → Int32} {KR : Nat → Option Nat} {SO : Nat → Int32} {SZ : Nat → Nat} {EL : Nat → Nat → Int32} {V Vb : HV} {kd fg pl ikd ifg ipl kp so sz : Nat → Nat} {hr ihr el ki kf : Nat → Int32}
def rmJ6_bitCount_0f7a4 : Room := { frames := 0, cells := 0, slots := 0, locals := 0 }
set_option maxHeartbeats 8000000 in
theorem c_J6_bitCount_0f7a4 {x : Nat} (hx : x < 256) : KE l D Z b0 yJ6_bitCount_0f7a4 cJ6_bitCount_0f7a4 1 (some .int) rmJ6_bitCount_0f7a4 [.int (nI x)] (V) (some (.int (nI (pcN x)))) (V) := by
  refine KE.of (by decide) (Nat.le_of_ble_eq_true rfl) (fun Po hPo => ?_)
  refine G.locals (L' := [(0, .int (nI x))]) [0] rfl ?_
  refine g_iload_n (q := 0) (pc := 0) dJ6_bitCount_0f7a4_0 rfl rfl ?_
  refine g_iload_n (q := 0) (pc := 1) dJ6_bitCount_0f7a4_1 rfl rfl ?_
  refine g_iconst (v := nI 1) (pc := 2) dJ6_bitCount_0f7a4_2 (by decide) ?_
  refine g_iushr (pc := 3) dJ6_bitCount_0f7a4_3 ?_
  refine g_ldcw (v := nI 1431655765) (pc := 4) ctJ6_265 dJ6_bitCount_0f7a4_4 ?_
  refine g_iand (pc := 7) dJ6_bitCount_0f7a4_7 ?_
  refine g_isub (pc := 8) dJ6_bitCount_0f7a4_8 ?_
  refine g_istore_n (lv' := [(0, .int ((nI x) - ((ushR (nI x) (nI 1)) &&& (nI 1431655765))))]) (pc := 9) dJ6_bitCount_0f7a4_9 rfl (by decide) rfl ?_
  refine g_iload_n (q := 0) (pc := 10) dJ6_bitCount_0f7a4_10 rfl rfl ?_
  refine g_ldcw (v := nI 858993459) (pc := 11) ctJ6_266 dJ6_bitCount_0f7a4_11 ?_
  refine g_iand (pc := 14) dJ6_bitCount_0f7a4_14 ?_
  refine g_iload_n (q := 0) (pc := 15) dJ6_bitCount_0f7a4_15 rfl rfl ?_
  refine g_iconst (v := nI 2) (pc := 16) dJ6_bitCount_0f7a4_16 (by decide) ?_
  refine g_iushr (pc := 17) dJ6_bitCount_0f7a4_17 ?_
  refine g_ldcw (v := nI 858993459) (pc := 18) ctJ6_266 dJ6_bitCount_0f7a4_18 ?_
  refine g_iand (pc := 21) dJ6_bitCount_0f7a4_21 ?_
  refine g_iadd (pc := 22) dJ6_bitCount_0f7a4_22 ?_
  refine g_istore_n (lv' := [(0, .int ((((nI x) - ((ushR (nI x) (nI 1)) &&& (nI 1431655765))) &&& (nI 858993459)) + ((ushR ((nI x) - ((ushR (nI x) (nI 1)) &&& (nI 1431655765))) (nI 2)) &&& (nI 858993459))))]) (pc := 23) dJ6_bitCount_0f7a4_23 rfl (by decide) rfl ?_
  refine g_iload_n (q := 0) (pc := 24) dJ6_bitCount_0f7a4_24 rfl rfl ?_
  refine g_iload_n (q := 0) (pc := 25) dJ6_bitCount_0f7a4_25 rfl rfl ?_
  refine g_iconst (v := nI 4) (pc := 26) dJ6_bitCount_0f7a4_26 (by decide) ?_
  refine g_iushr (pc := 27) dJ6_bitCount_0f7a4_27 ?_
  refine g_iadd (pc := 28) dJ6_bitCount_0f7a4_28 ?_
  refine g_ldcw (v := nI 252645135) (pc := 29) ctJ6_267 dJ6_bitCount_0f7a4_29 ?_
  refine g_iand (pc := 32) dJ6_bitCount_0f7a4_32 ?_
  refine g_istore_n (lv' := [(0, .int ((((((nI x) - ((ushR (nI x) (nI 1)) &&& (nI 1431655765))) &&& (nI 858993459)) + ((ushR ((nI x) - ((ushR (nI x) (nI 1)) &&& (nI 1431655765))) (nI 2)) &&& (nI 858993459))) + (ushR ((((nI x) - ((ushR (nI x) (nI 1)) &&& (nI 1431655765))) &&& (nI 858993459)) + ((ushR ((nI x) - ((ushR (nI x) (nI 1)) &&& (nI 1431655765))) (nI 2)) &&& (nI 858993459))) (nI 4))) &&& (nI 252645135)))]) (pc := 33) dJ6_bitCount_0f7a4_33 rfl (by decide) rfl ?_
  refine g_iload_n (q := 0) (pc := 34) dJ6_bitCount_0f7a4_34 rfl rfl ?_
  refine g_iload_n (q := 0) (pc := 35) dJ6_bitCount_0f7a4_35 rfl rfl ?_
  refine g_bipush (v := nI 8) (pc := 36) dJ6_bitCount_0f7a4_36 (by decide) ?_
  refine g_iushr (pc := 38) dJ6_bitCount_0f7a4_38 ?_
  refine g_iadd (pc := 39) dJ6_bitCount_0f7a4_39 ?_
  refine g_istore_n (lv' := [(0, .int (((((((nI x) - ((ushR (nI x) (nI 1)) &&& (nI 1431655765))) &&& (nI 858993459)) + ((ushR ((nI x) - ((ushR (nI x) (nI 1)) &&& (nI 1431655765))) (nI 2)) &&& (nI 858993459))) + (ushR ((((nI x) - ((ushR (nI x) (nI 1)) &&& (nI 1431655765))) &&& (nI 858993459)) + ((ushR ((nI x) - ((ushR (nI x) (nI 1)) &&& (nI 1431655765))) (nI 2)) &&& (nI 858993459))) (nI 4))) &&& (nI 252645135)) + (ushR ((((((nI x) - ((ushR (nI x) (nI 1)) &&& (nI 1431655765))) &&& (nI 858993459)) + ((ushR ((nI x) - ((ushR (nI x) (nI 1)) &&& (nI 1431655765))) (nI 2)) &&& (nI 858993459))) + (ushR ((((nI x) - ((ushR (nI x) (nI 1)) &&& (nI 1431655765))) &&& (nI 858993459)) + ((ushR ((nI x) - ((ushR (nI x) (nI 1)) &&& (nI 1431655765))) (nI 2)) &&& (nI 858993459))) (nI 4))) &&& (nI 252645135)) (nI 8))))]) (pc := 40) dJ6_bitCount_0f7a4_40 rfl (by decide) rfl ?_
  refine g_iload_n (q := 0) (pc := 41) dJ6_bitCount_0f7a4_41 rfl rfl ?_
  refine g_iload_n (q := 0) (pc := 42) dJ6_bitCount_0f7a4_42 rfl rfl ?_
  refine g_bipush (v := nI 16) (pc := 43) dJ6_bitCount_0f7a4_43 (by decide) ?_
  refine g_iushr (pc := 45) dJ6_bitCount_0f7a4_45 ?_
  refine g_iadd (pc := 46) dJ6_bitCount_0f7a4_46 ?_
  refine g_istore_n (lv' := [(0, .int ((((((((nI x) - ((ushR (nI x) (nI 1)) &&& (nI 1431655765))) &&& (nI 858993459)) + ((ushR ((nI x) - ((ushR (nI x) (nI 1)) &&& (nI 1431655765))) (nI 2)) &&& (nI 858993459))) + (ushR ((((nI x) - ((ushR (nI x) (nI 1)) &&& (nI 1431655765))) &&& (nI 858993459)) + ((ushR ((nI x) - ((ushR (nI x) (nI 1)) &&& (nI 1431655765))) (nI 2)) &&& (nI 858993459))) (nI 4))) &&& (nI 252645135)) + (ushR ((((((nI x) - ((ushR (nI x) (nI 1)) &&& (nI 1431655765))) &&& (nI 858993459)) + ((ushR ((nI x) - ((ushR (nI x) (nI 1)) &&& (nI 1431655765))) (nI 2)) &&& (nI 858993459))) + (ushR ((((nI x) - ((ushR (nI x) (nI 1)) &&& (nI 1431655765))) &&& (nI 858993459)) + ((ushR ((nI x) - ((ushR (nI x) (nI 1)) &&& (nI 1431655765))) (nI 2)) &&& (nI 858993459))) (nI 4))) &&& (nI 252645135)) (nI 8))) + (ushR (((((((nI x) - ((ushR (nI x) (nI 1)) &&& (nI 1431655765))) &&& (nI 858993459)) + ((ushR ((nI x) - ((ushR (nI x) (nI 1)) &&& (nI 1431655765))) (nI 2)) &&& (nI 858993459))) + (ushR ((((nI x) - ((ushR (nI x) (nI 1)) &&& (nI 1431655765))) &&& (nI 858993459)) + ((ushR ((nI x) - ((ushR (nI x) (nI 1)) &&& (nI 1431655765))) (nI 2)) &&& (nI 858993459))) (nI 4))) &&& (nI 252645135)) + (ushR ((((((nI x) - ((ushR (nI x) (nI 1)) &&& (nI 1431655765))) &&& (nI 858993459)) + ((ushR ((nI x) - ((ushR (nI x) (nI 1)) &&& (nI 1431655765))) (nI 2)) &&& (nI 858993459))) + (ushR ((((nI x) - ((ushR (nI x) (nI 1)) &&& (nI 1431655765))) &&& (nI 858993459)) + ((ushR ((nI x) - ((ushR (nI x) (nI 1)) &&& (nI 1431655765))) (nI 2)) &&& (nI 858993459))) (nI 4))) &&& (nI 252645135)) (nI 8))) (nI 16))))]) (pc := 47) dJ6_bitCount_0f7a4_47 rfl (by decide) rfl ?_
  refine g_iload_n (q := 0) (pc := 48) dJ6_bitCount_0f7a4_48 rfl rfl ?_
  refine g_bipush (v := nI 63) (pc := 49) dJ6_bitCount_0f7a4_49 (by decide) ?_
  refine g_iand (pc := 51) dJ6_bitCount_0f7a4_51 ?_
  exact g_iret (pc := 52) (by decide) (by decide) (eqI hPo (bcE x hx)) dJ6_bitCount_0f7a4_52
def rmX11_areAlike : Room := { frames := 1, cells := 0, slots := 0, locals := 20 }
set_option maxHeartbeats 8000000 in
theorem c_X11_areAlike {a b e : Nat} (ha : a < 256) (hb : b < 256) (he : e < 9) : KE l D Z b0 yX11_areAlike cX11_areAlike 3 (some .boolean) rmX11_areAlike [.int (nI a), .int (nI b), .int (nI e)] (V) (some (.int (bI (takenB a b e)))) (V) := by
  refine KE.of (by decide) (Nat.le_of_ble_eq_true rfl) (fun Po hPo => ?_)
  refine G.locals (L' := [(0, .int (nI a)), (1, .int (nI b)), (2, .int (nI e))]) [0, 1, 2] rfl ?_
  refine g_iload_n (q := 0) (pc := 0) dX11_areAlike_0 rfl rfl ?_
  refine g_iload_n (q := 1) (pc := 1) dX11_areAlike_1 rfl rfl ?_
  refine g_iconst (v := (-1)) (pc := 2) dX11_areAlike_2 (by decide) ?_
  refine g_ixor (pc := 3) dX11_areAlike_3 ?_
  refine g_iand (pc := 4) dX11_areAlike_4 ?_
  refine g_top (x := (nI a) &&& ((nI b) ^^^ (-1))) (y := nI (anN a b)) (anN_ok a ha b hb).1 ?_
  refine e_callS (k2 := 0) (n2 := 0) (As := [.int (nI (anN a b))]) (rest := []) (pc := 5) (c_J6_bitCount_0f7a4 (anN_ok a ha b hb).2) mlX11_179 mJ6_bitCount_0f7a4 ⟨Nat.le_of_ble_eq_true rfl, Nat.le_of_ble_eq_true rfl⟩ rfl rfl (Nat.le_of_ble_eq_true rfl) dX11_areAlike_5 (by decide) rfl rfl ?_
  refine g_iload_n (q := 2) (pc := 8) dX11_areAlike_8 rfl rfl ?_
  refine g_icmp_gt_N (tgt := 28) (pc := 9) (Nat.lt_of_le_of_lt (pcN_le _) (by decide)) (by omega) dX11_areAlike_9 (by decide) (fun c1 => ?_) (fun c1 => ?_)
  · -- T c1
    refine g_iconst (v := nI 0) (pc := 28) dX11_areAlike_28 (by decide) ?_
    refine g_top (x := nI 0) (y := bI (takenB a b e)) (by first | exact (tkT (by assumption) (by assumption)).symm | exact (tkF1 (by assumption)).symm | exact (tkF2 (by assumption)).symm) ?_
    exact g_zret (pc := 29) (nar_bI _) (by decide) (by decide) (hPo) dX11_areAlike_29
  · -- F c1
    refine g_iload_n (q := 1) (pc := 12) dX11_areAlike_12 rfl rfl ?_
    refine g_iload_n (q := 0) (pc := 13) dX11_areAlike_13 rfl rfl ?_
    refine g_iconst (v := (-1)) (pc := 14) dX11_areAlike_14 (by decide) ?_
    refine g_ixor (pc := 15) dX11_areAlike_15 ?_
    refine g_iand (pc := 16) dX11_areAlike_16 ?_
    refine g_top (x := (nI b) &&& ((nI a) ^^^ (-1))) (y := nI (anN b a)) (anN_ok b hb a ha).1 ?_
    refine e_callS (k2 := 0) (n2 := 0) (As := [.int (nI (anN b a))]) (rest := []) (pc := 17) (c_J6_bitCount_0f7a4 (anN_ok b hb a ha).2) mlX11_179 mJ6_bitCount_0f7a4 ⟨Nat.le_of_ble_eq_true rfl, Nat.le_of_ble_eq_true rfl⟩ rfl rfl (Nat.le_of_ble_eq_true rfl) dX11_areAlike_17 (by decide) rfl rfl ?_
    refine g_iload_n (q := 2) (pc := 20) dX11_areAlike_20 rfl rfl ?_
    refine g_icmp_gt_N (tgt := 28) (pc := 21) (Nat.lt_of_le_of_lt (pcN_le _) (by decide)) (by omega) dX11_areAlike_21 (by decide) (fun c2 => ?_) (fun c2 => ?_)
    · -- T c2
      refine g_iconst (v := nI 0) (pc := 28) dX11_areAlike_28 (by decide) ?_
      refine g_top (x := nI 0) (y := bI (takenB a b e)) (by first | exact (tkT (by assumption) (by assumption)).symm | exact (tkF1 (by assumption)).symm | exact (tkF2 (by assumption)).symm) ?_
      exact g_zret (pc := 29) (nar_bI _) (by decide) (by decide) (hPo) dX11_areAlike_29
    · -- F c2
      refine g_iconst (v := nI 1) (pc := 24) dX11_areAlike_24 (by decide) ?_
      refine g_goto (tgt := 29) (pc := 25) dX11_areAlike_25 (by decide) ?_
      refine g_top (x := nI 1) (y := bI (takenB a b e)) (by first | exact (tkT (by assumption) (by assumption)).symm | exact (tkF1 (by assumption)).symm | exact (tkF2 (by assumption)).symm) ?_
      exact g_zret (pc := 29) (nar_bI _) (by decide) (by decide) (hPo) dX11_areAlike_29
def rmX11_taken : Room := { frames := 2, cells := 0, slots := 0, locals := 42 }
set_option maxHeartbeats 8000000 in
theorem c_X11_taken {a b e : Int32} (hA : oC b0 cd V) (hE : Ext Vb V) (hgA : Rk V ugA 7 0) (hgB : Rk V ugB 7 0) (hmA : mo V rA kd fg) (hmC : mo V rC ikd ifg) (hpl : ∀ g, g < 2 → pl g < 20) (hipl : ∀ g, g < 2 → ipl g < 20) (hSh : Sh V KR SO SZ EL kp so sz el ki kf) : KM l D Z b0 yX11_taken cX11_taken 4 (some .int) rmX11_taken [.ref (cd 0), .int a, .int b, .int e] (wC Z cd ik ugA ugB ugC rA (nf pl) hr rB pB tB rC (nf ipl) ihr cX lX oX nX sX zX cY lY oY nY sY zY tm cl KR SO SZ EL V) (fun v0 V' => v0 = some (.int (spTaken a b e)) ∧ CI Z b0 cd Vb ik kd fg pl hr ikd ifg ipl ihr kp so sz el ki kf V') := by
  refine KM.ofP (by decide) (Nat.le_of_ble_eq_true rfl) (fun Po hPo => ?_)
  refine G.locals (L' := [(0, .ref (cd 0)), (1, .int a), (2, .int b), (3, .int e)]) [0, 1, 2, 3] rfl ?_
  refine g_iload_n (q := 1) (pc := 0) dX11_taken_0 rfl rfl ?_
  refine g_sipush (v := nI 256) (pc := 1) dX11_taken_1 (by decide) ?_
  refine e_callS (k2 := 0) (n2 := 0) (As := [.int a, .int (nI 256)]) (rest := []) (pc := 4) (c_X11_isBelow (by decide)) mlX11_69 mX11_isBelow ⟨Nat.le_of_ble_eq_true rfl, Nat.le_of_ble_eq_true rfl⟩ rfl rfl (Nat.le_of_ble_eq_true rfl) dX11_taken_4 (by decide) rfl rfl ?_
  refine g_if_eq_B (tgt := 20) (pc := 7) dX11_taken_7 (by decide) (fun c1 => ?_) (fun c1 => ?_)
  · -- T c1
    refine g_iconst (v := (-1)) (pc := 20) dX11_taken_20 (by decide) ?_
    exact g_iret (pc := 21) (by decide) (by decide) (gC hPo (by rw [spTaken, if_neg (by simp [*])]) (CI.mk ⟨hA, hE, hgA, hgB, hmA, hmC, hpl, hipl, hSh⟩)) dX11_taken_21
  · -- F c1
    obtain ⟨a, ha, rfl⟩ := inR_t c1
    refine g_iload_n (q := 2) (pc := 10) dX11_taken_10 rfl rfl ?_
    refine g_sipush (v := nI 256) (pc := 11) dX11_taken_11 (by decide) ?_
    refine e_callS (k2 := 0) (n2 := 0) (As := [.int b, .int (nI 256)]) (rest := []) (pc := 14) (c_X11_isBelow (by decide)) mlX11_69 mX11_isBelow ⟨Nat.le_of_ble_eq_true rfl, Nat.le_of_ble_eq_true rfl⟩ rfl rfl (Nat.le_of_ble_eq_true rfl) dX11_taken_14 (by decide) rfl rfl ?_
    refine g_if_ne_B (tgt := 22) (pc := 17) dX11_taken_17 (by decide) (fun c2 => ?_) (fun c2 => ?_)
    · -- T c2
      obtain ⟨b, hb, rfl⟩ := inR_t c2
      refine g_iload_n (q := 3) (pc := 22) dX11_taken_22 rfl rfl ?_
      refine g_bipush (v := nI 9) (pc := 23) dX11_taken_23 (by decide) ?_
      refine e_callS (k2 := 0) (n2 := 0) (As := [.int e, .int (nI 9)]) (rest := []) (pc := 25) (c_X11_isBelow (by decide)) mlX11_69 mX11_isBelow ⟨Nat.le_of_ble_eq_true rfl, Nat.le_of_ble_eq_true rfl⟩ rfl rfl (Nat.le_of_ble_eq_true rfl) dX11_taken_25 (by decide) rfl rfl ?_
      refine g_if_ne_B (tgt := 33) (pc := 28) dX11_taken_28 (by decide) (fun c3 => ?_) (fun c3 => ?_)
      · -- T c3
        obtain ⟨e, he, rfl⟩ := inR_t c3
        refine g_iload_n (q := 1) (pc := 33) dX11_taken_33 rfl rfl ?_
        refine g_iload_n (q := 2) (pc := 34) dX11_taken_34 rfl rfl ?_
        refine g_iload_n (q := 3) (pc := 35) dX11_taken_35 rfl rfl ?_
        refine e_callS (k2 := 0) (n2 := 0) (As := [.int (nI a), .int (nI b), .int (nI e)]) (rest := []) (pc := 36) (c_X11_areAlike (by omega) (by omega) (by omega)) mlX11_171 mX11_areAlike ⟨Nat.le_of_ble_eq_true rfl, Nat.le_of_ble_eq_true rfl⟩ rfl rfl (Nat.le_of_ble_eq_true rfl) dX11_taken_36 (by decide) rfl rfl ?_
        refine g_if_eq_B (tgt := 46) (pc := 39) dX11_taken_39 (by decide) (fun c4 => ?_) (fun c4 => ?_)
        · -- T c4
          refine g_iconst (v := nI 0) (pc := 46) dX11_taken_46 (by decide) ?_
          exact g_iret (pc := 47) (by decide) (by decide) (gC hPo (by rw [spTaken, if_pos (by assumption), if_pos (by assumption), if_pos (by assumption), dN_N (by omega), dN_N (by omega), dN_N (by omega)]; simp [bI, *]) (CI.mk ⟨hA, hE, hgA, hgB, hmA, hmC, hpl, hipl, hSh⟩)) dX11_taken_47
        · -- F c4
          refine g_iconst (v := nI 1) (pc := 42) dX11_taken_42 (by decide) ?_
          refine g_goto (tgt := 47) (pc := 43) dX11_taken_43 (by decide) ?_
          exact g_iret (pc := 47) (by decide) (by decide) (gC hPo (by rw [spTaken, if_pos (by assumption), if_pos (by assumption), if_pos (by assumption), dN_N (by omega), dN_N (by omega), dN_N (by omega)]; simp [bI, *]) (CI.mk ⟨hA, hE, hgA, hgB, hmA, hmC, hpl, hipl, hSh⟩)) dX11_taken_47
      · -- F c3
        refine g_iconst (v := (-1)) (pc := 31) dX11_taken_31 (by decide) ?_
        exact g_iret (pc := 32) (by decide) (by decide) (gC hPo (by rw [spTaken, if_pos (by assumption), if_pos (by assumption), if_neg (by simp [*])]) (CI.mk ⟨hA, hE, hgA, hgB, hmA, hmC, hpl, hipl, hSh⟩)) dX11_taken_32
    · -- F c2
      refine g_iconst (v := (-1)) (pc := 20) dX11_taken_20 (by decide) ?_
      exact g_iret (pc := 21) (by decide) (by decide) (gC hPo (by rw [spTaken, if_pos (by assumption), if_neg (by simp [*])]) (CI.mk ⟨hA, hE, hgA, hgB, hmA, hmC, hpl, hipl, hSh⟩)) dX11_taken_21
theorem d_X11_taken {a b e : Int32} {V2 : HV} (hCI : CI Z b0 cd Vb ik kd fg pl hr ikd ifg ipl ihr kp so sz el ki kf V2)  : KM l D Z b0 yX11_taken cX11_taken 4 (some .int) rmX11_taken [.ref (cd 0), .int a, .int b, .int e] V2 (fun v0 V' => v0 = some (.int (spTaken a b e)) ∧ CI Z b0 cd Vb ik kd fg pl hr ikd ifg ipl ihr kp so sz el ki kf V') := by
  obtain ⟨ugA, ugB, ugC, rA, rB, pB, tB, rC, cX, lX, oX, nX, sX, zX, cY, lY, oY, nY, sY, zY, tm, cl, KR, SO, SZ, EL, V, rfl, hA, hE, hgA, hgB, hmA, hmC, hpl, hipl, hSh⟩ := hCI
  exact c_X11_taken hA hE hgA hgB hmA hmC hpl hipl hSh 
theorem Sh.k {V : HV} {KR : Nat → Option Nat} {SO : Nat → Int32} {SZ : Nat → Nat} {EL : Nat → Nat → Int32} {kp so sz : Nat → Nat} {el ki kf : Nat → Int32} (h : Sh V KR SO SZ EL kp so sz el ki kf) (d : Int32) : inR d 8 = false ∨ (∃ n, n < 8 ∧ d = nI n ∧ kp n = 0 ∧ KR n = none ∧ SO n = (-1)) ∨ (∃ n, n < 8 ∧ d = nI n ∧ kp n = 1 ∧ ∃ a q f, KR n = some a ∧ Rk V a q f ∧ ki n = nI q ∧ kf n = nI f ∧ SO n = (-1)) ∨ (∃ n, n < 8 ∧ d = nI n ∧ kp n = 2 ∧ KR n = none ∧ SO n = nI (so n) ∧ so n < 3 ∧ SZ n = sz n ∧ sz n ≤ 100 ∧ ∀ i, i < sz n → EL n i = el (100 * n + i)) := by
  cases h1 : inR d 8 with
  | false => exact Or.inl rfl
  | true =>
    obtain ⟨n, hn, rfl⟩ := inR_t h1
    rcases h n hn with q | ⟨q1, ⟨a, x, f, q2, q3, q4, q5⟩, q6⟩ | q
    · exact Or.inr (Or.inl ⟨n, hn, rfl, q⟩)
    · exact Or.inr (Or.inr (Or.inl ⟨n, hn, rfl, q1, a, x, f, q2, q3, q4, q5, q6⟩))
    · exact Or.inr (Or.inr (Or.inr ⟨n, hn, rfl, q⟩))
theorem Sh.r1 {V : HV} {KR : Nat → Option Nat} {SO : Nat → Int32} {SZ : Nat → Nat} {EL : Nat → Nat → Int32} {kp so sz : Nat → Nat} {el ki kf : Nat → Int32} (h : Sh V KR SO SZ EL kp so sz el ki kf) {d q f : Nat} (hd : d < 8) (hk : kp d = 1) (hki : ki d = nI q) (hkf : kf d = nI f) (hk8 : q < 8) (hf10 : f < 10) : ∃ a, KR d = some a ∧ Rk V a q f := by
  rcases h d hd with z | ⟨z1, ⟨a, x, g, q2, q3, q4, q5⟩, q6⟩ | z
  · omega
  · have e1 : x = q := nI_inj (by have := q3.1; omega) (by omega) (q4.symm.trans hki)
    have e2 : g = f := nI_inj (by have := q3.2.1; omega) (by omega) (q5.symm.trans hkf)
    subst e1; subst e2
    exact ⟨a, q2, q3⟩
  · omega
theorem Sh.r2 {V : HV} {KR : Nat → Option Nat} {SO : Nat → Int32} {SZ : Nat → Nat} {EL : Nat → Nat → Int32} {kp so sz : Nat → Nat} {el ki kf : Nat → Int32} (h : Sh V KR SO SZ EL kp so sz el ki kf) {d : Nat} (hd : d < 8) (hk : kp d = 2) : KR d = none ∧ SO d = nI (so d) ∧ so d < 3 ∧ SZ d = sz d ∧ sz d ≤ 100 ∧ ∀ i, i < sz d → EL d i = el (100 * d + i) := by
  rcases h d hd with z | ⟨z1, z⟩ | z
  · omega
  · omega
  · exact z.2
theorem spWK_o {kp : Nat → Nat} {d : Int32} (h : inR d 8 = false) : spWK kp d = (-1) := by rw [spWK, if_neg (by rw [h]; decide)]
theorem spWK_0c {kp : Nat → Nat} {n : Nat} (hn : n < 8) (h : kp n = 0) : spWK kp (nI n) = (-11) := by rw [spWK, inR_lt hn (by omega), if_pos rfl, dN_N (by omega), if_pos h]
theorem spWK_2c {kp : Nat → Nat} {n : Nat} (hn : n < 8) (h : kp n = 2) : spWK kp (nI n) = (-12) := by rw [spWK, inR_lt hn (by omega), if_pos rfl, dN_N (by omega), if_neg (by omega), if_neg (by omega)]
theorem spWR_o {kp so : Nat → Nat} {d : Int32} {r : Option Nat} (h : inR d 8 = false) : spWR kp so d r = (-1) := by rw [spWR, if_neg (by rw [h]; decide)]
theorem spWR_0c {kp so : Nat → Nat} {n : Nat} {r : Option Nat} (hn : n < 8) (h : kp n = 0) : spWR kp so (nI n) r = (-11) := by rw [spWR, inR_lt hn (by omega), if_pos rfl, dN_N (by omega), if_pos h]
theorem spWR_1c {kp so : Nat → Nat} {n : Nat} {r : Option Nat} (hn : n < 8) (h : kp n = 1) : spWR kp so (nI n) r = (-12) := by rw [spWR, inR_lt hn (by omega), if_pos rfl, dN_N (by omega), if_neg (by omega), if_neg (by omega)]
theorem spWR_xc {kp so : Nat → Nat} {n : Nat} {r : Option Nat} (hn : n < 8) (h : kp n = 2) (h2 : okSort r (so n) = false) : spWR kp so (nI n) r = (-12) := by rw [spWR, inR_lt hn (by omega), if_pos rfl, dN_N (by omega), if_neg (by omega), if_pos h, h2]; rfl
theorem Sh.k2 {V : HV} {KR : Nat → Option Nat} {SO : Nat → Int32} {SZ : Nat → Nat} {EL : Nat → Nat → Int32} {kp so sz : Nat → Nat} {el ki kf : Nat → Int32} (h : Sh V KR SO SZ EL kp so sz el ki kf) (d : Int32) (r : Nat) : inR d 8 = false ∨ (∃ n, n < 8 ∧ d = nI n ∧ kp n = 0 ∧ KR n = none ∧ SO n = (-1)) ∨ (∃ n, n < 8 ∧ d = nI n ∧ kp n = 1 ∧ ∃ a q f, KR n = some a ∧ Rk V a q f ∧ ki n = nI q ∧ kf n = nI f ∧ SO n = (-1)) ∨ (∃ n, n < 8 ∧ d = nI n ∧ (kp n = 2 ∧ KR n = none ∧ SO n = nI (so n) ∧ so n < 3 ∧ SZ n = sz n ∧ sz n ≤ 100 ∧ ∀ i, i < sz n → EL n i = el (100 * n + i)) ∧ ¬ so n = r) ∨ (∃ n, n < 8 ∧ d = nI n ∧ (kp n = 2 ∧ KR n = none ∧ SO n = nI (so n) ∧ so n < 3 ∧ SZ n = sz n ∧ sz n ≤ 100 ∧ ∀ i, i < sz n → EL n i = el (100 * n + i)) ∧ so n = r) := by
  rcases h.k d with q | q | q | ⟨n, hn, e, q⟩
  · exact Or.inl q
  · exact Or.inr (Or.inl q)
  · exact Or.inr (Or.inr (Or.inl q))
  · by_cases z : so n = r
    · exact Or.inr (Or.inr (Or.inr (Or.inr ⟨n, hn, e, q, z⟩)))
    · exact Or.inr (Or.inr (Or.inr (Or.inl ⟨n, hn, e, q, z⟩)))
def rmX11_pay : Room := { frames := 3, cells := 0, slots := 0, locals := 60 }
set_option maxHeartbeats 8000000 in
theorem c_X11_pay_s {d q f : Nat} (hA : oC b0 cd V) (hE : Ext Vb V) (hgA : Rk V ugA 7 0) (hgB : Rk V ugB 7 0) (hmA : mo V rA kd fg) (hmC : mo V rC ikd ifg) (hpl : ∀ g, g < 2 → pl g < 20) (hipl : ∀ g, g < 2 → ipl g < 20) (hSh : Sh V KR SO SZ EL kp so sz el ki kf) (hd : d < 8) (hk : kp d = 1) (hki : ki d = nI q) (hkf : kf d = nI f) (hk8 : q < 8) (hf10 : f < 10) : KM l D Z b0 yX11_pay cX11_pay 3 (some .int) rmX11_pay [.ref (cd 0), .int (nI d)] (wC Z cd ik ugA ugB ugC rA (nf pl) hr rB pB tB rC (nf ipl) ihr cX lX oX nX sX zX cY lY oY nY sY zY tm cl KR SO SZ EL V) (fun v0 V' => v0 = some (.int (payI q f)) ∧ CI Z b0 cd Vb ik kd fg pl hr ikd ifg ipl ihr kp so sz el ki kf V') := by
  refine KM.ofP (by decide) (Nat.le_of_ble_eq_true rfl) (fun Po hPo => ?_)
  refine G.locals (L' := [(0, .ref (cd 0)), (1, .int (nI d))]) [0, 1] rfl ?_
  obtain ⟨a, hkR, hrR⟩ := Sh.r1 hSh hd hk hki hkf hk8 hf10
  refine g_aload_n (q := 0) (pc := 0) dX11_pay_0 rfl rfl ?_
  refine g_iload_n (q := 1) (pc := 1) dX11_pay_1 rfl rfl ?_
  refine e_callV (k2 := 0) (n2 := 0) (As := [.int (nI d)]) (rest := []) (pc := 2) (wC_0 hA) rfl (c_X11_rockOn_R hA hd hkR) mlX11_96 selX11_X11_rockOn_X11_rockOn mX11_rockOn ⟨Nat.le_of_ble_eq_true rfl, Nat.le_of_ble_eq_true rfl⟩ rfl rfl (Nat.le_of_ble_eq_true rfl) dX11_pay_2 (by decide) rfl rfl ?_
  refine g_astore_n (lv' := [(2, .ref a), (0, .ref (cd 0)), (1, .int (nI d))]) (pc := 5) dX11_pay_5 rfl (by decide) rfl ?_
  refine g_aload_n (q := 0) (pc := 6) dX11_pay_6 rfl rfl ?_
  refine g_ifnonnull (tgt := 16) (pc := 7) dX11_pay_7 (by decide) ?_
  refine g_aload_n (q := 0) (pc := 16) dX11_pay_16 rfl rfl ?_
  refine g_rk_worth (pc := 17) (q := q) (f := f) (wC_rk hA hrR) mlX11_249 ⟨Nat.le_of_ble_eq_true rfl, Nat.le_of_ble_eq_true rfl⟩ (Nat.le_of_ble_eq_true rfl) dX11_pay_17 ⟨Nat.zero_le _, Nat.zero_le _⟩ ?_
  exact g_iret (pc := 20) (by decide) (by decide) (gC hPo (rfl) (CI.mk ⟨hA, hE, hgA, hgB, hmA, hmC, hpl, hipl, hSh⟩)) dX11_pay_20
theorem d_X11_pay_s {d q f : Nat} {V2 : HV} (hCI : CI Z b0 cd Vb ik kd fg pl hr ikd ifg ipl ihr kp so sz el ki kf V2) (hd : d < 8) (hk : kp d = 1) (hki : ki d = nI q) (hkf : kf d = nI f) (hk8 : q < 8) (hf10 : f < 10) : KM l D Z b0 yX11_pay cX11_pay 3 (some .int) rmX11_pay [.ref (cd 0), .int (nI d)] V2 (fun v0 V' => v0 = some (.int (payI q f)) ∧ CI Z b0 cd Vb ik kd fg pl hr ikd ifg ipl ihr kp so sz el ki kf V') := by
  obtain ⟨ugA, ugB, ugC, rA, rB, pB, tB, rC, cX, lX, oX, nX, sX, zX, cY, lY, oY, nY, sY, zY, tm, cl, KR, SO, SZ, EL, V, rfl, hA, hE, hgA, hgB, hmA, hmC, hpl, hipl, hSh⟩ := hCI
  exact c_X11_pay_s hA hE hgA hgB hmA hmC hpl hipl hSh hd hk hki hkf hk8 hf10
set_option maxHeartbeats 8000000 in
theorem c_X11_pay_n {d : Int32} (hA : oC b0 cd V) (hE : Ext Vb V) (hgA : Rk V ugA 7 0) (hgB : Rk V ugB 7 0) (hmA : mo V rA kd fg) (hmC : mo V rC ikd ifg) (hpl : ∀ g, g < 2 → pl g < 20) (hipl : ∀ g, g < 2 → ipl g < 20) (hSh : Sh V KR SO SZ EL kp so sz el ki kf) (h : ¬ spWK kp d = 0) : KM l D Z b0 yX11_pay cX11_pay 3 (some .int) rmX11_pay [.ref (cd 0), .int d] (wC Z cd ik ugA ugB ugC rA (nf pl) hr rB pB tB rC (nf ipl) ihr cX lX oX nX sX zX cY lY oY nY sY zY tm cl KR SO SZ EL V) (fun v0 V' => v0 = some (.int (spWK kp d)) ∧ CI Z b0 cd Vb ik kd fg pl hr ikd ifg ipl ihr kp so sz el ki kf V') := by
  refine KM.ofP (by decide) (Nat.le_of_ble_eq_true rfl) (fun Po hPo => ?_)
  refine G.locals (L' := [(0, .ref (cd 0)), (1, .int d)]) [0, 1] rfl ?_
  refine g_aload_n (q := 0) (pc := 0) dX11_pay_0 rfl rfl ?_
  refine g_iload_n (q := 1) (pc := 1) dX11_pay_1 rfl rfl ?_
  rcases Sh.k hSh d with ho | ⟨d, hd, rfl, h0⟩ | ⟨d, hd, rfl, h1, a, q, f, hk1, hr1, hi1, hf1, hs1⟩ | ⟨d, hd, rfl, h2⟩
  · -- alt
    refine e_callV (k2 := 0) (n2 := 0) (As := [.int d]) (rest := []) (pc := 2) (wC_0 hA) rfl (c_X11_rockOn_o hA ho) mlX11_96 selX11_X11_rockOn_X11_rockOn mX11_rockOn ⟨Nat.le_of_ble_eq_true rfl, Nat.le_of_ble_eq_true rfl⟩ rfl rfl (Nat.le_of_ble_eq_true rfl) dX11_pay_2 (by decide) rfl rfl ?_
    refine g_astore_nN (lv' := [(2, .null), (0, .ref (cd 0)), (1, .int d)]) (pc := 5) dX11_pay_5 rfl (by decide) rfl ?_
    refine g_aload_nN (q := 0) (pc := 6) dX11_pay_6 rfl rfl ?_
    refine g_ifnonnullN (pc := 7) dX11_pay_7 ?_
    refine g_aload_n (q := 1) (pc := 10) dX11_pay_10 rfl rfl ?_
    refine g_iload_n (q := 2) (pc := 11) dX11_pay_11 rfl rfl ?_
    refine e_callV (k2 := 0) (n2 := 0) (As := [.int d]) (rest := []) (pc := 12) (wC_0 hA) rfl (c_X11_whyNot_o hA ho) mlX11_54 selX11_X11_whyNot_X11_whyNot mX11_whyNot ⟨Nat.le_of_ble_eq_true rfl, Nat.le_of_ble_eq_true rfl⟩ rfl rfl (Nat.le_of_ble_eq_true rfl) dX11_pay_12 (by decide) rfl rfl ?_
    exact g_iret (pc := 15) (by decide) (by decide) (gC hPo (by first | exact spWK_o ho | exact spWK_0c hd h0.1 | exact spWK_2c hd h2.1) (CI.mk ⟨hA, hE, hgA, hgB, hmA, hmC, hpl, hipl, hSh⟩)) dX11_pay_15
  · -- alt
    refine e_callV (k2 := 0) (n2 := 0) (As := [.int (nI d)]) (rest := []) (pc := 2) (wC_0 hA) rfl (c_X11_rockOn_N hA hd h0.2.1) mlX11_96 selX11_X11_rockOn_X11_rockOn mX11_rockOn ⟨Nat.le_of_ble_eq_true rfl, Nat.le_of_ble_eq_true rfl⟩ rfl rfl (Nat.le_of_ble_eq_true rfl) dX11_pay_2 (by decide) rfl rfl ?_
    refine g_astore_nN (lv' := [(2, .null), (0, .ref (cd 0)), (1, .int (nI d))]) (pc := 5) dX11_pay_5 rfl (by decide) rfl ?_
    refine g_aload_nN (q := 0) (pc := 6) dX11_pay_6 rfl rfl ?_
    refine g_ifnonnullN (pc := 7) dX11_pay_7 ?_
    refine g_aload_n (q := 1) (pc := 10) dX11_pay_10 rfl rfl ?_
    refine g_iload_n (q := 2) (pc := 11) dX11_pay_11 rfl rfl ?_
    refine e_callV (k2 := 0) (n2 := 0) (As := [.int (nI d)]) (rest := []) (pc := 12) (wC_0 hA) rfl (c_X11_whyNot_0 hA hd h0.2.1 h0.2.2) mlX11_54 selX11_X11_whyNot_X11_whyNot mX11_whyNot ⟨Nat.le_of_ble_eq_true rfl, Nat.le_of_ble_eq_true rfl⟩ rfl rfl (Nat.le_of_ble_eq_true rfl) dX11_pay_12 (by decide) rfl rfl ?_
    exact g_iret (pc := 15) (by decide) (by decide) (gC hPo (by first | exact spWK_o ho | exact spWK_0c hd h0.1 | exact spWK_2c hd h2.1) (CI.mk ⟨hA, hE, hgA, hgB, hmA, hmC, hpl, hipl, hSh⟩)) dX11_pay_15
  · -- alt
    exact absurd (spWK_ok hd h1) h
  · -- alt
    refine e_callV (k2 := 0) (n2 := 0) (As := [.int (nI d)]) (rest := []) (pc := 2) (wC_0 hA) rfl (c_X11_rockOn_N hA hd h2.2.1) mlX11_96 selX11_X11_rockOn_X11_rockOn mX11_rockOn ⟨Nat.le_of_ble_eq_true rfl, Nat.le_of_ble_eq_true rfl⟩ rfl rfl (Nat.le_of_ble_eq_true rfl) dX11_pay_2 (by decide) rfl rfl ?_
    refine g_astore_nN (lv' := [(2, .null), (0, .ref (cd 0)), (1, .int (nI d))]) (pc := 5) dX11_pay_5 rfl (by decide) rfl ?_
    refine g_aload_nN (q := 0) (pc := 6) dX11_pay_6 rfl rfl ?_
    refine g_ifnonnullN (pc := 7) dX11_pay_7 ?_
    refine g_aload_n (q := 1) (pc := 10) dX11_pay_10 rfl rfl ?_
    refine g_iload_n (q := 2) (pc := 11) dX11_pay_11 rfl rfl ?_
    refine e_callV (k2 := 0) (n2 := 0) (As := [.int (nI d)]) (rest := []) (pc := 12) (wC_0 hA) rfl (c_X11_whyNot_2 hA hd h2.2.1 h2.2.2.1 h2.2.2.2.1) mlX11_54 selX11_X11_whyNot_X11_whyNot mX11_whyNot ⟨Nat.le_of_ble_eq_true rfl, Nat.le_of_ble_eq_true rfl⟩ rfl rfl (Nat.le_of_ble_eq_true rfl) dX11_pay_12 (by decide) rfl rfl ?_
    exact g_iret (pc := 15) (by decide) (by decide) (gC hPo (by first | exact spWK_o ho | exact spWK_0c hd h0.1 | exact spWK_2c hd h2.1) (CI.mk ⟨hA, hE, hgA, hgB, hmA, hmC, hpl, hipl, hSh⟩)) dX11_pay_15
theorem d_X11_pay_n {d : Int32} {V2 : HV} (hCI : CI Z b0 cd Vb ik kd fg pl hr ikd ifg ipl ihr kp so sz el ki kf V2) (h : ¬ spWK kp d = 0) : KM l D Z b0 yX11_pay cX11_pay 3 (some .int) rmX11_pay [.ref (cd 0), .int d] V2 (fun v0 V' => v0 = some (.int (spWK kp d)) ∧ CI Z b0 cd Vb ik kd fg pl hr ikd ifg ipl ihr kp so sz el ki kf V') := by
  obtain ⟨ugA, ugB, ugC, rA, rB, pB, tB, rC, cX, lX, oX, nX, sX, zX, cY, lY, oY, nY, sY, zY, tm, cl, KR, SO, SZ, EL, V, rfl, hA, hE, hgA, hgB, hmA, hmC, hpl, hipl, hSh⟩ := hCI
  exact c_X11_pay_n hA hE hgA hgB hmA hmC hpl hipl hSh h
def rmX11_lay : Room := { frames := 3, cells := 0, slots := 0, locals := 60 }
set_option maxHeartbeats 8000000 in
theorem c_X11_lay_s {d c q f : Nat} (hA : oC b0 cd V) (hE : Ext Vb V) (hgA : Rk V ugA 7 0) (hgB : Rk V ugB 7 0) (hmA : mo V rA kd fg) (hmC : mo V rC ikd ifg) (hpl : ∀ g, g < 2 → pl g < 20) (hipl : ∀ g, g < 2 → ipl g < 20) (hSh : Sh V KR SO SZ EL kp so sz el ki kf) (hd : d < 8) (hk : kp d = 1) (hki : ki d = nI q) (hkf : kf d = nI f) (hk8 : q < 8) (hf10 : f < 10) (hc : c < 20) : KM l D Z b0 yX11_lay cX11_lay 5 (some .int) rmX11_lay [.ref (cd 0), .int (nI d), .int (nI c)] (wC Z cd ik ugA ugB ugC rA (nf pl) hr rB pB tB rC (nf ipl) ihr cX lX oX nX sX zX cY lY oY nY sY zY tm cl KR SO SZ EL V) (fun v0 V' => v0 = some (.int (nI (kd c))) ∧ CI Z b0 cd Vb ik (updN kd c q) (updN fg c f) pl hr ikd ifg ipl ihr kp so sz el ki kf V') := by
  refine KM.ofP (by decide) (Nat.le_of_ble_eq_true rfl) (fun Po hPo => ?_)
  refine G.locals (L' := [(0, .ref (cd 0)), (1, .int (nI d)), (2, .int (nI c))]) [0, 1, 2] rfl ?_
  obtain ⟨a, hkR, hrR⟩ := Sh.r1 hSh hd hk hki hkf hk8 hf10
  refine g_iload_n (q := 2) (pc := 0) dX11_lay_0 rfl rfl ?_
  refine g_bipush (v := nI 20) (pc := 1) dX11_lay_1 (by decide) ?_
  refine e_callS (k2 := 0) (n2 := 0) (As := [.int (nI c), .int (nI 20)]) (rest := []) (pc := 3) (c_X11_isBelowN (by decide) (by omega)) mlX11_69 mX11_isBelow ⟨Nat.le_of_ble_eq_true rfl, Nat.le_of_ble_eq_true rfl⟩ rfl rfl (Nat.le_of_ble_eq_true rfl) dX11_lay_3 (by decide) rfl rfl ?_
  refine g_if_ne_B (tgt := 11) (pc := 6) dX11_lay_6 (by decide) (fun c1 => ?_) (fun c1 => ?_)
  · -- T c1
    have c1 := of_decide_eq_true c1
    refine g_aload_n (q := 0) (pc := 11) dX11_lay_11 rfl rfl ?_
    refine g_iload_n (q := 1) (pc := 12) dX11_lay_12 rfl rfl ?_
    refine e_callV (k2 := 0) (n2 := 0) (As := [.int (nI d)]) (rest := []) (pc := 13) (wC_0 hA) rfl (c_X11_rockOn_R hA hd hkR) mlX11_96 selX11_X11_rockOn_X11_rockOn mX11_rockOn ⟨Nat.le_of_ble_eq_true rfl, Nat.le_of_ble_eq_true rfl⟩ rfl rfl (Nat.le_of_ble_eq_true rfl) dX11_lay_13 (by decide) rfl rfl ?_
    refine g_astore_n (lv' := [(3, .ref a), (0, .ref (cd 0)), (1, .int (nI d)), (2, .int (nI c))]) (pc := 16) dX11_lay_16 rfl (by decide) rfl ?_
    refine g_aload_n (q := 0) (pc := 17) dX11_lay_17 rfl rfl ?_
    refine g_ifnonnull (tgt := 27) (pc := 18) dX11_lay_18 (by decide) ?_
    refine g_aload_n (q := 1) (pc := 27) dX11_lay_27 rfl rfl ?_
    refine gc_get_O_now (pc := 28) hA flX11_12 dX11_lay_28 ?_
    refine gc_get_MA_cells (pc := 31) hA flX11_73 dX11_lay_31 ?_
    refine g_iload_n (q := 3) (pc := 34) dX11_lay_34 rfl rfl ?_
    refine gc_ld_rA (pc := 35) (c := c) hA (by omega) dX11_lay_35 ?_
    refine g_rk_kind (pc := 36) (q := kd c) (f := fg c) (wC_rk hA (hmA c (by omega))) mlX11_77 ⟨Nat.le_of_ble_eq_true rfl, Nat.le_of_ble_eq_true rfl⟩ (Nat.le_of_ble_eq_true rfl) dX11_lay_36 ⟨Nat.zero_le _, Nat.zero_le _⟩ ?_
    refine g_istore (lv' := [(4, .int (nI (kd c))), (3, .ref a), (0, .ref (cd 0)), (1, .int (nI d)), (2, .int (nI c))]) (pc := 39) dX11_lay_39 (by decide) rfl ?_
    refine g_aload_n (q := 2) (pc := 41) dX11_lay_41 rfl rfl ?_
    refine gc_get_O_now (pc := 42) hA flX11_12 dX11_lay_42 ?_
    refine gc_get_MA_cells (pc := 45) hA flX11_73 dX11_lay_45 ?_
    refine g_iload_n (q := 4) (pc := 48) dX11_lay_48 rfl rfl ?_
    refine g_aload_n (q := 1) (pc := 49) dX11_lay_49 rfl rfl ?_
    refine gc_st_rA (pc := 50) (c := c) (a := a) (q := q) (f := f) hA (by omega) hrR dX11_lay_50 ?_
    refine g_iload (q := 0) (pc := 51) dX11_lay_51 rfl ?_
    exact g_iret (pc := 53) (by decide) (by decide) (gC hPo (rfl) (CI.mk ⟨hA, hE, hgA, hgB, (mo.st hmA hrR), hmC, hpl, hipl, hSh⟩)) dX11_lay_53
  · -- F c1
    exact absurd (of_decide_eq_false c1) (by omega)
theorem d_X11_lay_s {d c q f : Nat} {V2 : HV} (hCI : CI Z b0 cd Vb ik kd fg pl hr ikd ifg ipl ihr kp so sz el ki kf V2) (hd : d < 8) (hk : kp d = 1) (hki : ki d = nI q) (hkf : kf d = nI f) (hk8 : q < 8) (hf10 : f < 10) (hc : c < 20) : KM l D Z b0 yX11_lay cX11_lay 5 (some .int) rmX11_lay [.ref (cd 0), .int (nI d), .int (nI c)] V2 (fun v0 V' => v0 = some (.int (nI (kd c))) ∧ CI Z b0 cd Vb ik (updN kd c q) (updN fg c f) pl hr ikd ifg ipl ihr kp so sz el ki kf V') := by
  obtain ⟨ugA, ugB, ugC, rA, rB, pB, tB, rC, cX, lX, oX, nX, sX, zX, cY, lY, oY, nY, sY, zY, tm, cl, KR, SO, SZ, EL, V, rfl, hA, hE, hgA, hgB, hmA, hmC, hpl, hipl, hSh⟩ := hCI
  exact c_X11_lay_s hA hE hgA hgB hmA hmC hpl hipl hSh hd hk hki hkf hk8 hf10 hc
set_option maxHeartbeats 8000000 in
theorem c_X11_lay_n {d c : Int32} (hA : oC b0 cd V) (hE : Ext Vb V) (hgA : Rk V ugA 7 0) (hgB : Rk V ugB 7 0) (hmA : mo V rA kd fg) (hmC : mo V rC ikd ifg) (hpl : ∀ g, g < 2 → pl g < 20) (hipl : ∀ g, g < 2 → ipl g < 20) (hSh : Sh V KR SO SZ EL kp so sz el ki kf) (h : ¬ spLay kp d c = 0) : KM l D Z b0 yX11_lay cX11_lay 5 (some .int) rmX11_lay [.ref (cd 0), .int d, .int c] (wC Z cd ik ugA ugB ugC rA (nf pl) hr rB pB tB rC (nf ipl) ihr cX lX oX nX sX zX cY lY oY nY sY zY tm cl KR SO SZ EL V) (fun v0 V' => v0 = some (.int (spLay kp d c)) ∧ CI Z b0 cd Vb ik kd fg pl hr ikd ifg ipl ihr kp so sz el ki kf V') := by
  refine KM.ofP (by decide) (Nat.le_of_ble_eq_true rfl) (fun Po hPo => ?_)
  refine G.locals (L' := [(0, .ref (cd 0)), (1, .int d), (2, .int c)]) [0, 1, 2] rfl ?_
  refine g_iload_n (q := 2) (pc := 0) dX11_lay_0 rfl rfl ?_
  refine g_bipush (v := nI 20) (pc := 1) dX11_lay_1 (by decide) ?_
  refine e_callS (k2 := 0) (n2 := 0) (As := [.int c, .int (nI 20)]) (rest := []) (pc := 3) (c_X11_isBelow (by decide)) mlX11_69 mX11_isBelow ⟨Nat.le_of_ble_eq_true rfl, Nat.le_of_ble_eq_true rfl⟩ rfl rfl (Nat.le_of_ble_eq_true rfl) dX11_lay_3 (by decide) rfl rfl ?_
  refine g_if_ne_B (tgt := 11) (pc := 6) dX11_lay_6 (by decide) (fun c1 => ?_) (fun c1 => ?_)
  · -- T c1
    obtain ⟨c, hc, rfl⟩ := inR_t c1
    refine g_aload_n (q := 0) (pc := 11) dX11_lay_11 rfl rfl ?_
    refine g_iload_n (q := 1) (pc := 12) dX11_lay_12 rfl rfl ?_
    rcases Sh.k hSh d with ho | ⟨d, hd, rfl, h0⟩ | ⟨d, hd, rfl, h1, a, q, f, hk1, hr1, hi1, hf1, hs1⟩ | ⟨d, hd, rfl, h2⟩
    · -- alt
      refine e_callV (k2 := 0) (n2 := 0) (As := [.int d]) (rest := []) (pc := 13) (wC_0 hA) rfl (c_X11_rockOn_o hA ho) mlX11_96 selX11_X11_rockOn_X11_rockOn mX11_rockOn ⟨Nat.le_of_ble_eq_true rfl, Nat.le_of_ble_eq_true rfl⟩ rfl rfl (Nat.le_of_ble_eq_true rfl) dX11_lay_13 (by decide) rfl rfl ?_
      refine g_astore_nN (lv' := [(3, .null), (0, .ref (cd 0)), (1, .int d), (2, .int (nI c))]) (pc := 16) dX11_lay_16 rfl (by decide) rfl ?_
      refine g_aload_nN (q := 0) (pc := 17) dX11_lay_17 rfl rfl ?_
      refine g_ifnonnullN (pc := 18) dX11_lay_18 ?_
      refine g_aload_n (q := 1) (pc := 21) dX11_lay_21 rfl rfl ?_
      refine g_iload_n (q := 2) (pc := 22) dX11_lay_22 rfl rfl ?_
      refine e_callV (k2 := 0) (n2 := 0) (As := [.int d]) (rest := []) (pc := 23) (wC_0 hA) rfl (c_X11_whyNot_o hA ho) mlX11_54 selX11_X11_whyNot_X11_whyNot mX11_whyNot ⟨Nat.le_of_ble_eq_true rfl, Nat.le_of_ble_eq_true rfl⟩ rfl rfl (Nat.le_of_ble_eq_true rfl) dX11_lay_23 (by decide) rfl rfl ?_
      exact g_iret (pc := 26) (by decide) (by decide) (gC hPo (by rw [spLay, if_pos (by assumption)]; first | exact spWK_o ho | exact spWK_0c hd h0.1 | exact spWK_2c hd h2.1) (CI.mk ⟨hA, hE, hgA, hgB, hmA, hmC, hpl, hipl, hSh⟩)) dX11_lay_26
    · -- alt
      refine e_callV (k2 := 0) (n2 := 0) (As := [.int (nI d)]) (rest := []) (pc := 13) (wC_0 hA) rfl (c_X11_rockOn_N hA hd h0.2.1) mlX11_96 selX11_X11_rockOn_X11_rockOn mX11_rockOn ⟨Nat.le_of_ble_eq_true rfl, Nat.le_of_ble_eq_true rfl⟩ rfl rfl (Nat.le_of_ble_eq_true rfl) dX11_lay_13 (by decide) rfl rfl ?_
      refine g_astore_nN (lv' := [(3, .null), (0, .ref (cd 0)), (1, .int (nI d)), (2, .int (nI c))]) (pc := 16) dX11_lay_16 rfl (by decide) rfl ?_
      refine g_aload_nN (q := 0) (pc := 17) dX11_lay_17 rfl rfl ?_
      refine g_ifnonnullN (pc := 18) dX11_lay_18 ?_
      refine g_aload_n (q := 1) (pc := 21) dX11_lay_21 rfl rfl ?_
      refine g_iload_n (q := 2) (pc := 22) dX11_lay_22 rfl rfl ?_
      refine e_callV (k2 := 0) (n2 := 0) (As := [.int (nI d)]) (rest := []) (pc := 23) (wC_0 hA) rfl (c_X11_whyNot_0 hA hd h0.2.1 h0.2.2) mlX11_54 selX11_X11_whyNot_X11_whyNot mX11_whyNot ⟨Nat.le_of_ble_eq_true rfl, Nat.le_of_ble_eq_true rfl⟩ rfl rfl (Nat.le_of_ble_eq_true rfl) dX11_lay_23 (by decide) rfl rfl ?_
      exact g_iret (pc := 26) (by decide) (by decide) (gC hPo (by rw [spLay, if_pos (by assumption)]; first | exact spWK_o ho | exact spWK_0c hd h0.1 | exact spWK_2c hd h2.1) (CI.mk ⟨hA, hE, hgA, hgB, hmA, hmC, hpl, hipl, hSh⟩)) dX11_lay_26
    · -- alt
      exact absurd (by rw [spLay, if_pos (by assumption)]; exact spWK_ok hd h1) h
    · -- alt
      refine e_callV (k2 := 0) (n2 := 0) (As := [.int (nI d)]) (rest := []) (pc := 13) (wC_0 hA) rfl (c_X11_rockOn_N hA hd h2.2.1) mlX11_96 selX11_X11_rockOn_X11_rockOn mX11_rockOn ⟨Nat.le_of_ble_eq_true rfl, Nat.le_of_ble_eq_true rfl⟩ rfl rfl (Nat.le_of_ble_eq_true rfl) dX11_lay_13 (by decide) rfl rfl ?_
      refine g_astore_nN (lv' := [(3, .null), (0, .ref (cd 0)), (1, .int (nI d)), (2, .int (nI c))]) (pc := 16) dX11_lay_16 rfl (by decide) rfl ?_
      refine g_aload_nN (q := 0) (pc := 17) dX11_lay_17 rfl rfl ?_
      refine g_ifnonnullN (pc := 18) dX11_lay_18 ?_
      refine g_aload_n (q := 1) (pc := 21) dX11_lay_21 rfl rfl ?_
      refine g_iload_n (q := 2) (pc := 22) dX11_lay_22 rfl rfl ?_
      refine e_callV (k2 := 0) (n2 := 0) (As := [.int (nI d)]) (rest := []) (pc := 23) (wC_0 hA) rfl (c_X11_whyNot_2 hA hd h2.2.1 h2.2.2.1 h2.2.2.2.1) mlX11_54 selX11_X11_whyNot_X11_whyNot mX11_whyNot ⟨Nat.le_of_ble_eq_true rfl, Nat.le_of_ble_eq_true rfl⟩ rfl rfl (Nat.le_of_ble_eq_true rfl) dX11_lay_23 (by decide) rfl rfl ?_
      exact g_iret (pc := 26) (by decide) (by decide) (gC hPo (by rw [spLay, if_pos (by assumption)]; first | exact spWK_o ho | exact spWK_0c hd h0.1 | exact spWK_2c hd h2.1) (CI.mk ⟨hA, hE, hgA, hgB, hmA, hmC, hpl, hipl, hSh⟩)) dX11_lay_26
  · -- F c1
    refine g_iconst (v := (-1)) (pc := 9) dX11_lay_9 (by decide) ?_
    exact g_iret (pc := 10) (by decide) (by decide) (gC hPo (by rw [spLay, if_neg (by simp [*])]) (CI.mk ⟨hA, hE, hgA, hgB, hmA, hmC, hpl, hipl, hSh⟩)) dX11_lay_10
theorem d_X11_lay_n {d c : Int32} {V2 : HV} (hCI : CI Z b0 cd Vb ik kd fg pl hr ikd ifg ipl ihr kp so sz el ki kf V2) (h : ¬ spLay kp d c = 0) : KM l D Z b0 yX11_lay cX11_lay 5 (some .int) rmX11_lay [.ref (cd 0), .int d, .int c] V2 (fun v0 V' => v0 = some (.int (spLay kp d c)) ∧ CI Z b0 cd Vb ik kd fg pl hr ikd ifg ipl ihr kp so sz el ki kf V') := by
  obtain ⟨ugA, ugB, ugC, rA, rB, pB, tB, rC, cX, lX, oX, nX, sX, zX, cY, lY, oY, nY, sY, zY, tm, cl, KR, SO, SZ, EL, V, rfl, hA, hE, hgA, hgB, hmA, hmC, hpl, hipl, hSh⟩ := hCI
  exact c_X11_lay_n hA hE hgA hgB hmA hmC hpl hipl hSh h
end MS
