section MS
variable {l : Launch} {D : va_G} {Z : Nat → ClassId} {b0 : Nat} {cd : Nat → Nat} {ik : Int32} {ugA ugB ugC : Nat} {rA : Nat → Nat} {pA tA : Nat → Int32} {rB : Nat → Nat} {pB tB : Nat → Int32} {rC : Nat → Nat} {pC tC cX lX oX nX sX zX cY lY oY nY sY zY tm cl : Nat → Int32} {KR : Nat → Option Nat} {SO : Nat → Int32} {SZ : Nat → Nat} {EL : Nat → Nat → Int32} {V : HV} {kA fA kB fB kC fC9 : Nat → Nat}
def rmX10_byKnocks : Room := { frames := 3, cells := 0, slots := 0, locals := 60 }
set_option maxHeartbeats 8000000 in
theorem c_X10_byKnocks_XA  (hA : oC b0 cd V) (hmA : mo V rA kA fA) : KE l D Z b0 yX10_byKnocks cX10_byKnocks 3 none rmX10_byKnocks [.ref (cd 14), .ref (cd 1)] (wC Z cd ik ugA ugB ugC rA pA tA rB pB tB rC pC tC cX lX oX nX sX zX cY lY oY nY sY zY tm cl KR SO SZ EL V) none (wC Z cd ik ugA ugB ugC rA pA tA rB pB tB rC pC tC (nf (sw kA fA)) lX oX nX (nf (lw kA fA)) zX cY lY oY nY sY zY tm cl KR SO SZ EL V) := by
  refine KE.of (by decide) (Nat.le_of_ble_eq_true rfl) (fun Po hPo => ?_)
  refine G.locals (L' := [(0, .ref (cd 14)), (1, .ref (cd 1))]) [0, 1] rfl ?_
  refine g_iconst (v := nI 0) (pc := 0) dX10_byKnocks_0 (by decide) ?_
  refine g_istore_n (lv' := [(2, .int (nI 0)), (0, .ref (cd 14)), (1, .ref (cd 1))]) (pc := 1) dX10_byKnocks_1 rfl (by decide) rfl ?_
  have lp2 : ∀ (d2 : Nat) (i : Nat) (hh : Nat → Int32) (gg : Nat → Int32), i + d2 = 21 → (i ≤ 20) → (∀ j, j < i → hh j = (nf (sw kA fA)) j) → (∀ j, j < i → gg j = (nf (lw kA fA)) j) → G l D Z b0 rmX10_byKnocks RX10 cX10_byKnocks 3 (gE none "byKnocks") (gT D b0 Po rmX10_byKnocks.cells rmX10_byKnocks.slots) (wC Z cd ik ugA ugB ugC rA pA tA rB pB tB rC pC tC hh lX oX nX gg zX cY lY oY nY sY zY tm cl KR SO SZ EL V) [(2, .int (nI i)), (0, .ref (cd 14)), (1, .ref (cd 1))] 0 0 2 [] := by
    intro d2
    induction d2 with
    | zero =>
      intro i hh gg hd2 hiN heq heg
      exact absurd hd2 (by omega)
    | succ d2 ih2 =>
      intro i hh gg hd2 hiN heq heg
      refine g_iload_n (q := 0) (pc := 2) dX10_byKnocks_2 rfl rfl ?_
      refine g_bipush (v := nI 20) (pc := 3) dX10_byKnocks_3 (by decide) ?_
      refine g_icmp_ge_N (tgt := 44) (pc := 5) (by omega) (by omega) dX10_byKnocks_5 (by decide) (fun c1 => ?_) (fun c1 => ?_)
      · -- T c1
        refine gc_eq_cX (f' := (nf (sw kA fA))) hA (fun j hj => heq j (by omega)) ?_
        refine gc_eq_sX (f' := (nf (lw kA fA))) hA (fun j hj => heg j (by omega)) ?_
        exact g_vret (pc := 44) (by decide) (by decide) (hPo) dX10_byKnocks_44
      · -- F c1
        refine g_aload_n (q := 1) (pc := 8) dX10_byKnocks_8 rfl rfl ?_
        refine gc_get_WX_cost (pc := 9) hA flX10_9 dX10_byKnocks_9 ?_
        refine g_iload_n (q := 0) (pc := 12) dX10_byKnocks_12 rfl rfl ?_
        refine g_aload_n (q := 2) (pc := 13) dX10_byKnocks_13 rfl rfl ?_
        refine gc_get_MA_cells (pc := 14) hA flX10_31 dX10_byKnocks_14 ?_
        refine g_iload_n (q := 0) (pc := 17) dX10_byKnocks_17 rfl rfl ?_
        refine gc_ld_rA (pc := 18) (c := i) hA (by omega) dX10_byKnocks_18 ?_
        refine g_rk_slow (pc := 19) (q := kA i) (f := fA i) (wC_rk hA (hmA i (by omega))) mlX10_37 ⟨Nat.le_of_ble_eq_true rfl, Nat.le_of_ble_eq_true rfl⟩ (Nat.le_of_ble_eq_true rfl) dX10_byKnocks_19 ⟨Nat.zero_le _, Nat.zero_le _⟩ ?_
        refine gc_st_cX (pc := 22) (j := i) (f' := (upd hh i (nI (slowN (kA i) (fA i))))) hA (by omega) rfl dX10_byKnocks_22 ?_
        refine g_aload_n (q := 1) (pc := 23) dX10_byKnocks_23 rfl rfl ?_
        refine gc_get_WX_loss (pc := 24) hA flX10_24 dX10_byKnocks_24 ?_
        refine g_iload_n (q := 0) (pc := 27) dX10_byKnocks_27 rfl rfl ?_
        refine g_aload_n (q := 2) (pc := 28) dX10_byKnocks_28 rfl rfl ?_
        refine gc_get_MA_cells (pc := 29) hA flX10_31 dX10_byKnocks_29 ?_
        refine g_iload_n (q := 0) (pc := 32) dX10_byKnocks_32 rfl rfl ?_
        refine gc_ld_rA (pc := 33) (c := i) hA (by omega) dX10_byKnocks_33 ?_
        refine g_rk_loss (pc := 34) (q := kA i) (f := fA i) (wC_rk hA (hmA i (by omega))) mlX10_43 ⟨Nat.le_of_ble_eq_true rfl, Nat.le_of_ble_eq_true rfl⟩ (Nat.le_of_ble_eq_true rfl) dX10_byKnocks_34 ⟨Nat.zero_le _, Nat.zero_le _⟩ ?_
        refine gc_st_sX (pc := 37) (j := i) (f' := (upd gg i (nI (lossN (kA i) (fA i))))) hA (by omega) rfl dX10_byKnocks_37 ?_
        refine g_iinc (q := 0) (lv' := [(2, .int (nI (i + 1))), (0, .ref (cd 14)), (1, .ref (cd 1))]) (pc := 38) dX10_byKnocks_38 rfl (nI_inc _ _) (by decide) rfl ?_
        refine g_goto (tgt := 2) (pc := 41) dX10_byKnocks_41 (by decide) ?_
        refine G.locals (L' := [(2, .int (nI (i + 1))), (0, .ref (cd 14)), (1, .ref (cd 1))]) [0, 1, 2] rfl ?_
        exact ih2 (i + 1) (upd hh i ((nf (sw kA fA)) i)) (upd gg i ((nf (lw kA fA)) i)) (by omega) (by omega) (cpI heq) (cpI heg)
  refine G.locals (L' := [(2, .int (nI 0)), (0, .ref (cd 14)), (1, .ref (cd 1))]) [0, 1, 2] rfl ?_
  exact lp2 21 0 cX sX (by omega) (by decide) (fun j hj => absurd hj (Nat.not_lt_zero _)) (fun j hj => absurd hj (Nat.not_lt_zero _))
set_option maxHeartbeats 8000000 in
theorem c_X10_byKnocks_XB  (hA : oC b0 cd V) (hmB : mo V rB kB fB) : KE l D Z b0 yX10_byKnocks cX10_byKnocks 3 none rmX10_byKnocks [.ref (cd 14), .ref (cd 2)] (wC Z cd ik ugA ugB ugC rA pA tA rB pB tB rC pC tC cX lX oX nX sX zX cY lY oY nY sY zY tm cl KR SO SZ EL V) none (wC Z cd ik ugA ugB ugC rA pA tA rB pB tB rC pC tC (nf (sw kB fB)) lX oX nX (nf (lw kB fB)) zX cY lY oY nY sY zY tm cl KR SO SZ EL V) := by
  refine KE.of (by decide) (Nat.le_of_ble_eq_true rfl) (fun Po hPo => ?_)
  refine G.locals (L' := [(0, .ref (cd 14)), (1, .ref (cd 2))]) [0, 1] rfl ?_
  refine g_iconst (v := nI 0) (pc := 0) dX10_byKnocks_0 (by decide) ?_
  refine g_istore_n (lv' := [(2, .int (nI 0)), (0, .ref (cd 14)), (1, .ref (cd 2))]) (pc := 1) dX10_byKnocks_1 rfl (by decide) rfl ?_
  have lp2 : ∀ (d2 : Nat) (i : Nat) (hh : Nat → Int32) (gg : Nat → Int32), i + d2 = 21 → (i ≤ 20) → (∀ j, j < i → hh j = (nf (sw kB fB)) j) → (∀ j, j < i → gg j = (nf (lw kB fB)) j) → G l D Z b0 rmX10_byKnocks RX10 cX10_byKnocks 3 (gE none "byKnocks") (gT D b0 Po rmX10_byKnocks.cells rmX10_byKnocks.slots) (wC Z cd ik ugA ugB ugC rA pA tA rB pB tB rC pC tC hh lX oX nX gg zX cY lY oY nY sY zY tm cl KR SO SZ EL V) [(2, .int (nI i)), (0, .ref (cd 14)), (1, .ref (cd 2))] 0 0 2 [] := by
    intro d2
    induction d2 with
    | zero =>
      intro i hh gg hd2 hiN heq heg
      exact absurd hd2 (by omega)
    | succ d2 ih2 =>
      intro i hh gg hd2 hiN heq heg
      refine g_iload_n (q := 0) (pc := 2) dX10_byKnocks_2 rfl rfl ?_
      refine g_bipush (v := nI 20) (pc := 3) dX10_byKnocks_3 (by decide) ?_
      refine g_icmp_ge_N (tgt := 44) (pc := 5) (by omega) (by omega) dX10_byKnocks_5 (by decide) (fun c1 => ?_) (fun c1 => ?_)
      · -- T c1
        refine gc_eq_cX (f' := (nf (sw kB fB))) hA (fun j hj => heq j (by omega)) ?_
        refine gc_eq_sX (f' := (nf (lw kB fB))) hA (fun j hj => heg j (by omega)) ?_
        exact g_vret (pc := 44) (by decide) (by decide) (hPo) dX10_byKnocks_44
      · -- F c1
        refine g_aload_n (q := 1) (pc := 8) dX10_byKnocks_8 rfl rfl ?_
        refine gc_get_WX_cost (pc := 9) hA flX10_9 dX10_byKnocks_9 ?_
        refine g_iload_n (q := 0) (pc := 12) dX10_byKnocks_12 rfl rfl ?_
        refine g_aload_n (q := 2) (pc := 13) dX10_byKnocks_13 rfl rfl ?_
        refine gc_get_MB_cells (pc := 14) hA flX10_31 dX10_byKnocks_14 ?_
        refine g_iload_n (q := 0) (pc := 17) dX10_byKnocks_17 rfl rfl ?_
        refine gc_ld_rB (pc := 18) (c := i) hA (by omega) dX10_byKnocks_18 ?_
        refine g_rk_slow (pc := 19) (q := kB i) (f := fB i) (wC_rk hA (hmB i (by omega))) mlX10_37 ⟨Nat.le_of_ble_eq_true rfl, Nat.le_of_ble_eq_true rfl⟩ (Nat.le_of_ble_eq_true rfl) dX10_byKnocks_19 ⟨Nat.zero_le _, Nat.zero_le _⟩ ?_
        refine gc_st_cX (pc := 22) (j := i) (f' := (upd hh i (nI (slowN (kB i) (fB i))))) hA (by omega) rfl dX10_byKnocks_22 ?_
        refine g_aload_n (q := 1) (pc := 23) dX10_byKnocks_23 rfl rfl ?_
        refine gc_get_WX_loss (pc := 24) hA flX10_24 dX10_byKnocks_24 ?_
        refine g_iload_n (q := 0) (pc := 27) dX10_byKnocks_27 rfl rfl ?_
        refine g_aload_n (q := 2) (pc := 28) dX10_byKnocks_28 rfl rfl ?_
        refine gc_get_MB_cells (pc := 29) hA flX10_31 dX10_byKnocks_29 ?_
        refine g_iload_n (q := 0) (pc := 32) dX10_byKnocks_32 rfl rfl ?_
        refine gc_ld_rB (pc := 33) (c := i) hA (by omega) dX10_byKnocks_33 ?_
        refine g_rk_loss (pc := 34) (q := kB i) (f := fB i) (wC_rk hA (hmB i (by omega))) mlX10_43 ⟨Nat.le_of_ble_eq_true rfl, Nat.le_of_ble_eq_true rfl⟩ (Nat.le_of_ble_eq_true rfl) dX10_byKnocks_34 ⟨Nat.zero_le _, Nat.zero_le _⟩ ?_
        refine gc_st_sX (pc := 37) (j := i) (f' := (upd gg i (nI (lossN (kB i) (fB i))))) hA (by omega) rfl dX10_byKnocks_37 ?_
        refine g_iinc (q := 0) (lv' := [(2, .int (nI (i + 1))), (0, .ref (cd 14)), (1, .ref (cd 2))]) (pc := 38) dX10_byKnocks_38 rfl (nI_inc _ _) (by decide) rfl ?_
        refine g_goto (tgt := 2) (pc := 41) dX10_byKnocks_41 (by decide) ?_
        refine G.locals (L' := [(2, .int (nI (i + 1))), (0, .ref (cd 14)), (1, .ref (cd 2))]) [0, 1, 2] rfl ?_
        exact ih2 (i + 1) (upd hh i ((nf (sw kB fB)) i)) (upd gg i ((nf (lw kB fB)) i)) (by omega) (by omega) (cpI heq) (cpI heg)
  refine G.locals (L' := [(2, .int (nI 0)), (0, .ref (cd 14)), (1, .ref (cd 2))]) [0, 1, 2] rfl ?_
  exact lp2 21 0 cX sX (by omega) (by decide) (fun j hj => absurd hj (Nat.not_lt_zero _)) (fun j hj => absurd hj (Nat.not_lt_zero _))
def rmX10_byToil : Room := { frames := 3, cells := 0, slots := 0, locals := 60 }
set_option maxHeartbeats 8000000 in
theorem c_X10_byToil_XA  (hA : oC b0 cd V) (hmA : mo V rA kA fA) : KE l D Z b0 yX10_byToil cX10_byToil 3 none rmX10_byToil [.ref (cd 14), .ref (cd 1)] (wC Z cd ik ugA ugB ugC rA pA tA rB pB tB rC pC tC cX lX oX nX sX zX cY lY oY nY sY zY tm cl KR SO SZ EL V) none (wC Z cd ik ugA ugB ugC rA pA tA rB pB tB rC pC tC (nf (tw kA fA)) lX oX nX (nf (fun _ => 0)) zX cY lY oY nY sY zY tm cl KR SO SZ EL V) := by
  refine KE.of (by decide) (Nat.le_of_ble_eq_true rfl) (fun Po hPo => ?_)
  refine G.locals (L' := [(0, .ref (cd 14)), (1, .ref (cd 1))]) [0, 1] rfl ?_
  refine g_iconst (v := nI 0) (pc := 0) dX10_byToil_0 (by decide) ?_
  refine g_istore_n (lv' := [(2, .int (nI 0)), (0, .ref (cd 14)), (1, .ref (cd 1))]) (pc := 1) dX10_byToil_1 rfl (by decide) rfl ?_
  have lp2 : ∀ (d2 : Nat) (i : Nat) (hh : Nat → Int32) (gg : Nat → Int32), i + d2 = 21 → (i ≤ 20) → (∀ j, j < i → hh j = (nf (tw kA fA)) j) → (∀ j, j < i → gg j = (nf (fun _ => 0)) j) → G l D Z b0 rmX10_byToil RX10 cX10_byToil 3 (gE none "byToil") (gT D b0 Po rmX10_byToil.cells rmX10_byToil.slots) (wC Z cd ik ugA ugB ugC rA pA tA rB pB tB rC pC tC hh lX oX nX gg zX cY lY oY nY sY zY tm cl KR SO SZ EL V) [(2, .int (nI i)), (0, .ref (cd 14)), (1, .ref (cd 1))] 0 0 2 [] := by
    intro d2
    induction d2 with
    | zero =>
      intro i hh gg hd2 hiN heq heg
      exact absurd hd2 (by omega)
    | succ d2 ih2 =>
      intro i hh gg hd2 hiN heq heg
      refine g_iload_n (q := 0) (pc := 2) dX10_byToil_2 rfl rfl ?_
      refine g_bipush (v := nI 20) (pc := 3) dX10_byToil_3 (by decide) ?_
      refine g_icmp_ge_N (tgt := 36) (pc := 5) (by omega) (by omega) dX10_byToil_5 (by decide) (fun c1 => ?_) (fun c1 => ?_)
      · -- T c1
        refine gc_eq_cX (f' := (nf (tw kA fA))) hA (fun j hj => heq j (by omega)) ?_
        refine gc_eq_sX (f' := (nf (fun _ => 0))) hA (fun j hj => heg j (by omega)) ?_
        exact g_vret (pc := 36) (by decide) (by decide) (hPo) dX10_byToil_36
      · -- F c1
        refine g_aload_n (q := 1) (pc := 8) dX10_byToil_8 rfl rfl ?_
        refine gc_get_WX_cost (pc := 9) hA flX10_9 dX10_byToil_9 ?_
        refine g_iload_n (q := 0) (pc := 12) dX10_byToil_12 rfl rfl ?_
        refine g_aload_n (q := 2) (pc := 13) dX10_byToil_13 rfl rfl ?_
        refine gc_get_MA_cells (pc := 14) hA flX10_31 dX10_byToil_14 ?_
        refine g_iload_n (q := 0) (pc := 17) dX10_byToil_17 rfl rfl ?_
        refine gc_ld_rA (pc := 18) (c := i) hA (by omega) dX10_byToil_18 ?_
        refine g_rk_toil (pc := 19) (q := kA i) (f := fA i) (wC_rk hA (hmA i (by omega))) mlX10_45 ⟨Nat.le_of_ble_eq_true rfl, Nat.le_of_ble_eq_true rfl⟩ (Nat.le_of_ble_eq_true rfl) dX10_byToil_19 ⟨Nat.zero_le _, Nat.zero_le _⟩ ?_
        refine gc_st_cX (pc := 22) (j := i) (f' := (upd hh i (nI (toilN (kA i) (fA i))))) hA (by omega) rfl dX10_byToil_22 ?_
        refine g_aload_n (q := 1) (pc := 23) dX10_byToil_23 rfl rfl ?_
        refine gc_get_WX_loss (pc := 24) hA flX10_24 dX10_byToil_24 ?_
        refine g_iload_n (q := 0) (pc := 27) dX10_byToil_27 rfl rfl ?_
        refine g_iconst (v := nI 0) (pc := 28) dX10_byToil_28 (by decide) ?_
        refine gc_st_sX (pc := 29) (j := i) (f' := (upd gg i (nI 0))) hA (by omega) rfl dX10_byToil_29 ?_
        refine g_iinc (q := 0) (lv' := [(2, .int (nI (i + 1))), (0, .ref (cd 14)), (1, .ref (cd 1))]) (pc := 30) dX10_byToil_30 rfl (nI_inc _ _) (by decide) rfl ?_
        refine g_goto (tgt := 2) (pc := 33) dX10_byToil_33 (by decide) ?_
        refine G.locals (L' := [(2, .int (nI (i + 1))), (0, .ref (cd 14)), (1, .ref (cd 1))]) [0, 1, 2] rfl ?_
        exact ih2 (i + 1) (upd hh i ((nf (tw kA fA)) i)) (upd gg i ((nf (fun _ => 0)) i)) (by omega) (by omega) (cpI heq) (cpI heg)
  refine G.locals (L' := [(2, .int (nI 0)), (0, .ref (cd 14)), (1, .ref (cd 1))]) [0, 1, 2] rfl ?_
  exact lp2 21 0 cX sX (by omega) (by decide) (fun j hj => absurd hj (Nat.not_lt_zero _)) (fun j hj => absurd hj (Nat.not_lt_zero _))
set_option maxHeartbeats 8000000 in
theorem c_X10_byToil_XB  (hA : oC b0 cd V) (hmB : mo V rB kB fB) : KE l D Z b0 yX10_byToil cX10_byToil 3 none rmX10_byToil [.ref (cd 14), .ref (cd 2)] (wC Z cd ik ugA ugB ugC rA pA tA rB pB tB rC pC tC cX lX oX nX sX zX cY lY oY nY sY zY tm cl KR SO SZ EL V) none (wC Z cd ik ugA ugB ugC rA pA tA rB pB tB rC pC tC (nf (tw kB fB)) lX oX nX (nf (fun _ => 0)) zX cY lY oY nY sY zY tm cl KR SO SZ EL V) := by
  refine KE.of (by decide) (Nat.le_of_ble_eq_true rfl) (fun Po hPo => ?_)
  refine G.locals (L' := [(0, .ref (cd 14)), (1, .ref (cd 2))]) [0, 1] rfl ?_
  refine g_iconst (v := nI 0) (pc := 0) dX10_byToil_0 (by decide) ?_
  refine g_istore_n (lv' := [(2, .int (nI 0)), (0, .ref (cd 14)), (1, .ref (cd 2))]) (pc := 1) dX10_byToil_1 rfl (by decide) rfl ?_
  have lp2 : ∀ (d2 : Nat) (i : Nat) (hh : Nat → Int32) (gg : Nat → Int32), i + d2 = 21 → (i ≤ 20) → (∀ j, j < i → hh j = (nf (tw kB fB)) j) → (∀ j, j < i → gg j = (nf (fun _ => 0)) j) → G l D Z b0 rmX10_byToil RX10 cX10_byToil 3 (gE none "byToil") (gT D b0 Po rmX10_byToil.cells rmX10_byToil.slots) (wC Z cd ik ugA ugB ugC rA pA tA rB pB tB rC pC tC hh lX oX nX gg zX cY lY oY nY sY zY tm cl KR SO SZ EL V) [(2, .int (nI i)), (0, .ref (cd 14)), (1, .ref (cd 2))] 0 0 2 [] := by
    intro d2
    induction d2 with
    | zero =>
      intro i hh gg hd2 hiN heq heg
      exact absurd hd2 (by omega)
    | succ d2 ih2 =>
      intro i hh gg hd2 hiN heq heg
      refine g_iload_n (q := 0) (pc := 2) dX10_byToil_2 rfl rfl ?_
      refine g_bipush (v := nI 20) (pc := 3) dX10_byToil_3 (by decide) ?_
      refine g_icmp_ge_N (tgt := 36) (pc := 5) (by omega) (by omega) dX10_byToil_5 (by decide) (fun c1 => ?_) (fun c1 => ?_)
      · -- T c1
        refine gc_eq_cX (f' := (nf (tw kB fB))) hA (fun j hj => heq j (by omega)) ?_
        refine gc_eq_sX (f' := (nf (fun _ => 0))) hA (fun j hj => heg j (by omega)) ?_
        exact g_vret (pc := 36) (by decide) (by decide) (hPo) dX10_byToil_36
      · -- F c1
        refine g_aload_n (q := 1) (pc := 8) dX10_byToil_8 rfl rfl ?_
        refine gc_get_WX_cost (pc := 9) hA flX10_9 dX10_byToil_9 ?_
        refine g_iload_n (q := 0) (pc := 12) dX10_byToil_12 rfl rfl ?_
        refine g_aload_n (q := 2) (pc := 13) dX10_byToil_13 rfl rfl ?_
        refine gc_get_MB_cells (pc := 14) hA flX10_31 dX10_byToil_14 ?_
        refine g_iload_n (q := 0) (pc := 17) dX10_byToil_17 rfl rfl ?_
        refine gc_ld_rB (pc := 18) (c := i) hA (by omega) dX10_byToil_18 ?_
        refine g_rk_toil (pc := 19) (q := kB i) (f := fB i) (wC_rk hA (hmB i (by omega))) mlX10_45 ⟨Nat.le_of_ble_eq_true rfl, Nat.le_of_ble_eq_true rfl⟩ (Nat.le_of_ble_eq_true rfl) dX10_byToil_19 ⟨Nat.zero_le _, Nat.zero_le _⟩ ?_
        refine gc_st_cX (pc := 22) (j := i) (f' := (upd hh i (nI (toilN (kB i) (fB i))))) hA (by omega) rfl dX10_byToil_22 ?_
        refine g_aload_n (q := 1) (pc := 23) dX10_byToil_23 rfl rfl ?_
        refine gc_get_WX_loss (pc := 24) hA flX10_24 dX10_byToil_24 ?_
        refine g_iload_n (q := 0) (pc := 27) dX10_byToil_27 rfl rfl ?_
        refine g_iconst (v := nI 0) (pc := 28) dX10_byToil_28 (by decide) ?_
        refine gc_st_sX (pc := 29) (j := i) (f' := (upd gg i (nI 0))) hA (by omega) rfl dX10_byToil_29 ?_
        refine g_iinc (q := 0) (lv' := [(2, .int (nI (i + 1))), (0, .ref (cd 14)), (1, .ref (cd 2))]) (pc := 30) dX10_byToil_30 rfl (nI_inc _ _) (by decide) rfl ?_
        refine g_goto (tgt := 2) (pc := 33) dX10_byToil_33 (by decide) ?_
        refine G.locals (L' := [(2, .int (nI (i + 1))), (0, .ref (cd 14)), (1, .ref (cd 2))]) [0, 1, 2] rfl ?_
        exact ih2 (i + 1) (upd hh i ((nf (tw kB fB)) i)) (upd gg i ((nf (fun _ => 0)) i)) (by omega) (by omega) (cpI heq) (cpI heg)
  refine G.locals (L' := [(2, .int (nI 0)), (0, .ref (cd 14)), (1, .ref (cd 2))]) [0, 1, 2] rfl ?_
  exact lp2 21 0 cX sX (by omega) (by decide) (fun j hj => absurd hj (Nat.not_lt_zero _)) (fun j hj => absurd hj (Nat.not_lt_zero _))
set_option maxHeartbeats 8000000 in
theorem c_X10_byToil_YA  (hA : oC b0 cd V) (hmA : mo V rA kA fA) : KE l D Z b0 yX10_byToil cX10_byToil 3 none rmX10_byToil [.ref (cd 15), .ref (cd 1)] (wC Z cd ik ugA ugB ugC rA pA tA rB pB tB rC pC tC cX lX oX nX sX zX cY lY oY nY sY zY tm cl KR SO SZ EL V) none (wC Z cd ik ugA ugB ugC rA pA tA rB pB tB rC pC tC cX lX oX nX sX zX (nf (tw kA fA)) lY oY nY (nf (fun _ => 0)) zY tm cl KR SO SZ EL V) := by
  refine KE.of (by decide) (Nat.le_of_ble_eq_true rfl) (fun Po hPo => ?_)
  refine G.locals (L' := [(0, .ref (cd 15)), (1, .ref (cd 1))]) [0, 1] rfl ?_
  refine g_iconst (v := nI 0) (pc := 0) dX10_byToil_0 (by decide) ?_
  refine g_istore_n (lv' := [(2, .int (nI 0)), (0, .ref (cd 15)), (1, .ref (cd 1))]) (pc := 1) dX10_byToil_1 rfl (by decide) rfl ?_
  have lp2 : ∀ (d2 : Nat) (i : Nat) (hh : Nat → Int32) (gg : Nat → Int32), i + d2 = 21 → (i ≤ 20) → (∀ j, j < i → hh j = (nf (tw kA fA)) j) → (∀ j, j < i → gg j = (nf (fun _ => 0)) j) → G l D Z b0 rmX10_byToil RX10 cX10_byToil 3 (gE none "byToil") (gT D b0 Po rmX10_byToil.cells rmX10_byToil.slots) (wC Z cd ik ugA ugB ugC rA pA tA rB pB tB rC pC tC cX lX oX nX sX zX hh lY oY nY gg zY tm cl KR SO SZ EL V) [(2, .int (nI i)), (0, .ref (cd 15)), (1, .ref (cd 1))] 0 0 2 [] := by
    intro d2
    induction d2 with
    | zero =>
      intro i hh gg hd2 hiN heq heg
      exact absurd hd2 (by omega)
    | succ d2 ih2 =>
      intro i hh gg hd2 hiN heq heg
      refine g_iload_n (q := 0) (pc := 2) dX10_byToil_2 rfl rfl ?_
      refine g_bipush (v := nI 20) (pc := 3) dX10_byToil_3 (by decide) ?_
      refine g_icmp_ge_N (tgt := 36) (pc := 5) (by omega) (by omega) dX10_byToil_5 (by decide) (fun c1 => ?_) (fun c1 => ?_)
      · -- T c1
        refine gc_eq_cY (f' := (nf (tw kA fA))) hA (fun j hj => heq j (by omega)) ?_
        refine gc_eq_sY (f' := (nf (fun _ => 0))) hA (fun j hj => heg j (by omega)) ?_
        exact g_vret (pc := 36) (by decide) (by decide) (hPo) dX10_byToil_36
      · -- F c1
        refine g_aload_n (q := 1) (pc := 8) dX10_byToil_8 rfl rfl ?_
        refine gc_get_WY_cost (pc := 9) hA flX10_9 dX10_byToil_9 ?_
        refine g_iload_n (q := 0) (pc := 12) dX10_byToil_12 rfl rfl ?_
        refine g_aload_n (q := 2) (pc := 13) dX10_byToil_13 rfl rfl ?_
        refine gc_get_MA_cells (pc := 14) hA flX10_31 dX10_byToil_14 ?_
        refine g_iload_n (q := 0) (pc := 17) dX10_byToil_17 rfl rfl ?_
        refine gc_ld_rA (pc := 18) (c := i) hA (by omega) dX10_byToil_18 ?_
        refine g_rk_toil (pc := 19) (q := kA i) (f := fA i) (wC_rk hA (hmA i (by omega))) mlX10_45 ⟨Nat.le_of_ble_eq_true rfl, Nat.le_of_ble_eq_true rfl⟩ (Nat.le_of_ble_eq_true rfl) dX10_byToil_19 ⟨Nat.zero_le _, Nat.zero_le _⟩ ?_
        refine gc_st_cY (pc := 22) (j := i) (f' := (upd hh i (nI (toilN (kA i) (fA i))))) hA (by omega) rfl dX10_byToil_22 ?_
        refine g_aload_n (q := 1) (pc := 23) dX10_byToil_23 rfl rfl ?_
        refine gc_get_WY_loss (pc := 24) hA flX10_24 dX10_byToil_24 ?_
        refine g_iload_n (q := 0) (pc := 27) dX10_byToil_27 rfl rfl ?_
        refine g_iconst (v := nI 0) (pc := 28) dX10_byToil_28 (by decide) ?_
        refine gc_st_sY (pc := 29) (j := i) (f' := (upd gg i (nI 0))) hA (by omega) rfl dX10_byToil_29 ?_
        refine g_iinc (q := 0) (lv' := [(2, .int (nI (i + 1))), (0, .ref (cd 15)), (1, .ref (cd 1))]) (pc := 30) dX10_byToil_30 rfl (nI_inc _ _) (by decide) rfl ?_
        refine g_goto (tgt := 2) (pc := 33) dX10_byToil_33 (by decide) ?_
        refine G.locals (L' := [(2, .int (nI (i + 1))), (0, .ref (cd 15)), (1, .ref (cd 1))]) [0, 1, 2] rfl ?_
        exact ih2 (i + 1) (upd hh i ((nf (tw kA fA)) i)) (upd gg i ((nf (fun _ => 0)) i)) (by omega) (by omega) (cpI heq) (cpI heg)
  refine G.locals (L' := [(2, .int (nI 0)), (0, .ref (cd 15)), (1, .ref (cd 1))]) [0, 1, 2] rfl ?_
  exact lp2 21 0 cY sY (by omega) (by decide) (fun j hj => absurd hj (Nat.not_lt_zero _)) (fun j hj => absurd hj (Nat.not_lt_zero _))
set_option maxHeartbeats 8000000 in
theorem c_X10_byToil_YB  (hA : oC b0 cd V) (hmB : mo V rB kB fB) : KE l D Z b0 yX10_byToil cX10_byToil 3 none rmX10_byToil [.ref (cd 15), .ref (cd 2)] (wC Z cd ik ugA ugB ugC rA pA tA rB pB tB rC pC tC cX lX oX nX sX zX cY lY oY nY sY zY tm cl KR SO SZ EL V) none (wC Z cd ik ugA ugB ugC rA pA tA rB pB tB rC pC tC cX lX oX nX sX zX (nf (tw kB fB)) lY oY nY (nf (fun _ => 0)) zY tm cl KR SO SZ EL V) := by
  refine KE.of (by decide) (Nat.le_of_ble_eq_true rfl) (fun Po hPo => ?_)
  refine G.locals (L' := [(0, .ref (cd 15)), (1, .ref (cd 2))]) [0, 1] rfl ?_
  refine g_iconst (v := nI 0) (pc := 0) dX10_byToil_0 (by decide) ?_
  refine g_istore_n (lv' := [(2, .int (nI 0)), (0, .ref (cd 15)), (1, .ref (cd 2))]) (pc := 1) dX10_byToil_1 rfl (by decide) rfl ?_
  have lp2 : ∀ (d2 : Nat) (i : Nat) (hh : Nat → Int32) (gg : Nat → Int32), i + d2 = 21 → (i ≤ 20) → (∀ j, j < i → hh j = (nf (tw kB fB)) j) → (∀ j, j < i → gg j = (nf (fun _ => 0)) j) → G l D Z b0 rmX10_byToil RX10 cX10_byToil 3 (gE none "byToil") (gT D b0 Po rmX10_byToil.cells rmX10_byToil.slots) (wC Z cd ik ugA ugB ugC rA pA tA rB pB tB rC pC tC cX lX oX nX sX zX hh lY oY nY gg zY tm cl KR SO SZ EL V) [(2, .int (nI i)), (0, .ref (cd 15)), (1, .ref (cd 2))] 0 0 2 [] := by
    intro d2
    induction d2 with
    | zero =>
      intro i hh gg hd2 hiN heq heg
      exact absurd hd2 (by omega)
    | succ d2 ih2 =>
      intro i hh gg hd2 hiN heq heg
      refine g_iload_n (q := 0) (pc := 2) dX10_byToil_2 rfl rfl ?_
      refine g_bipush (v := nI 20) (pc := 3) dX10_byToil_3 (by decide) ?_
      refine g_icmp_ge_N (tgt := 36) (pc := 5) (by omega) (by omega) dX10_byToil_5 (by decide) (fun c1 => ?_) (fun c1 => ?_)
      · -- T c1
        refine gc_eq_cY (f' := (nf (tw kB fB))) hA (fun j hj => heq j (by omega)) ?_
        refine gc_eq_sY (f' := (nf (fun _ => 0))) hA (fun j hj => heg j (by omega)) ?_
        exact g_vret (pc := 36) (by decide) (by decide) (hPo) dX10_byToil_36
      · -- F c1
        refine g_aload_n (q := 1) (pc := 8) dX10_byToil_8 rfl rfl ?_
        refine gc_get_WY_cost (pc := 9) hA flX10_9 dX10_byToil_9 ?_
        refine g_iload_n (q := 0) (pc := 12) dX10_byToil_12 rfl rfl ?_
        refine g_aload_n (q := 2) (pc := 13) dX10_byToil_13 rfl rfl ?_
        refine gc_get_MB_cells (pc := 14) hA flX10_31 dX10_byToil_14 ?_
        refine g_iload_n (q := 0) (pc := 17) dX10_byToil_17 rfl rfl ?_
        refine gc_ld_rB (pc := 18) (c := i) hA (by omega) dX10_byToil_18 ?_
        refine g_rk_toil (pc := 19) (q := kB i) (f := fB i) (wC_rk hA (hmB i (by omega))) mlX10_45 ⟨Nat.le_of_ble_eq_true rfl, Nat.le_of_ble_eq_true rfl⟩ (Nat.le_of_ble_eq_true rfl) dX10_byToil_19 ⟨Nat.zero_le _, Nat.zero_le _⟩ ?_
        refine gc_st_cY (pc := 22) (j := i) (f' := (upd hh i (nI (toilN (kB i) (fB i))))) hA (by omega) rfl dX10_byToil_22 ?_
        refine g_aload_n (q := 1) (pc := 23) dX10_byToil_23 rfl rfl ?_
        refine gc_get_WY_loss (pc := 24) hA flX10_24 dX10_byToil_24 ?_
        refine g_iload_n (q := 0) (pc := 27) dX10_byToil_27 rfl rfl ?_
        refine g_iconst (v := nI 0) (pc := 28) dX10_byToil_28 (by decide) ?_
        refine gc_st_sY (pc := 29) (j := i) (f' := (upd gg i (nI 0))) hA (by omega) rfl dX10_byToil_29 ?_
        refine g_iinc (q := 0) (lv' := [(2, .int (nI (i + 1))), (0, .ref (cd 15)), (1, .ref (cd 2))]) (pc := 30) dX10_byToil_30 rfl (nI_inc _ _) (by decide) rfl ?_
        refine g_goto (tgt := 2) (pc := 33) dX10_byToil_33 (by decide) ?_
        refine G.locals (L' := [(2, .int (nI (i + 1))), (0, .ref (cd 15)), (1, .ref (cd 2))]) [0, 1, 2] rfl ?_
        exact ih2 (i + 1) (upd hh i ((nf (tw kB fB)) i)) (upd gg i ((nf (fun _ => 0)) i)) (by omega) (by omega) (cpI heq) (cpI heg)
  refine G.locals (L' := [(2, .int (nI 0)), (0, .ref (cd 15)), (1, .ref (cd 2))]) [0, 1, 2] rfl ?_
  exact lp2 21 0 cY sY (by omega) (by decide) (fun j hj => absurd hj (Nat.not_lt_zero _)) (fun j hj => absurd hj (Nat.not_lt_zero _))
/-! ===== the nearest of the unsettled cells ===== -/
def NE (S : Nat → Bool) (T : Nat → Nat) (i b t : Nat) : Prop := t ≤ 1000001 ∧ ((t = 1000001 ∧ ∀ v, v < i → S v = true) ∨ (b < 20 ∧ S b = false ∧ t = T b ∧ ∀ v, v < i → S v = false → T b ≤ T v))
theorem NE.ini {S : Nat → Bool} {T : Nat → Nat} : NE S T 0 0 1000001 := ⟨Nat.le_refl _, Or.inl ⟨rfl, fun v hv => absurd hv (Nat.not_lt_zero _)⟩⟩
theorem NE.st {S : Nat → Bool} {T : Nat → Nat} {i b t : Nat} (h : NE S T i b t) (hS : S i = true) : NE S T (i + 1) b t := by
  refine ⟨h.1, ?_⟩
  rcases h.2 with ⟨h1, h2⟩ | ⟨h1, h2, h3, h4⟩
  · exact Or.inl ⟨h1, fun v hv => by
      by_cases q : v = i
      · subst q; exact hS
      · exact h2 v (by omega)⟩
  · exact Or.inr ⟨h1, h2, h3, fun v hv hv2 => by
      by_cases q : v = i
      · subst q; rw [hS] at hv2; cases hv2
      · exact h4 v (by omega) hv2⟩
theorem NE.ge {S : Nat → Bool} {T : Nat → Nat} {i b t : Nat} (h : NE S T i b t) (hT : T i ≤ 1000000) (hg : t ≤ T i) : NE S T (i + 1) b t := by
  refine ⟨h.1, ?_⟩
  rcases h.2 with ⟨h1, h2⟩ | ⟨h1, h2, h3, h4⟩
  · omega
  · exact Or.inr ⟨h1, h2, h3, fun v hv hv2 => by
      by_cases q : v = i
      · subst q; omega
      · exact h4 v (by omega) hv2⟩
theorem NE.lt {S : Nat → Bool} {T : Nat → Nat} {i b t : Nat} (h : NE S T i b t) (hi : i < 20) (hS : S i = false) (hT : T i ≤ 1000000) (hg : T i < t) : NE S T (i + 1) i (T i) := by
  refine ⟨by omega, Or.inr ⟨hi, hS, rfl, fun v hv hv2 => ?_⟩⟩
  by_cases q : v = i
  · subst q; exact Nat.le_refl _
  · rcases h.2 with ⟨h1, h2⟩ | ⟨h1, h2, h3, h4⟩
    · rw [h2 v (by omega)] at hv2; cases hv2
    · have := h4 v (by omega) hv2; omega
theorem NE.fin {S : Nat → Bool} {T : Nat → Nat} {i b t : Nat} (h : NE S T i b t) (hi : 20 ≤ i) (hex : ∃ v, v < 20 ∧ S v = false) : b < 20 ∧ S b = false ∧ ∀ v, v < 20 → S v = false → T b ≤ T v := by
  rcases h.2 with ⟨h1, h2⟩ | ⟨h1, h2, h3, h4⟩
  · obtain ⟨v, g1, g2⟩ := hex
    rw [h2 v (by omega)] at g2; cases g2
  · exact ⟨h1, h2, fun v hv => h4 v (by omega)⟩
def dnF (S : Nat → Bool) (c s1 : Nat) : Nat → Nat → Bool := fun u s => if u = c then decide (s < s1) else S u
theorem dnF_1 {S : Nat → Bool} {c s1 : Nat} : ∀ u s, dnF S c (s1 + 1) u s = true → dnF S c s1 u s = true ∨ (u = c ∧ s = s1) := fun u s h => by
  unfold dnF at *
  by_cases q : u = c
  · rw [if_pos q] at h ⊢
    have h1 := of_decide_eq_true h
    by_cases z : s = s1
    · exact Or.inr ⟨q, z⟩
    · exact Or.inl (decide_eq_true (by omega))
  · rw [if_neg q] at h ⊢; exact Or.inl h
theorem dnF_2 {S : Nat → Bool} {c s1 : Nat} : ∀ u s, dnF S c s1 u s = true → dnF S c (s1 + 1) u s = true := fun u s h => by
  unfold dnF at *
  by_cases q : u = c
  · rw [if_pos q] at h ⊢
    have h1 := of_decide_eq_true h
    exact decide_eq_true (by omega)
  · rw [if_neg q] at h ⊢; exact h
theorem dnF_3 {S : Nat → Bool} {c s1 : Nat} : dnF S c (s1 + 1) c s1 = true := (if_pos rfl).trans (decide_eq_true (Nat.lt_succ_self _))
theorem dnF_4 {S : Nat → Bool} {c s1 : Nat} : dnF S c s1 c s1 = false := (if_pos rfl).trans (decide_eq_false (Nat.lt_irrefl _))
def OU (w1 w2 : Nat → Nat) (a k : Nat) (S : Nat → Bool) (T L rk : Nat → Nat) (o N : Nat → Int32) : Prop := DT w1 a k S (fun u _ => S u) T rk ∧ LNI w1 w2 a k (fun u _ => S u) T L N ∧ ∀ v, v < 20 → T v ≠ 1000000 → o v = nI (L v)
def IN (w1 w2 : Nat → Nat) (a k c s1 : Nat) (S : Nat → Bool) (T L rk : Nat → Nat) (o N : Nat → Int32) : Prop := DT w1 a (k + 1) (updB S c) (dnF S c s1) T (updN rk c k) ∧ LNI w1 w2 a (k + 1) (dnF S c s1) T L N ∧ (∀ v, v < 20 → T v ≠ 1000000 → o v = nI (L v)) ∧ T c + 30 ≤ 30 * (k + 1) ∧ (∀ u, u < 20 → updB S c u = true → T u ≤ T c) ∧ L c + 14 ≤ 14 * (k + 1)
theorem OU.ini {w1 w2 : Nat → Nat} {a : Nat} {o N : Nat → Int32} (ha : a < 20) : OU w1 w2 a 0 (fun _ => false) (updN (fun _ => 1000000) a 0) (fun _ => 0) (fun _ => 0) (upd o a (nI 0)) (upd N a (nI 1)) := ⟨DT.init (fun _ _ => rfl) ha (fun _ _ => rfl) (fun _ _ _ _ => rfl), LNI.init (fun _ _ => rfl) rfl (upd_eq _ _ _), fun v hv h => by
  by_cases q : v = a
  · subst q; exact upd_eq _ _ _
  · exact absurd (updN_ne q) h⟩
theorem OU.b {w1 w2 : Nat → Nat} {a k : Nat} {S : Nat → Bool} {T L rk : Nat → Nat} {o N : Nat → Int32} (h : OU w1 w2 a k S T L rk o N) (hk : k ≤ 20) : ∀ v, v < 20 → T v ≤ 1000000 := fun v hv => by
  rcases h.1.2.1 v hv with q | q <;> omega
theorem OU.ex {w1 w2 : Nat → Nat} {a k : Nat} {S : Nat → Bool} {T L rk : Nat → Nat} {o N : Nat → Int32} (h : OU w1 w2 a k S T L rk o N) (hk : k < 20) : ∃ v, v < 20 ∧ S v = false := cS_ex (by have := h.1.2.2.2.2.2.2.2; omega)
theorem OU.into {w1 w2 : Nat → Nat} {a k c : Nat} {S : Nat → Bool} {T L rk : Nat → Nat} {o N : Nat → Int32} (h : OU w1 w2 a k S T L rk o N) (hw : ∀ c, c < 20 → w1 c ≤ 30) (ha : a < 20) (hk : k < 20) (hc : c < 20) (hSc : S c = false) (hmin : ∀ v, v < 20 → S v = false → T c ≤ T v) : IN w1 w2 a k c 0 S T L rk o N := by
  have e : ∀ u, u < 20 → ∀ s, s < 4 → dnF S c 0 u s = S u := fun u hu s hs => by
    unfold dnF
    by_cases q : u = c
    · subst q; rw [if_pos rfl, hSc]; exact decide_eq_false (by omega)
    · rw [if_neg q]
  have h1 := DT.settle hw h.1 ha hk (fun u hu hS s hs => hS) hc hSc hmin
  have hTc := (DT.reach hw h.1 ha hk (fun u hu hS s hs => hS) hc hSc hmin).1
  exact ⟨h1.1.congr e, (h.2.1.mono (Nat.le_succ k)).congr e, h.2.2, h1.2.1, h1.2.2, by have := h.2.1.2.2.1 c hc (by omega); omega⟩
theorem IN.out {w1 w2 : Nat → Nat} {a k c s1 : Nat} {S : Nat → Bool} {T L rk : Nat → Nat} {o N : Nat → Int32} (h : IN w1 w2 a k c s1 S T L rk o N) (hs : 4 ≤ s1) : OU w1 w2 a (k + 1) (updB S c) T L (updN rk c k) o N := by
  have e : ∀ u, u < 20 → ∀ s, s < 4 → updB S c u = dnF S c s1 u s := fun u hu s hs2 => by
    unfold dnF
    by_cases q : u = c
    · subst q; rw [if_pos rfl, updB_eq]; exact (decide_eq_true (by omega)).symm
    · rw [if_neg q, updB_ne q]
  exact ⟨h.1.congr e, h.2.1.congr e, h.2.2.1⟩
theorem IN.none {w1 w2 : Nat → Nat} {a k c s1 : Nat} {S : Nat → Bool} {T L rk : Nat → Nat} {o N : Nat → Int32} (h : IN w1 w2 a k c s1 S T L rk o N) (hc : c < 20) (hs1 : s1 < 4) (hb : nbo c s1 = none) : IN w1 w2 a k c (s1 + 1) S T L rk o N :=
  ⟨DT.keep h.1 dnF_1 dnF_2 (updB_eq _ _) (fun v hv => by rw [hb] at hv; cases hv), LNI.keep h.2.1 dnF_1 dnF_2 (fun _ v hv => by rw [hb] at hv; cases hv) hc hs1, h.2.2⟩
theorem IN.set {w1 w2 : Nat → Nat} {a k c s1 v : Nat} {S : Nat → Bool} {T L rk : Nat → Nat} {o N : Nat → Int32} (h : IN w1 w2 a k c s1 S T L rk o N) (hc : c < 20) (hs1 : s1 < 4) (hb : nbo c s1 = some v) (hS : updB S c v = true) : IN w1 w2 a k c (s1 + 1) S T L rk o N := by
  have hv := nbo_lt hc hb
  have h5 := h.2.2.2.2.1 v hv hS
  exact ⟨DT.keep h.1 dnF_1 dnF_2 (updB_eq _ _) (fun x hx => by rw [hb] at hx; cases hx; omega), LNI.keep h.2.1 dnF_1 dnF_2 (fun hp x hx => by rw [hb] at hx; cases hx; right; have := hp v hv; omega) hc hs1, h.2.2⟩
theorem IN.more {w1 w2 : Nat → Nat} {a k c s1 v : Nat} {S : Nat → Bool} {T L rk : Nat → Nat} {o N : Nat → Int32} (h : IN w1 w2 a k c s1 S T L rk o N) (hc : c < 20) (hs1 : s1 < 4) (hb : nbo c s1 = some v) (hl : T v < T c + w1 v) : IN w1 w2 a k c (s1 + 1) S T L rk o N :=
  ⟨DT.keep h.1 dnF_1 dnF_2 (updB_eq _ _) (fun x hx => by rw [hb] at hx; cases hx; omega), LNI.keep h.2.1 dnF_1 dnF_2 (fun hp x hx => by rw [hb] at hx; cases hx; right; omega) hc hs1, h.2.2⟩
theorem IN.src {w1 w2 : Nat → Nat} {a k c s1 : Nat} {S : Nat → Bool} {T L rk : Nat → Nat} {o N : Nat → Int32} (h : IN w1 w2 a k c s1 S T L rk o N) : (∀ u, u < 20 → ∀ s, s < 4 → ∀ x, dnF S c s1 u s = true → nbo u s = some x → updB S c u = true ∧ T x ≤ T u + w1 x) ∧ updB S c a = true := ⟨fun u hu s hs x hd hb => h.1.2.2.2.2.1 u hu s hs x hd hb, (h.1.2.2.2.2.2.2.1 (Nat.succ_pos _)).1⟩
theorem IN.same {w1 w2 : Nat → Nat} {a k c s1 v : Nat} {S : Nat → Bool} {T L rk : Nat → Nat} {o N : Nat → Int32} (h : IN w1 w2 a k c s1 S T L rk o N) (hw : ∀ c, c < 20 → w1 c ≤ 30) (hw2 : ∀ c, c < 20 → w2 c ≤ 14) (hk : k < 20) (hc : c < 20) (hs1 : s1 < 4) (hb : nbo c s1 = some v) (hSv : updB S c v = false) (hl : T c + w1 v = T v) : IN w1 w2 a k c (s1 + 1) S T (updN L v (if L c + w2 v < L v then L c + w2 v else L v)) rk (upd o v (nI (if L c + w2 v < L v then L c + w2 v else L v))) (upd N v (N v + N c)) := by
  have hv := nbo_lt hc hb
  have hvc := nbo_ne hc hb
  obtain ⟨h1, h2, h3, h4, h5, h6⟩ := h
  refine ⟨DT.keep h1 dnF_1 dnF_2 (updB_eq _ _) (fun x hx => by rw [hb] at hx; cases hx; omega), LNI.same h2 dnF_1 dnF_2 dnF_3 dnF_4 (IN.src ⟨h1, h2, h3, h4, h5, h6⟩).1 (IN.src ⟨h1, h2, h3, h4, h5, h6⟩).2 (updB_eq _ _) hSv hc hs1 hb h6 (hw2 v hv) hl (hw v hv) (by omega), fun x hx hT => ?_, h4, h5, ?_⟩
  · by_cases q : x = v
    · subst q; rw [upd_eq, updN_eq]
    · rw [upd_ne q, updN_ne q]; exact h3 x hx hT
  · rw [updN_ne (Ne.symm hvc)]; exact h6
theorem IN.less {w1 w2 : Nat → Nat} {a k c s1 v : Nat} {S : Nat → Bool} {T L rk : Nat → Nat} {o N : Nat → Int32} (h : IN w1 w2 a k c s1 S T L rk o N) (hw : ∀ c, c < 20 → w1 c ≤ 30) (hw2 : ∀ c, c < 20 → w2 c ≤ 14) (hk : k < 20) (hc : c < 20) (hs1 : s1 < 4) (hb : nbo c s1 = some v) (hSv : updB S c v = false) (hl : T c + w1 v < T v) : IN w1 w2 a k c (s1 + 1) S (updN T v (T c + w1 v)) (updN L v (L c + w2 v)) rk (upd o v (nI (L c + w2 v))) (upd N v (N c)) := by
  have hv := nbo_lt hc hb
  have hvc := nbo_ne hc hb
  obtain ⟨h1, h2, h3, h4, h5, h6⟩ := h
  refine ⟨DT.less hw h1 (Nat.succ_pos _) (by omega) hc hs1 dnF_1 dnF_2 dnF_3 (updB_eq _ _) h4 h5 hb hSv hl, LNI.less h2 dnF_1 dnF_2 dnF_3 (IN.src ⟨h1, h2, h3, h4, h5, h6⟩).1 (IN.src ⟨h1, h2, h3, h4, h5, h6⟩).2 (updB_eq _ _) hSv hc hs1 hb h6 (hw2 v hv) hl (hw v hv) (by omega), fun x hx hT => ?_, ?_, fun u hu hS => ?_, ?_⟩
  · by_cases q : x = v
    · subst q; rw [upd_eq, updN_eq]
    · rw [updN_ne q] at hT; rw [upd_ne q, updN_ne q]; exact h3 x hx hT
  · rw [updN_ne (Ne.symm hvc)]; exact h4
  · have huv : u ≠ v := fun q => by subst q; rw [hSv] at hS; cases hS
    rw [updN_ne huv, updN_ne (Ne.symm hvc)]; exact h5 u hu hS
  · rw [updN_ne (Ne.symm hvc)]; exact h6
theorem IN.cases {T : Nat → Nat} {S : Nat → Bool} {w1 : Nat → Nat} (c v : Nat) : S v = true ∨ (S v = false ∧ T c + w1 v < T v) ∨ (S v = false ∧ T c + w1 v = T v) ∨ (S v = false ∧ T v < T c + w1 v) := by
  cases S v with
  | true => exact Or.inl rfl
  | false =>
    rcases Nat.lt_trichotomy (T c + w1 v) (T v) with q | q | q
    · exact Or.inr (Or.inl ⟨rfl, q⟩)
    · exact Or.inr (Or.inr (Or.inl ⟨rfl, q⟩))
    · exact Or.inr (Or.inr (Or.inr ⟨rfl, q⟩))
def SP (w1 w2 : Nat → Nat) (a : Nat) (T L : Nat → Nat) (N : Nat → Int32) : Prop := SolO w1 a T ∧ ((∀ c, c < 20 → 1 ≤ w1 c) → SolK w1 w2 a T L ∧ N a = nI 1 ∧ ∀ v, v < 20 → v ≠ a → N v = psm w1 T N v 4) ∧ ∀ v, v < 20 → T v ≤ 600 ∧ L v ≤ 280
theorem OU.fin {w1 w2 : Nat → Nat} {a k : Nat} {S : Nat → Bool} {T L rk : Nat → Nat} {o N : Nat → Int32} (h : OU w1 w2 a k S T L rk o N) (hk : 20 ≤ k) (hk2 : k ≤ 20) (ha : a < 20) : SP w1 w2 a T L N ∧ (∀ v, v < 20 → S v = true) ∧ ∀ v, v < 20 → o v = nI (L v) := by
  obtain rfl : k = 20 := by omega
  obtain ⟨h1, h2, h3⟩ := h
  have hall := cS_all h1.2.2.2.2.2.2.2
  have hne : ∀ v, v < 20 → T v ≠ 1000000 := fun v hv => (h1.2.2.1 v hv (hall v hv)).1
  refine ⟨⟨DT.fin h1 (fun u hu hS s hs => hS), fun hp => LNI.fin hp h2 h1 (fun u hu hS s hs => hS) ha, fun v hv => ⟨?_, ?_⟩⟩, hall, fun v hv => h3 v hv (hne v hv)⟩
  · rcases h1.2.1 v hv with q | q
    · exact absurd q (hne v hv)
    · omega
  · have := h2.2.2.1 v hv (hne v hv); omega
def rmX10_nearest : Room := { frames := 0, cells := 0, slots := 0, locals := 0 }
set_option maxHeartbeats 8000000 in
theorem c_X10_nearest_X {T : Nat → Nat} {S : Nat → Bool} (hA : oC b0 cd V) (hT : ∀ v, v < 20 → T v ≤ 1000000) (hex : ∃ v, v < 20 ∧ S v = false) : KM l D Z b0 yX10_nearest cX10_nearest 4 (some .int) rmX10_nearest [.ref (cd 14)] (wC Z cd ik ugA ugB ugC rA pA tA rB pB tB rC pC tC cX (nf T) oX nX sX (bf S) cY lY oY nY sY zY tm cl KR SO SZ EL V) (fun v V' => ∃ c, v = some (.int (nI c)) ∧ V' = wC Z cd ik ugA ugB ugC rA pA tA rB pB tB rC pC tC cX (nf T) oX nX sX (bf S) cY lY oY nY sY zY tm cl KR SO SZ EL V ∧ c < 20 ∧ S c = false ∧ ∀ v, v < 20 → S v = false → T c ≤ T v) := by
  refine KM.ofP (by decide) (Nat.le_of_ble_eq_true rfl) (fun Po hPo => ?_)
  refine G.locals (L' := [(0, .ref (cd 14))]) [0] rfl ?_
  refine g_iconst (v := nI 0) (pc := 0) dX10_nearest_0 (by decide) ?_
  refine g_istore_n (lv' := [(1, .int (nI 0)), (0, .ref (cd 14))]) (pc := 1) dX10_nearest_1 rfl (by decide) rfl ?_
  refine g_ldc (v := nI 1000001) (pc := 2) ctX10_60 dX10_nearest_2 ?_
  refine g_istore_n (lv' := [(2, .int (nI 1000001)), (1, .int (nI 0)), (0, .ref (cd 14))]) (pc := 4) dX10_nearest_4 rfl (by decide) rfl ?_
  refine g_iconst (v := nI 0) (pc := 5) dX10_nearest_5 (by decide) ?_
  refine g_istore_n (lv' := [(3, .int (nI 0)), (2, .int (nI 1000001)), (1, .int (nI 0)), (0, .ref (cd 14))]) (pc := 6) dX10_nearest_6 rfl (by decide) rfl ?_
  have lp7 : ∀ (d7 : Nat) (i : Nat) (b : Nat) (t : Nat), i + d7 = 21 → (i ≤ 20) → (NE S T i b t) → G l D Z b0 rmX10_nearest RX10 cX10_nearest 4 (gE (some .int) "nearest") (gT D b0 Po rmX10_nearest.cells rmX10_nearest.slots) (wC Z cd ik ugA ugB ugC rA pA tA rB pB tB rC pC tC cX (nf T) oX nX sX (bf S) cY lY oY nY sY zY tm cl KR SO SZ EL V) [(3, .int (nI i)), (1, .int (nI b)), (2, .int (nI t)), (0, .ref (cd 14))] 0 0 7 [] := by
    intro d7
    induction d7 with
    | zero =>
      intro i b t hd7 hiN hne
      exact absurd hd7 (by omega)
    | succ d7 ih7 =>
      intro i b t hd7 hiN hne
      refine g_iload_n (q := 0) (pc := 7) dX10_nearest_7 rfl rfl ?_
      refine g_bipush (v := nI 20) (pc := 8) dX10_nearest_8 (by decide) ?_
      refine g_icmp_ge_N (tgt := 47) (pc := 10) (by omega) (by omega) dX10_nearest_10 (by decide) (fun c1 => ?_) (fun c1 => ?_)
      · -- T c1
        refine g_iload_n (q := 1) (pc := 47) dX10_nearest_47 rfl rfl ?_
        exact g_iret (pc := 48) (by decide) (by decide) (hPo _ _ ⟨b, rfl, rfl, NE.fin hne (by omega) hex⟩) dX10_nearest_48
      · -- F c1
        refine g_aload_n (q := 3) (pc := 13) dX10_nearest_13 rfl rfl ?_
        refine gc_get_WX_isSettled (pc := 14) hA flX10_27 dX10_nearest_14 ?_
        refine g_iload_n (q := 0) (pc := 17) dX10_nearest_17 rfl rfl ?_
        refine gc_ld_zX (pc := 18) (j := i) (x := bI (S i)) hA (by omega) rfl dX10_nearest_18 ?_
        refine g_if_ne_B (tgt := 41) (pc := 19) dX10_nearest_19 (by decide) (fun c2 => ?_) (fun c2 => ?_)
        · -- T c2
          refine g_iinc (q := 0) (lv' := [(3, .int (nI (i + 1))), (1, .int (nI b)), (2, .int (nI t)), (0, .ref (cd 14))]) (pc := 41) dX10_nearest_41 rfl (nI_inc _ _) (by decide) rfl ?_
          refine g_goto (tgt := 7) (pc := 44) dX10_nearest_44 (by decide) ?_
          refine G.locals (L' := [(3, .int (nI (i + 1))), (1, .int (nI b)), (2, .int (nI t)), (0, .ref (cd 14))]) [0, 1, 2, 3] rfl ?_
          exact ih7 (i + 1) b t (by omega) (by omega) (by first | exact NE.st hne (by assumption) | exact NE.ge hne (hT i (by omega)) (by assumption))
        · -- F c2
          refine g_aload_n (q := 3) (pc := 22) dX10_nearest_22 rfl rfl ?_
          refine gc_get_WX_least (pc := 23) hA flX10_15 dX10_nearest_23 ?_
          refine g_iload_n (q := 0) (pc := 26) dX10_nearest_26 rfl rfl ?_
          refine gc_ld_lX (pc := 27) (j := i) (x := nI (T i)) hA (by omega) rfl dX10_nearest_27 ?_
          refine g_iload_n (q := 2) (pc := 28) dX10_nearest_28 rfl rfl ?_
          refine g_icmp_ge_N (tgt := 41) (pc := 29) (by have := hT i (by omega); omega) (by have := hne.1; omega) dX10_nearest_29 (by decide) (fun c3 => ?_) (fun c3 => ?_)
          · -- T c3
            refine g_iinc (q := 0) (lv' := [(3, .int (nI (i + 1))), (1, .int (nI b)), (2, .int (nI t)), (0, .ref (cd 14))]) (pc := 41) dX10_nearest_41 rfl (nI_inc _ _) (by decide) rfl ?_
            refine g_goto (tgt := 7) (pc := 44) dX10_nearest_44 (by decide) ?_
            refine G.locals (L' := [(3, .int (nI (i + 1))), (1, .int (nI b)), (2, .int (nI t)), (0, .ref (cd 14))]) [0, 1, 2, 3] rfl ?_
            exact ih7 (i + 1) b t (by omega) (by omega) (by first | exact NE.st hne (by assumption) | exact NE.ge hne (hT i (by omega)) (by assumption))
          · -- F c3
            refine g_iload_n (q := 0) (pc := 32) dX10_nearest_32 rfl rfl ?_
            refine g_istore_n (lv' := [(1, .int (nI i)), (3, .int (nI i)), (2, .int (nI t)), (0, .ref (cd 14))]) (pc := 33) dX10_nearest_33 rfl (by decide) rfl ?_
            refine g_aload_n (q := 3) (pc := 34) dX10_nearest_34 rfl rfl ?_
            refine gc_get_WX_least (pc := 35) hA flX10_15 dX10_nearest_35 ?_
            refine g_iload_n (q := 1) (pc := 38) dX10_nearest_38 rfl rfl ?_
            refine gc_ld_lX (pc := 39) (j := i) (x := nI (T i)) hA (by omega) rfl dX10_nearest_39 ?_
            refine g_istore_n (lv' := [(2, .int (nI (T i))), (1, .int (nI i)), (3, .int (nI i)), (0, .ref (cd 14))]) (pc := 40) dX10_nearest_40 rfl (by decide) rfl ?_
            refine g_iinc (q := 2) (lv' := [(3, .int (nI (i + 1))), (2, .int (nI (T i))), (1, .int (nI i)), (0, .ref (cd 14))]) (pc := 41) dX10_nearest_41 rfl (nI_inc _ _) (by decide) rfl ?_
            refine g_goto (tgt := 7) (pc := 44) dX10_nearest_44 (by decide) ?_
            refine G.locals (L' := [(3, .int (nI (i + 1))), (1, .int (nI i)), (2, .int (nI (T i))), (0, .ref (cd 14))]) [0, 2, 1, 3] rfl ?_
            exact ih7 (i + 1) i (T i) (by omega) (by omega) (NE.lt hne (by omega) (by assumption) (hT i (by omega)) (by assumption))
  refine G.locals (L' := [(3, .int (nI 0)), (1, .int (nI 0)), (2, .int (nI 1000001)), (0, .ref (cd 14))]) [0, 2, 1, 3] rfl ?_
  exact lp7 21 0 0 1000001 (by omega) (by decide) NE.ini
def rmX10_enter : Room := { frames := 1, cells := 0, slots := 0, locals := 21 }
set_option maxHeartbeats 8000000 in
theorem c_X10_enter_X_2 {T L w1 w2 : Nat → Nat} {S : Nat → Bool} {o N : Nat → Int32} {v c : Nat} (hA : oC b0 cd V) (hv : v < 20) (hc : c < 20) (hS : S v = false) (hTc : T c ≤ 600) (hw : w1 v ≤ 30) (hTv : T v ≤ 1000000) (hLc : L c ≤ 400) (hw2 : w2 v ≤ 14) (hoc : o c = nI (L c)) (hLv : L v ≤ 400) (hov : o v = nI (L v)) (hl : T c + w1 v = T v) : KE l D Z b0 yX10_enter cX10_enter 5 none rmX10_enter [.ref (cd 14), .int (nI v), .int (nI c)] (wC Z cd ik ugA ugB ugC rA pA tA rB pB tB rC pC tC (nf w1) (nf T) o N (nf w2) (bf S) cY lY oY nY sY zY tm cl KR SO SZ EL V) none (wC Z cd ik ugA ugB ugC rA pA tA rB pB tB rC pC tC (nf w1) (nf T) (upd o v (nI (if L c + w2 v < L v then L c + w2 v else L v))) (upd N v (N v + N c)) (nf w2) (bf S) cY lY oY nY sY zY tm cl KR SO SZ EL V) := by
  refine KE.of (by decide) (Nat.le_of_ble_eq_true rfl) (fun Po hPo => ?_)
  refine G.locals (L' := [(0, .ref (cd 14)), (1, .int (nI v)), (2, .int (nI c))]) [0, 1, 2] rfl ?_
  refine g_iload_n (q := 1) (pc := 0) dX10_enter_0 rfl rfl ?_
  refine g_iconst (v := (-1)) (pc := 1) dX10_enter_1 (by decide) ?_
  refine g_icmp_eq (tgt := 14) (pc := 2) dX10_enter_2 (by decide) (fun c1 => ?_) (fun c1 => ?_)
  · -- T c1
    exact absurd c1 (nI_m1 (by omega))
  · -- F c1
    refine g_aload_n (q := 0) (pc := 5) dX10_enter_5 rfl rfl ?_
    refine gc_get_WX_isSettled (pc := 6) hA flX10_27 dX10_enter_6 ?_
    refine g_iload_n (q := 1) (pc := 9) dX10_enter_9 rfl rfl ?_
    refine gc_ld_zX (pc := 10) (j := v) (x := bI (S v)) hA (by omega) rfl dX10_enter_10 ?_
    refine g_if_eq_B (tgt := 15) (pc := 11) dX10_enter_11 (by decide) (fun c2 => ?_) (fun c2 => ?_)
    · -- T c2
      refine g_aload_n (q := 0) (pc := 15) dX10_enter_15 rfl rfl ?_
      refine gc_get_WX_least (pc := 16) hA flX10_15 dX10_enter_16 ?_
      refine g_iload_n (q := 2) (pc := 19) dX10_enter_19 rfl rfl ?_
      refine gc_ld_lX (pc := 20) (j := c) (x := nI (T c)) hA (by omega) rfl dX10_enter_20 ?_
      refine g_aload_n (q := 0) (pc := 21) dX10_enter_21 rfl rfl ?_
      refine gc_get_WX_cost (pc := 22) hA flX10_9 dX10_enter_22 ?_
      refine g_iload_n (q := 1) (pc := 25) dX10_enter_25 rfl rfl ?_
      refine gc_ld_cX (pc := 26) (j := v) (x := nI (w1 v)) hA (by omega) rfl dX10_enter_26 ?_
      refine g_iadd_N (pc := 27) dX10_enter_27 ?_
      refine g_istore_n (lv' := [(3, .int (nI ((T c) + (w1 v)))), (0, .ref (cd 14)), (1, .int (nI v)), (2, .int (nI c))]) (pc := 28) dX10_enter_28 rfl (by decide) rfl ?_
      refine g_aload_n (q := 1) (pc := 29) dX10_enter_29 rfl rfl ?_
      refine gc_get_WX_lost (pc := 30) hA flX10_18 dX10_enter_30 ?_
      refine g_iload_n (q := 3) (pc := 33) dX10_enter_33 rfl rfl ?_
      refine gc_ld_oX (pc := 34) (j := c) (x := nI (L c)) hA (by omega) hoc dX10_enter_34 ?_
      refine g_aload_n (q := 1) (pc := 35) dX10_enter_35 rfl rfl ?_
      refine gc_get_WX_loss (pc := 36) hA flX10_24 dX10_enter_36 ?_
      refine g_iload_n (q := 2) (pc := 39) dX10_enter_39 rfl rfl ?_
      refine gc_ld_sX (pc := 40) (j := v) (x := nI (w2 v)) hA (by omega) rfl dX10_enter_40 ?_
      refine g_iadd_N (pc := 41) dX10_enter_41 ?_
      refine g_istore (lv' := [(4, .int (nI ((L c) + (w2 v)))), (3, .int (nI ((T c) + (w1 v)))), (0, .ref (cd 14)), (1, .int (nI v)), (2, .int (nI c))]) (pc := 42) dX10_enter_42 (by decide) rfl ?_
      refine g_iload_n (q := 1) (pc := 44) dX10_enter_44 rfl rfl ?_
      refine g_aload_n (q := 2) (pc := 45) dX10_enter_45 rfl rfl ?_
      refine gc_get_WX_least (pc := 46) hA flX10_15 dX10_enter_46 ?_
      refine g_iload_n (q := 3) (pc := 49) dX10_enter_49 rfl rfl ?_
      refine gc_ld_lX (pc := 50) (j := v) (x := nI (T v)) hA (by omega) rfl dX10_enter_50 ?_
      refine g_icmp_ge_N (tgt := 84) (pc := 51) (by omega) (by omega) dX10_enter_51 (by decide) (fun c3 => ?_) (fun c3 => ?_)
      · -- T c3
        refine g_iload_n (q := 1) (pc := 84) dX10_enter_84 rfl rfl ?_
        refine g_aload_n (q := 2) (pc := 85) dX10_enter_85 rfl rfl ?_
        refine gc_get_WX_least (pc := 86) hA flX10_15 dX10_enter_86 ?_
        refine g_iload_n (q := 3) (pc := 89) dX10_enter_89 rfl rfl ?_
        refine gc_ld_lX (pc := 90) (j := v) (x := nI (T v)) hA (by omega) rfl dX10_enter_90 ?_
        refine g_icmp_ne_N (tgt := 126) (pc := 91) (by omega) (by omega) dX10_enter_91 (by decide) (fun c4 => ?_) (fun c4 => ?_)
        · -- T c4
          exfalso; omega
        · -- F c4
          refine g_aload_n (q := 2) (pc := 94) dX10_enter_94 rfl rfl ?_
          refine gc_get_WX_lost (pc := 95) hA flX10_18 dX10_enter_95 ?_
          refine g_iload_n (q := 3) (pc := 98) dX10_enter_98 rfl rfl ?_
          refine g_aload_n (q := 2) (pc := 99) dX10_enter_99 rfl rfl ?_
          refine gc_get_WX_lost (pc := 100) hA flX10_18 dX10_enter_100 ?_
          refine g_iload_n (q := 3) (pc := 103) dX10_enter_103 rfl rfl ?_
          refine gc_ld_oX (pc := 104) (j := v) (x := nI (L v)) hA (by omega) hov dX10_enter_104 ?_
          refine g_iload (q := 0) (pc := 105) dX10_enter_105 rfl ?_
          refine g_jmin (pc := 107) mlX10_61 ⟨Nat.le_of_ble_eq_true rfl, Nat.le_of_ble_eq_true rfl⟩ (Nat.le_of_ble_eq_true rfl) dX10_enter_107 (by decide) ?_
          refine g_top (x := mnI (nI (L v)) (nI ((L c) + (w2 v)))) (y := nI (if L c + w2 v < L v then L c + w2 v else L v)) (mnI_n (by omega) (by omega)) ?_
          refine gc_st_oX (pc := 110) (j := v) (f' := (upd o v (nI (if L c + w2 v < L v then L c + w2 v else L v)))) hA (by omega) rfl dX10_enter_110 ?_
          refine g_aload_n (q := 2) (pc := 111) dX10_enter_111 rfl rfl ?_
          refine gc_get_WX_number (pc := 112) hA flX10_21 dX10_enter_112 ?_
          refine g_iload_n (q := 3) (pc := 115) dX10_enter_115 rfl rfl ?_
          refine g_dup2_11 (pc := 116) dX10_enter_116 rfl rfl ?_
          refine gc_ld_nX (pc := 117) (j := v) (x := N v) hA (by omega) rfl dX10_enter_117 ?_
          refine g_aload_n (q := 2) (pc := 118) dX10_enter_118 rfl rfl ?_
          refine gc_get_WX_number (pc := 119) hA flX10_21 dX10_enter_119 ?_
          refine g_iload_n (q := 4) (pc := 122) dX10_enter_122 rfl rfl ?_
          refine gc_ld_nX (pc := 123) (j := c) (x := N c) hA (by omega) rfl dX10_enter_123 ?_
          refine g_iadd (pc := 124) dX10_enter_124 ?_
          refine gc_st_nX (pc := 125) (j := v) (f' := (upd N v ((N v) + (N c)))) hA (by omega) rfl dX10_enter_125 ?_
          exact g_vret (pc := 126) (by decide) (by decide) (hPo) dX10_enter_126
      · -- F c3
        exfalso; omega
    · -- F c2
      rw [hS] at c2; cases c2
set_option maxHeartbeats 8000000 in
theorem c_X10_enter_X_1 {T L w1 w2 : Nat → Nat} {S : Nat → Bool} {o N : Nat → Int32} {v c : Nat} (hA : oC b0 cd V) (hv : v < 20) (hc : c < 20) (hS : S v = false) (hTc : T c ≤ 600) (hw : w1 v ≤ 30) (hTv : T v ≤ 1000000) (hLc : L c ≤ 400) (hw2 : w2 v ≤ 14) (hoc : o c = nI (L c)) (hl : T c + w1 v < T v) : KE l D Z b0 yX10_enter cX10_enter 5 none rmX10_enter [.ref (cd 14), .int (nI v), .int (nI c)] (wC Z cd ik ugA ugB ugC rA pA tA rB pB tB rC pC tC (nf w1) (nf T) o N (nf w2) (bf S) cY lY oY nY sY zY tm cl KR SO SZ EL V) none (wC Z cd ik ugA ugB ugC rA pA tA rB pB tB rC pC tC (nf w1) (nf (updN T v (T c + w1 v))) (upd o v (nI (L c + w2 v))) (upd N v (N c)) (nf w2) (bf S) cY lY oY nY sY zY tm cl KR SO SZ EL V) := by
  refine KE.of (by decide) (Nat.le_of_ble_eq_true rfl) (fun Po hPo => ?_)
  refine G.locals (L' := [(0, .ref (cd 14)), (1, .int (nI v)), (2, .int (nI c))]) [0, 1, 2] rfl ?_
  refine g_iload_n (q := 1) (pc := 0) dX10_enter_0 rfl rfl ?_
  refine g_iconst (v := (-1)) (pc := 1) dX10_enter_1 (by decide) ?_
  refine g_icmp_eq (tgt := 14) (pc := 2) dX10_enter_2 (by decide) (fun c1 => ?_) (fun c1 => ?_)
  · -- T c1
    exact absurd c1 (nI_m1 (by omega))
  · -- F c1
    refine g_aload_n (q := 0) (pc := 5) dX10_enter_5 rfl rfl ?_
    refine gc_get_WX_isSettled (pc := 6) hA flX10_27 dX10_enter_6 ?_
    refine g_iload_n (q := 1) (pc := 9) dX10_enter_9 rfl rfl ?_
    refine gc_ld_zX (pc := 10) (j := v) (x := bI (S v)) hA (by omega) rfl dX10_enter_10 ?_
    refine g_if_eq_B (tgt := 15) (pc := 11) dX10_enter_11 (by decide) (fun c2 => ?_) (fun c2 => ?_)
    · -- T c2
      refine g_aload_n (q := 0) (pc := 15) dX10_enter_15 rfl rfl ?_
      refine gc_get_WX_least (pc := 16) hA flX10_15 dX10_enter_16 ?_
      refine g_iload_n (q := 2) (pc := 19) dX10_enter_19 rfl rfl ?_
      refine gc_ld_lX (pc := 20) (j := c) (x := nI (T c)) hA (by omega) rfl dX10_enter_20 ?_
      refine g_aload_n (q := 0) (pc := 21) dX10_enter_21 rfl rfl ?_
      refine gc_get_WX_cost (pc := 22) hA flX10_9 dX10_enter_22 ?_
      refine g_iload_n (q := 1) (pc := 25) dX10_enter_25 rfl rfl ?_
      refine gc_ld_cX (pc := 26) (j := v) (x := nI (w1 v)) hA (by omega) rfl dX10_enter_26 ?_
      refine g_iadd_N (pc := 27) dX10_enter_27 ?_
      refine g_istore_n (lv' := [(3, .int (nI ((T c) + (w1 v)))), (0, .ref (cd 14)), (1, .int (nI v)), (2, .int (nI c))]) (pc := 28) dX10_enter_28 rfl (by decide) rfl ?_
      refine g_aload_n (q := 1) (pc := 29) dX10_enter_29 rfl rfl ?_
      refine gc_get_WX_lost (pc := 30) hA flX10_18 dX10_enter_30 ?_
      refine g_iload_n (q := 3) (pc := 33) dX10_enter_33 rfl rfl ?_
      refine gc_ld_oX (pc := 34) (j := c) (x := nI (L c)) hA (by omega) hoc dX10_enter_34 ?_
      refine g_aload_n (q := 1) (pc := 35) dX10_enter_35 rfl rfl ?_
      refine gc_get_WX_loss (pc := 36) hA flX10_24 dX10_enter_36 ?_
      refine g_iload_n (q := 2) (pc := 39) dX10_enter_39 rfl rfl ?_
      refine gc_ld_sX (pc := 40) (j := v) (x := nI (w2 v)) hA (by omega) rfl dX10_enter_40 ?_
      refine g_iadd_N (pc := 41) dX10_enter_41 ?_
      refine g_istore (lv' := [(4, .int (nI ((L c) + (w2 v)))), (3, .int (nI ((T c) + (w1 v)))), (0, .ref (cd 14)), (1, .int (nI v)), (2, .int (nI c))]) (pc := 42) dX10_enter_42 (by decide) rfl ?_
      refine g_iload_n (q := 1) (pc := 44) dX10_enter_44 rfl rfl ?_
      refine g_aload_n (q := 2) (pc := 45) dX10_enter_45 rfl rfl ?_
      refine gc_get_WX_least (pc := 46) hA flX10_15 dX10_enter_46 ?_
      refine g_iload_n (q := 3) (pc := 49) dX10_enter_49 rfl rfl ?_
      refine gc_ld_lX (pc := 50) (j := v) (x := nI (T v)) hA (by omega) rfl dX10_enter_50 ?_
      refine g_icmp_ge_N (tgt := 84) (pc := 51) (by omega) (by omega) dX10_enter_51 (by decide) (fun c3 => ?_) (fun c3 => ?_)
      · -- T c3
        exfalso; omega
      · -- F c3
        refine g_aload_n (q := 2) (pc := 54) dX10_enter_54 rfl rfl ?_
        refine gc_get_WX_least (pc := 55) hA flX10_15 dX10_enter_55 ?_
        refine g_iload_n (q := 3) (pc := 58) dX10_enter_58 rfl rfl ?_
        refine g_iload_n (q := 1) (pc := 59) dX10_enter_59 rfl rfl ?_
        refine gc_st_lX (pc := 60) (j := v) (f' := (nf (updN T v ((T c) + (w1 v))))) hA (by omega) (upd_nf _ _ _) dX10_enter_60 ?_
        refine g_aload_n (q := 2) (pc := 61) dX10_enter_61 rfl rfl ?_
        refine gc_get_WX_lost (pc := 62) hA flX10_18 dX10_enter_62 ?_
        refine g_iload_n (q := 3) (pc := 65) dX10_enter_65 rfl rfl ?_
        refine g_iload (q := 0) (pc := 66) dX10_enter_66 rfl ?_
        refine gc_st_oX (pc := 68) (j := v) (f' := (upd o v (nI ((L c) + (w2 v))))) hA (by omega) rfl dX10_enter_68 ?_
        refine g_aload_n (q := 2) (pc := 69) dX10_enter_69 rfl rfl ?_
        refine gc_get_WX_number (pc := 70) hA flX10_21 dX10_enter_70 ?_
        refine g_iload_n (q := 3) (pc := 73) dX10_enter_73 rfl rfl ?_
        refine g_aload_n (q := 2) (pc := 74) dX10_enter_74 rfl rfl ?_
        refine gc_get_WX_number (pc := 75) hA flX10_21 dX10_enter_75 ?_
        refine g_iload_n (q := 4) (pc := 78) dX10_enter_78 rfl rfl ?_
        refine gc_ld_nX (pc := 79) (j := c) (x := N c) hA (by omega) rfl dX10_enter_79 ?_
        refine gc_st_nX (pc := 80) (j := v) (f' := (upd N v (N c))) hA (by omega) rfl dX10_enter_80 ?_
        refine g_goto (tgt := 126) (pc := 81) dX10_enter_81 (by decide) ?_
        exact g_vret (pc := 126) (by decide) (by decide) (hPo) dX10_enter_126
    · -- F c2
      rw [hS] at c2; cases c2
set_option maxHeartbeats 8000000 in
theorem c_X10_enter_X_3 {T L w1 w2 : Nat → Nat} {S : Nat → Bool} {o N : Nat → Int32} {v c : Nat} (hA : oC b0 cd V) (hv : v < 20) (hc : c < 20) (hS : S v = false) (hTc : T c ≤ 600) (hw : w1 v ≤ 30) (hTv : T v ≤ 1000000) (hLc : L c ≤ 400) (hw2 : w2 v ≤ 14) (hoc : o c = nI (L c)) (hl : T v < T c + w1 v) : KE l D Z b0 yX10_enter cX10_enter 5 none rmX10_enter [.ref (cd 14), .int (nI v), .int (nI c)] (wC Z cd ik ugA ugB ugC rA pA tA rB pB tB rC pC tC (nf w1) (nf T) o N (nf w2) (bf S) cY lY oY nY sY zY tm cl KR SO SZ EL V) none (wC Z cd ik ugA ugB ugC rA pA tA rB pB tB rC pC tC (nf w1) (nf T) o N (nf w2) (bf S) cY lY oY nY sY zY tm cl KR SO SZ EL V) := by
  refine KE.of (by decide) (Nat.le_of_ble_eq_true rfl) (fun Po hPo => ?_)
  refine G.locals (L' := [(0, .ref (cd 14)), (1, .int (nI v)), (2, .int (nI c))]) [0, 1, 2] rfl ?_
  refine g_iload_n (q := 1) (pc := 0) dX10_enter_0 rfl rfl ?_
  refine g_iconst (v := (-1)) (pc := 1) dX10_enter_1 (by decide) ?_
  refine g_icmp_eq (tgt := 14) (pc := 2) dX10_enter_2 (by decide) (fun c1 => ?_) (fun c1 => ?_)
  · -- T c1
    exact absurd c1 (nI_m1 (by omega))
  · -- F c1
    refine g_aload_n (q := 0) (pc := 5) dX10_enter_5 rfl rfl ?_
    refine gc_get_WX_isSettled (pc := 6) hA flX10_27 dX10_enter_6 ?_
    refine g_iload_n (q := 1) (pc := 9) dX10_enter_9 rfl rfl ?_
    refine gc_ld_zX (pc := 10) (j := v) (x := bI (S v)) hA (by omega) rfl dX10_enter_10 ?_
    refine g_if_eq_B (tgt := 15) (pc := 11) dX10_enter_11 (by decide) (fun c2 => ?_) (fun c2 => ?_)
    · -- T c2
      refine g_aload_n (q := 0) (pc := 15) dX10_enter_15 rfl rfl ?_
      refine gc_get_WX_least (pc := 16) hA flX10_15 dX10_enter_16 ?_
      refine g_iload_n (q := 2) (pc := 19) dX10_enter_19 rfl rfl ?_
      refine gc_ld_lX (pc := 20) (j := c) (x := nI (T c)) hA (by omega) rfl dX10_enter_20 ?_
      refine g_aload_n (q := 0) (pc := 21) dX10_enter_21 rfl rfl ?_
      refine gc_get_WX_cost (pc := 22) hA flX10_9 dX10_enter_22 ?_
      refine g_iload_n (q := 1) (pc := 25) dX10_enter_25 rfl rfl ?_
      refine gc_ld_cX (pc := 26) (j := v) (x := nI (w1 v)) hA (by omega) rfl dX10_enter_26 ?_
      refine g_iadd_N (pc := 27) dX10_enter_27 ?_
      refine g_istore_n (lv' := [(3, .int (nI ((T c) + (w1 v)))), (0, .ref (cd 14)), (1, .int (nI v)), (2, .int (nI c))]) (pc := 28) dX10_enter_28 rfl (by decide) rfl ?_
      refine g_aload_n (q := 1) (pc := 29) dX10_enter_29 rfl rfl ?_
      refine gc_get_WX_lost (pc := 30) hA flX10_18 dX10_enter_30 ?_
      refine g_iload_n (q := 3) (pc := 33) dX10_enter_33 rfl rfl ?_
      refine gc_ld_oX (pc := 34) (j := c) (x := nI (L c)) hA (by omega) hoc dX10_enter_34 ?_
      refine g_aload_n (q := 1) (pc := 35) dX10_enter_35 rfl rfl ?_
      refine gc_get_WX_loss (pc := 36) hA flX10_24 dX10_enter_36 ?_
      refine g_iload_n (q := 2) (pc := 39) dX10_enter_39 rfl rfl ?_
      refine gc_ld_sX (pc := 40) (j := v) (x := nI (w2 v)) hA (by omega) rfl dX10_enter_40 ?_
      refine g_iadd_N (pc := 41) dX10_enter_41 ?_
      refine g_istore (lv' := [(4, .int (nI ((L c) + (w2 v)))), (3, .int (nI ((T c) + (w1 v)))), (0, .ref (cd 14)), (1, .int (nI v)), (2, .int (nI c))]) (pc := 42) dX10_enter_42 (by decide) rfl ?_
      refine g_iload_n (q := 1) (pc := 44) dX10_enter_44 rfl rfl ?_
      refine g_aload_n (q := 2) (pc := 45) dX10_enter_45 rfl rfl ?_
      refine gc_get_WX_least (pc := 46) hA flX10_15 dX10_enter_46 ?_
      refine g_iload_n (q := 3) (pc := 49) dX10_enter_49 rfl rfl ?_
      refine gc_ld_lX (pc := 50) (j := v) (x := nI (T v)) hA (by omega) rfl dX10_enter_50 ?_
      refine g_icmp_ge_N (tgt := 84) (pc := 51) (by omega) (by omega) dX10_enter_51 (by decide) (fun c3 => ?_) (fun c3 => ?_)
      · -- T c3
        refine g_iload_n (q := 1) (pc := 84) dX10_enter_84 rfl rfl ?_
        refine g_aload_n (q := 2) (pc := 85) dX10_enter_85 rfl rfl ?_
        refine gc_get_WX_least (pc := 86) hA flX10_15 dX10_enter_86 ?_
        refine g_iload_n (q := 3) (pc := 89) dX10_enter_89 rfl rfl ?_
        refine gc_ld_lX (pc := 90) (j := v) (x := nI (T v)) hA (by omega) rfl dX10_enter_90 ?_
        refine g_icmp_ne_N (tgt := 126) (pc := 91) (by omega) (by omega) dX10_enter_91 (by decide) (fun c4 => ?_) (fun c4 => ?_)
        · -- T c4
          exact g_vret (pc := 126) (by decide) (by decide) (hPo) dX10_enter_126
        · -- F c4
          exfalso; omega
      · -- F c3
        exfalso; omega
    · -- F c2
      rw [hS] at c2; cases c2
set_option maxHeartbeats 8000000 in
theorem c_X10_enter_X_0 {T L w1 w2 : Nat → Nat} {S : Nat → Bool} {o N : Nat → Int32} {v c : Nat} (hA : oC b0 cd V) (hv : v < 20) (hc : c < 20) (hS : S v = true) : KE l D Z b0 yX10_enter cX10_enter 5 none rmX10_enter [.ref (cd 14), .int (nI v), .int (nI c)] (wC Z cd ik ugA ugB ugC rA pA tA rB pB tB rC pC tC (nf w1) (nf T) o N (nf w2) (bf S) cY lY oY nY sY zY tm cl KR SO SZ EL V) none (wC Z cd ik ugA ugB ugC rA pA tA rB pB tB rC pC tC (nf w1) (nf T) o N (nf w2) (bf S) cY lY oY nY sY zY tm cl KR SO SZ EL V) := by
  refine KE.of (by decide) (Nat.le_of_ble_eq_true rfl) (fun Po hPo => ?_)
  refine G.locals (L' := [(0, .ref (cd 14)), (1, .int (nI v)), (2, .int (nI c))]) [0, 1, 2] rfl ?_
  refine g_iload_n (q := 1) (pc := 0) dX10_enter_0 rfl rfl ?_
  refine g_iconst (v := (-1)) (pc := 1) dX10_enter_1 (by decide) ?_
  refine g_icmp_eq (tgt := 14) (pc := 2) dX10_enter_2 (by decide) (fun c1 => ?_) (fun c1 => ?_)
  · -- T c1
    exact absurd c1 (nI_m1 (by omega))
  · -- F c1
    refine g_aload_n (q := 0) (pc := 5) dX10_enter_5 rfl rfl ?_
    refine gc_get_WX_isSettled (pc := 6) hA flX10_27 dX10_enter_6 ?_
    refine g_iload_n (q := 1) (pc := 9) dX10_enter_9 rfl rfl ?_
    refine gc_ld_zX (pc := 10) (j := v) (x := bI (S v)) hA (by omega) rfl dX10_enter_10 ?_
    refine g_if_eq_B (tgt := 15) (pc := 11) dX10_enter_11 (by decide) (fun c2 => ?_) (fun c2 => ?_)
    · -- T c2
      rw [hS] at c2; cases c2
    · -- F c2
      exact g_vret (pc := 14) (by decide) (by decide) (hPo) dX10_enter_14
set_option maxHeartbeats 8000000 in
theorem c_X10_enter_X_n {T L w1 w2 : Nat → Nat} {S : Nat → Bool} {o N : Nat → Int32} {c : Nat} (hA : oC b0 cd V) : KE l D Z b0 yX10_enter cX10_enter 5 none rmX10_enter [.ref (cd 14), .int (-1), .int (nI c)] (wC Z cd ik ugA ugB ugC rA pA tA rB pB tB rC pC tC (nf w1) (nf T) o N (nf w2) (bf S) cY lY oY nY sY zY tm cl KR SO SZ EL V) none (wC Z cd ik ugA ugB ugC rA pA tA rB pB tB rC pC tC (nf w1) (nf T) o N (nf w2) (bf S) cY lY oY nY sY zY tm cl KR SO SZ EL V) := by
  refine KE.of (by decide) (Nat.le_of_ble_eq_true rfl) (fun Po hPo => ?_)
  refine G.locals (L' := [(0, .ref (cd 14)), (1, .int (-1)), (2, .int (nI c))]) [0, 1, 2] rfl ?_
  refine g_iload_n (q := 1) (pc := 0) dX10_enter_0 rfl rfl ?_
  refine g_iconst (v := (-1)) (pc := 1) dX10_enter_1 (by decide) ?_
  refine g_icmp_eq (tgt := 14) (pc := 2) dX10_enter_2 (by decide) (fun c1 => ?_) (fun c1 => ?_)
  · -- T c1
    exact g_vret (pc := 14) (by decide) (by decide) (hPo) dX10_enter_14
  · -- F c1
    exact absurd rfl c1
set_option maxHeartbeats 8000000 in
theorem c_X10_nearest_Y {T : Nat → Nat} {S : Nat → Bool} (hA : oC b0 cd V) (hT : ∀ v, v < 20 → T v ≤ 1000000) (hex : ∃ v, v < 20 ∧ S v = false) : KM l D Z b0 yX10_nearest cX10_nearest 4 (some .int) rmX10_nearest [.ref (cd 15)] (wC Z cd ik ugA ugB ugC rA pA tA rB pB tB rC pC tC cX lX oX nX sX zX cY (nf T) oY nY sY (bf S) tm cl KR SO SZ EL V) (fun v V' => ∃ c, v = some (.int (nI c)) ∧ V' = wC Z cd ik ugA ugB ugC rA pA tA rB pB tB rC pC tC cX lX oX nX sX zX cY (nf T) oY nY sY (bf S) tm cl KR SO SZ EL V ∧ c < 20 ∧ S c = false ∧ ∀ v, v < 20 → S v = false → T c ≤ T v) := by
  refine KM.ofP (by decide) (Nat.le_of_ble_eq_true rfl) (fun Po hPo => ?_)
  refine G.locals (L' := [(0, .ref (cd 15))]) [0] rfl ?_
  refine g_iconst (v := nI 0) (pc := 0) dX10_nearest_0 (by decide) ?_
  refine g_istore_n (lv' := [(1, .int (nI 0)), (0, .ref (cd 15))]) (pc := 1) dX10_nearest_1 rfl (by decide) rfl ?_
  refine g_ldc (v := nI 1000001) (pc := 2) ctX10_60 dX10_nearest_2 ?_
  refine g_istore_n (lv' := [(2, .int (nI 1000001)), (1, .int (nI 0)), (0, .ref (cd 15))]) (pc := 4) dX10_nearest_4 rfl (by decide) rfl ?_
  refine g_iconst (v := nI 0) (pc := 5) dX10_nearest_5 (by decide) ?_
  refine g_istore_n (lv' := [(3, .int (nI 0)), (2, .int (nI 1000001)), (1, .int (nI 0)), (0, .ref (cd 15))]) (pc := 6) dX10_nearest_6 rfl (by decide) rfl ?_
  have lp7 : ∀ (d7 : Nat) (i : Nat) (b : Nat) (t : Nat), i + d7 = 21 → (i ≤ 20) → (NE S T i b t) → G l D Z b0 rmX10_nearest RX10 cX10_nearest 4 (gE (some .int) "nearest") (gT D b0 Po rmX10_nearest.cells rmX10_nearest.slots) (wC Z cd ik ugA ugB ugC rA pA tA rB pB tB rC pC tC cX lX oX nX sX zX cY (nf T) oY nY sY (bf S) tm cl KR SO SZ EL V) [(3, .int (nI i)), (1, .int (nI b)), (2, .int (nI t)), (0, .ref (cd 15))] 0 0 7 [] := by
    intro d7
    induction d7 with
    | zero =>
      intro i b t hd7 hiN hne
      exact absurd hd7 (by omega)
    | succ d7 ih7 =>
      intro i b t hd7 hiN hne
      refine g_iload_n (q := 0) (pc := 7) dX10_nearest_7 rfl rfl ?_
      refine g_bipush (v := nI 20) (pc := 8) dX10_nearest_8 (by decide) ?_
      refine g_icmp_ge_N (tgt := 47) (pc := 10) (by omega) (by omega) dX10_nearest_10 (by decide) (fun c1 => ?_) (fun c1 => ?_)
      · -- T c1
        refine g_iload_n (q := 1) (pc := 47) dX10_nearest_47 rfl rfl ?_
        exact g_iret (pc := 48) (by decide) (by decide) (hPo _ _ ⟨b, rfl, rfl, NE.fin hne (by omega) hex⟩) dX10_nearest_48
      · -- F c1
        refine g_aload_n (q := 3) (pc := 13) dX10_nearest_13 rfl rfl ?_
        refine gc_get_WY_isSettled (pc := 14) hA flX10_27 dX10_nearest_14 ?_
        refine g_iload_n (q := 0) (pc := 17) dX10_nearest_17 rfl rfl ?_
        refine gc_ld_zY (pc := 18) (j := i) (x := bI (S i)) hA (by omega) rfl dX10_nearest_18 ?_
        refine g_if_ne_B (tgt := 41) (pc := 19) dX10_nearest_19 (by decide) (fun c2 => ?_) (fun c2 => ?_)
        · -- T c2
          refine g_iinc (q := 0) (lv' := [(3, .int (nI (i + 1))), (1, .int (nI b)), (2, .int (nI t)), (0, .ref (cd 15))]) (pc := 41) dX10_nearest_41 rfl (nI_inc _ _) (by decide) rfl ?_
          refine g_goto (tgt := 7) (pc := 44) dX10_nearest_44 (by decide) ?_
          refine G.locals (L' := [(3, .int (nI (i + 1))), (1, .int (nI b)), (2, .int (nI t)), (0, .ref (cd 15))]) [0, 1, 2, 3] rfl ?_
          exact ih7 (i + 1) b t (by omega) (by omega) (by first | exact NE.st hne (by assumption) | exact NE.ge hne (hT i (by omega)) (by assumption))
        · -- F c2
          refine g_aload_n (q := 3) (pc := 22) dX10_nearest_22 rfl rfl ?_
          refine gc_get_WY_least (pc := 23) hA flX10_15 dX10_nearest_23 ?_
          refine g_iload_n (q := 0) (pc := 26) dX10_nearest_26 rfl rfl ?_
          refine gc_ld_lY (pc := 27) (j := i) (x := nI (T i)) hA (by omega) rfl dX10_nearest_27 ?_
          refine g_iload_n (q := 2) (pc := 28) dX10_nearest_28 rfl rfl ?_
          refine g_icmp_ge_N (tgt := 41) (pc := 29) (by have := hT i (by omega); omega) (by have := hne.1; omega) dX10_nearest_29 (by decide) (fun c3 => ?_) (fun c3 => ?_)
          · -- T c3
            refine g_iinc (q := 0) (lv' := [(3, .int (nI (i + 1))), (1, .int (nI b)), (2, .int (nI t)), (0, .ref (cd 15))]) (pc := 41) dX10_nearest_41 rfl (nI_inc _ _) (by decide) rfl ?_
            refine g_goto (tgt := 7) (pc := 44) dX10_nearest_44 (by decide) ?_
            refine G.locals (L' := [(3, .int (nI (i + 1))), (1, .int (nI b)), (2, .int (nI t)), (0, .ref (cd 15))]) [0, 1, 2, 3] rfl ?_
            exact ih7 (i + 1) b t (by omega) (by omega) (by first | exact NE.st hne (by assumption) | exact NE.ge hne (hT i (by omega)) (by assumption))
          · -- F c3
            refine g_iload_n (q := 0) (pc := 32) dX10_nearest_32 rfl rfl ?_
            refine g_istore_n (lv' := [(1, .int (nI i)), (3, .int (nI i)), (2, .int (nI t)), (0, .ref (cd 15))]) (pc := 33) dX10_nearest_33 rfl (by decide) rfl ?_
            refine g_aload_n (q := 3) (pc := 34) dX10_nearest_34 rfl rfl ?_
            refine gc_get_WY_least (pc := 35) hA flX10_15 dX10_nearest_35 ?_
            refine g_iload_n (q := 1) (pc := 38) dX10_nearest_38 rfl rfl ?_
            refine gc_ld_lY (pc := 39) (j := i) (x := nI (T i)) hA (by omega) rfl dX10_nearest_39 ?_
            refine g_istore_n (lv' := [(2, .int (nI (T i))), (1, .int (nI i)), (3, .int (nI i)), (0, .ref (cd 15))]) (pc := 40) dX10_nearest_40 rfl (by decide) rfl ?_
            refine g_iinc (q := 2) (lv' := [(3, .int (nI (i + 1))), (2, .int (nI (T i))), (1, .int (nI i)), (0, .ref (cd 15))]) (pc := 41) dX10_nearest_41 rfl (nI_inc _ _) (by decide) rfl ?_
            refine g_goto (tgt := 7) (pc := 44) dX10_nearest_44 (by decide) ?_
            refine G.locals (L' := [(3, .int (nI (i + 1))), (1, .int (nI i)), (2, .int (nI (T i))), (0, .ref (cd 15))]) [0, 2, 1, 3] rfl ?_
            exact ih7 (i + 1) i (T i) (by omega) (by omega) (NE.lt hne (by omega) (by assumption) (hT i (by omega)) (by assumption))
  refine G.locals (L' := [(3, .int (nI 0)), (1, .int (nI 0)), (2, .int (nI 1000001)), (0, .ref (cd 15))]) [0, 2, 1, 3] rfl ?_
  exact lp7 21 0 0 1000001 (by omega) (by decide) NE.ini
set_option maxHeartbeats 8000000 in
theorem c_X10_enter_Y_2 {T L w1 w2 : Nat → Nat} {S : Nat → Bool} {o N : Nat → Int32} {v c : Nat} (hA : oC b0 cd V) (hv : v < 20) (hc : c < 20) (hS : S v = false) (hTc : T c ≤ 600) (hw : w1 v ≤ 30) (hTv : T v ≤ 1000000) (hLc : L c ≤ 400) (hw2 : w2 v ≤ 14) (hoc : o c = nI (L c)) (hLv : L v ≤ 400) (hov : o v = nI (L v)) (hl : T c + w1 v = T v) : KE l D Z b0 yX10_enter cX10_enter 5 none rmX10_enter [.ref (cd 15), .int (nI v), .int (nI c)] (wC Z cd ik ugA ugB ugC rA pA tA rB pB tB rC pC tC cX lX oX nX sX zX (nf w1) (nf T) o N (nf w2) (bf S) tm cl KR SO SZ EL V) none (wC Z cd ik ugA ugB ugC rA pA tA rB pB tB rC pC tC cX lX oX nX sX zX (nf w1) (nf T) (upd o v (nI (if L c + w2 v < L v then L c + w2 v else L v))) (upd N v (N v + N c)) (nf w2) (bf S) tm cl KR SO SZ EL V) := by
  refine KE.of (by decide) (Nat.le_of_ble_eq_true rfl) (fun Po hPo => ?_)
  refine G.locals (L' := [(0, .ref (cd 15)), (1, .int (nI v)), (2, .int (nI c))]) [0, 1, 2] rfl ?_
  refine g_iload_n (q := 1) (pc := 0) dX10_enter_0 rfl rfl ?_
  refine g_iconst (v := (-1)) (pc := 1) dX10_enter_1 (by decide) ?_
  refine g_icmp_eq (tgt := 14) (pc := 2) dX10_enter_2 (by decide) (fun c1 => ?_) (fun c1 => ?_)
  · -- T c1
    exact absurd c1 (nI_m1 (by omega))
  · -- F c1
    refine g_aload_n (q := 0) (pc := 5) dX10_enter_5 rfl rfl ?_
    refine gc_get_WY_isSettled (pc := 6) hA flX10_27 dX10_enter_6 ?_
    refine g_iload_n (q := 1) (pc := 9) dX10_enter_9 rfl rfl ?_
    refine gc_ld_zY (pc := 10) (j := v) (x := bI (S v)) hA (by omega) rfl dX10_enter_10 ?_
    refine g_if_eq_B (tgt := 15) (pc := 11) dX10_enter_11 (by decide) (fun c2 => ?_) (fun c2 => ?_)
    · -- T c2
      refine g_aload_n (q := 0) (pc := 15) dX10_enter_15 rfl rfl ?_
      refine gc_get_WY_least (pc := 16) hA flX10_15 dX10_enter_16 ?_
      refine g_iload_n (q := 2) (pc := 19) dX10_enter_19 rfl rfl ?_
      refine gc_ld_lY (pc := 20) (j := c) (x := nI (T c)) hA (by omega) rfl dX10_enter_20 ?_
      refine g_aload_n (q := 0) (pc := 21) dX10_enter_21 rfl rfl ?_
      refine gc_get_WY_cost (pc := 22) hA flX10_9 dX10_enter_22 ?_
      refine g_iload_n (q := 1) (pc := 25) dX10_enter_25 rfl rfl ?_
      refine gc_ld_cY (pc := 26) (j := v) (x := nI (w1 v)) hA (by omega) rfl dX10_enter_26 ?_
      refine g_iadd_N (pc := 27) dX10_enter_27 ?_
      refine g_istore_n (lv' := [(3, .int (nI ((T c) + (w1 v)))), (0, .ref (cd 15)), (1, .int (nI v)), (2, .int (nI c))]) (pc := 28) dX10_enter_28 rfl (by decide) rfl ?_
      refine g_aload_n (q := 1) (pc := 29) dX10_enter_29 rfl rfl ?_
      refine gc_get_WY_lost (pc := 30) hA flX10_18 dX10_enter_30 ?_
      refine g_iload_n (q := 3) (pc := 33) dX10_enter_33 rfl rfl ?_
      refine gc_ld_oY (pc := 34) (j := c) (x := nI (L c)) hA (by omega) hoc dX10_enter_34 ?_
      refine g_aload_n (q := 1) (pc := 35) dX10_enter_35 rfl rfl ?_
      refine gc_get_WY_loss (pc := 36) hA flX10_24 dX10_enter_36 ?_
      refine g_iload_n (q := 2) (pc := 39) dX10_enter_39 rfl rfl ?_
      refine gc_ld_sY (pc := 40) (j := v) (x := nI (w2 v)) hA (by omega) rfl dX10_enter_40 ?_
      refine g_iadd_N (pc := 41) dX10_enter_41 ?_
      refine g_istore (lv' := [(4, .int (nI ((L c) + (w2 v)))), (3, .int (nI ((T c) + (w1 v)))), (0, .ref (cd 15)), (1, .int (nI v)), (2, .int (nI c))]) (pc := 42) dX10_enter_42 (by decide) rfl ?_
      refine g_iload_n (q := 1) (pc := 44) dX10_enter_44 rfl rfl ?_
      refine g_aload_n (q := 2) (pc := 45) dX10_enter_45 rfl rfl ?_
      refine gc_get_WY_least (pc := 46) hA flX10_15 dX10_enter_46 ?_
      refine g_iload_n (q := 3) (pc := 49) dX10_enter_49 rfl rfl ?_
      refine gc_ld_lY (pc := 50) (j := v) (x := nI (T v)) hA (by omega) rfl dX10_enter_50 ?_
      refine g_icmp_ge_N (tgt := 84) (pc := 51) (by omega) (by omega) dX10_enter_51 (by decide) (fun c3 => ?_) (fun c3 => ?_)
      · -- T c3
        refine g_iload_n (q := 1) (pc := 84) dX10_enter_84 rfl rfl ?_
        refine g_aload_n (q := 2) (pc := 85) dX10_enter_85 rfl rfl ?_
        refine gc_get_WY_least (pc := 86) hA flX10_15 dX10_enter_86 ?_
        refine g_iload_n (q := 3) (pc := 89) dX10_enter_89 rfl rfl ?_
        refine gc_ld_lY (pc := 90) (j := v) (x := nI (T v)) hA (by omega) rfl dX10_enter_90 ?_
        refine g_icmp_ne_N (tgt := 126) (pc := 91) (by omega) (by omega) dX10_enter_91 (by decide) (fun c4 => ?_) (fun c4 => ?_)
        · -- T c4
          exfalso; omega
        · -- F c4
          refine g_aload_n (q := 2) (pc := 94) dX10_enter_94 rfl rfl ?_
          refine gc_get_WY_lost (pc := 95) hA flX10_18 dX10_enter_95 ?_
          refine g_iload_n (q := 3) (pc := 98) dX10_enter_98 rfl rfl ?_
          refine g_aload_n (q := 2) (pc := 99) dX10_enter_99 rfl rfl ?_
          refine gc_get_WY_lost (pc := 100) hA flX10_18 dX10_enter_100 ?_
          refine g_iload_n (q := 3) (pc := 103) dX10_enter_103 rfl rfl ?_
          refine gc_ld_oY (pc := 104) (j := v) (x := nI (L v)) hA (by omega) hov dX10_enter_104 ?_
          refine g_iload (q := 0) (pc := 105) dX10_enter_105 rfl ?_
          refine g_jmin (pc := 107) mlX10_61 ⟨Nat.le_of_ble_eq_true rfl, Nat.le_of_ble_eq_true rfl⟩ (Nat.le_of_ble_eq_true rfl) dX10_enter_107 (by decide) ?_
          refine g_top (x := mnI (nI (L v)) (nI ((L c) + (w2 v)))) (y := nI (if L c + w2 v < L v then L c + w2 v else L v)) (mnI_n (by omega) (by omega)) ?_
          refine gc_st_oY (pc := 110) (j := v) (f' := (upd o v (nI (if L c + w2 v < L v then L c + w2 v else L v)))) hA (by omega) rfl dX10_enter_110 ?_
          refine g_aload_n (q := 2) (pc := 111) dX10_enter_111 rfl rfl ?_
          refine gc_get_WY_number (pc := 112) hA flX10_21 dX10_enter_112 ?_
          refine g_iload_n (q := 3) (pc := 115) dX10_enter_115 rfl rfl ?_
          refine g_dup2_11 (pc := 116) dX10_enter_116 rfl rfl ?_
          refine gc_ld_nY (pc := 117) (j := v) (x := N v) hA (by omega) rfl dX10_enter_117 ?_
          refine g_aload_n (q := 2) (pc := 118) dX10_enter_118 rfl rfl ?_
          refine gc_get_WY_number (pc := 119) hA flX10_21 dX10_enter_119 ?_
          refine g_iload_n (q := 4) (pc := 122) dX10_enter_122 rfl rfl ?_
          refine gc_ld_nY (pc := 123) (j := c) (x := N c) hA (by omega) rfl dX10_enter_123 ?_
          refine g_iadd (pc := 124) dX10_enter_124 ?_
          refine gc_st_nY (pc := 125) (j := v) (f' := (upd N v ((N v) + (N c)))) hA (by omega) rfl dX10_enter_125 ?_
          exact g_vret (pc := 126) (by decide) (by decide) (hPo) dX10_enter_126
      · -- F c3
        exfalso; omega
    · -- F c2
      rw [hS] at c2; cases c2
set_option maxHeartbeats 8000000 in
theorem c_X10_enter_Y_1 {T L w1 w2 : Nat → Nat} {S : Nat → Bool} {o N : Nat → Int32} {v c : Nat} (hA : oC b0 cd V) (hv : v < 20) (hc : c < 20) (hS : S v = false) (hTc : T c ≤ 600) (hw : w1 v ≤ 30) (hTv : T v ≤ 1000000) (hLc : L c ≤ 400) (hw2 : w2 v ≤ 14) (hoc : o c = nI (L c)) (hl : T c + w1 v < T v) : KE l D Z b0 yX10_enter cX10_enter 5 none rmX10_enter [.ref (cd 15), .int (nI v), .int (nI c)] (wC Z cd ik ugA ugB ugC rA pA tA rB pB tB rC pC tC cX lX oX nX sX zX (nf w1) (nf T) o N (nf w2) (bf S) tm cl KR SO SZ EL V) none (wC Z cd ik ugA ugB ugC rA pA tA rB pB tB rC pC tC cX lX oX nX sX zX (nf w1) (nf (updN T v (T c + w1 v))) (upd o v (nI (L c + w2 v))) (upd N v (N c)) (nf w2) (bf S) tm cl KR SO SZ EL V) := by
  refine KE.of (by decide) (Nat.le_of_ble_eq_true rfl) (fun Po hPo => ?_)
  refine G.locals (L' := [(0, .ref (cd 15)), (1, .int (nI v)), (2, .int (nI c))]) [0, 1, 2] rfl ?_
  refine g_iload_n (q := 1) (pc := 0) dX10_enter_0 rfl rfl ?_
  refine g_iconst (v := (-1)) (pc := 1) dX10_enter_1 (by decide) ?_
  refine g_icmp_eq (tgt := 14) (pc := 2) dX10_enter_2 (by decide) (fun c1 => ?_) (fun c1 => ?_)
  · -- T c1
    exact absurd c1 (nI_m1 (by omega))
  · -- F c1
    refine g_aload_n (q := 0) (pc := 5) dX10_enter_5 rfl rfl ?_
    refine gc_get_WY_isSettled (pc := 6) hA flX10_27 dX10_enter_6 ?_
    refine g_iload_n (q := 1) (pc := 9) dX10_enter_9 rfl rfl ?_
    refine gc_ld_zY (pc := 10) (j := v) (x := bI (S v)) hA (by omega) rfl dX10_enter_10 ?_
    refine g_if_eq_B (tgt := 15) (pc := 11) dX10_enter_11 (by decide) (fun c2 => ?_) (fun c2 => ?_)
    · -- T c2
      refine g_aload_n (q := 0) (pc := 15) dX10_enter_15 rfl rfl ?_
      refine gc_get_WY_least (pc := 16) hA flX10_15 dX10_enter_16 ?_
      refine g_iload_n (q := 2) (pc := 19) dX10_enter_19 rfl rfl ?_
      refine gc_ld_lY (pc := 20) (j := c) (x := nI (T c)) hA (by omega) rfl dX10_enter_20 ?_
      refine g_aload_n (q := 0) (pc := 21) dX10_enter_21 rfl rfl ?_
      refine gc_get_WY_cost (pc := 22) hA flX10_9 dX10_enter_22 ?_
      refine g_iload_n (q := 1) (pc := 25) dX10_enter_25 rfl rfl ?_
      refine gc_ld_cY (pc := 26) (j := v) (x := nI (w1 v)) hA (by omega) rfl dX10_enter_26 ?_
      refine g_iadd_N (pc := 27) dX10_enter_27 ?_
      refine g_istore_n (lv' := [(3, .int (nI ((T c) + (w1 v)))), (0, .ref (cd 15)), (1, .int (nI v)), (2, .int (nI c))]) (pc := 28) dX10_enter_28 rfl (by decide) rfl ?_
      refine g_aload_n (q := 1) (pc := 29) dX10_enter_29 rfl rfl ?_
      refine gc_get_WY_lost (pc := 30) hA flX10_18 dX10_enter_30 ?_
      refine g_iload_n (q := 3) (pc := 33) dX10_enter_33 rfl rfl ?_
      refine gc_ld_oY (pc := 34) (j := c) (x := nI (L c)) hA (by omega) hoc dX10_enter_34 ?_
      refine g_aload_n (q := 1) (pc := 35) dX10_enter_35 rfl rfl ?_
      refine gc_get_WY_loss (pc := 36) hA flX10_24 dX10_enter_36 ?_
      refine g_iload_n (q := 2) (pc := 39) dX10_enter_39 rfl rfl ?_
      refine gc_ld_sY (pc := 40) (j := v) (x := nI (w2 v)) hA (by omega) rfl dX10_enter_40 ?_
      refine g_iadd_N (pc := 41) dX10_enter_41 ?_
      refine g_istore (lv' := [(4, .int (nI ((L c) + (w2 v)))), (3, .int (nI ((T c) + (w1 v)))), (0, .ref (cd 15)), (1, .int (nI v)), (2, .int (nI c))]) (pc := 42) dX10_enter_42 (by decide) rfl ?_
      refine g_iload_n (q := 1) (pc := 44) dX10_enter_44 rfl rfl ?_
      refine g_aload_n (q := 2) (pc := 45) dX10_enter_45 rfl rfl ?_
      refine gc_get_WY_least (pc := 46) hA flX10_15 dX10_enter_46 ?_
      refine g_iload_n (q := 3) (pc := 49) dX10_enter_49 rfl rfl ?_
      refine gc_ld_lY (pc := 50) (j := v) (x := nI (T v)) hA (by omega) rfl dX10_enter_50 ?_
      refine g_icmp_ge_N (tgt := 84) (pc := 51) (by omega) (by omega) dX10_enter_51 (by decide) (fun c3 => ?_) (fun c3 => ?_)
      · -- T c3
        exfalso; omega
      · -- F c3
        refine g_aload_n (q := 2) (pc := 54) dX10_enter_54 rfl rfl ?_
        refine gc_get_WY_least (pc := 55) hA flX10_15 dX10_enter_55 ?_
        refine g_iload_n (q := 3) (pc := 58) dX10_enter_58 rfl rfl ?_
        refine g_iload_n (q := 1) (pc := 59) dX10_enter_59 rfl rfl ?_
        refine gc_st_lY (pc := 60) (j := v) (f' := (nf (updN T v ((T c) + (w1 v))))) hA (by omega) (upd_nf _ _ _) dX10_enter_60 ?_
        refine g_aload_n (q := 2) (pc := 61) dX10_enter_61 rfl rfl ?_
        refine gc_get_WY_lost (pc := 62) hA flX10_18 dX10_enter_62 ?_
        refine g_iload_n (q := 3) (pc := 65) dX10_enter_65 rfl rfl ?_
        refine g_iload (q := 0) (pc := 66) dX10_enter_66 rfl ?_
        refine gc_st_oY (pc := 68) (j := v) (f' := (upd o v (nI ((L c) + (w2 v))))) hA (by omega) rfl dX10_enter_68 ?_
        refine g_aload_n (q := 2) (pc := 69) dX10_enter_69 rfl rfl ?_
        refine gc_get_WY_number (pc := 70) hA flX10_21 dX10_enter_70 ?_
        refine g_iload_n (q := 3) (pc := 73) dX10_enter_73 rfl rfl ?_
        refine g_aload_n (q := 2) (pc := 74) dX10_enter_74 rfl rfl ?_
        refine gc_get_WY_number (pc := 75) hA flX10_21 dX10_enter_75 ?_
        refine g_iload_n (q := 4) (pc := 78) dX10_enter_78 rfl rfl ?_
        refine gc_ld_nY (pc := 79) (j := c) (x := N c) hA (by omega) rfl dX10_enter_79 ?_
        refine gc_st_nY (pc := 80) (j := v) (f' := (upd N v (N c))) hA (by omega) rfl dX10_enter_80 ?_
        refine g_goto (tgt := 126) (pc := 81) dX10_enter_81 (by decide) ?_
        exact g_vret (pc := 126) (by decide) (by decide) (hPo) dX10_enter_126
    · -- F c2
      rw [hS] at c2; cases c2
set_option maxHeartbeats 8000000 in
theorem c_X10_enter_Y_3 {T L w1 w2 : Nat → Nat} {S : Nat → Bool} {o N : Nat → Int32} {v c : Nat} (hA : oC b0 cd V) (hv : v < 20) (hc : c < 20) (hS : S v = false) (hTc : T c ≤ 600) (hw : w1 v ≤ 30) (hTv : T v ≤ 1000000) (hLc : L c ≤ 400) (hw2 : w2 v ≤ 14) (hoc : o c = nI (L c)) (hl : T v < T c + w1 v) : KE l D Z b0 yX10_enter cX10_enter 5 none rmX10_enter [.ref (cd 15), .int (nI v), .int (nI c)] (wC Z cd ik ugA ugB ugC rA pA tA rB pB tB rC pC tC cX lX oX nX sX zX (nf w1) (nf T) o N (nf w2) (bf S) tm cl KR SO SZ EL V) none (wC Z cd ik ugA ugB ugC rA pA tA rB pB tB rC pC tC cX lX oX nX sX zX (nf w1) (nf T) o N (nf w2) (bf S) tm cl KR SO SZ EL V) := by
  refine KE.of (by decide) (Nat.le_of_ble_eq_true rfl) (fun Po hPo => ?_)
  refine G.locals (L' := [(0, .ref (cd 15)), (1, .int (nI v)), (2, .int (nI c))]) [0, 1, 2] rfl ?_
  refine g_iload_n (q := 1) (pc := 0) dX10_enter_0 rfl rfl ?_
  refine g_iconst (v := (-1)) (pc := 1) dX10_enter_1 (by decide) ?_
  refine g_icmp_eq (tgt := 14) (pc := 2) dX10_enter_2 (by decide) (fun c1 => ?_) (fun c1 => ?_)
  · -- T c1
    exact absurd c1 (nI_m1 (by omega))
  · -- F c1
    refine g_aload_n (q := 0) (pc := 5) dX10_enter_5 rfl rfl ?_
    refine gc_get_WY_isSettled (pc := 6) hA flX10_27 dX10_enter_6 ?_
    refine g_iload_n (q := 1) (pc := 9) dX10_enter_9 rfl rfl ?_
    refine gc_ld_zY (pc := 10) (j := v) (x := bI (S v)) hA (by omega) rfl dX10_enter_10 ?_
    refine g_if_eq_B (tgt := 15) (pc := 11) dX10_enter_11 (by decide) (fun c2 => ?_) (fun c2 => ?_)
    · -- T c2
      refine g_aload_n (q := 0) (pc := 15) dX10_enter_15 rfl rfl ?_
      refine gc_get_WY_least (pc := 16) hA flX10_15 dX10_enter_16 ?_
      refine g_iload_n (q := 2) (pc := 19) dX10_enter_19 rfl rfl ?_
      refine gc_ld_lY (pc := 20) (j := c) (x := nI (T c)) hA (by omega) rfl dX10_enter_20 ?_
      refine g_aload_n (q := 0) (pc := 21) dX10_enter_21 rfl rfl ?_
      refine gc_get_WY_cost (pc := 22) hA flX10_9 dX10_enter_22 ?_
      refine g_iload_n (q := 1) (pc := 25) dX10_enter_25 rfl rfl ?_
      refine gc_ld_cY (pc := 26) (j := v) (x := nI (w1 v)) hA (by omega) rfl dX10_enter_26 ?_
      refine g_iadd_N (pc := 27) dX10_enter_27 ?_
      refine g_istore_n (lv' := [(3, .int (nI ((T c) + (w1 v)))), (0, .ref (cd 15)), (1, .int (nI v)), (2, .int (nI c))]) (pc := 28) dX10_enter_28 rfl (by decide) rfl ?_
      refine g_aload_n (q := 1) (pc := 29) dX10_enter_29 rfl rfl ?_
      refine gc_get_WY_lost (pc := 30) hA flX10_18 dX10_enter_30 ?_
      refine g_iload_n (q := 3) (pc := 33) dX10_enter_33 rfl rfl ?_
      refine gc_ld_oY (pc := 34) (j := c) (x := nI (L c)) hA (by omega) hoc dX10_enter_34 ?_
      refine g_aload_n (q := 1) (pc := 35) dX10_enter_35 rfl rfl ?_
      refine gc_get_WY_loss (pc := 36) hA flX10_24 dX10_enter_36 ?_
      refine g_iload_n (q := 2) (pc := 39) dX10_enter_39 rfl rfl ?_
      refine gc_ld_sY (pc := 40) (j := v) (x := nI (w2 v)) hA (by omega) rfl dX10_enter_40 ?_
      refine g_iadd_N (pc := 41) dX10_enter_41 ?_
      refine g_istore (lv' := [(4, .int (nI ((L c) + (w2 v)))), (3, .int (nI ((T c) + (w1 v)))), (0, .ref (cd 15)), (1, .int (nI v)), (2, .int (nI c))]) (pc := 42) dX10_enter_42 (by decide) rfl ?_
      refine g_iload_n (q := 1) (pc := 44) dX10_enter_44 rfl rfl ?_
      refine g_aload_n (q := 2) (pc := 45) dX10_enter_45 rfl rfl ?_
      refine gc_get_WY_least (pc := 46) hA flX10_15 dX10_enter_46 ?_
      refine g_iload_n (q := 3) (pc := 49) dX10_enter_49 rfl rfl ?_
      refine gc_ld_lY (pc := 50) (j := v) (x := nI (T v)) hA (by omega) rfl dX10_enter_50 ?_
      refine g_icmp_ge_N (tgt := 84) (pc := 51) (by omega) (by omega) dX10_enter_51 (by decide) (fun c3 => ?_) (fun c3 => ?_)
      · -- T c3
        refine g_iload_n (q := 1) (pc := 84) dX10_enter_84 rfl rfl ?_
        refine g_aload_n (q := 2) (pc := 85) dX10_enter_85 rfl rfl ?_
        refine gc_get_WY_least (pc := 86) hA flX10_15 dX10_enter_86 ?_
        refine g_iload_n (q := 3) (pc := 89) dX10_enter_89 rfl rfl ?_
        refine gc_ld_lY (pc := 90) (j := v) (x := nI (T v)) hA (by omega) rfl dX10_enter_90 ?_
        refine g_icmp_ne_N (tgt := 126) (pc := 91) (by omega) (by omega) dX10_enter_91 (by decide) (fun c4 => ?_) (fun c4 => ?_)
        · -- T c4
          exact g_vret (pc := 126) (by decide) (by decide) (hPo) dX10_enter_126
        · -- F c4
          exfalso; omega
      · -- F c3
        exfalso; omega
    · -- F c2
      rw [hS] at c2; cases c2
set_option maxHeartbeats 8000000 in
theorem c_X10_enter_Y_0 {T L w1 w2 : Nat → Nat} {S : Nat → Bool} {o N : Nat → Int32} {v c : Nat} (hA : oC b0 cd V) (hv : v < 20) (hc : c < 20) (hS : S v = true) : KE l D Z b0 yX10_enter cX10_enter 5 none rmX10_enter [.ref (cd 15), .int (nI v), .int (nI c)] (wC Z cd ik ugA ugB ugC rA pA tA rB pB tB rC pC tC cX lX oX nX sX zX (nf w1) (nf T) o N (nf w2) (bf S) tm cl KR SO SZ EL V) none (wC Z cd ik ugA ugB ugC rA pA tA rB pB tB rC pC tC cX lX oX nX sX zX (nf w1) (nf T) o N (nf w2) (bf S) tm cl KR SO SZ EL V) := by
  refine KE.of (by decide) (Nat.le_of_ble_eq_true rfl) (fun Po hPo => ?_)
  refine G.locals (L' := [(0, .ref (cd 15)), (1, .int (nI v)), (2, .int (nI c))]) [0, 1, 2] rfl ?_
  refine g_iload_n (q := 1) (pc := 0) dX10_enter_0 rfl rfl ?_
  refine g_iconst (v := (-1)) (pc := 1) dX10_enter_1 (by decide) ?_
  refine g_icmp_eq (tgt := 14) (pc := 2) dX10_enter_2 (by decide) (fun c1 => ?_) (fun c1 => ?_)
  · -- T c1
    exact absurd c1 (nI_m1 (by omega))
  · -- F c1
    refine g_aload_n (q := 0) (pc := 5) dX10_enter_5 rfl rfl ?_
    refine gc_get_WY_isSettled (pc := 6) hA flX10_27 dX10_enter_6 ?_
    refine g_iload_n (q := 1) (pc := 9) dX10_enter_9 rfl rfl ?_
    refine gc_ld_zY (pc := 10) (j := v) (x := bI (S v)) hA (by omega) rfl dX10_enter_10 ?_
    refine g_if_eq_B (tgt := 15) (pc := 11) dX10_enter_11 (by decide) (fun c2 => ?_) (fun c2 => ?_)
    · -- T c2
      rw [hS] at c2; cases c2
    · -- F c2
      exact g_vret (pc := 14) (by decide) (by decide) (hPo) dX10_enter_14
set_option maxHeartbeats 8000000 in
theorem c_X10_enter_Y_n {T L w1 w2 : Nat → Nat} {S : Nat → Bool} {o N : Nat → Int32} {c : Nat} (hA : oC b0 cd V) : KE l D Z b0 yX10_enter cX10_enter 5 none rmX10_enter [.ref (cd 15), .int (-1), .int (nI c)] (wC Z cd ik ugA ugB ugC rA pA tA rB pB tB rC pC tC cX lX oX nX sX zX (nf w1) (nf T) o N (nf w2) (bf S) tm cl KR SO SZ EL V) none (wC Z cd ik ugA ugB ugC rA pA tA rB pB tB rC pC tC cX lX oX nX sX zX (nf w1) (nf T) o N (nf w2) (bf S) tm cl KR SO SZ EL V) := by
  refine KE.of (by decide) (Nat.le_of_ble_eq_true rfl) (fun Po hPo => ?_)
  refine G.locals (L' := [(0, .ref (cd 15)), (1, .int (-1)), (2, .int (nI c))]) [0, 1, 2] rfl ?_
  refine g_iload_n (q := 1) (pc := 0) dX10_enter_0 rfl rfl ?_
  refine g_iconst (v := (-1)) (pc := 1) dX10_enter_1 (by decide) ?_
  refine g_icmp_eq (tgt := 14) (pc := 2) dX10_enter_2 (by decide) (fun c1 => ?_) (fun c1 => ?_)
  · -- T c1
    exact g_vret (pc := 14) (by decide) (by decide) (hPo) dX10_enter_14
  · -- F c1
    exact absurd rfl c1
end MS
