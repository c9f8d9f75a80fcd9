section MS
variable {l : Launch} {D : va_G} {Z : Nat → ClassId} {b0 : Nat} {V : HV}
def rmX6_init : Room := { frames := 1, cells := 0, slots := 0, locals := 12 }
set_option maxHeartbeats 8000000 in
theorem c_X6_init_c0 {a f : Nat} (hb0 : b0 ≤ a) : KE l D Z b0 yX6_init cX6_init 2 none rmX6_init [.ref a, .int (nI f)] (upv V a (vO 0 [.int 0])) none (upv V a (vO 0 [.int (nI f)])) := by
  refine KE.of (by decide) (Nat.le_of_ble_eq_true rfl) (fun Po hPo => ?_)
  refine G.locals (L' := [(0, .ref a), (1, .int (nI f))]) [0, 1] rfl ?_
  refine g_aload_n (q := 0) (pc := 0) dX6_init_0 rfl rfl ?_
  refine g_objInit (pc := 1) oiX6_3 oi_i oi_c ⟨Nat.le_of_ble_eq_true rfl, Nat.le_of_ble_eq_true rfl⟩ dX6_init_1 ?_
  refine g_aload_n (q := 0) (pc := 4) dX6_init_4 rfl rfl ?_
  refine g_iload_n (q := 1) (pc := 5) dX6_init_5 rfl rfl ?_
  refine g_putF (C := RX0) (F := TX0) (N := 1) (ci := 0) (ty := .int) (pc := 6) (upv_eq _ _ _) rfl inX0 tyX0 tyX0_ok nmX0 0 (by decide) flX6_9 rfl rfl rfl (fun _ _ _ h => h.2) (by decide +kernel) rfl rfl (by show 0 < 1; decide) hb0 dX6_init_6 ?_
  refine G.veq (upv_upv _ _ _ _) ?_
  exact g_vret (pc := 9) (by decide) (by decide) (hPo) dX6_init_9
def rmX0_init : Room := { frames := 2, cells := 0, slots := 0, locals := 33 }
set_option maxHeartbeats 8000000 in
theorem c_X0_init_c0 {a f : Nat} (hb0 : b0 ≤ a) : KE l D Z b0 yX0_init cX0_init 2 none rmX0_init [.ref a, .int (nI f)] (upv V a (vO 0 [.int 0])) none (upv V a (vO 0 [.int (nI f)])) := by
  refine KE.of (by decide) (Nat.le_of_ble_eq_true rfl) (fun Po hPo => ?_)
  refine G.locals (L' := [(0, .ref a), (1, .int (nI f))]) [0, 1] rfl ?_
  refine g_aload_n (q := 0) (pc := 0) dX0_init_0 rfl rfl ?_
  refine g_iload_n (q := 1) (pc := 1) dX0_init_1 rfl rfl ?_
  refine e_callIv (k2 := 0) (n2 := 0) (As := [.int (nI f)]) (rest := []) (pc := 2) rfl (c_X6_init_c0 hb0) mlX0_3 mX6_init ⟨Nat.le_of_ble_eq_true rfl, Nat.le_of_ble_eq_true rfl⟩ rfl rfl (Nat.le_of_ble_eq_true rfl) dX0_init_2 (by decide) rfl rfl ?_
  exact g_vret (pc := 5) (by decide) (by decide) (hPo) dX0_init_5
set_option maxHeartbeats 8000000 in
theorem c_X6_init_c1 {a f : Nat} (hb0 : b0 ≤ a) : KE l D Z b0 yX6_init cX6_init 2 none rmX6_init [.ref a, .int (nI f)] (upv V a (vO 1 [.int 0])) none (upv V a (vO 1 [.int (nI f)])) := by
  refine KE.of (by decide) (Nat.le_of_ble_eq_true rfl) (fun Po hPo => ?_)
  refine G.locals (L' := [(0, .ref a), (1, .int (nI f))]) [0, 1] rfl ?_
  refine g_aload_n (q := 0) (pc := 0) dX6_init_0 rfl rfl ?_
  refine g_objInit (pc := 1) oiX6_3 oi_i oi_c ⟨Nat.le_of_ble_eq_true rfl, Nat.le_of_ble_eq_true rfl⟩ dX6_init_1 ?_
  refine g_aload_n (q := 0) (pc := 4) dX6_init_4 rfl rfl ?_
  refine g_iload_n (q := 1) (pc := 5) dX6_init_5 rfl rfl ?_
  refine g_putF (C := RX1) (F := TX1) (N := 1) (ci := 1) (ty := .int) (pc := 6) (upv_eq _ _ _) rfl inX1 tyX1 tyX1_ok nmX1 0 (by decide) flX6_9 rfl rfl rfl (fun _ _ _ h => h.2) (by decide +kernel) rfl rfl (by show 0 < 1; decide) hb0 dX6_init_6 ?_
  refine G.veq (upv_upv _ _ _ _) ?_
  exact g_vret (pc := 9) (by decide) (by decide) (hPo) dX6_init_9
def rmX4_init : Room := { frames := 2, cells := 0, slots := 0, locals := 33 }
set_option maxHeartbeats 8000000 in
theorem c_X4_init_c1 {a f : Nat} (hb0 : b0 ≤ a) : KE l D Z b0 yX4_init cX4_init 2 none rmX4_init [.ref a, .int (nI f)] (upv V a (vO 1 [.int 0])) none (upv V a (vO 1 [.int (nI f)])) := by
  refine KE.of (by decide) (Nat.le_of_ble_eq_true rfl) (fun Po hPo => ?_)
  refine G.locals (L' := [(0, .ref a), (1, .int (nI f))]) [0, 1] rfl ?_
  refine g_aload_n (q := 0) (pc := 0) dX4_init_0 rfl rfl ?_
  refine g_iload_n (q := 1) (pc := 1) dX4_init_1 rfl rfl ?_
  refine e_callIv (k2 := 0) (n2 := 0) (As := [.int (nI f)]) (rest := []) (pc := 2) rfl (c_X6_init_c1 hb0) mlX4_3 mX6_init ⟨Nat.le_of_ble_eq_true rfl, Nat.le_of_ble_eq_true rfl⟩ rfl rfl (Nat.le_of_ble_eq_true rfl) dX4_init_2 (by decide) rfl rfl ?_
  exact g_vret (pc := 5) (by decide) (by decide) (hPo) dX4_init_5
def rmX1_init : Room := { frames := 3, cells := 0, slots := 0, locals := 54 }
set_option maxHeartbeats 8000000 in
theorem c_X1_init_c1 {a f : Nat} (hb0 : b0 ≤ a) : KE l D Z b0 yX1_init cX1_init 2 none rmX1_init [.ref a, .int (nI f)] (upv V a (vO 1 [.int 0])) none (upv V a (vO 1 [.int (nI f)])) := by
  refine KE.of (by decide) (Nat.le_of_ble_eq_true rfl) (fun Po hPo => ?_)
  refine G.locals (L' := [(0, .ref a), (1, .int (nI f))]) [0, 1] rfl ?_
  refine g_aload_n (q := 0) (pc := 0) dX1_init_0 rfl rfl ?_
  refine g_iload_n (q := 1) (pc := 1) dX1_init_1 rfl rfl ?_
  refine e_callIv (k2 := 0) (n2 := 0) (As := [.int (nI f)]) (rest := []) (pc := 2) rfl (c_X4_init_c1 hb0) mlX1_3 mX4_init ⟨Nat.le_of_ble_eq_true rfl, Nat.le_of_ble_eq_true rfl⟩ rfl rfl (Nat.le_of_ble_eq_true rfl) dX1_init_2 (by decide) rfl rfl ?_
  exact g_vret (pc := 5) (by decide) (by decide) (hPo) dX1_init_5
set_option maxHeartbeats 8000000 in
theorem c_X6_init_c2 {a f : Nat} (hb0 : b0 ≤ a) : KE l D Z b0 yX6_init cX6_init 2 none rmX6_init [.ref a, .int (nI f)] (upv V a (vO 2 [.int 0])) none (upv V a (vO 2 [.int (nI f)])) := by
  refine KE.of (by decide) (Nat.le_of_ble_eq_true rfl) (fun Po hPo => ?_)
  refine G.locals (L' := [(0, .ref a), (1, .int (nI f))]) [0, 1] rfl ?_
  refine g_aload_n (q := 0) (pc := 0) dX6_init_0 rfl rfl ?_
  refine g_objInit (pc := 1) oiX6_3 oi_i oi_c ⟨Nat.le_of_ble_eq_true rfl, Nat.le_of_ble_eq_true rfl⟩ dX6_init_1 ?_
  refine g_aload_n (q := 0) (pc := 4) dX6_init_4 rfl rfl ?_
  refine g_iload_n (q := 1) (pc := 5) dX6_init_5 rfl rfl ?_
  refine g_putF (C := RX2) (F := TX2) (N := 1) (ci := 2) (ty := .int) (pc := 6) (upv_eq _ _ _) rfl inX2 tyX2 tyX2_ok nmX2 0 (by decide) flX6_9 rfl rfl rfl (fun _ _ _ h => h.2) (by decide +kernel) rfl rfl (by show 0 < 1; decide) hb0 dX6_init_6 ?_
  refine G.veq (upv_upv _ _ _ _) ?_
  exact g_vret (pc := 9) (by decide) (by decide) (hPo) dX6_init_9
set_option maxHeartbeats 8000000 in
theorem c_X0_init_c2 {a f : Nat} (hb0 : b0 ≤ a) : KE l D Z b0 yX0_init cX0_init 2 none rmX0_init [.ref a, .int (nI f)] (upv V a (vO 2 [.int 0])) none (upv V a (vO 2 [.int (nI f)])) := by
  refine KE.of (by decide) (Nat.le_of_ble_eq_true rfl) (fun Po hPo => ?_)
  refine G.locals (L' := [(0, .ref a), (1, .int (nI f))]) [0, 1] rfl ?_
  refine g_aload_n (q := 0) (pc := 0) dX0_init_0 rfl rfl ?_
  refine g_iload_n (q := 1) (pc := 1) dX0_init_1 rfl rfl ?_
  refine e_callIv (k2 := 0) (n2 := 0) (As := [.int (nI f)]) (rest := []) (pc := 2) rfl (c_X6_init_c2 hb0) mlX0_3 mX6_init ⟨Nat.le_of_ble_eq_true rfl, Nat.le_of_ble_eq_true rfl⟩ rfl rfl (Nat.le_of_ble_eq_true rfl) dX0_init_2 (by decide) rfl rfl ?_
  exact g_vret (pc := 5) (by decide) (by decide) (hPo) dX0_init_5
def rmX2_init : Room := { frames := 3, cells := 0, slots := 0, locals := 54 }
set_option maxHeartbeats 8000000 in
theorem c_X2_init_c2 {a f : Nat} (hb0 : b0 ≤ a) : KE l D Z b0 yX2_init cX2_init 2 none rmX2_init [.ref a, .int (nI f)] (upv V a (vO 2 [.int 0])) none (upv V a (vO 2 [.int (nI f)])) := by
  refine KE.of (by decide) (Nat.le_of_ble_eq_true rfl) (fun Po hPo => ?_)
  refine G.locals (L' := [(0, .ref a), (1, .int (nI f))]) [0, 1] rfl ?_
  refine g_aload_n (q := 0) (pc := 0) dX2_init_0 rfl rfl ?_
  refine g_iload_n (q := 1) (pc := 1) dX2_init_1 rfl rfl ?_
  refine e_callIv (k2 := 0) (n2 := 0) (As := [.int (nI f)]) (rest := []) (pc := 2) rfl (c_X0_init_c2 hb0) mlX2_3 mX0_init ⟨Nat.le_of_ble_eq_true rfl, Nat.le_of_ble_eq_true rfl⟩ rfl rfl (Nat.le_of_ble_eq_true rfl) dX2_init_2 (by decide) rfl rfl ?_
  exact g_vret (pc := 5) (by decide) (by decide) (hPo) dX2_init_5
set_option maxHeartbeats 8000000 in
theorem c_X6_init_c3 {a f : Nat} (hb0 : b0 ≤ a) : KE l D Z b0 yX6_init cX6_init 2 none rmX6_init [.ref a, .int (nI f)] (upv V a (vO 3 [.int 0])) none (upv V a (vO 3 [.int (nI f)])) := by
  refine KE.of (by decide) (Nat.le_of_ble_eq_true rfl) (fun Po hPo => ?_)
  refine G.locals (L' := [(0, .ref a), (1, .int (nI f))]) [0, 1] rfl ?_
  refine g_aload_n (q := 0) (pc := 0) dX6_init_0 rfl rfl ?_
  refine g_objInit (pc := 1) oiX6_3 oi_i oi_c ⟨Nat.le_of_ble_eq_true rfl, Nat.le_of_ble_eq_true rfl⟩ dX6_init_1 ?_
  refine g_aload_n (q := 0) (pc := 4) dX6_init_4 rfl rfl ?_
  refine g_iload_n (q := 1) (pc := 5) dX6_init_5 rfl rfl ?_
  refine g_putF (C := RX3) (F := TX3) (N := 1) (ci := 3) (ty := .int) (pc := 6) (upv_eq _ _ _) rfl inX3 tyX3 tyX3_ok nmX3 0 (by decide) flX6_9 rfl rfl rfl (fun _ _ _ h => h.2) (by decide +kernel) rfl rfl (by show 0 < 1; decide) hb0 dX6_init_6 ?_
  refine G.veq (upv_upv _ _ _ _) ?_
  exact g_vret (pc := 9) (by decide) (by decide) (hPo) dX6_init_9
def rmX3_init : Room := { frames := 2, cells := 0, slots := 0, locals := 33 }
set_option maxHeartbeats 8000000 in
theorem c_X3_init_c3 {a f : Nat} (hb0 : b0 ≤ a) : KE l D Z b0 yX3_init cX3_init 2 none rmX3_init [.ref a, .int (nI f)] (upv V a (vO 3 [.int 0])) none (upv V a (vO 3 [.int (nI f)])) := by
  refine KE.of (by decide) (Nat.le_of_ble_eq_true rfl) (fun Po hPo => ?_)
  refine G.locals (L' := [(0, .ref a), (1, .int (nI f))]) [0, 1] rfl ?_
  refine g_aload_n (q := 0) (pc := 0) dX3_init_0 rfl rfl ?_
  refine g_iload_n (q := 1) (pc := 1) dX3_init_1 rfl rfl ?_
  refine e_callIv (k2 := 0) (n2 := 0) (As := [.int (nI f)]) (rest := []) (pc := 2) rfl (c_X6_init_c3 hb0) mlX3_3 mX6_init ⟨Nat.le_of_ble_eq_true rfl, Nat.le_of_ble_eq_true rfl⟩ rfl rfl (Nat.le_of_ble_eq_true rfl) dX3_init_2 (by decide) rfl rfl ?_
  exact g_vret (pc := 5) (by decide) (by decide) (hPo) dX3_init_5
set_option maxHeartbeats 8000000 in
theorem c_X6_init_c4 {a f : Nat} (hb0 : b0 ≤ a) : KE l D Z b0 yX6_init cX6_init 2 none rmX6_init [.ref a, .int (nI f)] (upv V a (vO 4 [.int 0])) none (upv V a (vO 4 [.int (nI f)])) := by
  refine KE.of (by decide) (Nat.le_of_ble_eq_true rfl) (fun Po hPo => ?_)
  refine G.locals (L' := [(0, .ref a), (1, .int (nI f))]) [0, 1] rfl ?_
  refine g_aload_n (q := 0) (pc := 0) dX6_init_0 rfl rfl ?_
  refine g_objInit (pc := 1) oiX6_3 oi_i oi_c ⟨Nat.le_of_ble_eq_true rfl, Nat.le_of_ble_eq_true rfl⟩ dX6_init_1 ?_
  refine g_aload_n (q := 0) (pc := 4) dX6_init_4 rfl rfl ?_
  refine g_iload_n (q := 1) (pc := 5) dX6_init_5 rfl rfl ?_
  refine g_putF (C := RX4) (F := TX4) (N := 1) (ci := 4) (ty := .int) (pc := 6) (upv_eq _ _ _) rfl inX4 tyX4 tyX4_ok nmX4 0 (by decide) flX6_9 rfl rfl rfl (fun _ _ _ h => h.2) (by decide +kernel) rfl rfl (by show 0 < 1; decide) hb0 dX6_init_6 ?_
  refine G.veq (upv_upv _ _ _ _) ?_
  exact g_vret (pc := 9) (by decide) (by decide) (hPo) dX6_init_9
set_option maxHeartbeats 8000000 in
theorem c_X4_init_c4 {a f : Nat} (hb0 : b0 ≤ a) : KE l D Z b0 yX4_init cX4_init 2 none rmX4_init [.ref a, .int (nI f)] (upv V a (vO 4 [.int 0])) none (upv V a (vO 4 [.int (nI f)])) := by
  refine KE.of (by decide) (Nat.le_of_ble_eq_true rfl) (fun Po hPo => ?_)
  refine G.locals (L' := [(0, .ref a), (1, .int (nI f))]) [0, 1] rfl ?_
  refine g_aload_n (q := 0) (pc := 0) dX4_init_0 rfl rfl ?_
  refine g_iload_n (q := 1) (pc := 1) dX4_init_1 rfl rfl ?_
  refine e_callIv (k2 := 0) (n2 := 0) (As := [.int (nI f)]) (rest := []) (pc := 2) rfl (c_X6_init_c4 hb0) mlX4_3 mX6_init ⟨Nat.le_of_ble_eq_true rfl, Nat.le_of_ble_eq_true rfl⟩ rfl rfl (Nat.le_of_ble_eq_true rfl) dX4_init_2 (by decide) rfl rfl ?_
  exact g_vret (pc := 5) (by decide) (by decide) (hPo) dX4_init_5
set_option maxHeartbeats 8000000 in
theorem c_X6_init_c6 {a f : Nat} (hb0 : b0 ≤ a) : KE l D Z b0 yX6_init cX6_init 2 none rmX6_init [.ref a, .int (nI f)] (upv V a (vO 6 [.int 0])) none (upv V a (vO 6 [.int (nI f)])) := by
  refine KE.of (by decide) (Nat.le_of_ble_eq_true rfl) (fun Po hPo => ?_)
  refine G.locals (L' := [(0, .ref a), (1, .int (nI f))]) [0, 1] rfl ?_
  refine g_aload_n (q := 0) (pc := 0) dX6_init_0 rfl rfl ?_
  refine g_objInit (pc := 1) oiX6_3 oi_i oi_c ⟨Nat.le_of_ble_eq_true rfl, Nat.le_of_ble_eq_true rfl⟩ dX6_init_1 ?_
  refine g_aload_n (q := 0) (pc := 4) dX6_init_4 rfl rfl ?_
  refine g_iload_n (q := 1) (pc := 5) dX6_init_5 rfl rfl ?_
  refine g_putF (C := RX6) (F := TX6) (N := 1) (ci := 6) (ty := .int) (pc := 6) (upv_eq _ _ _) rfl inX6 tyX6 tyX6_ok nmX6 0 (by decide) flX6_9 rfl rfl rfl (fun _ _ _ h => h.2) (by decide +kernel) rfl rfl (by show 0 < 1; decide) hb0 dX6_init_6 ?_
  refine G.veq (upv_upv _ _ _ _) ?_
  exact g_vret (pc := 9) (by decide) (by decide) (hPo) dX6_init_9
set_option maxHeartbeats 8000000 in
theorem c_X6_init_c8 {a f : Nat} (hb0 : b0 ≤ a) : KE l D Z b0 yX6_init cX6_init 2 none rmX6_init [.ref a, .int (nI f)] (upv V a (vO 8 [.int 0])) none (upv V a (vO 8 [.int (nI f)])) := by
  refine KE.of (by decide) (Nat.le_of_ble_eq_true rfl) (fun Po hPo => ?_)
  refine G.locals (L' := [(0, .ref a), (1, .int (nI f))]) [0, 1] rfl ?_
  refine g_aload_n (q := 0) (pc := 0) dX6_init_0 rfl rfl ?_
  refine g_objInit (pc := 1) oiX6_3 oi_i oi_c ⟨Nat.le_of_ble_eq_true rfl, Nat.le_of_ble_eq_true rfl⟩ dX6_init_1 ?_
  refine g_aload_n (q := 0) (pc := 4) dX6_init_4 rfl rfl ?_
  refine g_iload_n (q := 1) (pc := 5) dX6_init_5 rfl rfl ?_
  refine g_putF (C := RX8) (F := TX8) (N := 1) (ci := 8) (ty := .int) (pc := 6) (upv_eq _ _ _) rfl inX8 tyX8 tyX8_ok nmX8 0 (by decide) flX6_9 rfl rfl rfl (fun _ _ _ h => h.2) (by decide +kernel) rfl rfl (by show 0 < 1; decide) hb0 dX6_init_6 ?_
  refine G.veq (upv_upv _ _ _ _) ?_
  exact g_vret (pc := 9) (by decide) (by decide) (hPo) dX6_init_9
set_option maxHeartbeats 8000000 in
theorem c_X3_init_c8 {a f : Nat} (hb0 : b0 ≤ a) : KE l D Z b0 yX3_init cX3_init 2 none rmX3_init [.ref a, .int (nI f)] (upv V a (vO 8 [.int 0])) none (upv V a (vO 8 [.int (nI f)])) := by
  refine KE.of (by decide) (Nat.le_of_ble_eq_true rfl) (fun Po hPo => ?_)
  refine G.locals (L' := [(0, .ref a), (1, .int (nI f))]) [0, 1] rfl ?_
  refine g_aload_n (q := 0) (pc := 0) dX3_init_0 rfl rfl ?_
  refine g_iload_n (q := 1) (pc := 1) dX3_init_1 rfl rfl ?_
  refine e_callIv (k2 := 0) (n2 := 0) (As := [.int (nI f)]) (rest := []) (pc := 2) rfl (c_X6_init_c8 hb0) mlX3_3 mX6_init ⟨Nat.le_of_ble_eq_true rfl, Nat.le_of_ble_eq_true rfl⟩ rfl rfl (Nat.le_of_ble_eq_true rfl) dX3_init_2 (by decide) rfl rfl ?_
  exact g_vret (pc := 5) (by decide) (by decide) (hPo) dX3_init_5
def rmX8_init : Room := { frames := 3, cells := 0, slots := 0, locals := 54 }
set_option maxHeartbeats 8000000 in
theorem c_X8_init_c8 {a f : Nat} (hb0 : b0 ≤ a) : KE l D Z b0 yX8_init cX8_init 2 none rmX8_init [.ref a, .int (nI f)] (upv V a (vO 8 [.int 0])) none (upv V a (vO 8 [.int (nI f)])) := by
  refine KE.of (by decide) (Nat.le_of_ble_eq_true rfl) (fun Po hPo => ?_)
  refine G.locals (L' := [(0, .ref a), (1, .int (nI f))]) [0, 1] rfl ?_
  refine g_aload_n (q := 0) (pc := 0) dX8_init_0 rfl rfl ?_
  refine g_iload_n (q := 1) (pc := 1) dX8_init_1 rfl rfl ?_
  refine e_callIv (k2 := 0) (n2 := 0) (As := [.int (nI f)]) (rest := []) (pc := 2) rfl (c_X3_init_c8 hb0) mlX8_3 mX3_init ⟨Nat.le_of_ble_eq_true rfl, Nat.le_of_ble_eq_true rfl⟩ rfl rfl (Nat.le_of_ble_eq_true rfl) dX8_init_2 (by decide) rfl rfl ?_
  exact g_vret (pc := 5) (by decide) (by decide) (hPo) dX8_init_5
set_option maxHeartbeats 8000000 in
theorem c_X6_init_c9 {a f : Nat} (hb0 : b0 ≤ a) : KE l D Z b0 yX6_init cX6_init 2 none rmX6_init [.ref a, .int (nI f)] (upv V a (vO 9 [.int 0])) none (upv V a (vO 9 [.int (nI f)])) := by
  refine KE.of (by decide) (Nat.le_of_ble_eq_true rfl) (fun Po hPo => ?_)
  refine G.locals (L' := [(0, .ref a), (1, .int (nI f))]) [0, 1] rfl ?_
  refine g_aload_n (q := 0) (pc := 0) dX6_init_0 rfl rfl ?_
  refine g_objInit (pc := 1) oiX6_3 oi_i oi_c ⟨Nat.le_of_ble_eq_true rfl, Nat.le_of_ble_eq_true rfl⟩ dX6_init_1 ?_
  refine g_aload_n (q := 0) (pc := 4) dX6_init_4 rfl rfl ?_
  refine g_iload_n (q := 1) (pc := 5) dX6_init_5 rfl rfl ?_
  refine g_putF (C := RX9) (F := TX9) (N := 1) (ci := 9) (ty := .int) (pc := 6) (upv_eq _ _ _) rfl inX9 tyX9 tyX9_ok nmX9 0 (by decide) flX6_9 rfl rfl rfl (fun _ _ _ h => h.2) (by decide +kernel) rfl rfl (by show 0 < 1; decide) hb0 dX6_init_6 ?_
  refine G.veq (upv_upv _ _ _ _) ?_
  exact g_vret (pc := 9) (by decide) (by decide) (hPo) dX6_init_9
set_option maxHeartbeats 8000000 in
theorem c_X0_init_c9 {a f : Nat} (hb0 : b0 ≤ a) : KE l D Z b0 yX0_init cX0_init 2 none rmX0_init [.ref a, .int (nI f)] (upv V a (vO 9 [.int 0])) none (upv V a (vO 9 [.int (nI f)])) := by
  refine KE.of (by decide) (Nat.le_of_ble_eq_true rfl) (fun Po hPo => ?_)
  refine G.locals (L' := [(0, .ref a), (1, .int (nI f))]) [0, 1] rfl ?_
  refine g_aload_n (q := 0) (pc := 0) dX0_init_0 rfl rfl ?_
  refine g_iload_n (q := 1) (pc := 1) dX0_init_1 rfl rfl ?_
  refine e_callIv (k2 := 0) (n2 := 0) (As := [.int (nI f)]) (rest := []) (pc := 2) rfl (c_X6_init_c9 hb0) mlX0_3 mX6_init ⟨Nat.le_of_ble_eq_true rfl, Nat.le_of_ble_eq_true rfl⟩ rfl rfl (Nat.le_of_ble_eq_true rfl) dX0_init_2 (by decide) rfl rfl ?_
  exact g_vret (pc := 5) (by decide) (by decide) (hPo) dX0_init_5
def rmX9_init : Room := { frames := 3, cells := 0, slots := 0, locals := 54 }
set_option maxHeartbeats 8000000 in
theorem c_X9_init_c9 {a f : Nat} (hb0 : b0 ≤ a) : KE l D Z b0 yX9_init cX9_init 2 none rmX9_init [.ref a, .int (nI f)] (upv V a (vO 9 [.int 0])) none (upv V a (vO 9 [.int (nI f)])) := by
  refine KE.of (by decide) (Nat.le_of_ble_eq_true rfl) (fun Po hPo => ?_)
  refine G.locals (L' := [(0, .ref a), (1, .int (nI f))]) [0, 1] rfl ?_
  refine g_aload_n (q := 0) (pc := 0) dX9_init_0 rfl rfl ?_
  refine g_iload_n (q := 1) (pc := 1) dX9_init_1 rfl rfl ?_
  refine e_callIv (k2 := 0) (n2 := 0) (As := [.int (nI f)]) (rest := []) (pc := 2) rfl (c_X0_init_c9 hb0) mlX9_3 mX0_init ⟨Nat.le_of_ble_eq_true rfl, Nat.le_of_ble_eq_true rfl⟩ rfl rfl (Nat.le_of_ble_eq_true rfl) dX9_init_2 (by decide) rfl rfl ?_
  exact g_vret (pc := 5) (by decide) (by decide) (hPo) dX9_init_5
def rmX11_rockOf : Room := { frames := 4, cells := 1, slots := 1, locals := 75 }
set_option maxHeartbeats 8000000 in
theorem c_X11_rockOf {q f : Nat} (hq : q < 8) (hf : f < 10) : KM l D Z b0 yX11_rockOf cX11_rockOf 2 (some (.object "KnocksThroughRock$Rock")) rmX11_rockOf [.int (nI q), .int (nI f)] (V) (fun v V' => ∃ a, v = some (.ref a) ∧ b0 ≤ a ∧ V a = none ∧ Rk V' a q f ∧ V' = upv V a (vO (cK q) [.int (nI f)])) := by
  refine KM.ofP (by decide) (Nat.le_of_ble_eq_true rfl) (fun Po hPo => ?_)
  refine G.locals (L' := [(0, .int (nI q)), (1, .int (nI f))]) [0, 1] rfl ?_
  refine g_iload_n (q := 0) (pc := 0) dX11_rockOf_0 rfl rfl ?_
  by_cases k1 : q = 1
  · subst k1
    refine g_tableIn (tgt := 44) (off := 43) (pc := 1) dX11_rockOf_1 (by decide) (by decide) (by decide) (by decide) ?_
    refine g_new (C := RX3) (F := TX3) (N := 1) (ci := 3) (fs := [.int 0]) (pc := 44) inX3 tyX3 tyX3_ok clX11_257 insX3 iniX3 rfl (by decide) (by decide) (by decide) dX11_rockOf_44 (fun a hb0 hn0 hl0 => ?_)
    refine g_dup (pc := 47) dX11_rockOf_47 rfl ?_
    refine g_iload_n (q := 1) (pc := 48) dX11_rockOf_48 rfl rfl ?_
    refine e_callIv (k2 := 1) (n2 := 1) (As := [.int (nI f)]) (rest := [.ref a]) (pc := 49) rfl (c_X3_init_c3 hb0) mlX11_259 mX3_init ⟨Nat.le_of_ble_eq_true rfl, Nat.le_of_ble_eq_true rfl⟩ rfl rfl (Nat.le_of_ble_eq_true rfl) dX11_rockOf_49 (by decide) rfl rfl ?_
    exact g_aret (pc := 52) (Or.inr ⟨_, rfl⟩) (by decide) (by decide) (hPo _ _ ⟨a, rfl, hb0, hn0, ⟨by decide, hf, upv_eq _ _ _⟩, rfl⟩) dX11_rockOf_52
  by_cases k2 : q = 2
  · subst k2
    refine g_tableIn (tgt := 53) (off := 52) (pc := 1) dX11_rockOf_1 (by decide) (by decide) (by decide) (by decide) ?_
    refine g_new (C := RX0) (F := TX0) (N := 1) (ci := 0) (fs := [.int 0]) (pc := 53) inX0 tyX0 tyX0_ok clX11_261 insX0 iniX0 rfl (by decide) (by decide) (by decide) dX11_rockOf_53 (fun a hb0 hn0 hl0 => ?_)
    refine g_dup (pc := 56) dX11_rockOf_56 rfl ?_
    refine g_iload_n (q := 1) (pc := 57) dX11_rockOf_57 rfl rfl ?_
    refine e_callIv (k2 := 1) (n2 := 1) (As := [.int (nI f)]) (rest := [.ref a]) (pc := 58) rfl (c_X0_init_c0 hb0) mlX11_263 mX0_init ⟨Nat.le_of_ble_eq_true rfl, Nat.le_of_ble_eq_true rfl⟩ rfl rfl (Nat.le_of_ble_eq_true rfl) dX11_rockOf_58 (by decide) rfl rfl ?_
    exact g_aret (pc := 61) (Or.inr ⟨_, rfl⟩) (by decide) (by decide) (hPo _ _ ⟨a, rfl, hb0, hn0, ⟨by decide, hf, upv_eq _ _ _⟩, rfl⟩) dX11_rockOf_61
  by_cases k3 : q = 3
  · subst k3
    refine g_tableIn (tgt := 62) (off := 61) (pc := 1) dX11_rockOf_1 (by decide) (by decide) (by decide) (by decide) ?_
    refine g_new (C := RX9) (F := TX9) (N := 1) (ci := 9) (fs := [.int 0]) (pc := 62) inX9 tyX9 tyX9_ok clX11_264 insX9 iniX9 rfl (by decide) (by decide) (by decide) dX11_rockOf_62 (fun a hb0 hn0 hl0 => ?_)
    refine g_dup (pc := 65) dX11_rockOf_65 rfl ?_
    refine g_iload_n (q := 1) (pc := 66) dX11_rockOf_66 rfl rfl ?_
    refine e_callIv (k2 := 1) (n2 := 1) (As := [.int (nI f)]) (rest := [.ref a]) (pc := 67) rfl (c_X9_init_c9 hb0) mlX11_266 mX9_init ⟨Nat.le_of_ble_eq_true rfl, Nat.le_of_ble_eq_true rfl⟩ rfl rfl (Nat.le_of_ble_eq_true rfl) dX11_rockOf_67 (by decide) rfl rfl ?_
    exact g_aret (pc := 70) (Or.inr ⟨_, rfl⟩) (by decide) (by decide) (hPo _ _ ⟨a, rfl, hb0, hn0, ⟨by decide, hf, upv_eq _ _ _⟩, rfl⟩) dX11_rockOf_70
  by_cases k4 : q = 4
  · subst k4
    refine g_tableIn (tgt := 71) (off := 70) (pc := 1) dX11_rockOf_1 (by decide) (by decide) (by decide) (by decide) ?_
    refine g_new (C := RX8) (F := TX8) (N := 1) (ci := 8) (fs := [.int 0]) (pc := 71) inX8 tyX8 tyX8_ok clX11_267 insX8 iniX8 rfl (by decide) (by decide) (by decide) dX11_rockOf_71 (fun a hb0 hn0 hl0 => ?_)
    refine g_dup (pc := 74) dX11_rockOf_74 rfl ?_
    refine g_iload_n (q := 1) (pc := 75) dX11_rockOf_75 rfl rfl ?_
    refine e_callIv (k2 := 1) (n2 := 1) (As := [.int (nI f)]) (rest := [.ref a]) (pc := 76) rfl (c_X8_init_c8 hb0) mlX11_269 mX8_init ⟨Nat.le_of_ble_eq_true rfl, Nat.le_of_ble_eq_true rfl⟩ rfl rfl (Nat.le_of_ble_eq_true rfl) dX11_rockOf_76 (by decide) rfl rfl ?_
    exact g_aret (pc := 79) (Or.inr ⟨_, rfl⟩) (by decide) (by decide) (hPo _ _ ⟨a, rfl, hb0, hn0, ⟨by decide, hf, upv_eq _ _ _⟩, rfl⟩) dX11_rockOf_79
  by_cases k5 : q = 5
  · subst k5
    refine g_tableIn (tgt := 80) (off := 79) (pc := 1) dX11_rockOf_1 (by decide) (by decide) (by decide) (by decide) ?_
    refine g_new (C := RX4) (F := TX4) (N := 1) (ci := 4) (fs := [.int 0]) (pc := 80) inX4 tyX4 tyX4_ok clX11_270 insX4 iniX4 rfl (by decide) (by decide) (by decide) dX11_rockOf_80 (fun a hb0 hn0 hl0 => ?_)
    refine g_dup (pc := 83) dX11_rockOf_83 rfl ?_
    refine g_iload_n (q := 1) (pc := 84) dX11_rockOf_84 rfl rfl ?_
    refine e_callIv (k2 := 1) (n2 := 1) (As := [.int (nI f)]) (rest := [.ref a]) (pc := 85) rfl (c_X4_init_c4 hb0) mlX11_272 mX4_init ⟨Nat.le_of_ble_eq_true rfl, Nat.le_of_ble_eq_true rfl⟩ rfl rfl (Nat.le_of_ble_eq_true rfl) dX11_rockOf_85 (by decide) rfl rfl ?_
    exact g_aret (pc := 88) (Or.inr ⟨_, rfl⟩) (by decide) (by decide) (hPo _ _ ⟨a, rfl, hb0, hn0, ⟨by decide, hf, upv_eq _ _ _⟩, rfl⟩) dX11_rockOf_88
  by_cases k6 : q = 6
  · subst k6
    refine g_tableIn (tgt := 89) (off := 88) (pc := 1) dX11_rockOf_1 (by decide) (by decide) (by decide) (by decide) ?_
    refine g_new (C := RX2) (F := TX2) (N := 1) (ci := 2) (fs := [.int 0]) (pc := 89) inX2 tyX2 tyX2_ok clX11_273 insX2 iniX2 rfl (by decide) (by decide) (by decide) dX11_rockOf_89 (fun a hb0 hn0 hl0 => ?_)
    refine g_dup (pc := 92) dX11_rockOf_92 rfl ?_
    refine g_iload_n (q := 1) (pc := 93) dX11_rockOf_93 rfl rfl ?_
    refine e_callIv (k2 := 1) (n2 := 1) (As := [.int (nI f)]) (rest := [.ref a]) (pc := 94) rfl (c_X2_init_c2 hb0) mlX11_275 mX2_init ⟨Nat.le_of_ble_eq_true rfl, Nat.le_of_ble_eq_true rfl⟩ rfl rfl (Nat.le_of_ble_eq_true rfl) dX11_rockOf_94 (by decide) rfl rfl ?_
    exact g_aret (pc := 97) (Or.inr ⟨_, rfl⟩) (by decide) (by decide) (hPo _ _ ⟨a, rfl, hb0, hn0, ⟨by decide, hf, upv_eq _ _ _⟩, rfl⟩) dX11_rockOf_97
  by_cases k7 : q = 7
  · subst k7
    refine g_tableIn (tgt := 98) (off := 97) (pc := 1) dX11_rockOf_1 (by decide) (by decide) (by decide) (by decide) ?_
    refine g_new (C := RX1) (F := TX1) (N := 1) (ci := 1) (fs := [.int 0]) (pc := 98) inX1 tyX1 tyX1_ok clX11_276 insX1 iniX1 rfl (by decide) (by decide) (by decide) dX11_rockOf_98 (fun a hb0 hn0 hl0 => ?_)
    refine g_dup (pc := 101) dX11_rockOf_101 rfl ?_
    refine g_iload_n (q := 1) (pc := 102) dX11_rockOf_102 rfl rfl ?_
    refine e_callIv (k2 := 1) (n2 := 1) (As := [.int (nI f)]) (rest := [.ref a]) (pc := 103) rfl (c_X1_init_c1 hb0) mlX11_278 mX1_init ⟨Nat.le_of_ble_eq_true rfl, Nat.le_of_ble_eq_true rfl⟩ rfl rfl (Nat.le_of_ble_eq_true rfl) dX11_rockOf_103 (by decide) rfl rfl ?_
    exact g_aret (pc := 106) (Or.inr ⟨_, rfl⟩) (by decide) (by decide) (hPo _ _ ⟨a, rfl, hb0, hn0, ⟨by decide, hf, upv_eq _ _ _⟩, rfl⟩) dX11_rockOf_106
  refine g_tableOut (tgt := 107) (pc := 1) dX11_rockOf_1 (by rw [nI_toInt (by omega)]; omega) (by decide) ?_
  have h09 : q = 0 := by omega
  subst h09
  refine g_new (C := RX6) (F := TX6) (N := 1) (ci := 6) (fs := [.int 0]) (pc := 107) inX6 tyX6 tyX6_ok clX11_78 insX6 iniX6 rfl (by decide) (by decide) (by decide) dX11_rockOf_107 (fun a hb0 hn0 hl0 => ?_)
  refine g_dup (pc := 110) dX11_rockOf_110 rfl ?_
  refine g_iload_n (q := 1) (pc := 111) dX11_rockOf_111 rfl rfl ?_
  refine e_callIv (k2 := 1) (n2 := 1) (As := [.int (nI f)]) (rest := [.ref a]) (pc := 112) rfl (c_X6_init_c6 hb0) mlX11_279 mX6_init ⟨Nat.le_of_ble_eq_true rfl, Nat.le_of_ble_eq_true rfl⟩ rfl rfl (Nat.le_of_ble_eq_true rfl) dX11_rockOf_112 (by decide) rfl rfl ?_
  exact g_aret (pc := 115) (Or.inr ⟨_, rfl⟩) (by decide) (by decide) (hPo _ _ ⟨a, rfl, hb0, hn0, ⟨by decide, hf, upv_eq _ _ _⟩, rfl⟩) dX11_rockOf_115
end MS
