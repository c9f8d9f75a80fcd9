section IN
variable {l : Launch} {D : va_G} {Z : Nat → ClassId} {b0 : Nat} {V : HV}
theorem G.opq {R : Room} {own : String} {cc : ByteArray} {nL : Nat} {E : Method → Array Value → State → Prop} {T : List Frame → Array Value → State → State → Prop} {L : List (Nat × Value)} {k n pc : Nat} {st : List Value} (kk : ∀ W, W = V → G l D Z b0 R own cc nL E T W L k n pc st) : G l D Z b0 R own cc nL E T V L k n pc st := kk V rfl
theorem mono_lt {ad : Nat → Nat} {n : Nat} (h : ∀ k, k + 1 < n → ad k < ad (k + 1)) : ∀ j, j < n → ∀ i, i < j → ad i < ad j := by
  intro j
  induction j with
  | zero => intro _ i hi; exact absurd hi (Nat.not_lt_zero _)
  | succ j ih =>
    intro hj i hi
    have h1 := h j hj
    by_cases q : i = j
    · subst q; exact h1
    · exact Nat.lt_trans (ih (by omega) i (by omega)) h1
def bk_cut (ad : Nat → Nat) (n : Nat) (V : HV) : HV := fun q => if (List.range n).any (fun j => decide (ad j = q)) = true then none else V q
theorem bk_cut_at {ad : Nat → Nat} {n j : Nat} {V : HV} (hj : j < n) : bk_cut ad n V (ad j) = none := if_pos (List.any_eq_true.mpr ⟨j, List.mem_range.mpr hj, decide_eq_true rfl⟩)
theorem bk_cut_out {ad : Nat → Nat} {n q : Nat} {V : HV} (h : ∀ j, j < n → q ≠ ad j) : bk_cut ad n V q = V q := if_neg (fun z => by
  obtain ⟨j, hj, e⟩ := List.any_eq_true.mp z
  exact h j (List.mem_range.mp hj) (of_decide_eq_true e).symm)
theorem bk_self {ad : Nat → Nat} {n : Nat} {F : Nat → va_E} {V : HV} (hi : inj ad n) (h : ∀ j, j < n → V (ad j) = some (F j)) : V = bk ad n F (bk_cut ad n V) := funext fun q => by
  cases hq : (List.range n).any (fun j => decide (ad j = q)) with
  | true =>
    obtain ⟨j, hj, e⟩ := List.any_eq_true.mp hq
    have e := of_decide_eq_true e
    subst e
    rw [h j (List.mem_range.mp hj), bk_get hi (Nat.le_refl _) (List.mem_range.mp hj)]
  | false =>
    have ho : ∀ j, j < n → q ≠ ad j := fun j hj e => by
      have : (List.range n).any (fun j => decide (ad j = q)) = true := List.any_eq_true.mpr ⟨j, List.mem_range.mpr hj, decide_eq_true e.symm⟩
      rw [hq] at this; cases this
    rw [bk_out ho, bk_cut_out ho]
def rmX7_init : Room := { frames := 1, cells := 1, slots := 100, locals := 12 }
set_option maxHeartbeats 8000000 in
theorem c_X7_init {a0 : Nat} (ha0 : V a0 = some (vO 7 [.null, .int 0, .int 0, .null])) (hb0 : b0 ≤ a0) : KM l D Z b0 yX7_init cX7_init 1 none rmX7_init [.ref a0] V (fun v V' => v = none ∧ ∃ a1, a0 < a1 ∧ V' a0 = some (vO 7 [.null, .int (-1), .int (nI 0), .ref a1]) ∧ V' a1 = some (vI Z 0 100 (fun _ => 0)) ∧ ∀ (q : Nat) (e : va_E), q ≠ a0 → V q = some e → V' q = some e) := by
  refine KM.ofP (by decide) (Nat.le_of_ble_eq_true rfl) (fun Po hPo => ?_)
  refine G.locals (L' := [(0, .ref a0)]) [0] rfl ?_
  refine g_aload_n (q := 0) (pc := 0) dX7_init_0 rfl rfl ?_
  refine g_objInit (pc := 1) oiX7_3 oi_i oi_c ⟨Nat.le_of_ble_eq_true rfl, Nat.le_of_ble_eq_true rfl⟩ dX7_init_1 ?_
  refine g_aload_n (q := 0) (pc := 4) dX7_init_4 rfl rfl ?_
  refine g_null (pc := 5) dX7_init_5 ?_
  refine g_put (C := RX7) (F := TX7) (N := 4) (ci := 7) (ty := .object RX6) (pc := 6) ha0 rfl inX7 tyX7 tyX7_ok nmX7 0 (by decide) flX7_9 rfl rfl (by decide +kernel) rfl rfl (by show 0 < 4; decide) hb0 dX7_init_6 ?_
  refine G.opq (fun V1 hV1 => ?_)
  have x1 : ∀ (q : Nat) (e : va_E), q ≠ a0 → V q = some e → V1 q = some e := fun q e hq h => by rw [hV1, upv_ne hq]; exact h
  have f1 : V1 a0 = some (vO 7 [.null, .int 0, .int 0, .null]) := by rw [hV1]; exact upv_eq _ _ _
  refine g_aload_n (q := 0) (pc := 9) dX7_init_9 rfl rfl ?_
  refine g_iconst (v := (-1)) (pc := 10) dX7_init_10 (by decide) ?_
  refine g_put (C := RX7) (F := TX7) (N := 4) (ci := 7) (ty := .int) (pc := 11) f1 rfl inX7 tyX7 tyX7_ok nmX7 1 (by decide) flX7_15 rfl rfl (by decide +kernel) rfl rfl (by show 1 < 4; decide) hb0 dX7_init_11 ?_
  refine G.opq (fun V2 hV2 => ?_)
  have x2 : ∀ (q : Nat) (e : va_E), q ≠ a0 → V1 q = some e → V2 q = some e := fun q e hq h => by rw [hV2, upv_ne hq]; exact h
  have f2 : V2 a0 = some (vO 7 [.null, .int (-1), .int 0, .null]) := by rw [hV2]; exact upv_eq _ _ _
  refine g_aload_n (q := 0) (pc := 14) dX7_init_14 rfl rfl ?_
  refine g_iconst (v := nI 0) (pc := 15) dX7_init_15 (by decide) ?_
  refine g_put (C := RX7) (F := TX7) (N := 4) (ci := 7) (ty := .int) (pc := 16) f2 rfl inX7 tyX7 tyX7_ok nmX7 2 (by decide) flX7_19 rfl rfl (by decide +kernel) rfl rfl (by show 2 < 4; decide) hb0 dX7_init_16 ?_
  refine G.opq (fun V3 hV3 => ?_)
  have x3 : ∀ (q : Nat) (e : va_E), q ≠ a0 → V2 q = some e → V3 q = some e := fun q e hq h => by rw [hV3, upv_ne hq]; exact h
  have f3 : V3 a0 = some (vO 7 [.null, .int (-1), .int (nI 0), .null]) := by rw [hV3]; exact upv_eq _ _ _
  refine g_aload_n (q := 0) (pc := 19) dX7_init_19 rfl rfl ?_
  refine g_bipush (v := nI 100) (pc := 20) dX7_init_20 (by decide) ?_
  refine g_newa0 (pc := 22) (N := 100) ac_int (nI_nneg (by decide)) (nI_toNat (by decide)) (by decide) (by decide) (by decide) dX7_init_22 (fun a1 hb_a1 hn_a1 hl_a1 => ?_)
  have t_a1 : a0 < a1 := hl_a1 _ _ f3
  refine G.opq (fun V4 hV4 => ?_)
  have x4 : ∀ (q : Nat) (e : va_E), V3 q = some e → V4 q = some e := fun q e h => by rw [hV4, upv_ne (fun z => by subst z; rw [hn_a1] at h; cases h)]; exact h
  have f4 : V4 a1 = some (vI Z 0 100 (fun _ => 0)) := by rw [hV4]; exact upv_eq _ _ _
  have n_a1_a0 : a1 ≠ a0 := by omega
  refine g_putF (C := RX7) (F := TX7) (N := 4) (ci := 7) (ty := .array .int) (pc := 24) (x4 _ _ f3) rfl inX7 tyX7 tyX7_ok nmX7 3 (by decide) flX7_22 rfl rfl rfl (fun _ _ _ h => h.2) (by decide +kernel) rfl rfl (by show 3 < 4; decide) hb0 dX7_init_24 ?_
  refine G.opq (fun V5 hV5 => ?_)
  have x5 : ∀ (q : Nat) (e : va_E), q ≠ a0 → V4 q = some e → V5 q = some e := fun q e hq h => by rw [hV5, upv_ne hq]; exact h
  have f5 : V5 a0 = some (vO 7 [.null, .int (-1), .int (nI 0), .ref a1]) := by rw [hV5]; exact upv_eq _ _ _
  exact g_vret (pc := 27) (by decide) (by decide) (hPo _ _ ⟨rfl, a1, t_a1, f5, (x5 _ _ n_a1_a0 f4), (fun q e hq h => (x5 _ _ hq (x4 _ _ (x3 _ _ hq (x2 _ _ hq (x1 _ _ hq h))))))⟩) dX7_init_27
def rmX10_init : Room := { frames := 1, cells := 6, slots := 120, locals := 12 }
set_option maxHeartbeats 8000000 in
theorem c_X10_init {a0 : Nat} (ha0 : V a0 = some (vO 10 [.null, .null, .null, .null, .null, .null])) (hb0 : b0 ≤ a0) : KM l D Z b0 yX10_init cX10_init 1 none rmX10_init [.ref a0] V (fun v V' => v = none ∧ ∃ a1 a2 a3 a4 a5 a6, a0 < a1 ∧ a1 < a2 ∧ a2 < a3 ∧ a3 < a4 ∧ a4 < a5 ∧ a5 < a6 ∧ V' a0 = some (vO 10 [.ref a1, .ref a2, .ref a3, .ref a4, .ref a5, .ref a6]) ∧ V' a1 = some (vI Z 0 20 (fun _ => 0)) ∧ V' a2 = some (vI Z 0 20 (fun _ => 0)) ∧ V' a3 = some (vI Z 0 20 (fun _ => 0)) ∧ V' a4 = some (vI Z 0 20 (fun _ => 0)) ∧ V' a5 = some (vI Z 0 20 (fun _ => 0)) ∧ V' a6 = some (vI Z 1 20 (fun _ => 0)) ∧ ∀ (q : Nat) (e : va_E), q ≠ a0 → V q = some e → V' q = some e) := by
  refine KM.ofP (by decide) (Nat.le_of_ble_eq_true rfl) (fun Po hPo => ?_)
  refine G.locals (L' := [(0, .ref a0)]) [0] rfl ?_
  refine g_aload_n (q := 0) (pc := 0) dX10_init_0 rfl rfl ?_
  refine g_objInit (pc := 1) oiX10_3 oi_i oi_c ⟨Nat.le_of_ble_eq_true rfl, Nat.le_of_ble_eq_true rfl⟩ dX10_init_1 ?_
  refine g_aload_n (q := 0) (pc := 4) dX10_init_4 rfl rfl ?_
  refine g_bipush (v := nI 20) (pc := 5) dX10_init_5 (by decide) ?_
  refine g_newa0 (pc := 7) (N := 20) ac_int (nI_nneg (by decide)) (nI_toNat (by decide)) (by decide) (by decide) (by decide) dX10_init_7 (fun a1 hb_a1 hn_a1 hl_a1 => ?_)
  have t_a1 : a0 < a1 := hl_a1 _ _ ha0
  refine G.opq (fun V1 hV1 => ?_)
  have x1 : ∀ (q : Nat) (e : va_E), V q = some e → V1 q = some e := fun q e h => by rw [hV1, upv_ne (fun z => by subst z; rw [hn_a1] at h; cases h)]; exact h
  have f1 : V1 a1 = some (vI Z 0 20 (fun _ => 0)) := by rw [hV1]; exact upv_eq _ _ _
  have n_a1_a0 : a1 ≠ a0 := by omega
  refine g_putF (C := RX10) (F := TX10) (N := 6) (ci := 10) (ty := .array .int) (pc := 9) (x1 _ _ ha0) rfl inX10 tyX10 tyX10_ok nmX10 0 (by decide) flX10_9 rfl rfl rfl (fun _ _ _ h => h.2) (by decide +kernel) rfl rfl (by show 0 < 6; decide) hb0 dX10_init_9 ?_
  refine G.opq (fun V2 hV2 => ?_)
  have x2 : ∀ (q : Nat) (e : va_E), q ≠ a0 → V1 q = some e → V2 q = some e := fun q e hq h => by rw [hV2, upv_ne hq]; exact h
  have f2 : V2 a0 = some (vO 10 [.ref a1, .null, .null, .null, .null, .null]) := by rw [hV2]; exact upv_eq _ _ _
  refine g_aload_n (q := 0) (pc := 12) dX10_init_12 rfl rfl ?_
  refine g_bipush (v := nI 20) (pc := 13) dX10_init_13 (by decide) ?_
  refine g_newa0 (pc := 15) (N := 20) ac_int (nI_nneg (by decide)) (nI_toNat (by decide)) (by decide) (by decide) (by decide) dX10_init_15 (fun a2 hb_a2 hn_a2 hl_a2 => ?_)
  have t_a2 : a1 < a2 := hl_a2 _ _ (x2 _ _ n_a1_a0 f1)
  refine G.opq (fun V3 hV3 => ?_)
  have x3 : ∀ (q : Nat) (e : va_E), V2 q = some e → V3 q = some e := fun q e h => by rw [hV3, upv_ne (fun z => by subst z; rw [hn_a2] at h; cases h)]; exact h
  have f3 : V3 a2 = some (vI Z 0 20 (fun _ => 0)) := by rw [hV3]; exact upv_eq _ _ _
  have n_a2_a0 : a2 ≠ a0 := by omega
  refine g_putF (C := RX10) (F := TX10) (N := 6) (ci := 10) (ty := .array .int) (pc := 17) (x3 _ _ f2) rfl inX10 tyX10 tyX10_ok nmX10 1 (by decide) flX10_15 rfl rfl rfl (fun _ _ _ h => h.2) (by decide +kernel) rfl rfl (by show 1 < 6; decide) hb0 dX10_init_17 ?_
  refine G.opq (fun V4 hV4 => ?_)
  have x4 : ∀ (q : Nat) (e : va_E), q ≠ a0 → V3 q = some e → V4 q = some e := fun q e hq h => by rw [hV4, upv_ne hq]; exact h
  have f4 : V4 a0 = some (vO 10 [.ref a1, .ref a2, .null, .null, .null, .null]) := by rw [hV4]; exact upv_eq _ _ _
  refine g_aload_n (q := 0) (pc := 20) dX10_init_20 rfl rfl ?_
  refine g_bipush (v := nI 20) (pc := 21) dX10_init_21 (by decide) ?_
  refine g_newa0 (pc := 23) (N := 20) ac_int (nI_nneg (by decide)) (nI_toNat (by decide)) (by decide) (by decide) (by decide) dX10_init_23 (fun a3 hb_a3 hn_a3 hl_a3 => ?_)
  have t_a3 : a2 < a3 := hl_a3 _ _ (x4 _ _ n_a2_a0 f3)
  refine G.opq (fun V5 hV5 => ?_)
  have x5 : ∀ (q : Nat) (e : va_E), V4 q = some e → V5 q = some e := fun q e h => by rw [hV5, upv_ne (fun z => by subst z; rw [hn_a3] at h; cases h)]; exact h
  have f5 : V5 a3 = some (vI Z 0 20 (fun _ => 0)) := by rw [hV5]; exact upv_eq _ _ _
  have n_a3_a0 : a3 ≠ a0 := by omega
  refine g_putF (C := RX10) (F := TX10) (N := 6) (ci := 10) (ty := .array .int) (pc := 25) (x5 _ _ f4) rfl inX10 tyX10 tyX10_ok nmX10 2 (by decide) flX10_18 rfl rfl rfl (fun _ _ _ h => h.2) (by decide +kernel) rfl rfl (by show 2 < 6; decide) hb0 dX10_init_25 ?_
  refine G.opq (fun V6 hV6 => ?_)
  have x6 : ∀ (q : Nat) (e : va_E), q ≠ a0 → V5 q = some e → V6 q = some e := fun q e hq h => by rw [hV6, upv_ne hq]; exact h
  have f6 : V6 a0 = some (vO 10 [.ref a1, .ref a2, .ref a3, .null, .null, .null]) := by rw [hV6]; exact upv_eq _ _ _
  refine g_aload_n (q := 0) (pc := 28) dX10_init_28 rfl rfl ?_
  refine g_bipush (v := nI 20) (pc := 29) dX10_init_29 (by decide) ?_
  refine g_newa0 (pc := 31) (N := 20) ac_int (nI_nneg (by decide)) (nI_toNat (by decide)) (by decide) (by decide) (by decide) dX10_init_31 (fun a4 hb_a4 hn_a4 hl_a4 => ?_)
  have t_a4 : a3 < a4 := hl_a4 _ _ (x6 _ _ n_a3_a0 f5)
  refine G.opq (fun V7 hV7 => ?_)
  have x7 : ∀ (q : Nat) (e : va_E), V6 q = some e → V7 q = some e := fun q e h => by rw [hV7, upv_ne (fun z => by subst z; rw [hn_a4] at h; cases h)]; exact h
  have f7 : V7 a4 = some (vI Z 0 20 (fun _ => 0)) := by rw [hV7]; exact upv_eq _ _ _
  have n_a4_a0 : a4 ≠ a0 := by omega
  refine g_putF (C := RX10) (F := TX10) (N := 6) (ci := 10) (ty := .array .int) (pc := 33) (x7 _ _ f6) rfl inX10 tyX10 tyX10_ok nmX10 3 (by decide) flX10_21 rfl rfl rfl (fun _ _ _ h => h.2) (by decide +kernel) rfl rfl (by show 3 < 6; decide) hb0 dX10_init_33 ?_
  refine G.opq (fun V8 hV8 => ?_)
  have x8 : ∀ (q : Nat) (e : va_E), q ≠ a0 → V7 q = some e → V8 q = some e := fun q e hq h => by rw [hV8, upv_ne hq]; exact h
  have f8 : V8 a0 = some (vO 10 [.ref a1, .ref a2, .ref a3, .ref a4, .null, .null]) := by rw [hV8]; exact upv_eq _ _ _
  refine g_aload_n (q := 0) (pc := 36) dX10_init_36 rfl rfl ?_
  refine g_bipush (v := nI 20) (pc := 37) dX10_init_37 (by decide) ?_
  refine g_newa0 (pc := 39) (N := 20) ac_int (nI_nneg (by decide)) (nI_toNat (by decide)) (by decide) (by decide) (by decide) dX10_init_39 (fun a5 hb_a5 hn_a5 hl_a5 => ?_)
  have t_a5 : a4 < a5 := hl_a5 _ _ (x8 _ _ n_a4_a0 f7)
  refine G.opq (fun V9 hV9 => ?_)
  have x9 : ∀ (q : Nat) (e : va_E), V8 q = some e → V9 q = some e := fun q e h => by rw [hV9, upv_ne (fun z => by subst z; rw [hn_a5] at h; cases h)]; exact h
  have f9 : V9 a5 = some (vI Z 0 20 (fun _ => 0)) := by rw [hV9]; exact upv_eq _ _ _
  have n_a5_a0 : a5 ≠ a0 := by omega
  refine g_putF (C := RX10) (F := TX10) (N := 6) (ci := 10) (ty := .array .int) (pc := 41) (x9 _ _ f8) rfl inX10 tyX10 tyX10_ok nmX10 4 (by decide) flX10_24 rfl rfl rfl (fun _ _ _ h => h.2) (by decide +kernel) rfl rfl (by show 4 < 6; decide) hb0 dX10_init_41 ?_
  refine G.opq (fun V10 hV10 => ?_)
  have x10 : ∀ (q : Nat) (e : va_E), q ≠ a0 → V9 q = some e → V10 q = some e := fun q e hq h => by rw [hV10, upv_ne hq]; exact h
  have f10 : V10 a0 = some (vO 10 [.ref a1, .ref a2, .ref a3, .ref a4, .ref a5, .null]) := by rw [hV10]; exact upv_eq _ _ _
  refine g_aload_n (q := 0) (pc := 44) dX10_init_44 rfl rfl ?_
  refine g_bipush (v := nI 20) (pc := 45) dX10_init_45 (by decide) ?_
  refine g_newa1 (pc := 47) (N := 20) ac_boolean (nI_nneg (by decide)) (nI_toNat (by decide)) (by decide) (by decide) (by decide) dX10_init_47 (fun a6 hb_a6 hn_a6 hl_a6 => ?_)
  have t_a6 : a5 < a6 := hl_a6 _ _ (x10 _ _ n_a5_a0 f9)
  refine G.opq (fun V11 hV11 => ?_)
  have x11 : ∀ (q : Nat) (e : va_E), V10 q = some e → V11 q = some e := fun q e h => by rw [hV11, upv_ne (fun z => by subst z; rw [hn_a6] at h; cases h)]; exact h
  have f11 : V11 a6 = some (vI Z 1 20 (fun _ => 0)) := by rw [hV11]; exact upv_eq _ _ _
  have n_a6_a0 : a6 ≠ a0 := by omega
  refine g_putF (C := RX10) (F := TX10) (N := 6) (ci := 10) (ty := .array .boolean) (pc := 49) (x11 _ _ f10) rfl inX10 tyX10 tyX10_ok nmX10 5 (by decide) flX10_27 rfl rfl rfl (fun _ _ _ h => h.2) (by decide +kernel) rfl rfl (by show 5 < 6; decide) hb0 dX10_init_49 ?_
  refine G.opq (fun V12 hV12 => ?_)
  have x12 : ∀ (q : Nat) (e : va_E), q ≠ a0 → V11 q = some e → V12 q = some e := fun q e hq h => by rw [hV12, upv_ne hq]; exact h
  have f12 : V12 a0 = some (vO 10 [.ref a1, .ref a2, .ref a3, .ref a4, .ref a5, .ref a6]) := by rw [hV12]; exact upv_eq _ _ _
  exact g_vret (pc := 52) (by decide) (by decide) (hPo _ _ ⟨rfl, a1, a2, a3, a4, a5, a6, t_a1, t_a2, t_a3, t_a4, t_a5, t_a6, f12, (x12 _ _ n_a1_a0 (x11 _ _ (x10 _ _ n_a1_a0 (x9 _ _ (x8 _ _ n_a1_a0 (x7 _ _ (x6 _ _ n_a1_a0 (x5 _ _ (x4 _ _ n_a1_a0 (x3 _ _ (x2 _ _ n_a1_a0 f1))))))))))), (x12 _ _ n_a2_a0 (x11 _ _ (x10 _ _ n_a2_a0 (x9 _ _ (x8 _ _ n_a2_a0 (x7 _ _ (x6 _ _ n_a2_a0 (x5 _ _ (x4 _ _ n_a2_a0 f3))))))))), (x12 _ _ n_a3_a0 (x11 _ _ (x10 _ _ n_a3_a0 (x9 _ _ (x8 _ _ n_a3_a0 (x7 _ _ (x6 _ _ n_a3_a0 f5))))))), (x12 _ _ n_a4_a0 (x11 _ _ (x10 _ _ n_a4_a0 (x9 _ _ (x8 _ _ n_a4_a0 f7))))), (x12 _ _ n_a5_a0 (x11 _ _ (x10 _ _ n_a5_a0 f9))), (x12 _ _ n_a6_a0 f11), (fun q e hq h => (x12 _ _ hq (x11 _ _ (x10 _ _ hq (x9 _ _ (x8 _ _ hq (x7 _ _ (x6 _ _ hq (x5 _ _ (x4 _ _ hq (x3 _ _ (x2 _ _ hq (x1 _ _ h)))))))))))))⟩) dX10_init_52
def pl0 : Nat → Nat := fun g => if g = 1 then 19 else 0
def caF (a : Nat) (i : Nat) : Nat → Option Nat := fun c => if c < i then some a else none
theorem caF_up {a i : Nat} : va_up (caF a i) i (some a) = caF a (i + 1) := funext fun c => by
  show (if c = i then some a else if c < i then some a else none) = if c < i + 1 then some a else none
  by_cases h : c = i
  · rw [if_pos h, if_pos (by omega)]
  · rw [if_neg h]
    by_cases h2 : c < i
    · rw [if_pos h2, if_pos (by omega)]
    · rw [if_neg h2, if_neg (by omega)]
theorem pl0_upd : upd (fun _ => 0) 1 (nI 19) = nf pl0 := funext fun c => by
  show (if c = 1 then nI 19 else 0) = nI (if c = 1 then 19 else 0)
  by_cases h : c = 1
  · rw [if_pos h, if_pos h]
  · rw [if_neg h, if_neg h]; rfl
def rmX5_init : Room := { frames := 4, cells := 5, slots := 26, locals := 75 }
set_option maxHeartbeats 8000000 in
theorem c_X5_init {a0 : Nat} (ha0 : V a0 = some (vO 5 [.null, .null, .null, .null])) (hb0 : b0 ≤ a0) : KM l D Z b0 yX5_init cX5_init 3 none rmX5_init [.ref a0] V (fun v V' => v = none ∧ ∃ a1 a2 a3 a4 a5, a0 < a1 ∧ a1 < a2 ∧ a2 < a3 ∧ a3 < a4 ∧ a4 < a5 ∧ V' a0 = some (vO 5 [.ref a1, .ref a2, .ref a3, .ref a4]) ∧ V' a1 = some (vQ Z 2 20 (fun _ => some a5)) ∧ V' a2 = some (vI Z 0 2 (nf pl0)) ∧ V' a3 = some (vI Z 0 2 (fun _ => 0)) ∧ V' a4 = some (vO 1 [.int (nI 0)]) ∧ V' a5 = some (vO 6 [.int (nI 0)]) ∧ ∀ (q : Nat) (e : va_E), q ≠ a0 → V q = some e → V' q = some e) := by
  refine KM.ofP (by decide) (Nat.le_of_ble_eq_true rfl) (fun Po hPo => ?_)
  refine G.locals (L' := [(0, .ref a0)]) [0] rfl ?_
  refine g_aload_n (q := 0) (pc := 0) dX5_init_0 rfl rfl ?_
  refine g_objInit (pc := 1) oiX5_3 oi_i oi_c ⟨Nat.le_of_ble_eq_true rfl, Nat.le_of_ble_eq_true rfl⟩ dX5_init_1 ?_
  refine g_aload_n (q := 0) (pc := 4) dX5_init_4 rfl rfl ?_
  refine g_bipush (v := nI 20) (pc := 5) dX5_init_5 (by decide) ?_
  refine g_anew2 (pc := 7) (N := 20) clX5_9 (nI_nneg (by decide)) (nI_toNat (by decide)) (by decide) (by decide) (by decide) dX5_init_7 (fun a1 hb_a1 hn_a1 hl_a1 => ?_)
  have t_a1 : a0 < a1 := hl_a1 _ _ ha0
  refine G.opq (fun V1 hV1 => ?_)
  have x1 : ∀ (q : Nat) (e : va_E), V q = some e → V1 q = some e := fun q e h => by rw [hV1, upv_ne (fun z => by subst z; rw [hn_a1] at h; cases h)]; exact h
  have f1 : V1 a1 = some (vQ Z 2 20 (fun _ => none)) := by rw [hV1]; exact upv_eq _ _ _
  have n_a1_a0 : a1 ≠ a0 := by omega
  refine g_putF (C := RX5) (F := TX5) (N := 4) (ci := 5) (ty := .array (.object RX6)) (pc := 10) (x1 _ _ ha0) rfl inX5 tyX5 tyX5_ok nmX5 0 (by decide) flX5_11 rfl rfl rfl (fun _ _ _ h => h.2) (by decide +kernel) rfl rfl (by show 0 < 4; decide) hb0 dX5_init_10 ?_
  refine G.opq (fun V2 hV2 => ?_)
  have x2 : ∀ (q : Nat) (e : va_E), q ≠ a0 → V1 q = some e → V2 q = some e := fun q e hq h => by rw [hV2, upv_ne hq]; exact h
  have f2 : V2 a0 = some (vO 5 [.ref a1, .null, .null, .null]) := by rw [hV2]; exact upv_eq _ _ _
  refine g_aload_n (q := 0) (pc := 13) dX5_init_13 rfl rfl ?_
  refine g_iconst (v := nI 2) (pc := 14) dX5_init_14 (by decide) ?_
  refine g_newa0 (pc := 15) (N := 2) ac_int (nI_nneg (by decide)) (nI_toNat (by decide)) (by decide) (by decide) (by decide) dX5_init_15 (fun a2 hb_a2 hn_a2 hl_a2 => ?_)
  have t_a2 : a1 < a2 := hl_a2 _ _ (x2 _ _ n_a1_a0 f1)
  refine G.opq (fun V3 hV3 => ?_)
  have x3 : ∀ (q : Nat) (e : va_E), V2 q = some e → V3 q = some e := fun q e h => by rw [hV3, upv_ne (fun z => by subst z; rw [hn_a2] at h; cases h)]; exact h
  have f3 : V3 a2 = some (vI Z 0 2 (fun _ => 0)) := by rw [hV3]; exact upv_eq _ _ _
  have n_a2_a0 : a2 ≠ a0 := by omega
  refine g_putF (C := RX5) (F := TX5) (N := 4) (ci := 5) (ty := .array .int) (pc := 17) (x3 _ _ f2) rfl inX5 tyX5 tyX5_ok nmX5 1 (by decide) flX5_17 rfl rfl rfl (fun _ _ _ h => h.2) (by decide +kernel) rfl rfl (by show 1 < 4; decide) hb0 dX5_init_17 ?_
  refine G.opq (fun V4 hV4 => ?_)
  have x4 : ∀ (q : Nat) (e : va_E), q ≠ a0 → V3 q = some e → V4 q = some e := fun q e hq h => by rw [hV4, upv_ne hq]; exact h
  have f4 : V4 a0 = some (vO 5 [.ref a1, .ref a2, .null, .null]) := by rw [hV4]; exact upv_eq _ _ _
  refine g_aload_n (q := 0) (pc := 20) dX5_init_20 rfl rfl ?_
  refine g_iconst (v := nI 2) (pc := 21) dX5_init_21 (by decide) ?_
  refine g_newa0 (pc := 22) (N := 2) ac_int (nI_nneg (by decide)) (nI_toNat (by decide)) (by decide) (by decide) (by decide) dX5_init_22 (fun a3 hb_a3 hn_a3 hl_a3 => ?_)
  have t_a3 : a2 < a3 := hl_a3 _ _ (x4 _ _ n_a2_a0 f3)
  refine G.opq (fun V5 hV5 => ?_)
  have x5 : ∀ (q : Nat) (e : va_E), V4 q = some e → V5 q = some e := fun q e h => by rw [hV5, upv_ne (fun z => by subst z; rw [hn_a3] at h; cases h)]; exact h
  have f5 : V5 a3 = some (vI Z 0 2 (fun _ => 0)) := by rw [hV5]; exact upv_eq _ _ _
  have n_a3_a0 : a3 ≠ a0 := by omega
  refine g_putF (C := RX5) (F := TX5) (N := 4) (ci := 5) (ty := .array .int) (pc := 24) (x5 _ _ f4) rfl inX5 tyX5 tyX5_ok nmX5 2 (by decide) flX5_21 rfl rfl rfl (fun _ _ _ h => h.2) (by decide +kernel) rfl rfl (by show 2 < 4; decide) hb0 dX5_init_24 ?_
  refine G.opq (fun V6 hV6 => ?_)
  have x6 : ∀ (q : Nat) (e : va_E), q ≠ a0 → V5 q = some e → V6 q = some e := fun q e hq h => by rw [hV6, upv_ne hq]; exact h
  have f6 : V6 a0 = some (vO 5 [.ref a1, .ref a2, .ref a3, .null]) := by rw [hV6]; exact upv_eq _ _ _
  refine g_aload_n (q := 0) (pc := 27) dX5_init_27 rfl rfl ?_
  refine g_new (C := RX1) (F := TX1) (N := 1) (ci := 1) (fs := [.int 0]) (pc := 28) inX1 tyX1 tyX1_ok clX5_24 insX1 iniX1 rfl (by decide) (by decide) (by decide) dX5_init_28 (fun a4 hb_a4 hn_a4 hl_a4 => ?_)
  have t_a4 : a3 < a4 := hl_a4 _ _ (x6 _ _ n_a3_a0 f5)
  refine g_dup (pc := 31) dX5_init_31 rfl ?_
  refine g_iconst (v := nI 0) (pc := 32) dX5_init_32 (by decide) ?_
  refine e_callIv (k2 := 4) (n2 := 25) (As := [.int (nI 0)]) (rest := [.ref a4, .ref a0]) (pc := 33) rfl (c_X1_init_c1 hb_a4) mlX5_26 mX1_init ⟨Nat.le_of_ble_eq_true rfl, Nat.le_of_ble_eq_true rfl⟩ rfl rfl (Nat.le_of_ble_eq_true rfl) dX5_init_33 (by decide) rfl rfl ?_
  refine G.opq (fun V7 hV7 => ?_)
  have x7 : ∀ (q : Nat) (e : va_E), V6 q = some e → V7 q = some e := fun q e h => by rw [hV7, upv_ne (fun z => by subst z; rw [hn_a4] at h; cases h)]; exact h
  have f7 : V7 a4 = some (vO 1 [.int (nI 0)]) := by rw [hV7]; exact upv_eq _ _ _
  have n_a4_a0 : a4 ≠ a0 := by omega
  refine g_putF (C := RX5) (F := TX5) (N := 4) (ci := 5) (ty := .object RX6) (pc := 36) (x7 _ _ f6) rfl inX5 tyX5 tyX5_ok nmX5 3 (by decide) flX5_29 rfl rfl rfl (fun _ _ _ h => h.2) (by decide +kernel) rfl rfl (by show 3 < 4; decide) hb0 dX5_init_36 ?_
  refine G.opq (fun V8 hV8 => ?_)
  have x8 : ∀ (q : Nat) (e : va_E), q ≠ a0 → V7 q = some e → V8 q = some e := fun q e hq h => by rw [hV8, upv_ne hq]; exact h
  have f8 : V8 a0 = some (vO 5 [.ref a1, .ref a2, .ref a3, .ref a4]) := by rw [hV8]; exact upv_eq _ _ _
  refine g_new (C := RX6) (F := TX6) (N := 1) (ci := 6) (fs := [.int 0]) (pc := 39) inX6 tyX6 tyX6_ok clX5_9 insX6 iniX6 rfl (by decide) (by decide) (by decide) dX5_init_39 (fun a5 hb_a5 hn_a5 hl_a5 => ?_)
  have t_a5 : a4 < a5 := hl_a5 _ _ (x8 _ _ n_a4_a0 f7)
  refine g_dup (pc := 42) dX5_init_42 rfl ?_
  refine g_iconst (v := nI 0) (pc := 43) dX5_init_43 (by decide) ?_
  refine e_callIv (k2 := 5) (n2 := 26) (As := [.int (nI 0)]) (rest := [.ref a5]) (pc := 44) rfl (c_X6_init_c6 hb_a5) mlX5_33 mX6_init ⟨Nat.le_of_ble_eq_true rfl, Nat.le_of_ble_eq_true rfl⟩ rfl rfl (Nat.le_of_ble_eq_true rfl) dX5_init_44 (by decide) rfl rfl ?_
  refine G.opq (fun V9 hV9 => ?_)
  have x9 : ∀ (q : Nat) (e : va_E), V8 q = some e → V9 q = some e := fun q e h => by rw [hV9, upv_ne (fun z => by subst z; rw [hn_a5] at h; cases h)]; exact h
  have f9 : V9 a5 = some (vO 6 [.int (nI 0)]) := by rw [hV9]; exact upv_eq _ _ _
  have n_a5_a0 : a5 ≠ a0 := by omega
  refine g_astore_n (lv' := [(1, .ref a5), (0, .ref a0)]) (pc := 47) dX5_init_47 rfl (by decide) rfl ?_
  refine g_iconst (v := nI 0) (pc := 48) dX5_init_48 (by decide) ?_
  refine g_istore_n (lv' := [(2, .int (nI 0)), (1, .ref a5), (0, .ref a0)]) (pc := 49) dX5_init_49 rfl (by decide) rfl ?_
  have ha1 : V9 a1 = some (vQ Z 2 20 (caF a5 0)) := (x9 _ _ (x8 _ _ n_a1_a0 (x7 _ _ (x6 _ _ n_a1_a0 (x5 _ _ (x4 _ _ n_a1_a0 (x3 _ _ (x2 _ _ n_a1_a0 f1))))))))
  have ha5 := f9
  have ha00 := (x9 _ _ f8)
  have n1a : a1 ≠ a0 := by omega
  have n1b : a5 ≠ a1 := by omega
  have lp : ∀ (d i : Nat) (W : HV), i + d = 20 → (∀ q, q ≠ a1 → W q = V9 q) → W a1 = some (vQ Z 2 20 (caF a5 i)) → G l D Z b0 rmX5_init RX5 cX5_init 3 (gE none "<init>") (gT D b0 Po rmX5_init.cells rmX5_init.slots) (W) [(2, .int (nI i)), (1, .ref a5), (0, .ref a0)] 5 26 50 [] := by
    intro d
    induction d with
    | zero =>
      intro i W hd hW hWa
      have hi : i = 20 := by omega
      subst hi
      refine g_iload_n (q := 0) (pc := 50) dX5_init_50 rfl rfl ?_
      refine g_bipush (v := nI 20) (pc := 51) dX5_init_51 (by decide) ?_
      refine g_icmp_ge_N (tgt := 69) (pc := 53) (by decide) (by decide) dX5_init_53 (by decide) (fun c1 => ?_) (fun c1 => absurd c1 (by decide))
      refine G.arrQ (g := fun _ => some a5) hWa (fun j hj => if_pos hj) rfl ?_
      refine G.opq (fun W2 hW2 => ?_)
      have w2 : ∀ (q : Nat), q ≠ a1 → W2 q = V9 q := fun q hq => by rw [hW2, upv_ne hq]; exact hW q hq
      have w2a : W2 a1 = some (vQ Z 2 20 (fun _ => some a5)) := by rw [hW2]; exact upv_eq _ _ _
      refine g_aload_n (q := 2) (pc := 69) dX5_init_69 rfl rfl ?_
      refine g_get (C := RX5) (F := TX5) (N := 4) (ci := 5) (pc := 70) ((w2 a0 n1a.symm).trans ha00) rfl inX5 1 (by decide) flX5_17 (Or.inl rfl) rfl dX5_init_70 ?_
      refine g_iconst (v := nI 1) (pc := 73) dX5_init_73 (by decide) ?_
      refine g_bipush (v := nI 19) (pc := 74) dX5_init_74 (by decide) ?_
      have ha2 := (x9 _ _ (x8 _ _ n_a2_a0 (x7 _ _ (x6 _ _ n_a2_a0 (x5 _ _ (x4 _ _ n_a2_a0 f3))))))
      have n21 : a2 ≠ a1 := by omega
      have n20 : a2 ≠ a0 := by omega
      refine g_iast_N (N := 2) (j := 1) (f' := nf pl0) (pc := 76) ((w2 a2 n21).trans ha2) (by decide) (by decide) hb_a2 pl0_upd rfl dX5_init_76 ?_
      refine G.opq (fun W3 hW3 => ?_)
      have w3 : ∀ (q : Nat), q ≠ a2 → W3 q = W2 q := fun q hq => by rw [hW3, upv_ne hq]
      have w3a : W3 a2 = some (vI Z 0 2 (nf pl0)) := by rw [hW3]; exact upv_eq _ _ _
      have n3 : a3 ≠ a1 ∧ a3 ≠ a2 ∧ a4 ≠ a1 ∧ a4 ≠ a2 ∧ a5 ≠ a1 ∧ a5 ≠ a2 ∧ a1 ≠ a2 := by omega
      have hext : ∀ (q : Nat) (e : va_E), q ≠ a0 → V q = some e → W3 q = some e := fun q e hq h => by
        have h1 : q ≠ a1 := fun z => by
          subst z; rw [hn_a1] at h; cases h
        have h2 : q ≠ a2 := fun z => by
          subst z; rw [(x2 _ _ hq (x1 _ _ h))] at hn_a2; cases hn_a2
        rw [w3 q h2, w2 q h1]; exact (fun q e hq h => (x9 _ _ (x8 _ _ hq (x7 _ _ (x6 _ _ hq (x5 _ _ (x4 _ _ hq (x3 _ _ (x2 _ _ hq (x1 _ _ h)))))))))) q e hq h
      exact g_vret (pc := 77) (by decide) (by decide) (hPo _ _ ⟨rfl, a1, a2, a3, a4, a5, t_a1, t_a2, t_a3, t_a4, t_a5, ((w3 a0 n20.symm).trans ((w2 a0 n1a.symm).trans (x9 _ _ f8))), ((w3 a1 n3.2.2.2.2.2.2).trans w2a), w3a, ((w3 a3 n3.2.1).trans ((w2 a3 n3.1).trans (x9 _ _ (x8 _ _ n_a3_a0 (x7 _ _ (x6 _ _ n_a3_a0 f5)))))), ((w3 a4 n3.2.2.2.1).trans ((w2 a4 n3.2.2.1).trans (x9 _ _ (x8 _ _ n_a4_a0 f7)))), ((w3 a5 n3.2.2.2.2.2.1).trans ((w2 a5 n3.2.2.2.2.1).trans f9)), hext⟩) dX5_init_77
    | succ d ih =>
      intro i W hd hW hWa
      refine g_iload_n (q := 0) (pc := 50) dX5_init_50 rfl rfl ?_
      refine g_bipush (v := nI 20) (pc := 51) dX5_init_51 (by decide) ?_
      refine g_icmp_ge_N (tgt := 69) (pc := 53) (by omega) (by decide) dX5_init_53 (by decide) (fun c1 => absurd c1 (by omega)) (fun c1 => ?_)
      refine g_aload_n (q := 2) (pc := 56) dX5_init_56 rfl rfl ?_
      refine g_get (C := RX5) (F := TX5) (N := 4) (ci := 5) (pc := 57) ((hW a0 n1a.symm).trans ha00) rfl inX5 0 (by decide) flX5_11 (Or.inl rfl) rfl dX5_init_57 ?_
      refine g_iload_n (q := 0) (pc := 60) dX5_init_60 rfl rfl ?_
      refine g_aload_n (q := 1) (pc := 61) dX5_init_61 rfl rfl ?_
      refine g_aast2 (C := RX6) (F := TX6) (N := 20) (N1 := 1) (ci := 6) (pc := 62) hWa ((hW a5 n1b).trans ha5) rfl (vp_inN c1 (by decide)) hb_a1 dX5_init_62 ?_
      refine g_iinc (q := 0) (lv' := [(2, .int (nI (i + 1))), (1, .ref a5), (0, .ref a0)]) (pc := 63) dX5_init_63 rfl (nI_inc _ _) (by decide) rfl ?_
      refine g_goto (tgt := 50) (pc := 66) dX5_init_66 (by decide) ?_
      refine ih (i + 1) _ (by omega) (fun q hq => (upv_ne hq).trans (hW q hq)) ?_
      rw [upv_eq, nI_toNat (by omega), caF_up]
  exact lp 20 0 V9 (by omega) (fun _ _ => rfl) ha1
end IN
