section IN
variable {l : Launch} {D : va_G} {Z : Nat → ClassId} {b0 : Nat} {V : HV}
theorem G.opq {R : Room} {own : String} {cc : ByteArray} {nL : Nat} {E : Method → Array Value → State → Prop} {T : List Frame → Array Value → State → State → Prop} {L : List (Nat × Value)} {k n pc : Nat} {st : List Value} (kk : ∀ W, W = V → G l D Z b0 R own cc nL E T W L k n pc st) : G l D Z b0 R own cc nL E T V L k n pc st := kk V rfl
theorem mono_lt {ad : Nat → Nat} {n : Nat} (h : ∀ k, k + 1 < n → ad k < ad (k + 1)) : ∀ j, j < n → ∀ i, i < j → ad i < ad j := by
  intro j
  induction j with
  | zero => intro _ i hi; exact absurd hi (Nat.not_lt_zero _)
  | succ j ih =>
    intro hj i hi
    have h1 := h j hj
    by_cases q : i = j
    · subst q; exact h1
    · exact Nat.lt_trans (ih (by omega) i (by omega)) h1
def bk_cut (ad : Nat → Nat) (n : Nat) (V : HV) : HV := fun q => if (List.range n).any (fun j => decide (ad j = q)) = true then none else V q
theorem bk_cut_at {ad : Nat → Nat} {n j : Nat} {V : HV} (hj : j < n) : bk_cut ad n V (ad j) = none := if_pos (List.any_eq_true.mpr ⟨j, List.mem_range.mpr hj, decide_eq_true rfl⟩)
theorem bk_cut_out {ad : Nat → Nat} {n q : Nat} {V : HV} (h : ∀ j, j < n → q ≠ ad j) : bk_cut ad n V q = V q := if_neg (fun z => by
  obtain ⟨j, hj, e⟩ := List.any_eq_true.mp z
  exact h j (List.mem_range.mp hj) (of_decide_eq_true e).symm)
theorem bk_self {ad : Nat → Nat} {n : Nat} {F : Nat → va_E} {V : HV} (hi : inj ad n) (h : ∀ j, j < n → V (ad j) = some (F j)) : V = bk ad n F (bk_cut ad n V) := funext fun q => by
  cases hq : (List.range n).any (fun j => decide (ad j = q)) with
  | true =>
    obtain ⟨j, hj, e⟩ := List.any_eq_true.mp hq
    have e := of_decide_eq_true e
    subst e
    rw [h j (List.mem_range.mp hj), bk_get hi (Nat.le_refl _) (List.mem_range.mp hj)]
  | false =>
    have ho : ∀ j, j < n → q ≠ ad j := fun j hj e => by
      have : (List.range n).any (fun j => decide (ad j = q)) = true := List.any_eq_true.mpr ⟨j, List.mem_range.mpr hj, decide_eq_true e.symm⟩
      rw [hq] at this; cases this
    rw [bk_out ho, bk_cut_out ho]
def rmX7_init : Room := { frames := 1, cells := 1, slots := 100, locals := 12 }
set_option maxHeartbeats 8000000 in
theorem c_X7_init {a0 : Nat} (ha0 : V a0 = some (vO 7 [.null, .int 0, .int 0, .null])) (hb0 : b0 ≤ a0) : KM l D Z b0 yX7_init cX7_init 1 none rmX7_init [.ref a0] V (fun v V' => v = none ∧ ∃ a1, a0 < a1 ∧ V' a0 = some (vO 7 [.null, .int (-1), .int (nI 0), .ref a1]) ∧ V' a1 = some (vI Z 0 100 (fun _ => 0)) ∧ ∀ (q : Nat) (e : va_E), q ≠ a0 → V q = some e → V' q = some e) := by
  refine KM.ofP (by decide) (Nat.le_of_ble_eq_true rfl) (fun Po hPo => ?_)
  refine G.locals (L' := [(0, .ref a0)]) [0] rfl ?_
  refine g_aload_n (q := 0) (pc := 0) dX7_init_0 rfl rfl ?_
  refine g_objInit (pc := 1) oiX7_3 oi_i oi_c ⟨Nat.le_of_ble_eq_true rfl, Nat.le_of_ble_eq_true rfl⟩ dX7_init_1 ?_
  refine g_aload_n (q := 0) (pc := 4) dX7_init_4 rfl rfl ?_
  refine g_null (pc := 5) dX7_init_5 ?_
  refine g_put (C := RX7) (F := TX7) (N := 4) (ci := 7) (ty := .object RX6) (pc := 6) ha0 rfl inX7 tyX7 tyX7_ok nmX7 0 (by decide) flX7_9 rfl rfl (by decide +kernel) rfl rfl (by show 0 < 4; decide) hb0 dX7_init_6 ?_
  refine G.opq (fun V1 hV1 => ?_)
  have x1 : ∀ (q : Nat) (e : va_E), q ≠ a0 → V q = some e → V1 q = some e := fun q e hq h => by rw [hV1, upv_ne hq]; exact h
  have f1 : V1 a0 = some (vO 7 [.null, .int 0, .int 0, .null]) := by rw [hV1]; exact upv_eq _ _ _
  refine g_aload_n (q := 0) (pc := 9) dX7_init_9 rfl rfl ?_
  refine g_iconst (v := (-1)) (pc := 10) dX7_init_10 (by decide) ?_
  refine g_put (C := RX7) (F := TX7) (N := 4) (ci := 7) (ty := .int) (pc := 11) f1 rfl inX7 tyX7 tyX7_ok nmX7 1 (by decide) flX7_15 rfl rfl (by decide +kernel) rfl rfl (by show 1 < 4; decide) hb0 dX7_init_11 ?_
  refine G.opq (fun V2 hV2 => ?_)
  have x2 : ∀ (q : Nat) (e : va_E), q ≠ a0 → V1 q = some e → V2 q = some e := fun q e hq h => by rw [hV2, upv_ne hq]; exact h
  have f2 : V2 a0 = some (vO 7 [.null, .int (-1), .int 0, .null]) := by rw [hV2]; exact upv_eq _ _ _
  refine g_aload_n (q := 0) (pc := 14) dX7_init_14 rfl rfl ?_
  refine g_iconst (v := nI 0) (pc := 15) dX7_init_15 (by decide) ?_
  refine g_put (C := RX7) (F := TX7) (N := 4) (ci := 7) (ty := .int) (pc := 16) f2 rfl inX7 tyX7 tyX7_ok nmX7 2 (by decide) flX7_19 rfl rfl (by decide +kernel) rfl rfl (by show 2 < 4; decide) hb0 dX7_init_16 ?_
  refine G.opq (fun V3 hV3 => ?_)
  have x3 : ∀ (q : Nat) (e : va_E), q ≠ a0 → V2 q = some e → V3 q = some e := fun q e hq h => by rw [hV3, upv_ne hq]; exact h
  have f3 : V3 a0 = some (vO 7 [.null, .int (-1), .int (nI 0), .null]) := by rw [hV3]; exact upv_eq _ _ _
  refine g_aload_n (q := 0) (pc := 19) dX7_init_19 rfl rfl ?_
  refine g_bipush (v := nI 100) (pc := 20) dX7_init_20 (by decide) ?_
  refine g_newa0 (pc := 22) (N := 100) ac_int (nI_nneg (by decide)) (nI_toNat (by decide)) (by decide) (by decide) (by decide) dX7_init_22 (fun a1 hb_a1 hn_a1 hl_a1 => ?_)
  have t_a1 : a0 < a1 := hl_a1 _ _ f3
  refine G.opq (fun V4 hV4 => ?_)
  have x4 : ∀ (q : Nat) (e : va_E), V3 q = some e → V4 q = some e := fun q e h => by rw [hV4, upv_ne (fun z => by subst z; rw [hn_a1] at h; cases h)]; exact h
  have f4 : V4 a1 = some (vI Z 0 100 (fun _ => 0)) := by rw [hV4]; exact upv_eq _ _ _
  have n_a1_a0 : a1 ≠ a0 := by omega
  refine g_putF (C := RX7) (F := TX7) (N := 4) (ci := 7) (ty := .array .int) (pc := 24) (x4 _ _ f3) rfl inX7 tyX7 tyX7_ok nmX7 3 (by decide) flX7_22 rfl rfl rfl (fun _ _ _ h => h.2) (by decide +kernel) rfl rfl (by show 3 < 4; decide) hb0 dX7_init_24 ?_
  refine G.opq (fun V5 hV5 => ?_)
  have x5 : ∀ (q : Nat) (e : va_E), q ≠ a0 → V4 q = some e → V5 q = some e := fun q e hq h => by rw [hV5, upv_ne hq]; exact h
  have f5 : V5 a0 = some (vO 7 [.null, .int (-1), .int (nI 0), .ref a1]) := by rw [hV5]; exact upv_eq _ _ _
  exact g_vret (pc := 27) (by decide) (by decide) (hPo _ _ ⟨rfl, a1, t_a1, f5, (x5 _ _ n_a1_a0 f4), (fun q e hq h => (x5 _ _ hq (x4 _ _ (x3 _ _ hq (x2 _ _ hq (x1 _ _ hq h))))))⟩) dX7_init_27
def rmX10_init : Room := { frames := 1, cells := 6, slots := 120, locals := 12 }
set_option maxHeartbeats 8000000 in
theorem c_X10_init {a0 : Nat} (ha0 : V a0 = some (vO 10 [.null, .null, .null, .null, .null, .null])) (hb0 : b0 ≤ a0) : KM l D Z b0 yX10_init cX10_init 1 none rmX10_init [.ref a0] V (fun v V' => v = none ∧ ∃ a1 a2 a3 a4 a5 a6, a0 < a1 ∧ a1 < a2 ∧ a2 < a3 ∧ a3 < a4 ∧ a4 < a5 ∧ a5 < a6 ∧ V' a0 = some (vO 10 [.ref a1, .ref a2, .ref a3, .ref a4, .ref a5, .ref a6]) ∧ V' a1 = some (vI Z 0 20 (fun _ => 0)) ∧ V' a2 = some (vI Z 0 20 (fun _ => 0)) ∧ V' a3 = some (vI Z 0 20 (fun _ => 0)) ∧ V' a4 = some (vI Z 0 20 (fun _ => 0)) ∧ V' a5 = some (vI Z 0 20 (fun _ => 0)) ∧ V' a6 = some (vI Z 1 20 (fun _ => 0)) ∧ ∀ (q : Nat) (e : va_E), q ≠ a0 → V q = some e → V' q = some e) := by
  refine KM.ofP (by decide) (Nat.le_of_ble_eq_true rfl) (fun Po hPo => ?_)
  refine G.locals (L' := [(0, .ref a0)]) [0] rfl ?_
  refine g_aload_n (q := 0) (pc := 0) dX10_init_0 rfl rfl ?_
  refine g_objInit (pc := 1) oiX10_3 oi_i oi_c ⟨Nat.le_of_ble_eq_true rfl, Nat.le_of_ble_eq_true rfl⟩ dX10_init_1 ?_
  refine g_aload_n (q := 0) (pc := 4) dX10_init_4 rfl rfl ?_
  refine g_bipush (v := nI 20) (pc := 5) dX10_init_5 (by decide) ?_
  refine g_newa0 (pc := 7) (N := 20) ac_int (nI_nneg (by decide)) (nI_toNat (by decide)) (by decide) (by decide) (by decide) dX10_init_7 (fun a1 hb_a1 hn_a1 hl_a1 => ?_)
  have t_a1 : a0 < a1 := hl_a1 _ _ ha0
  refine G.opq (fun V1 hV1 => ?_)
  have x1 : ∀ (q : Nat) (e : va_E), V q = some e → V1 q = some e := fun q e h => by rw [hV1, upv_ne (fun z => by subst z; rw [hn_a1] at h; cases h)]; exact h
  have f1 : V1 a1 = some (vI Z 0 20 (fun _ => 0)) := by rw [hV1]; exact upv_eq _ _ _
  have n_a1_a0 : a1 ≠ a0 := by omega
  refine g_putF (C := RX10) (F := TX10) (N := 6) (ci := 10) (ty := .array .int) (pc := 9) (x1 _ _ ha0) rfl inX10 tyX10 tyX10_ok nmX10 0 (by decide) flX10_9 rfl rfl rfl (fun _ _ _ h => h.2) (by decide +kernel) rfl rfl (by show 0 < 6; decide) hb0 dX10_init_9 ?_
  refine G.opq (fun V2 hV2 => ?_)
  have x2 : ∀ (q : Nat) (e : va_E), q ≠ a0 → V1 q = some e → V2 q = some e := fun q e hq h => by rw [hV2, upv_ne hq]; exact h
  have f2 : V2 a0 = some (vO 10 [.ref a1, .null, .null, .null, .null, .null]) := by rw [hV2]; exact upv_eq _ _ _
  refine g_aload_n (q := 0) (pc := 12) dX10_init_12 rfl rfl ?_
  refine g_bipush (v := nI 20) (pc := 13) dX10_init_13 (by decide) ?_
  refine g_newa0 (pc := 15) (N := 20) ac_int (nI_nneg (by decide)) (nI_toNat (by decide)) (by decide) (by decide) (by decide) dX10_init_15 (fun a2 hb_a2 hn_a2 hl_a2 => ?_)
  have t_a2 : a1 < a2 := hl_a2 _ _ (x2 _ _ n_a1_a0 f1)
  refine G.opq (fun V3 hV3 => ?_)
  have x3 : ∀ (q : Nat) (e : va_E), V2 q = some e → V3 q = some e := fun q e h => by rw [hV3, upv_ne (fun z => by subst z; rw [hn_a2] at h; cases h)]; exact h
  have f3 : V3 a2 = some (vI Z 0 20 (fun _ => 0)) := by rw [hV3]; exact upv_eq _ _ _
  have n_a2_a0 : a2 ≠ a0 := by omega
  refine g_putF (C := RX10) (F := TX10) (N := 6) (ci := 10) (ty := .array .int) (pc := 17) (x3 _ _ f2) rfl inX10 tyX10 tyX10_ok nmX10 1 (by decide) flX10_15 rfl rfl rfl (fun _ _ _ h => h.2) (by decide +kernel) rfl rfl (by show 1 < 6; decide) hb0 dX10_init_17 ?_
  refine G.opq (fun V4 hV4 => ?_)
  have x4 : ∀ (q : Nat) (e : va_E), q ≠ a0 → V3 q = some e → V4 q = some e := fun q e hq h => by rw [hV4, upv_ne hq]; exact h
  have f4 : V4 a0 = some (vO 10 [.ref a1, .ref a2, .null, .null, .null, .null]) := by rw [hV4]; exact upv_eq _ _ _
  refine g_aload_n (q := 0) (pc := 20) dX10_init_20 rfl rfl ?_
  refine g_bipush (v := nI 20) (pc := 21) dX10_init_21 (by decide) ?_
  refine g_newa0 (pc := 23) (N := 20) ac_int (nI_nneg (by decide)) (nI_toNat (by decide)) (by decide) (by decide) (by decide) dX10_init_23 (fun a3 hb_a3 hn_a3 hl_a3 => ?_)
  have t_a3 : a2 < a3 := hl_a3 _ _ (x4 _ _ n_a2_a0 f3)
  refine G.opq (fun V5 hV5 => ?_)
  have x5 : ∀ (q : Nat) (e : va_E), V4 q = some e → V5 q = some e := fun q e h => by rw [hV5, upv_ne (fun z => by subst z; rw [hn_a3] at h; cases h)]; exact h
  have f5 : V5 a3 = some (vI Z 0 20 (fun _ => 0)) := by rw [hV5]; exact upv_eq _ _ _
  have n_a3_a0 : a3 ≠ a0 := by omega
  refine g_putF (C := RX10) (F := TX10) (N := 6) (ci := 10) (ty := .array .int) (pc := 25) (x5 _ _ f4) rfl inX10 tyX10 tyX10_ok nmX10 2 (by decide) flX10_18 rfl rfl rfl (fun _ _ _ h => h.2) (by decide +kernel) rfl rfl (by show 2 < 6; decide) hb0 dX10_init_25 ?_
  refine G.opq (fun V6 hV6 => ?_)
  have x6 : ∀ (q : Nat) (e : va_E), q ≠ a0 → V5 q = some e → V6 q = some e := fun q e hq h => by rw [hV6, upv_ne hq]; exact h
  have f6 : V6 a0 = some (vO 10 [.ref a1, .ref a2, .ref a3, .null, .null, .null]) := by rw [hV6]; exact upv_eq _ _ _
  refine g_aload_n (q := 0) (pc := 28) dX10_init_28 rfl rfl ?_
  refine g_bipush (v := nI 20) (pc := 29) dX10_init_29 (by decide) ?_
  refine g_newa0 (pc := 31) (N := 20) ac_int (nI_nneg (by decide)) (nI_toNat (by decide)) (by decide) (by decide) (by decide) dX10_init_31 (fun a4 hb_a4 hn_a4 hl_a4 => ?_)
  have t_a4 : a3 < a4 := hl_a4 _ _ (x6 _ _ n_a3_a0 f5)
  refine G.opq (fun V7 hV7 => ?_)
  have x7 : ∀ (q : Nat) (e : va_E), V6 q = some e → V7 q = some e := fun q e h => by rw [hV7, upv_ne (fun z => by subst z; rw [hn_a4] at h; cases h)]; exact h
  have f7 : V7 a4 = some (vI Z 0 20 (fun _ => 0)) := by rw [hV7]; exact upv_eq _ _ _
  have n_a4_a0 : a4 ≠ a0 := by omega
  refine g_putF (C := RX10) (F := TX10) (N := 6) (ci := 10) (ty := .array .int) (pc := 33) (x7 _ _ f6) rfl inX10 tyX10 tyX10_ok nmX10 3 (by decide) flX10_21 rfl rfl rfl (fun _ _ _ h => h.2) (by decide +kernel) rfl rfl (by show 3 < 6; decide) hb0 dX10_init_33 ?_
  refine G.opq (fun V8 hV8 => ?_)
  have x8 : ∀ (q : Nat) (e : va_E), q ≠ a0 → V7 q = some e → V8 q = some e := fun q e hq h => by rw [hV8, upv_ne hq]; exact h
  have f8 : V8 a0 = some (vO 10 [.ref a1, .ref a2, .ref a3, .ref a4, .null, .null]) := by rw [hV8]; exact upv_eq _ _ _
  refine g_aload_n (q := 0) (pc := 36) dX10_init_36 rfl rfl ?_
  refine g_bipush (v := nI 20) (pc := 37) dX10_init_37 (by decide) ?_
  refine g_newa0 (pc := 39) (N := 20) ac_int (nI_nneg (by decide)) (nI_toNat (by decide)) (by decide) (by decide) (by decide) dX10_init_39 (fun a5 hb_a5 hn_a5 hl_a5 => ?_)
  have t_a5 : a4 < a5 := hl_a5 _ _ (x8 _ _ n_a4_a0 f7)
  refine G.opq (fun V9 hV9 => ?_)
  have x9 : ∀ (q : Nat) (e : va_E), V8 q = some e → V9 q = some e := fun q e h => by rw [hV9, upv_ne (fun z => by subst z; rw [hn_a5] at h; cases h)]; exact h
  have f9 : V9 a5 = some (vI Z 0 20 (fun _ => 0)) := by rw [hV9]; exact upv_eq _ _ _
  have n_a5_a0 : a5 ≠ a0 := by omega
  refine g_putF (C := RX10) (F := TX10) (N := 6) (ci := 10) (ty := .array .int) (pc := 41) (x9 _ _ f8) rfl inX10 tyX10 tyX10_ok nmX10 4 (by decide) flX10_24 rfl rfl rfl (fun _ _ _ h => h.2) (by decide +kernel) rfl rfl (by show 4 < 6; decide) hb0 dX10_init_41 ?_
  refine G.opq (fun V10 hV10 => ?_)
  have x10 : ∀ (q : Nat) (e : va_E), q ≠ a0 → V9 q = some e → V10 q = some e := fun q e hq h => by rw [hV10, upv_ne hq]; exact h
  have f10 : V10 a0 = some (vO 10 [.ref a1, .ref a2, .ref a3, .ref a4, .ref a5, .null]) := by rw [hV10]; exact upv_eq _ _ _
  refine g_aload_n (q := 0) (pc := 44) dX10_init_44 rfl rfl ?_
  refine g_bipush (v := nI 20) (pc := 45) dX10_init_45 (by decide) ?_
  refine g_newa1 (pc := 47) (N := 20) ac_boolean (nI_nneg (by decide)) (nI_toNat (by decide)) (by decide) (by decide) (by decide) dX10_init_47 (fun a6 hb_a6 hn_a6 hl_a6 => ?_)
  have t_a6 : a5 < a6 := hl_a6 _ _ (x10 _ _ n_a5_a0 f9)
  refine G.opq (fun V11 hV11 => ?_)
  have x11 : ∀ (q : Nat) (e : va_E), V10 q = some e → V11 q = some e := fun q e h => by rw [hV11, upv_ne (fun z => by subst z; rw [hn_a6] at h; cases h)]; exact h
  have f11 : V11 a6 = some (vI Z 1 20 (fun _ => 0)) := by rw [hV11]; exact upv_eq _ _ _
  have n_a6_a0 : a6 ≠ a0 := by omega
  refine g_putF (C := RX10) (F := TX10) (N := 6) (ci := 10) (ty := .array .boolean) (pc := 49) (x11 _ _ f10) rfl inX10 tyX10 tyX10_ok nmX10 5 (by decide) flX10_27 rfl rfl rfl (fun _ _ _ h => h.2) (by decide +kernel) rfl rfl (by show 5 < 6; decide) hb0 dX10_init_49 ?_
  refine G.opq (fun V12 hV12 => ?_)
  have x12 : ∀ (q : Nat) (e : va_E), q ≠ a0 → V11 q = some e → V12 q = some e := fun q e hq h => by rw [hV12, upv_ne hq]; exact h
  have f12 : V12 a0 = some (vO 10 [.ref a1, .ref a2, .ref a3, .ref a4, .ref a5, .ref a6]) := by rw [hV12]; exact upv_eq _ _ _
  exact g_vret (pc := 52) (by decide) (by decide) (hPo _ _ ⟨rfl, a1, a2, a3, a4, a5, a6, t_a1, t_a2, t_a3, t_a4, t_a5, t_a6, f12, (x12 _ _ n_a1_a0 (x11 _ _ (x10 _ _ n_a1_a0 (x9 _ _ (x8 _ _ n_a1_a0 (x7 _ _ (x6 _ _ n_a1_a0 (x5 _ _ (x4 _ _ n_a1_a0 (x3 _ _ (x2 _ _ n_a1_a0 f1))))))))))), (x12 _ _ n_a2_a0 (x11 _ _ (x10 _ _ n_a2_a0 (x9 _ _ (x8 _ _ n_a2_a0 (x7 _ _ (x6 _ _ n_a2_a0 (x5 _ _ (x4 _ _ n_a2_a0 f3))))))))), (x12 _ _ n_a3_a0 (x11 _ _ (x10 _ _ n_a3_a0 (x9 _ _ (x8 _ _ n_a3_a0 (x7 _ _ (x6 _ _ n_a3_a0 f5))))))), (x12 _ _ n_a4_a0 (x11 _ _ (x10 _ _ n_a4_a0 (x9 _ _ (x8 _ _ n_a4_a0 f7))))), (x12 _ _ n_a5_a0 (x11 _ _ (x10 _ _ n_a5_a0 f9))), (x12 _ _ n_a6_a0 f11), (fun q e hq h => (x12 _ _ hq (x11 _ _ (x10 _ _ hq (x9 _ _ (x8 _ _ hq (x7 _ _ (x6 _ _ hq (x5 _ _ (x4 _ _ hq (x3 _ _ (x2 _ _ hq (x1 _ _ h)))))))))))))⟩) dX10_init_52
def pl0 : Nat → Nat := fun g => if g = 1 then 19 else 0
def caF (a : Nat) (i : Nat) : Nat → Option Nat := fun c => if c < i then some a else none
theorem caF_up {a i : Nat} : va_up (caF a i) i (some a) = caF a (i + 1) := funext fun c => by
  show (if c = i then some a else if c < i then some a else none) = if c < i + 1 then some a else none
  by_cases h : c = i
  · rw [if_pos h, if_pos (by omega)]
  · rw [if_neg h]
    by_cases h2 : c < i
    · rw [if_pos h2, if_pos (by omega)]
    · rw [if_neg h2, if_neg (by omega)]
theorem pl0_upd : upd (fun _ => 0) 1 (nI 19) = nf pl0 := funext fun c => by
  show (if c = 1 then nI 19 else 0) = nI (if c = 1 then 19 else 0)
  by_cases h : c = 1
  · rw [if_pos h, if_pos h]
  · rw [if_neg h, if_neg h]; rfl
def rmX5_init : Room := { frames := 4, cells := 5, slots := 26, locals := 75 }
set_option maxHeartbeats 8000000 in
theorem c_X5_init {a0 : Nat} (ha0 : V a0 = some (vO 5 [.null, .null, .null, .null])) (hb0 : b0 ≤ a0) : KM l D Z b0 yX5_init cX5_init 3 none rmX5_init [.ref a0] V (fun v V' => v = none ∧ ∃ a1 a2 a3 a4 a5, a0 < a1 ∧ a1 < a2 ∧ a2 < a3 ∧ a3 < a4 ∧ a4 < a5 ∧ V' a0 = some (vO 5 [.ref a1, .ref a2, .ref a3, .ref a4]) ∧ V' a1 = some (vQ Z 2 20 (fun _ => some a5)) ∧ V' a2 = some (vI Z 0 2 (nf pl0)) ∧ V' a3 = some (vI Z 0 2 (fun _ => 0)) ∧ V' a4 = some (vO 1 [.int (nI 0)]) ∧ V' a5 = some (vO 6 [.int (nI 0)]) ∧ ∀ (q : Nat) (e : va_E), q ≠ a0 → V q = some e → V' q = some e) := by
  refine KM.ofP (by decide) (Nat.le_of_ble_eq_true rfl) (fun Po hPo => ?_)
  refine G.locals (L' := [(0, .ref a0)]) [0] rfl ?_
  refine g_aload_n (q := 0) (pc := 0) dX5_init_0 rfl rfl ?_
  refine g_objInit (pc := 1) oiX5_3 oi_i oi_c ⟨Nat.le_of_ble_eq_true rfl, Nat.le_of_ble_eq_true rfl⟩ dX5_init_1 ?_
  refine g_aload_n (q := 0) (pc := 4) dX5_init_4 rfl rfl ?_
  refine g_bipush (v := nI 20) (pc := 5) dX5_init_5 (by decide) ?_
  refine g_anew2 (pc := 7) (N := 20) clX5_9 (nI_nneg (by decide)) (nI_toNat (by decide)) (by decide) (by decide) (by decide) dX5_init_7 (fun a1 hb_a1 hn_a1 hl_a1 => ?_)
  have t_a1 : a0 < a1 := hl_a1 _ _ ha0
  refine G.opq (fun V1 hV1 => ?_)
  have x1 : ∀ (q : Nat) (e : va_E), V q = some e → V1 q = some e := fun q e h => by rw [hV1, upv_ne (fun z => by subst z; rw [hn_a1] at h; cases h)]; exact h
  have f1 : V1 a1 = some (vQ Z 2 20 (fun _ => none)) := by rw [hV1]; exact upv_eq _ _ _
  have n_a1_a0 : a1 ≠ a0 := by omega
  refine g_putF (C := RX5) (F := TX5) (N := 4) (ci := 5) (ty := .array (.object RX6)) (pc := 10) (x1 _ _ ha0) rfl inX5 tyX5 tyX5_ok nmX5 0 (by decide) flX5_11 rfl rfl rfl (fun _ _ _ h => h.2) (by decide +kernel) rfl rfl (by show 0 < 4; decide) hb0 dX5_init_10 ?_
  refine G.opq (fun V2 hV2 => ?_)
  have x2 : ∀ (q : Nat) (e : va_E), q ≠ a0 → V1 q = some e → V2 q = some e := fun q e hq h => by rw [hV2, upv_ne hq]; exact h
  have f2 : V2 a0 = some (vO 5 [.ref a1, .null, .null, .null]) := by rw [hV2]; exact upv_eq _ _ _
  refine g_aload_n (q := 0) (pc := 13) dX5_init_13 rfl rfl ?_
  refine g_iconst (v := nI 2) (pc := 14) dX5_init_14 (by decide) ?_
  refine g_newa0 (pc := 15) (N := 2) ac_int (nI_nneg (by decide)) (nI_toNat (by decide)) (by decide) (by decide) (by decide) dX5_init_15 (fun a2 hb_a2 hn_a2 hl_a2 => ?_)
  have t_a2 : a1 < a2 := hl_a2 _ _ (x2 _ _ n_a1_a0 f1)
  refine G.opq (fun V3 hV3 => ?_)
  have x3 : ∀ (q : Nat) (e : va_E), V2 q = some e → V3 q = some e := fun q e h => by rw [hV3, upv_ne (fun z => by subst z; rw [hn_a2] at h; cases h)]; exact h
  have f3 : V3 a2 = some (vI Z 0 2 (fun _ => 0)) := by rw [hV3]; exact upv_eq _ _ _
  have n_a2_a0 : a2 ≠ a0 := by omega
  refine g_putF (C := RX5) (F := TX5) (N := 4) (ci := 5) (ty := .array .int) (pc := 17) (x3 _ _ f2) rfl inX5 tyX5 tyX5_ok nmX5 1 (by decide) flX5_17 rfl rfl rfl (fun _ _ _ h => h.2) (by decide +kernel) rfl rfl (by show 1 < 4; decide) hb0 dX5_init_17 ?_
  refine G.opq (fun V4 hV4 => ?_)
  have x4 : ∀ (q : Nat) (e : va_E), q ≠ a0 → V3 q = some e → V4 q = some e := fun q e hq h => by rw [hV4, upv_ne hq]; exact h
  have f4 : V4 a0 = some (vO 5 [.ref a1, .ref a2, .null, .null]) := by rw [hV4]; exact upv_eq _ _ _
  refine g_aload_n (q := 0) (pc := 20) dX5_init_20 rfl rfl ?_
  refine g_iconst (v := nI 2) (pc := 21) dX5_init_21 (by decide) ?_
  refine g_newa0 (pc := 22) (N := 2) ac_int (nI_nneg (by decide)) (nI_toNat (by decide)) (by decide) (by decide) (by decide) dX5_init_22 (fun a3 hb_a3 hn_a3 hl_a3 => ?_)
  have t_a3 : a2 < a3 := hl_a3 _ _ (x4 _ _ n_a2_a0 f3)
  refine G.opq (fun V5 hV5 => ?_)
  have x5 : ∀ (q : Nat) (e : va_E), V4 q = some e → V5 q = some e := fun q e h => by rw [hV5, upv_ne (fun z => by subst z; rw [hn_a3] at h; cases h)]; exact h
  have f5 : V5 a3 = some (vI Z 0 2 (fun _ => 0)) := by rw [hV5]; exact upv_eq _ _ _
  have n_a3_a0 : a3 ≠ a0 := by omega
  refine g_putF (C := RX5) (F := TX5) (N := 4) (ci := 5) (ty := .array .int) (pc := 24) (x5 _ _ f4) rfl inX5 tyX5 tyX5_ok nmX5 2 (by decide) flX5_21 rfl rfl rfl (fun _ _ _ h => h.2) (by decide +kernel) rfl rfl (by show 2 < 4; decide) hb0 dX5_init_24 ?_
  refine G.opq (fun V6 hV6 => ?_)
  have x6 : ∀ (q : Nat) (e : va_E), q ≠ a0 → V5 q = some e → V6 q = some e := fun q e hq h => by rw [hV6, upv_ne hq]; exact h
  have f6 : V6 a0 = some (vO 5 [.ref a1, .ref a2, .ref a3, .null]) := by rw [hV6]; exact upv_eq _ _ _
  refine g_aload_n (q := 0) (pc := 27) dX5_init_27 rfl rfl ?_
  refine g_new (C := RX1) (F := TX1) (N := 1) (ci := 1) (fs := [.int 0]) (pc := 28) inX1 tyX1 tyX1_ok clX5_24 insX1 iniX1 rfl (by decide) (by decide) (by decide) dX5_init_28 (fun a4 hb_a4 hn_a4 hl_a4 => ?_)
  have t_a4 : a3 < a4 := hl_a4 _ _ (x6 _ _ n_a3_a0 f5)
  refine g_dup (pc := 31) dX5_init_31 rfl ?_
  refine g_iconst (v := nI 0) (pc := 32) dX5_init_32 (by decide) ?_
  refine e_callIv (k2 := 4) (n2 := 25) (As := [.int (nI 0)]) (rest := [.ref a4, .ref a0]) (pc := 33) rfl (c_X1_init_c1 hb_a4) mlX5_26 mX1_init ⟨Nat.le_of_ble_eq_true rfl, Nat.le_of_ble_eq_true rfl⟩ rfl rfl (Nat.le_of_ble_eq_true rfl) dX5_init_33 (by decide) rfl rfl ?_
  refine G.opq (fun V7 hV7 => ?_)
  have x7 : ∀ (q : Nat) (e : va_E), V6 q = some e → V7 q = some e := fun q e h => by rw [hV7, upv_ne (fun z => by subst z; rw [hn_a4] at h; cases h)]; exact h
  have f7 : V7 a4 = some (vO 1 [.int (nI 0)]) := by rw [hV7]; exact upv_eq _ _ _
  have n_a4_a0 : a4 ≠ a0 := by omega
  refine g_putF (C := RX5) (F := TX5) (N := 4) (ci := 5) (ty := .object RX6) (pc := 36) (x7 _ _ f6) rfl inX5 tyX5 tyX5_ok nmX5 3 (by decide) flX5_29 rfl rfl rfl (fun _ _ _ h => h.2) (by decide +kernel) rfl rfl (by show 3 < 4; decide) hb0 dX5_init_36 ?_
  refine G.opq (fun V8 hV8 => ?_)
  have x8 : ∀ (q : Nat) (e : va_E), q ≠ a0 → V7 q = some e → V8 q = some e := fun q e hq h => by rw [hV8, upv_ne hq]; exact h
  have f8 : V8 a0 = some (vO 5 [.ref a1, .ref a2, .ref a3, .ref a4]) := by rw [hV8]; exact upv_eq _ _ _
  refine g_new (C := RX6) (F := TX6) (N := 1) (ci := 6) (fs := [.int 0]) (pc := 39) inX6 tyX6 tyX6_ok clX5_9 insX6 iniX6 rfl (by decide) (by decide) (by decide) dX5_init_39 (fun a5 hb_a5 hn_a5 hl_a5 => ?_)
  have t_a5 : a4 < a5 := hl_a5 _ _ (x8 _ _ n_a4_a0 f7)
  refine g_dup (pc := 42) dX5_init_42 rfl ?_
  refine g_iconst (v := nI 0) (pc := 43) dX5_init_43 (by decide) ?_
  refine e_callIv (k2 := 5) (n2 := 26) (As := [.int (nI 0)]) (rest := [.ref a5]) (pc := 44) rfl (c_X6_init_c6 hb_a5) mlX5_33 mX6_init ⟨Nat.le_of_ble_eq_true rfl, Nat.le_of_ble_eq_true rfl⟩ rfl rfl (Nat.le_of_ble_eq_true rfl) dX5_init_44 (by decide) rfl rfl ?_
  refine G.opq (fun V9 hV9 => ?_)
  have x9 : ∀ (q : Nat) (e : va_E), V8 q = some e → V9 q = some e := fun q e h => by rw [hV9, upv_ne (fun z => by subst z; rw [hn_a5] at h; cases h)]; exact h
  have f9 : V9 a5 = some (vO 6 [.int (nI 0)]) := by rw [hV9]; exact upv_eq _ _ _
  have n_a5_a0 : a5 ≠ a0 := by omega
  refine g_astore_n (lv' := [(1, .ref a5), (0, .ref a0)]) (pc := 47) dX5_init_47 rfl (by decide) rfl ?_
  refine g_iconst (v := nI 0) (pc := 48) dX5_init_48 (by decide) ?_
  refine g_istore_n (lv' := [(2, .int (nI 0)), (1, .ref a5), (0, .ref a0)]) (pc := 49) dX5_init_49 rfl (by decide) rfl ?_
  have ha1 : V9 a1 = some (vQ Z 2 20 (caF a5 0)) := (x9 _ _ (x8 _ _ n_a1_a0 (x7 _ _ (x6 _ _ n_a1_a0 (x5 _ _ (x4 _ _ n_a1_a0 (x3 _ _ (x2 _ _ n_a1_a0 f1))))))))
  have ha5 := f9
  have ha00 := (x9 _ _ f8)
  have n1a : a1 ≠ a0 := by omega
  have n1b : a5 ≠ a1 := by omega
  have lp : ∀ (d i : Nat) (W : HV), i + d = 20 → (∀ q, q ≠ a1 → W q = V9 q) → W a1 = some (vQ Z 2 20 (caF a5 i)) → G l D Z b0 rmX5_init RX5 cX5_init 3 (gE none "<init>") (gT D b0 Po rmX5_init.cells rmX5_init.slots) (W) [(2, .int (nI i)), (1, .ref a5), (0, .ref a0)] 5 26 50 [] := by
    intro d
    induction d with
    | zero =>
      intro i W hd hW hWa
      have hi : i = 20 := by omega
      subst hi
      refine g_iload_n (q := 0) (pc := 50) dX5_init_50 rfl rfl ?_
      refine g_bipush (v := nI 20) (pc := 51) dX5_init_51 (by decide) ?_
      refine g_icmp_ge_N (tgt := 69) (pc := 53) (by decide) (by decide) dX5_init_53 (by decide) (fun c1 => ?_) (fun c1 => absurd c1 (by decide))
      refine G.arrQ (g := fun _ => some a5) hWa (fun j hj => if_pos hj) rfl ?_
      refine G.opq (fun W2 hW2 => ?_)
      have w2 : ∀ (q : Nat), q ≠ a1 → W2 q = V9 q := fun q hq => by rw [hW2, upv_ne hq]; exact hW q hq
      have w2a : W2 a1 = some (vQ Z 2 20 (fun _ => some a5)) := by rw [hW2]; exact upv_eq _ _ _
      refine g_aload_n (q := 2) (pc := 69) dX5_init_69 rfl rfl ?_
      refine g_get (C := RX5) (F := TX5) (N := 4) (ci := 5) (pc := 70) ((w2 a0 n1a.symm).trans ha00) rfl inX5 1 (by decide) flX5_17 (Or.inl rfl) rfl dX5_init_70 ?_
      refine g_iconst (v := nI 1) (pc := 73) dX5_init_73 (by decide) ?_
      refine g_bipush (v := nI 19) (pc := 74) dX5_init_74 (by decide) ?_
      have ha2 := (x9 _ _ (x8 _ _ n_a2_a0 (x7 _ _ (x6 _ _ n_a2_a0 (x5 _ _ (x4 _ _ n_a2_a0 f3))))))
      have n21 : a2 ≠ a1 := by omega
      have n20 : a2 ≠ a0 := by omega
      refine g_iast_N (N := 2) (j := 1) (f' := nf pl0) (pc := 76) ((w2 a2 n21).trans ha2) (by decide) (by decide) hb_a2 pl0_upd rfl dX5_init_76 ?_
      refine G.opq (fun W3 hW3 => ?_)
      have w3 : ∀ (q : Nat), q ≠ a2 → W3 q = W2 q := fun q hq => by rw [hW3, upv_ne hq]
      have w3a : W3 a2 = some (vI Z 0 2 (nf pl0)) := by rw [hW3]; exact upv_eq _ _ _
      have n3 : a3 ≠ a1 ∧ a3 ≠ a2 ∧ a4 ≠ a1 ∧ a4 ≠ a2 ∧ a5 ≠ a1 ∧ a5 ≠ a2 ∧ a1 ≠ a2 := by omega
      have hext : ∀ (q : Nat) (e : va_E), q ≠ a0 → V q = some e → W3 q = some e := fun q e hq h => by
        have h1 : q ≠ a1 := fun z => by
          subst z; rw [hn_a1] at h; cases h
        have h2 : q ≠ a2 := fun z => by
          subst z; rw [(x2 _ _ hq (x1 _ _ h))] at hn_a2; cases hn_a2
        rw [w3 q h2, w2 q h1]; exact (fun q e hq h => (x9 _ _ (x8 _ _ hq (x7 _ _ (x6 _ _ hq (x5 _ _ (x4 _ _ hq (x3 _ _ (x2 _ _ hq (x1 _ _ h)))))))))) q e hq h
      exact g_vret (pc := 77) (by decide) (by decide) (hPo _ _ ⟨rfl, a1, a2, a3, a4, a5, t_a1, t_a2, t_a3, t_a4, t_a5, ((w3 a0 n20.symm).trans ((w2 a0 n1a.symm).trans (x9 _ _ f8))), ((w3 a1 n3.2.2.2.2.2.2).trans w2a), w3a, ((w3 a3 n3.2.1).trans ((w2 a3 n3.1).trans (x9 _ _ (x8 _ _ n_a3_a0 (x7 _ _ (x6 _ _ n_a3_a0 f5)))))), ((w3 a4 n3.2.2.2.1).trans ((w2 a4 n3.2.2.1).trans (x9 _ _ (x8 _ _ n_a4_a0 f7)))), ((w3 a5 n3.2.2.2.2.2.1).trans ((w2 a5 n3.2.2.2.2.1).trans f9)), hext⟩) dX5_init_77
    | succ d ih =>
      intro i W hd hW hWa
      refine g_iload_n (q := 0) (pc := 50) dX5_init_50 rfl rfl ?_
      refine g_bipush (v := nI 20) (pc := 51) dX5_init_51 (by decide) ?_
      refine g_icmp_ge_N (tgt := 69) (pc := 53) (by omega) (by decide) dX5_init_53 (by decide) (fun c1 => absurd c1 (by omega)) (fun c1 => ?_)
      refine g_aload_n (q := 2) (pc := 56) dX5_init_56 rfl rfl ?_
      refine g_get (C := RX5) (F := TX5) (N := 4) (ci := 5) (pc := 57) ((hW a0 n1a.symm).trans ha00) rfl inX5 0 (by decide) flX5_11 (Or.inl rfl) rfl dX5_init_57 ?_
      refine g_iload_n (q := 0) (pc := 60) dX5_init_60 rfl rfl ?_
      refine g_aload_n (q := 1) (pc := 61) dX5_init_61 rfl rfl ?_
      refine g_aast2 (C := RX6) (F := TX6) (N := 20) (N1 := 1) (ci := 6) (pc := 62) hWa ((hW a5 n1b).trans ha5) rfl (vp_inN c1 (by decide)) hb_a1 dX5_init_62 ?_
      refine g_iinc (q := 0) (lv' := [(2, .int (nI (i + 1))), (1, .ref a5), (0, .ref a0)]) (pc := 63) dX5_init_63 rfl (nI_inc _ _) (by decide) rfl ?_
      refine g_goto (tgt := 50) (pc := 66) dX5_init_66 (by decide) ?_
      refine ih (i + 1) _ (by omega) (fun q hq => (upv_ne hq).trans (hW q hq)) ?_
      rw [upv_eq, nI_toNat (by omega), caF_up]
  exact lp 20 0 V9 (by omega) (fun _ _ => rfl) ha1
def piC : Nat → Nat := fun j => ([0, 1, 7, 13, 2, 3, 4, 8, 9, 10, 14, 15, 16, 19, 20, 27, 21, 22, 23, 24, 25, 26, 28, 29, 30, 31, 32, 33, 34, 35, 36, 38, 40, 42, 44, 46, 48, 50, 37, 39, 41, 43, 45, 47, 49, 51] : List Nat).getD j 0
theorem piC_lt : ∀ j, j < 46 → piC j < 52 := by decide +kernel
theorem piC_inj : ∀ i, i < 46 → ∀ j, j < 46 → piC i = piC j → i = j := by decide +kernel
theorem piC_ug : ∀ j, j < 46 → piC j ≠ 5 ∧ piC j ≠ 6 ∧ piC j ≠ 11 ∧ piC j ≠ 12 ∧ piC j ≠ 17 ∧ piC j ≠ 18 := by decide +kernel
theorem adr_ge {ad : Nat → Nat} {n : Nat} (h : ∀ k, k + 1 < n → ad k < ad (k + 1)) : ∀ k, k < n → k ≠ 0 → ad 1 ≤ ad k := fun k hk h0 => by
  by_cases q : k = 1
  · subst q; exact Nat.le_refl _
  · exact Nat.le_of_lt (mono_lt h k hk 1 (by omega))
def rmX11_init : Room := { frames := 5, cells := 51, slots := 1590, locals := 97 }
set_option maxHeartbeats 8000000 in
theorem c_X11_init {Vb : HV} {a0 : Nat} (ha0 : V a0 = some (vO 11 [.null, .null, .null, .int 0, .null, .null, .null, .null, .null])) (hb0 : b0 ≤ a0) (hVb : ∀ (q : Nat) (e : va_E), Vb q = some e → q ≠ a0 ∧ V q = some e) : KM l D Z b0 yX11_init cX11_init 2 none rmX11_init [.ref a0] V (fun v V' => v = none ∧ ∃ cd : Nat → Nat, cd 0 = a0 ∧ CI Z b0 cd Vb (nI 0) (fun _ => 0) (fun _ => 0) pl0 (fun _ => 0) (fun _ => 0) (fun _ => 0) pl0 (fun _ => 0) (fun _ => 0) (fun _ => 0) (fun _ => 0) (fun _ => 0) (fun _ => 0) (fun _ => 0) V') := by
  refine KM.ofP (by decide) (Nat.le_of_ble_eq_true rfl) (fun Po hPo => ?_)
  refine G.locals (L' := [(0, .ref a0)]) [0] rfl ?_
  refine g_aload_n (q := 0) (pc := 0) dX11_init_0 rfl rfl ?_
  refine g_objInit (pc := 1) oiX11_3 oi_i oi_c ⟨Nat.le_of_ble_eq_true rfl, Nat.le_of_ble_eq_true rfl⟩ dX11_init_1 ?_
  refine g_aload_n (q := 0) (pc := 4) dX11_init_4 rfl rfl ?_
  refine g_new (C := RX5) (F := TX5) (N := 4) (ci := 5) (fs := [.null, .null, .null, .null]) (pc := 5) inX5 tyX5 tyX5_ok clX11_9 insX5 iniX5 rfl (by decide) (by decide) (by decide) dX11_init_5 (fun mA hb_mA hn_mA hl_mA => ?_)
  have t_mA : a0 < mA := hl_mA _ _ ha0
  refine g_dup (pc := 8) dX11_init_8 rfl ?_
  refine G.opq (fun U_mA hU_mA => ?_)
  have u_mA : U_mA mA = some (vO 5 [.null, .null, .null, .null]) := by rw [hU_mA]; exact upv_eq _ _ _
  refine g_callI (ret := none) (As := []) (rest := [.ref mA, .ref a0]) (pc := 9) rfl (c_X5_init u_mA hb_mA) mlX11_11 mX5_init ⟨Nat.le_of_ble_eq_true rfl, Nat.le_of_ble_eq_true rfl⟩ rfl rfl (Nat.le_of_ble_eq_true rfl) dX11_init_9 (by decide) (fun v9 V1 h9 => ?_)
  obtain ⟨rfl, cA, pA, hA, uA, kA, t_cA, t_pA, t_hA, t_uA, t_kA, g1_mA, g1_cA, g1_pA, g1_hA, g1_uA, g1_kA, hx1⟩ := h9
  refine G.eqst (k2 := 6) (n2 := 30) (st2 := [.ref mA, .ref a0]) rfl rfl rfl ?_
  have x1 : ∀ (q : Nat) (e : va_E), V q = some e → V1 q = some e := fun q e h => by
    have h1 : q ≠ mA := fun z => by
      subst z; rw [hn_mA] at h; cases h
    exact hx1 q e h1 (by rw [hU_mA, upv_ne h1]; exact h)
  have n_mA_a0 : mA ≠ a0 := by omega
  have n_cA_a0 : cA ≠ a0 := by omega
  have n_pA_a0 : pA ≠ a0 := by omega
  have n_hA_a0 : hA ≠ a0 := by omega
  have n_uA_a0 : uA ≠ a0 := by omega
  have n_kA_a0 : kA ≠ a0 := by omega
  refine g_putF (C := RX11) (F := TX11) (N := 9) (ci := 11) (ty := .object RX5) (pc := 12) (x1 _ _ ha0) rfl inX11 tyX11 tyX11_ok nmX11 0 (by decide) flX11_12 rfl rfl rfl (fun _ _ _ h => h.2) (by decide +kernel) rfl rfl (by show 0 < 9; decide) hb0 dX11_init_12 ?_
  refine G.opq (fun V2 hV2 => ?_)
  have x2 : ∀ (q : Nat) (e : va_E), q ≠ a0 → V1 q = some e → V2 q = some e := fun q e hq h => by rw [hV2, upv_ne hq]; exact h
  have f2 : V2 a0 = some (vO 11 [.ref mA, .null, .null, .int 0, .null, .null, .null, .null, .null]) := by rw [hV2]; exact upv_eq _ _ _
  refine g_aload_n (q := 0) (pc := 15) dX11_init_15 rfl rfl ?_
  refine g_new (C := RX5) (F := TX5) (N := 4) (ci := 5) (fs := [.null, .null, .null, .null]) (pc := 16) inX5 tyX5 tyX5_ok clX11_9 insX5 iniX5 rfl (by decide) (by decide) (by decide) dX11_init_16 (fun mB hb_mB hn_mB hl_mB => ?_)
  have t_mB : kA < mB := hl_mB _ _ (x2 _ _ n_kA_a0 g1_kA)
  refine g_dup (pc := 19) dX11_init_19 rfl ?_
  refine G.opq (fun U_mB hU_mB => ?_)
  have u_mB : U_mB mB = some (vO 5 [.null, .null, .null, .null]) := by rw [hU_mB]; exact upv_eq _ _ _
  refine g_callI (ret := none) (As := []) (rest := [.ref mB, .ref a0]) (pc := 20) rfl (c_X5_init u_mB hb_mB) mlX11_11 mX5_init ⟨Nat.le_of_ble_eq_true rfl, Nat.le_of_ble_eq_true rfl⟩ rfl rfl (Nat.le_of_ble_eq_true rfl) dX11_init_20 (by decide) (fun v9 V3 h9 => ?_)
  obtain ⟨rfl, cB, pB, hB, uB, kB, t_cB, t_pB, t_hB, t_uB, t_kB, g3_mB, g3_cB, g3_pB, g3_hB, g3_uB, g3_kB, hx3⟩ := h9
  refine G.eqst (k2 := 12) (n2 := 60) (st2 := [.ref mB, .ref a0]) rfl rfl rfl ?_
  have x3 : ∀ (q : Nat) (e : va_E), V2 q = some e → V3 q = some e := fun q e h => by
    have h1 : q ≠ mB := fun z => by
      subst z; rw [hn_mB] at h; cases h
    exact hx3 q e h1 (by rw [hU_mB, upv_ne h1]; exact h)
  have n_mB_a0 : mB ≠ a0 := by omega
  have n_cB_a0 : cB ≠ a0 := by omega
  have n_pB_a0 : pB ≠ a0 := by omega
  have n_hB_a0 : hB ≠ a0 := by omega
  have n_uB_a0 : uB ≠ a0 := by omega
  have n_kB_a0 : kB ≠ a0 := by omega
  refine g_putF (C := RX11) (F := TX11) (N := 9) (ci := 11) (ty := .object RX5) (pc := 23) (x3 _ _ f2) rfl inX11 tyX11 tyX11_ok nmX11 1 (by decide) flX11_16 rfl rfl rfl (fun _ _ _ h => h.2) (by decide +kernel) rfl rfl (by show 1 < 9; decide) hb0 dX11_init_23 ?_
  refine G.opq (fun V4 hV4 => ?_)
  have x4 : ∀ (q : Nat) (e : va_E), q ≠ a0 → V3 q = some e → V4 q = some e := fun q e hq h => by rw [hV4, upv_ne hq]; exact h
  have f4 : V4 a0 = some (vO 11 [.ref mA, .ref mB, .null, .int 0, .null, .null, .null, .null, .null]) := by rw [hV4]; exact upv_eq _ _ _
  refine g_aload_n (q := 0) (pc := 26) dX11_init_26 rfl rfl ?_
  refine g_new (C := RX5) (F := TX5) (N := 4) (ci := 5) (fs := [.null, .null, .null, .null]) (pc := 27) inX5 tyX5 tyX5_ok clX11_9 insX5 iniX5 rfl (by decide) (by decide) (by decide) dX11_init_27 (fun mC hb_mC hn_mC hl_mC => ?_)
  have t_mC : kB < mC := hl_mC _ _ (x4 _ _ n_kB_a0 g3_kB)
  refine g_dup (pc := 30) dX11_init_30 rfl ?_
  refine G.opq (fun U_mC hU_mC => ?_)
  have u_mC : U_mC mC = some (vO 5 [.null, .null, .null, .null]) := by rw [hU_mC]; exact upv_eq _ _ _
  refine g_callI (ret := none) (As := []) (rest := [.ref mC, .ref a0]) (pc := 31) rfl (c_X5_init u_mC hb_mC) mlX11_11 mX5_init ⟨Nat.le_of_ble_eq_true rfl, Nat.le_of_ble_eq_true rfl⟩ rfl rfl (Nat.le_of_ble_eq_true rfl) dX11_init_31 (by decide) (fun v9 V5 h9 => ?_)
  obtain ⟨rfl, cC, pC, hC, uC, kC, t_cC, t_pC, t_hC, t_uC, t_kC, g5_mC, g5_cC, g5_pC, g5_hC, g5_uC, g5_kC, hx5⟩ := h9
  refine G.eqst (k2 := 18) (n2 := 90) (st2 := [.ref mC, .ref a0]) rfl rfl rfl ?_
  have x5 : ∀ (q : Nat) (e : va_E), V4 q = some e → V5 q = some e := fun q e h => by
    have h1 : q ≠ mC := fun z => by
      subst z; rw [hn_mC] at h; cases h
    exact hx5 q e h1 (by rw [hU_mC, upv_ne h1]; exact h)
  have n_mC_a0 : mC ≠ a0 := by omega
  have n_cC_a0 : cC ≠ a0 := by omega
  have n_pC_a0 : pC ≠ a0 := by omega
  have n_hC_a0 : hC ≠ a0 := by omega
  have n_uC_a0 : uC ≠ a0 := by omega
  have n_kC_a0 : kC ≠ a0 := by omega
  refine g_putF (C := RX11) (F := TX11) (N := 9) (ci := 11) (ty := .object RX5) (pc := 34) (x5 _ _ f4) rfl inX11 tyX11 tyX11_ok nmX11 2 (by decide) flX11_19 rfl rfl rfl (fun _ _ _ h => h.2) (by decide +kernel) rfl rfl (by show 2 < 9; decide) hb0 dX11_init_34 ?_
  refine G.opq (fun V6 hV6 => ?_)
  have x6 : ∀ (q : Nat) (e : va_E), q ≠ a0 → V5 q = some e → V6 q = some e := fun q e hq h => by rw [hV6, upv_ne hq]; exact h
  have f6 : V6 a0 = some (vO 11 [.ref mA, .ref mB, .ref mC, .int 0, .null, .null, .null, .null, .null]) := by rw [hV6]; exact upv_eq _ _ _
  refine g_aload_n (q := 0) (pc := 37) dX11_init_37 rfl rfl ?_
  refine g_iconst (v := nI 0) (pc := 38) dX11_init_38 (by decide) ?_
  refine g_put (C := RX11) (F := TX11) (N := 9) (ci := 11) (ty := .boolean) (pc := 39) f6 rfl inX11 tyX11 tyX11_ok nmX11 3 (by decide) flX11_22 rfl rfl (by decide +kernel) rfl rfl (by show 3 < 9; decide) hb0 dX11_init_39 ?_
  refine G.opq (fun V7 hV7 => ?_)
  have x7 : ∀ (q : Nat) (e : va_E), q ≠ a0 → V6 q = some e → V7 q = some e := fun q e hq h => by rw [hV7, upv_ne hq]; exact h
  have f7 : V7 a0 = some (vO 11 [.ref mA, .ref mB, .ref mC, .int (nI 0), .null, .null, .null, .null, .null]) := by rw [hV7]; exact upv_eq _ _ _
  refine g_aload_n (q := 0) (pc := 42) dX11_init_42 rfl rfl ?_
  refine g_bipush (v := nI 8) (pc := 43) dX11_init_43 (by decide) ?_
  refine g_anew3 (pc := 45) (N := 8) clX11_26 (nI_nneg (by decide)) (nI_toNat (by decide)) (by decide) (by decide) (by decide) dX11_init_45 (fun sh hb_sh hn_sh hl_sh => ?_)
  have t_sh : kC < sh := hl_sh _ _ (x7 _ _ n_kC_a0 (x6 _ _ n_kC_a0 g5_kC))
  refine G.opq (fun V8 hV8 => ?_)
  have x8 : ∀ (q : Nat) (e : va_E), V7 q = some e → V8 q = some e := fun q e h => by rw [hV8, upv_ne (fun z => by subst z; rw [hn_sh] at h; cases h)]; exact h
  have f8 : V8 sh = some (vQ Z 3 8 (fun _ => none)) := by rw [hV8]; exact upv_eq _ _ _
  have n_sh_a0 : sh ≠ a0 := by omega
  refine g_putF (C := RX11) (F := TX11) (N := 9) (ci := 11) (ty := .array (.object RX7)) (pc := 48) (x8 _ _ f7) rfl inX11 tyX11 tyX11_ok nmX11 4 (by decide) flX11_28 rfl rfl rfl (fun _ _ _ h => h.2) (by decide +kernel) rfl rfl (by show 4 < 9; decide) hb0 dX11_init_48 ?_
  refine G.opq (fun V9 hV9 => ?_)
  have x9 : ∀ (q : Nat) (e : va_E), q ≠ a0 → V8 q = some e → V9 q = some e := fun q e hq h => by rw [hV9, upv_ne hq]; exact h
  have f9 : V9 a0 = some (vO 11 [.ref mA, .ref mB, .ref mC, .int (nI 0), .ref sh, .null, .null, .null, .null]) := by rw [hV9]; exact upv_eq _ _ _
  refine g_aload_n (q := 0) (pc := 51) dX11_init_51 rfl rfl ?_
  refine g_new (C := RX10) (F := TX10) (N := 6) (ci := 10) (fs := [.null, .null, .null, .null, .null, .null]) (pc := 52) inX10 tyX10 tyX10_ok clX11_32 insX10 iniX10 rfl (by decide) (by decide) (by decide) dX11_init_52 (fun wX hb_wX hn_wX hl_wX => ?_)
  have t_wX : sh < wX := hl_wX _ _ (x9 _ _ n_sh_a0 f8)
  refine g_dup (pc := 55) dX11_init_55 rfl ?_
  refine G.opq (fun U_wX hU_wX => ?_)
  have u_wX : U_wX wX = some (vO 10 [.null, .null, .null, .null, .null, .null]) := by rw [hU_wX]; exact upv_eq _ _ _
  refine g_callIN (ret := none) (As := []) (rest := [.ref wX, .ref a0]) (pc := 56) rfl (c_X10_init u_wX hb_wX) (host := RX11) (fun _ h => h.1) mX10_init ⟨Nat.le_of_ble_eq_true rfl, Nat.le_of_ble_eq_true rfl⟩ rfl rfl (Nat.le_of_ble_eq_true rfl) dX11_init_56 (by decide) (fun v9 V10 h9 => ?_)
  obtain ⟨rfl, wX1, wX2, wX3, wX4, wX5, wX6, t_wX1, t_wX2, t_wX3, t_wX4, t_wX5, t_wX6, g10_wX, g10_wX1, g10_wX2, g10_wX3, g10_wX4, g10_wX5, g10_wX6, hx10⟩ := h9
  refine G.eqst (k2 := 26) (n2 := 224) (st2 := [.ref wX, .ref a0]) rfl rfl rfl ?_
  have x10 : ∀ (q : Nat) (e : va_E), V9 q = some e → V10 q = some e := fun q e h => by
    have h1 : q ≠ wX := fun z => by
      subst z; rw [hn_wX] at h; cases h
    exact hx10 q e h1 (by rw [hU_wX, upv_ne h1]; exact h)
  have n_wX_a0 : wX ≠ a0 := by omega
  have n_wX1_a0 : wX1 ≠ a0 := by omega
  have n_wX2_a0 : wX2 ≠ a0 := by omega
  have n_wX3_a0 : wX3 ≠ a0 := by omega
  have n_wX4_a0 : wX4 ≠ a0 := by omega
  have n_wX5_a0 : wX5 ≠ a0 := by omega
  have n_wX6_a0 : wX6 ≠ a0 := by omega
  refine g_putF (C := RX11) (F := TX11) (N := 9) (ci := 11) (ty := .object RX10) (pc := 59) (x10 _ _ f9) rfl inX11 tyX11 tyX11_ok nmX11 5 (by decide) flX11_35 rfl rfl rfl (fun _ _ _ h => h.2) (by decide +kernel) rfl rfl (by show 5 < 9; decide) hb0 dX11_init_59 ?_
  refine G.opq (fun V11 hV11 => ?_)
  have x11 : ∀ (q : Nat) (e : va_E), q ≠ a0 → V10 q = some e → V11 q = some e := fun q e hq h => by rw [hV11, upv_ne hq]; exact h
  have f11 : V11 a0 = some (vO 11 [.ref mA, .ref mB, .ref mC, .int (nI 0), .ref sh, .ref wX, .null, .null, .null]) := by rw [hV11]; exact upv_eq _ _ _
  refine g_aload_n (q := 0) (pc := 62) dX11_init_62 rfl rfl ?_
  refine g_new (C := RX10) (F := TX10) (N := 6) (ci := 10) (fs := [.null, .null, .null, .null, .null, .null]) (pc := 63) inX10 tyX10 tyX10_ok clX11_32 insX10 iniX10 rfl (by decide) (by decide) (by decide) dX11_init_63 (fun wY hb_wY hn_wY hl_wY => ?_)
  have t_wY : wX6 < wY := hl_wY _ _ (x11 _ _ n_wX6_a0 g10_wX6)
  refine g_dup (pc := 66) dX11_init_66 rfl ?_
  refine G.opq (fun U_wY hU_wY => ?_)
  have u_wY : U_wY wY = some (vO 10 [.null, .null, .null, .null, .null, .null]) := by rw [hU_wY]; exact upv_eq _ _ _
  refine g_callIN (ret := none) (As := []) (rest := [.ref wY, .ref a0]) (pc := 67) rfl (c_X10_init u_wY hb_wY) (host := RX11) (fun _ h => h.1) mX10_init ⟨Nat.le_of_ble_eq_true rfl, Nat.le_of_ble_eq_true rfl⟩ rfl rfl (Nat.le_of_ble_eq_true rfl) dX11_init_67 (by decide) (fun v9 V12 h9 => ?_)
  obtain ⟨rfl, wY1, wY2, wY3, wY4, wY5, wY6, t_wY1, t_wY2, t_wY3, t_wY4, t_wY5, t_wY6, g12_wY, g12_wY1, g12_wY2, g12_wY3, g12_wY4, g12_wY5, g12_wY6, hx12⟩ := h9
  refine G.eqst (k2 := 33) (n2 := 350) (st2 := [.ref wY, .ref a0]) rfl rfl rfl ?_
  have x12 : ∀ (q : Nat) (e : va_E), V11 q = some e → V12 q = some e := fun q e h => by
    have h1 : q ≠ wY := fun z => by
      subst z; rw [hn_wY] at h; cases h
    exact hx12 q e h1 (by rw [hU_wY, upv_ne h1]; exact h)
  have n_wY_a0 : wY ≠ a0 := by omega
  have n_wY1_a0 : wY1 ≠ a0 := by omega
  have n_wY2_a0 : wY2 ≠ a0 := by omega
  have n_wY3_a0 : wY3 ≠ a0 := by omega
  have n_wY4_a0 : wY4 ≠ a0 := by omega
  have n_wY5_a0 : wY5 ≠ a0 := by omega
  have n_wY6_a0 : wY6 ≠ a0 := by omega
  refine g_putF (C := RX11) (F := TX11) (N := 9) (ci := 11) (ty := .object RX10) (pc := 70) (x12 _ _ f11) rfl inX11 tyX11 tyX11_ok nmX11 6 (by decide) flX11_39 rfl rfl rfl (fun _ _ _ h => h.2) (by decide +kernel) rfl rfl (by show 6 < 9; decide) hb0 dX11_init_70 ?_
  refine G.opq (fun V13 hV13 => ?_)
  have x13 : ∀ (q : Nat) (e : va_E), q ≠ a0 → V12 q = some e → V13 q = some e := fun q e hq h => by rw [hV13, upv_ne hq]; exact h
  have f13 : V13 a0 = some (vO 11 [.ref mA, .ref mB, .ref mC, .int (nI 0), .ref sh, .ref wX, .ref wY, .null, .null]) := by rw [hV13]; exact upv_eq _ _ _
  refine g_aload_n (q := 0) (pc := 73) dX11_init_73 rfl rfl ?_
  refine g_sipush (v := nI 400) (pc := 74) dX11_init_74 (by decide) ?_
  refine g_newa0 (pc := 77) (N := 400) ac_int (nI_nneg (by decide)) (nI_toNat (by decide)) (by decide) (by decide) (by decide) dX11_init_77 (fun tm hb_tm hn_tm hl_tm => ?_)
  have t_tm : wY6 < tm := hl_tm _ _ (x13 _ _ n_wY6_a0 g12_wY6)
  refine G.opq (fun V14 hV14 => ?_)
  have x14 : ∀ (q : Nat) (e : va_E), V13 q = some e → V14 q = some e := fun q e h => by rw [hV14, upv_ne (fun z => by subst z; rw [hn_tm] at h; cases h)]; exact h
  have f14 : V14 tm = some (vI Z 0 400 (fun _ => 0)) := by rw [hV14]; exact upv_eq _ _ _
  have n_tm_a0 : tm ≠ a0 := by omega
  refine g_putF (C := RX11) (F := TX11) (N := 9) (ci := 11) (ty := .array .int) (pc := 79) (x14 _ _ f13) rfl inX11 tyX11 tyX11_ok nmX11 7 (by decide) flX11_42 rfl rfl rfl (fun _ _ _ h => h.2) (by decide +kernel) rfl rfl (by show 7 < 9; decide) hb0 dX11_init_79 ?_
  refine G.opq (fun V15 hV15 => ?_)
  have x15 : ∀ (q : Nat) (e : va_E), q ≠ a0 → V14 q = some e → V15 q = some e := fun q e hq h => by rw [hV15, upv_ne hq]; exact h
  have f15 : V15 a0 = some (vO 11 [.ref mA, .ref mB, .ref mC, .int (nI 0), .ref sh, .ref wX, .ref wY, .ref tm, .null]) := by rw [hV15]; exact upv_eq _ _ _
  refine g_aload_n (q := 0) (pc := 82) dX11_init_82 rfl rfl ?_
  refine g_bipush (v := nI 8) (pc := 83) dX11_init_83 (by decide) ?_
  refine g_newa0 (pc := 85) (N := 8) ac_int (nI_nneg (by decide)) (nI_toNat (by decide)) (by decide) (by decide) (by decide) dX11_init_85 (fun cl hb_cl hn_cl hl_cl => ?_)
  have t_cl : tm < cl := hl_cl _ _ (x15 _ _ n_tm_a0 f14)
  refine G.opq (fun V16 hV16 => ?_)
  have x16 : ∀ (q : Nat) (e : va_E), V15 q = some e → V16 q = some e := fun q e h => by rw [hV16, upv_ne (fun z => by subst z; rw [hn_cl] at h; cases h)]; exact h
  have f16 : V16 cl = some (vI Z 0 8 (fun _ => 0)) := by rw [hV16]; exact upv_eq _ _ _
  have n_cl_a0 : cl ≠ a0 := by omega
  refine g_putF (C := RX11) (F := TX11) (N := 9) (ci := 11) (ty := .array .int) (pc := 87) (x16 _ _ f15) rfl inX11 tyX11 tyX11_ok nmX11 8 (by decide) flX11_46 rfl rfl rfl (fun _ _ _ h => h.2) (by decide +kernel) rfl rfl (by show 8 < 9; decide) hb0 dX11_init_87 ?_
  refine G.opq (fun V17 hV17 => ?_)
  have x17 : ∀ (q : Nat) (e : va_E), q ≠ a0 → V16 q = some e → V17 q = some e := fun q e hq h => by rw [hV17, upv_ne hq]; exact h
  have f17 : V17 a0 = some (vO 11 [.ref mA, .ref mB, .ref mC, .int (nI 0), .ref sh, .ref wX, .ref wY, .ref tm, .ref cl]) := by rw [hV17]; exact upv_eq _ _ _
  refine g_iconst (v := nI 0) (pc := 90) dX11_init_90 (by decide) ?_
  refine g_istore_n (lv' := [(1, .int (nI 0)), (0, .ref a0)]) (pc := 91) dX11_init_91 rfl (by decide) rfl ?_
  have n_a0_sh : a0 ≠ sh := by omega
  have n_mA_sh : mA ≠ sh := by omega
  have n_cA_sh : cA ≠ sh := by omega
  have n_pA_sh : pA ≠ sh := by omega
  have n_hA_sh : hA ≠ sh := by omega
  have n_uA_sh : uA ≠ sh := by omega
  have n_kA_sh : kA ≠ sh := by omega
  have n_mB_sh : mB ≠ sh := by omega
  have n_cB_sh : cB ≠ sh := by omega
  have n_pB_sh : pB ≠ sh := by omega
  have n_hB_sh : hB ≠ sh := by omega
  have n_uB_sh : uB ≠ sh := by omega
  have n_kB_sh : kB ≠ sh := by omega
  have n_mC_sh : mC ≠ sh := by omega
  have n_cC_sh : cC ≠ sh := by omega
  have n_pC_sh : pC ≠ sh := by omega
  have n_hC_sh : hC ≠ sh := by omega
  have n_uC_sh : uC ≠ sh := by omega
  have n_kC_sh : kC ≠ sh := by omega
  have n_wX_sh : wX ≠ sh := by omega
  have n_wX1_sh : wX1 ≠ sh := by omega
  have n_wX2_sh : wX2 ≠ sh := by omega
  have n_wX3_sh : wX3 ≠ sh := by omega
  have n_wX4_sh : wX4 ≠ sh := by omega
  have n_wX5_sh : wX5 ≠ sh := by omega
  have n_wX6_sh : wX6 ≠ sh := by omega
  have n_wY_sh : wY ≠ sh := by omega
  have n_wY1_sh : wY1 ≠ sh := by omega
  have n_wY2_sh : wY2 ≠ sh := by omega
  have n_wY3_sh : wY3 ≠ sh := by omega
  have n_wY4_sh : wY4 ≠ sh := by omega
  have n_wY5_sh : wY5 ≠ sh := by omega
  have n_wY6_sh : wY6 ≠ sh := by omega
  have n_tm_sh : tm ≠ sh := by omega
  have n_cl_sh : cl ≠ sh := by omega
  refine g_iload_n (q := 0) (pc := 92) dX11_init_92 rfl rfl ?_
  refine g_bipush (v := nI 8) (pc := 93) dX11_init_93 (by decide) ?_
  refine g_icmp_ge_N (tgt := 117) (pc := 95) (by decide) (by decide) dX11_init_95 (by decide) (fun c1 => absurd c1 (by decide)) (fun _ => ?_)
  refine g_aload_n (q := 1) (pc := 98) dX11_init_98 rfl rfl ?_
  refine g_get (C := RX11) (F := TX11) (N := 9) (ci := 11) (pc := 99) f17 rfl inX11 4 (by decide) flX11_28 (Or.inl rfl) rfl dX11_init_99 ?_
  refine g_iload_n (q := 0) (pc := 102) dX11_init_102 rfl rfl ?_
  refine g_new (C := RX7) (F := TX7) (N := 4) (ci := 7) (fs := [.null, .int 0, .int 0, .null]) (pc := 103) inX7 tyX7 tyX7_ok clX11_26 insX7 iniX7 rfl (by decide) (by decide) (by decide) dX11_init_103 (fun s0 hb_s0 hn_s0 hl_s0 => ?_)
  have t_s0 : cl < s0 := hl_s0 _ _ (x17 _ _ n_cl_a0 f16)
  refine g_dup (pc := 106) dX11_init_106 rfl ?_
  refine G.opq (fun U_s0 hU_s0 => ?_)
  have u_s0 : U_s0 s0 = some (vO 7 [.null, .int 0, .int 0, .null]) := by rw [hU_s0]; exact upv_eq _ _ _
  refine g_callIN (ret := none) (As := []) (rest := [.ref s0, .int (nI 0), .ref sh]) (pc := 107) rfl (c_X7_init u_s0 hb_s0) (host := RX11) (fun _ h => h.2.1) mX7_init ⟨Nat.le_of_ble_eq_true rfl, Nat.le_of_ble_eq_true rfl⟩ rfl rfl (Nat.le_of_ble_eq_true rfl) dX11_init_107 (by decide) (fun v9 V18 h9 => ?_)
  obtain ⟨rfl, e0, t_e0, g18_s0, g18_e0, hx18⟩ := h9
  refine G.eqst (k2 := 37) (n2 := 862) (st2 := [.ref s0, .int (nI 0), .ref sh]) rfl rfl rfl ?_
  have x18 : ∀ (q : Nat) (e : va_E), V17 q = some e → V18 q = some e := fun q e h => by
    have h1 : q ≠ s0 := fun z => by
      subst z; rw [hn_s0] at h; cases h
    exact hx18 q e h1 (by rw [hU_s0, upv_ne h1]; exact h)
  have n_s0_a0 : s0 ≠ a0 := by omega
  have n_s0_sh : s0 ≠ sh := by omega
  have n_e0_a0 : e0 ≠ a0 := by omega
  have n_e0_sh : e0 ≠ sh := by omega
  refine g_aast3 (C := RX7) (F := TX7) (N := 8) (N1 := 4) (ci := 7) (pc := 110) (x18 _ _ (x17 _ _ n_sh_a0 (x16 _ _ (x15 _ _ n_sh_a0 (x14 _ _ (x13 _ _ n_sh_a0 (x12 _ _ (x11 _ _ n_sh_a0 (x10 _ _ (x9 _ _ n_sh_a0 f8)))))))))) g18_s0 rfl (vp_inN (by decide) (by decide)) hb_sh dX11_init_110 ?_
  refine G.opq (fun V19 hV19 => ?_)
  have x19 : ∀ (q : Nat) (e : va_E), q ≠ sh → V18 q = some e → V19 q = some e := fun q e hq h => by rw [hV19, upv_ne hq]; exact h
  have f19 : V19 sh = some (vQ Z 3 8 (va_up (fun _ => none) 0 (some s0))) := by rw [hV19, upv_eq, nI_toNat (by decide)]
  refine g_iinc (q := 0) (lv' := [(1, .int (nI 1)), (0, .ref a0)]) (pc := 111) dX11_init_111 rfl (by decide) (by decide) rfl ?_
  refine g_goto (tgt := 92) (pc := 114) dX11_init_114 (by decide) ?_
  refine g_iload_n (q := 0) (pc := 92) dX11_init_92 rfl rfl ?_
  refine g_bipush (v := nI 8) (pc := 93) dX11_init_93 (by decide) ?_
  refine g_icmp_ge_N (tgt := 117) (pc := 95) (by decide) (by decide) dX11_init_95 (by decide) (fun c1 => absurd c1 (by decide)) (fun _ => ?_)
  refine g_aload_n (q := 1) (pc := 98) dX11_init_98 rfl rfl ?_
  refine g_get (C := RX11) (F := TX11) (N := 9) (ci := 11) (pc := 99) (x19 _ _ n_a0_sh (x18 _ _ f17)) rfl inX11 4 (by decide) flX11_28 (Or.inl rfl) rfl dX11_init_99 ?_
  refine g_iload_n (q := 0) (pc := 102) dX11_init_102 rfl rfl ?_
  refine g_new (C := RX7) (F := TX7) (N := 4) (ci := 7) (fs := [.null, .int 0, .int 0, .null]) (pc := 103) inX7 tyX7 tyX7_ok clX11_26 insX7 iniX7 rfl (by decide) (by decide) (by decide) dX11_init_103 (fun s1 hb_s1 hn_s1 hl_s1 => ?_)
  have t_s1 : e0 < s1 := hl_s1 _ _ (x19 _ _ n_e0_sh g18_e0)
  refine g_dup (pc := 106) dX11_init_106 rfl ?_
  refine G.opq (fun U_s1 hU_s1 => ?_)
  have u_s1 : U_s1 s1 = some (vO 7 [.null, .int 0, .int 0, .null]) := by rw [hU_s1]; exact upv_eq _ _ _
  refine g_callIN (ret := none) (As := []) (rest := [.ref s1, .int (nI 1), .ref sh]) (pc := 107) rfl (c_X7_init u_s1 hb_s1) (host := RX11) (fun _ h => h.2.1) mX7_init ⟨Nat.le_of_ble_eq_true rfl, Nat.le_of_ble_eq_true rfl⟩ rfl rfl (Nat.le_of_ble_eq_true rfl) dX11_init_107 (by decide) (fun v9 V20 h9 => ?_)
  obtain ⟨rfl, e1, t_e1, g20_s1, g20_e1, hx20⟩ := h9
  refine G.eqst (k2 := 39) (n2 := 966) (st2 := [.ref s1, .int (nI 1), .ref sh]) rfl rfl rfl ?_
  have x20 : ∀ (q : Nat) (e : va_E), V19 q = some e → V20 q = some e := fun q e h => by
    have h1 : q ≠ s1 := fun z => by
      subst z; rw [hn_s1] at h; cases h
    exact hx20 q e h1 (by rw [hU_s1, upv_ne h1]; exact h)
  have n_s1_a0 : s1 ≠ a0 := by omega
  have n_s1_sh : s1 ≠ sh := by omega
  have n_e1_a0 : e1 ≠ a0 := by omega
  have n_e1_sh : e1 ≠ sh := by omega
  refine g_aast3 (C := RX7) (F := TX7) (N := 8) (N1 := 4) (ci := 7) (pc := 110) (x20 _ _ f19) g20_s1 rfl (vp_inN (by decide) (by decide)) hb_sh dX11_init_110 ?_
  refine G.opq (fun V21 hV21 => ?_)
  have x21 : ∀ (q : Nat) (e : va_E), q ≠ sh → V20 q = some e → V21 q = some e := fun q e hq h => by rw [hV21, upv_ne hq]; exact h
  have f21 : V21 sh = some (vQ Z 3 8 (va_up (va_up (fun _ => none) 0 (some s0)) 1 (some s1))) := by rw [hV21, upv_eq, nI_toNat (by decide)]
  refine g_iinc (q := 0) (lv' := [(1, .int (nI 2)), (0, .ref a0)]) (pc := 111) dX11_init_111 rfl (by decide) (by decide) rfl ?_
  refine g_goto (tgt := 92) (pc := 114) dX11_init_114 (by decide) ?_
  refine g_iload_n (q := 0) (pc := 92) dX11_init_92 rfl rfl ?_
  refine g_bipush (v := nI 8) (pc := 93) dX11_init_93 (by decide) ?_
  refine g_icmp_ge_N (tgt := 117) (pc := 95) (by decide) (by decide) dX11_init_95 (by decide) (fun c1 => absurd c1 (by decide)) (fun _ => ?_)
  refine g_aload_n (q := 1) (pc := 98) dX11_init_98 rfl rfl ?_
  refine g_get (C := RX11) (F := TX11) (N := 9) (ci := 11) (pc := 99) (x21 _ _ n_a0_sh (x20 _ _ (x19 _ _ n_a0_sh (x18 _ _ f17)))) rfl inX11 4 (by decide) flX11_28 (Or.inl rfl) rfl dX11_init_99 ?_
  refine g_iload_n (q := 0) (pc := 102) dX11_init_102 rfl rfl ?_
  refine g_new (C := RX7) (F := TX7) (N := 4) (ci := 7) (fs := [.null, .int 0, .int 0, .null]) (pc := 103) inX7 tyX7 tyX7_ok clX11_26 insX7 iniX7 rfl (by decide) (by decide) (by decide) dX11_init_103 (fun s2 hb_s2 hn_s2 hl_s2 => ?_)
  have t_s2 : e1 < s2 := hl_s2 _ _ (x21 _ _ n_e1_sh g20_e1)
  refine g_dup (pc := 106) dX11_init_106 rfl ?_
  refine G.opq (fun U_s2 hU_s2 => ?_)
  have u_s2 : U_s2 s2 = some (vO 7 [.null, .int 0, .int 0, .null]) := by rw [hU_s2]; exact upv_eq _ _ _
  refine g_callIN (ret := none) (As := []) (rest := [.ref s2, .int (nI 2), .ref sh]) (pc := 107) rfl (c_X7_init u_s2 hb_s2) (host := RX11) (fun _ h => h.2.1) mX7_init ⟨Nat.le_of_ble_eq_true rfl, Nat.le_of_ble_eq_true rfl⟩ rfl rfl (Nat.le_of_ble_eq_true rfl) dX11_init_107 (by decide) (fun v9 V22 h9 => ?_)
  obtain ⟨rfl, e2, t_e2, g22_s2, g22_e2, hx22⟩ := h9
  refine G.eqst (k2 := 41) (n2 := 1070) (st2 := [.ref s2, .int (nI 2), .ref sh]) rfl rfl rfl ?_
  have x22 : ∀ (q : Nat) (e : va_E), V21 q = some e → V22 q = some e := fun q e h => by
    have h1 : q ≠ s2 := fun z => by
      subst z; rw [hn_s2] at h; cases h
    exact hx22 q e h1 (by rw [hU_s2, upv_ne h1]; exact h)
  have n_s2_a0 : s2 ≠ a0 := by omega
  have n_s2_sh : s2 ≠ sh := by omega
  have n_e2_a0 : e2 ≠ a0 := by omega
  have n_e2_sh : e2 ≠ sh := by omega
  refine g_aast3 (C := RX7) (F := TX7) (N := 8) (N1 := 4) (ci := 7) (pc := 110) (x22 _ _ f21) g22_s2 rfl (vp_inN (by decide) (by decide)) hb_sh dX11_init_110 ?_
  refine G.opq (fun V23 hV23 => ?_)
  have x23 : ∀ (q : Nat) (e : va_E), q ≠ sh → V22 q = some e → V23 q = some e := fun q e hq h => by rw [hV23, upv_ne hq]; exact h
  have f23 : V23 sh = some (vQ Z 3 8 (va_up (va_up (va_up (fun _ => none) 0 (some s0)) 1 (some s1)) 2 (some s2))) := by rw [hV23, upv_eq, nI_toNat (by decide)]
  refine g_iinc (q := 0) (lv' := [(1, .int (nI 3)), (0, .ref a0)]) (pc := 111) dX11_init_111 rfl (by decide) (by decide) rfl ?_
  refine g_goto (tgt := 92) (pc := 114) dX11_init_114 (by decide) ?_
  refine g_iload_n (q := 0) (pc := 92) dX11_init_92 rfl rfl ?_
  refine g_bipush (v := nI 8) (pc := 93) dX11_init_93 (by decide) ?_
  refine g_icmp_ge_N (tgt := 117) (pc := 95) (by decide) (by decide) dX11_init_95 (by decide) (fun c1 => absurd c1 (by decide)) (fun _ => ?_)
  refine g_aload_n (q := 1) (pc := 98) dX11_init_98 rfl rfl ?_
  refine g_get (C := RX11) (F := TX11) (N := 9) (ci := 11) (pc := 99) (x23 _ _ n_a0_sh (x22 _ _ (x21 _ _ n_a0_sh (x20 _ _ (x19 _ _ n_a0_sh (x18 _ _ f17)))))) rfl inX11 4 (by decide) flX11_28 (Or.inl rfl) rfl dX11_init_99 ?_
  refine g_iload_n (q := 0) (pc := 102) dX11_init_102 rfl rfl ?_
  refine g_new (C := RX7) (F := TX7) (N := 4) (ci := 7) (fs := [.null, .int 0, .int 0, .null]) (pc := 103) inX7 tyX7 tyX7_ok clX11_26 insX7 iniX7 rfl (by decide) (by decide) (by decide) dX11_init_103 (fun s3 hb_s3 hn_s3 hl_s3 => ?_)
  have t_s3 : e2 < s3 := hl_s3 _ _ (x23 _ _ n_e2_sh g22_e2)
  refine g_dup (pc := 106) dX11_init_106 rfl ?_
  refine G.opq (fun U_s3 hU_s3 => ?_)
  have u_s3 : U_s3 s3 = some (vO 7 [.null, .int 0, .int 0, .null]) := by rw [hU_s3]; exact upv_eq _ _ _
  refine g_callIN (ret := none) (As := []) (rest := [.ref s3, .int (nI 3), .ref sh]) (pc := 107) rfl (c_X7_init u_s3 hb_s3) (host := RX11) (fun _ h => h.2.1) mX7_init ⟨Nat.le_of_ble_eq_true rfl, Nat.le_of_ble_eq_true rfl⟩ rfl rfl (Nat.le_of_ble_eq_true rfl) dX11_init_107 (by decide) (fun v9 V24 h9 => ?_)
  obtain ⟨rfl, e3, t_e3, g24_s3, g24_e3, hx24⟩ := h9
  refine G.eqst (k2 := 43) (n2 := 1174) (st2 := [.ref s3, .int (nI 3), .ref sh]) rfl rfl rfl ?_
  have x24 : ∀ (q : Nat) (e : va_E), V23 q = some e → V24 q = some e := fun q e h => by
    have h1 : q ≠ s3 := fun z => by
      subst z; rw [hn_s3] at h; cases h
    exact hx24 q e h1 (by rw [hU_s3, upv_ne h1]; exact h)
  have n_s3_a0 : s3 ≠ a0 := by omega
  have n_s3_sh : s3 ≠ sh := by omega
  have n_e3_a0 : e3 ≠ a0 := by omega
  have n_e3_sh : e3 ≠ sh := by omega
  refine g_aast3 (C := RX7) (F := TX7) (N := 8) (N1 := 4) (ci := 7) (pc := 110) (x24 _ _ f23) g24_s3 rfl (vp_inN (by decide) (by decide)) hb_sh dX11_init_110 ?_
  refine G.opq (fun V25 hV25 => ?_)
  have x25 : ∀ (q : Nat) (e : va_E), q ≠ sh → V24 q = some e → V25 q = some e := fun q e hq h => by rw [hV25, upv_ne hq]; exact h
  have f25 : V25 sh = some (vQ Z 3 8 (va_up (va_up (va_up (va_up (fun _ => none) 0 (some s0)) 1 (some s1)) 2 (some s2)) 3 (some s3))) := by rw [hV25, upv_eq, nI_toNat (by decide)]
  refine g_iinc (q := 0) (lv' := [(1, .int (nI 4)), (0, .ref a0)]) (pc := 111) dX11_init_111 rfl (by decide) (by decide) rfl ?_
  refine g_goto (tgt := 92) (pc := 114) dX11_init_114 (by decide) ?_
  refine g_iload_n (q := 0) (pc := 92) dX11_init_92 rfl rfl ?_
  refine g_bipush (v := nI 8) (pc := 93) dX11_init_93 (by decide) ?_
  refine g_icmp_ge_N (tgt := 117) (pc := 95) (by decide) (by decide) dX11_init_95 (by decide) (fun c1 => absurd c1 (by decide)) (fun _ => ?_)
  refine g_aload_n (q := 1) (pc := 98) dX11_init_98 rfl rfl ?_
  refine g_get (C := RX11) (F := TX11) (N := 9) (ci := 11) (pc := 99) (x25 _ _ n_a0_sh (x24 _ _ (x23 _ _ n_a0_sh (x22 _ _ (x21 _ _ n_a0_sh (x20 _ _ (x19 _ _ n_a0_sh (x18 _ _ f17)))))))) rfl inX11 4 (by decide) flX11_28 (Or.inl rfl) rfl dX11_init_99 ?_
  refine g_iload_n (q := 0) (pc := 102) dX11_init_102 rfl rfl ?_
  refine g_new (C := RX7) (F := TX7) (N := 4) (ci := 7) (fs := [.null, .int 0, .int 0, .null]) (pc := 103) inX7 tyX7 tyX7_ok clX11_26 insX7 iniX7 rfl (by decide) (by decide) (by decide) dX11_init_103 (fun s4 hb_s4 hn_s4 hl_s4 => ?_)
  have t_s4 : e3 < s4 := hl_s4 _ _ (x25 _ _ n_e3_sh g24_e3)
  refine g_dup (pc := 106) dX11_init_106 rfl ?_
  refine G.opq (fun U_s4 hU_s4 => ?_)
  have u_s4 : U_s4 s4 = some (vO 7 [.null, .int 0, .int 0, .null]) := by rw [hU_s4]; exact upv_eq _ _ _
  refine g_callIN (ret := none) (As := []) (rest := [.ref s4, .int (nI 4), .ref sh]) (pc := 107) rfl (c_X7_init u_s4 hb_s4) (host := RX11) (fun _ h => h.2.1) mX7_init ⟨Nat.le_of_ble_eq_true rfl, Nat.le_of_ble_eq_true rfl⟩ rfl rfl (Nat.le_of_ble_eq_true rfl) dX11_init_107 (by decide) (fun v9 V26 h9 => ?_)
  obtain ⟨rfl, e4, t_e4, g26_s4, g26_e4, hx26⟩ := h9
  refine G.eqst (k2 := 45) (n2 := 1278) (st2 := [.ref s4, .int (nI 4), .ref sh]) rfl rfl rfl ?_
  have x26 : ∀ (q : Nat) (e : va_E), V25 q = some e → V26 q = some e := fun q e h => by
    have h1 : q ≠ s4 := fun z => by
      subst z; rw [hn_s4] at h; cases h
    exact hx26 q e h1 (by rw [hU_s4, upv_ne h1]; exact h)
  have n_s4_a0 : s4 ≠ a0 := by omega
  have n_s4_sh : s4 ≠ sh := by omega
  have n_e4_a0 : e4 ≠ a0 := by omega
  have n_e4_sh : e4 ≠ sh := by omega
  refine g_aast3 (C := RX7) (F := TX7) (N := 8) (N1 := 4) (ci := 7) (pc := 110) (x26 _ _ f25) g26_s4 rfl (vp_inN (by decide) (by decide)) hb_sh dX11_init_110 ?_
  refine G.opq (fun V27 hV27 => ?_)
  have x27 : ∀ (q : Nat) (e : va_E), q ≠ sh → V26 q = some e → V27 q = some e := fun q e hq h => by rw [hV27, upv_ne hq]; exact h
  have f27 : V27 sh = some (vQ Z 3 8 (va_up (va_up (va_up (va_up (va_up (fun _ => none) 0 (some s0)) 1 (some s1)) 2 (some s2)) 3 (some s3)) 4 (some s4))) := by rw [hV27, upv_eq, nI_toNat (by decide)]
  refine g_iinc (q := 0) (lv' := [(1, .int (nI 5)), (0, .ref a0)]) (pc := 111) dX11_init_111 rfl (by decide) (by decide) rfl ?_
  refine g_goto (tgt := 92) (pc := 114) dX11_init_114 (by decide) ?_
  refine g_iload_n (q := 0) (pc := 92) dX11_init_92 rfl rfl ?_
  refine g_bipush (v := nI 8) (pc := 93) dX11_init_93 (by decide) ?_
  refine g_icmp_ge_N (tgt := 117) (pc := 95) (by decide) (by decide) dX11_init_95 (by decide) (fun c1 => absurd c1 (by decide)) (fun _ => ?_)
  refine g_aload_n (q := 1) (pc := 98) dX11_init_98 rfl rfl ?_
  refine g_get (C := RX11) (F := TX11) (N := 9) (ci := 11) (pc := 99) (x27 _ _ n_a0_sh (x26 _ _ (x25 _ _ n_a0_sh (x24 _ _ (x23 _ _ n_a0_sh (x22 _ _ (x21 _ _ n_a0_sh (x20 _ _ (x19 _ _ n_a0_sh (x18 _ _ f17)))))))))) rfl inX11 4 (by decide) flX11_28 (Or.inl rfl) rfl dX11_init_99 ?_
  refine g_iload_n (q := 0) (pc := 102) dX11_init_102 rfl rfl ?_
  refine g_new (C := RX7) (F := TX7) (N := 4) (ci := 7) (fs := [.null, .int 0, .int 0, .null]) (pc := 103) inX7 tyX7 tyX7_ok clX11_26 insX7 iniX7 rfl (by decide) (by decide) (by decide) dX11_init_103 (fun s5 hb_s5 hn_s5 hl_s5 => ?_)
  have t_s5 : e4 < s5 := hl_s5 _ _ (x27 _ _ n_e4_sh g26_e4)
  refine g_dup (pc := 106) dX11_init_106 rfl ?_
  refine G.opq (fun U_s5 hU_s5 => ?_)
  have u_s5 : U_s5 s5 = some (vO 7 [.null, .int 0, .int 0, .null]) := by rw [hU_s5]; exact upv_eq _ _ _
  refine g_callIN (ret := none) (As := []) (rest := [.ref s5, .int (nI 5), .ref sh]) (pc := 107) rfl (c_X7_init u_s5 hb_s5) (host := RX11) (fun _ h => h.2.1) mX7_init ⟨Nat.le_of_ble_eq_true rfl, Nat.le_of_ble_eq_true rfl⟩ rfl rfl (Nat.le_of_ble_eq_true rfl) dX11_init_107 (by decide) (fun v9 V28 h9 => ?_)
  obtain ⟨rfl, e5, t_e5, g28_s5, g28_e5, hx28⟩ := h9
  refine G.eqst (k2 := 47) (n2 := 1382) (st2 := [.ref s5, .int (nI 5), .ref sh]) rfl rfl rfl ?_
  have x28 : ∀ (q : Nat) (e : va_E), V27 q = some e → V28 q = some e := fun q e h => by
    have h1 : q ≠ s5 := fun z => by
      subst z; rw [hn_s5] at h; cases h
    exact hx28 q e h1 (by rw [hU_s5, upv_ne h1]; exact h)
  have n_s5_a0 : s5 ≠ a0 := by omega
  have n_s5_sh : s5 ≠ sh := by omega
  have n_e5_a0 : e5 ≠ a0 := by omega
  have n_e5_sh : e5 ≠ sh := by omega
  refine g_aast3 (C := RX7) (F := TX7) (N := 8) (N1 := 4) (ci := 7) (pc := 110) (x28 _ _ f27) g28_s5 rfl (vp_inN (by decide) (by decide)) hb_sh dX11_init_110 ?_
  refine G.opq (fun V29 hV29 => ?_)
  have x29 : ∀ (q : Nat) (e : va_E), q ≠ sh → V28 q = some e → V29 q = some e := fun q e hq h => by rw [hV29, upv_ne hq]; exact h
  have f29 : V29 sh = some (vQ Z 3 8 (va_up (va_up (va_up (va_up (va_up (va_up (fun _ => none) 0 (some s0)) 1 (some s1)) 2 (some s2)) 3 (some s3)) 4 (some s4)) 5 (some s5))) := by rw [hV29, upv_eq, nI_toNat (by decide)]
  refine g_iinc (q := 0) (lv' := [(1, .int (nI 6)), (0, .ref a0)]) (pc := 111) dX11_init_111 rfl (by decide) (by decide) rfl ?_
  refine g_goto (tgt := 92) (pc := 114) dX11_init_114 (by decide) ?_
  refine g_iload_n (q := 0) (pc := 92) dX11_init_92 rfl rfl ?_
  refine g_bipush (v := nI 8) (pc := 93) dX11_init_93 (by decide) ?_
  refine g_icmp_ge_N (tgt := 117) (pc := 95) (by decide) (by decide) dX11_init_95 (by decide) (fun c1 => absurd c1 (by decide)) (fun _ => ?_)
  refine g_aload_n (q := 1) (pc := 98) dX11_init_98 rfl rfl ?_
  refine g_get (C := RX11) (F := TX11) (N := 9) (ci := 11) (pc := 99) (x29 _ _ n_a0_sh (x28 _ _ (x27 _ _ n_a0_sh (x26 _ _ (x25 _ _ n_a0_sh (x24 _ _ (x23 _ _ n_a0_sh (x22 _ _ (x21 _ _ n_a0_sh (x20 _ _ (x19 _ _ n_a0_sh (x18 _ _ f17)))))))))))) rfl inX11 4 (by decide) flX11_28 (Or.inl rfl) rfl dX11_init_99 ?_
  refine g_iload_n (q := 0) (pc := 102) dX11_init_102 rfl rfl ?_
  refine g_new (C := RX7) (F := TX7) (N := 4) (ci := 7) (fs := [.null, .int 0, .int 0, .null]) (pc := 103) inX7 tyX7 tyX7_ok clX11_26 insX7 iniX7 rfl (by decide) (by decide) (by decide) dX11_init_103 (fun s6 hb_s6 hn_s6 hl_s6 => ?_)
  have t_s6 : e5 < s6 := hl_s6 _ _ (x29 _ _ n_e5_sh g28_e5)
  refine g_dup (pc := 106) dX11_init_106 rfl ?_
  refine G.opq (fun U_s6 hU_s6 => ?_)
  have u_s6 : U_s6 s6 = some (vO 7 [.null, .int 0, .int 0, .null]) := by rw [hU_s6]; exact upv_eq _ _ _
  refine g_callIN (ret := none) (As := []) (rest := [.ref s6, .int (nI 6), .ref sh]) (pc := 107) rfl (c_X7_init u_s6 hb_s6) (host := RX11) (fun _ h => h.2.1) mX7_init ⟨Nat.le_of_ble_eq_true rfl, Nat.le_of_ble_eq_true rfl⟩ rfl rfl (Nat.le_of_ble_eq_true rfl) dX11_init_107 (by decide) (fun v9 V30 h9 => ?_)
  obtain ⟨rfl, e6, t_e6, g30_s6, g30_e6, hx30⟩ := h9
  refine G.eqst (k2 := 49) (n2 := 1486) (st2 := [.ref s6, .int (nI 6), .ref sh]) rfl rfl rfl ?_
  have x30 : ∀ (q : Nat) (e : va_E), V29 q = some e → V30 q = some e := fun q e h => by
    have h1 : q ≠ s6 := fun z => by
      subst z; rw [hn_s6] at h; cases h
    exact hx30 q e h1 (by rw [hU_s6, upv_ne h1]; exact h)
  have n_s6_a0 : s6 ≠ a0 := by omega
  have n_s6_sh : s6 ≠ sh := by omega
  have n_e6_a0 : e6 ≠ a0 := by omega
  have n_e6_sh : e6 ≠ sh := by omega
  refine g_aast3 (C := RX7) (F := TX7) (N := 8) (N1 := 4) (ci := 7) (pc := 110) (x30 _ _ f29) g30_s6 rfl (vp_inN (by decide) (by decide)) hb_sh dX11_init_110 ?_
  refine G.opq (fun V31 hV31 => ?_)
  have x31 : ∀ (q : Nat) (e : va_E), q ≠ sh → V30 q = some e → V31 q = some e := fun q e hq h => by rw [hV31, upv_ne hq]; exact h
  have f31 : V31 sh = some (vQ Z 3 8 (va_up (va_up (va_up (va_up (va_up (va_up (va_up (fun _ => none) 0 (some s0)) 1 (some s1)) 2 (some s2)) 3 (some s3)) 4 (some s4)) 5 (some s5)) 6 (some s6))) := by rw [hV31, upv_eq, nI_toNat (by decide)]
  refine g_iinc (q := 0) (lv' := [(1, .int (nI 7)), (0, .ref a0)]) (pc := 111) dX11_init_111 rfl (by decide) (by decide) rfl ?_
  refine g_goto (tgt := 92) (pc := 114) dX11_init_114 (by decide) ?_
  refine g_iload_n (q := 0) (pc := 92) dX11_init_92 rfl rfl ?_
  refine g_bipush (v := nI 8) (pc := 93) dX11_init_93 (by decide) ?_
  refine g_icmp_ge_N (tgt := 117) (pc := 95) (by decide) (by decide) dX11_init_95 (by decide) (fun c1 => absurd c1 (by decide)) (fun _ => ?_)
  refine g_aload_n (q := 1) (pc := 98) dX11_init_98 rfl rfl ?_
  refine g_get (C := RX11) (F := TX11) (N := 9) (ci := 11) (pc := 99) (x31 _ _ n_a0_sh (x30 _ _ (x29 _ _ n_a0_sh (x28 _ _ (x27 _ _ n_a0_sh (x26 _ _ (x25 _ _ n_a0_sh (x24 _ _ (x23 _ _ n_a0_sh (x22 _ _ (x21 _ _ n_a0_sh (x20 _ _ (x19 _ _ n_a0_sh (x18 _ _ f17)))))))))))))) rfl inX11 4 (by decide) flX11_28 (Or.inl rfl) rfl dX11_init_99 ?_
  refine g_iload_n (q := 0) (pc := 102) dX11_init_102 rfl rfl ?_
  refine g_new (C := RX7) (F := TX7) (N := 4) (ci := 7) (fs := [.null, .int 0, .int 0, .null]) (pc := 103) inX7 tyX7 tyX7_ok clX11_26 insX7 iniX7 rfl (by decide) (by decide) (by decide) dX11_init_103 (fun s7 hb_s7 hn_s7 hl_s7 => ?_)
  have t_s7 : e6 < s7 := hl_s7 _ _ (x31 _ _ n_e6_sh g30_e6)
  refine g_dup (pc := 106) dX11_init_106 rfl ?_
  refine G.opq (fun U_s7 hU_s7 => ?_)
  have u_s7 : U_s7 s7 = some (vO 7 [.null, .int 0, .int 0, .null]) := by rw [hU_s7]; exact upv_eq _ _ _
  refine g_callIN (ret := none) (As := []) (rest := [.ref s7, .int (nI 7), .ref sh]) (pc := 107) rfl (c_X7_init u_s7 hb_s7) (host := RX11) (fun _ h => h.2.1) mX7_init ⟨Nat.le_of_ble_eq_true rfl, Nat.le_of_ble_eq_true rfl⟩ rfl rfl (Nat.le_of_ble_eq_true rfl) dX11_init_107 (by decide) (fun v9 V32 h9 => ?_)
  obtain ⟨rfl, e7, t_e7, g32_s7, g32_e7, hx32⟩ := h9
  refine G.eqst (k2 := 51) (n2 := 1590) (st2 := [.ref s7, .int (nI 7), .ref sh]) rfl rfl rfl ?_
  have x32 : ∀ (q : Nat) (e : va_E), V31 q = some e → V32 q = some e := fun q e h => by
    have h1 : q ≠ s7 := fun z => by
      subst z; rw [hn_s7] at h; cases h
    exact hx32 q e h1 (by rw [hU_s7, upv_ne h1]; exact h)
  have n_s7_a0 : s7 ≠ a0 := by omega
  have n_s7_sh : s7 ≠ sh := by omega
  have n_e7_a0 : e7 ≠ a0 := by omega
  have n_e7_sh : e7 ≠ sh := by omega
  refine g_aast3 (C := RX7) (F := TX7) (N := 8) (N1 := 4) (ci := 7) (pc := 110) (x32 _ _ f31) g32_s7 rfl (vp_inN (by decide) (by decide)) hb_sh dX11_init_110 ?_
  refine G.opq (fun V33 hV33 => ?_)
  have x33 : ∀ (q : Nat) (e : va_E), q ≠ sh → V32 q = some e → V33 q = some e := fun q e hq h => by rw [hV33, upv_ne hq]; exact h
  have f33 : V33 sh = some (vQ Z 3 8 (va_up (va_up (va_up (va_up (va_up (va_up (va_up (va_up (fun _ => none) 0 (some s0)) 1 (some s1)) 2 (some s2)) 3 (some s3)) 4 (some s4)) 5 (some s5)) 6 (some s6)) 7 (some s7))) := by rw [hV33, upv_eq, nI_toNat (by decide)]
  refine g_iinc (q := 0) (lv' := [(1, .int (nI 8)), (0, .ref a0)]) (pc := 111) dX11_init_111 rfl (by decide) (by decide) rfl ?_
  refine g_goto (tgt := 92) (pc := 114) dX11_init_114 (by decide) ?_
  refine g_iload_n (q := 0) (pc := 92) dX11_init_92 rfl rfl ?_
  refine g_bipush (v := nI 8) (pc := 93) dX11_init_93 (by decide) ?_
  refine g_icmp_ge_N (tgt := 117) (pc := 95) (by decide) (by decide) dX11_init_95 (by decide) (fun _ => ?_) (fun c1 => absurd c1 (by decide))
  obtain ⟨ad, had⟩ : ∃ ad : Nat → Nat, ad = (fun k => match k with | 0 => a0 | 1 => mA | 2 => cA | 3 => pA | 4 => hA | 5 => uA | 6 => kA | 7 => mB | 8 => cB | 9 => pB | 10 => hB | 11 => uB | 12 => kB | 13 => mC | 14 => cC | 15 => pC | 16 => hC | 17 => uC | 18 => kC | 19 => sh | 20 => wX | 21 => wX1 | 22 => wX2 | 23 => wX3 | 24 => wX4 | 25 => wX5 | 26 => wX6 | 27 => wY | 28 => wY1 | 29 => wY2 | 30 => wY3 | 31 => wY4 | 32 => wY5 | 33 => wY6 | 34 => tm | 35 => cl | 36 => s0 | 37 => e0 | 38 => s1 | 39 => e1 | 40 => s2 | 41 => e2 | 42 => s3 | 43 => e3 | 44 => s4 | 45 => e4 | 46 => s5 | 47 => e5 | 48 => s6 | 49 => e6 | 50 => s7 | _ => e7) := ⟨_, rfl⟩
  have d0 : ad 0 = a0 := congrFun had 0
  have d1 : ad 1 = mA := congrFun had 1
  have d2 : ad 2 = cA := congrFun had 2
  have d3 : ad 3 = pA := congrFun had 3
  have d4 : ad 4 = hA := congrFun had 4
  have d5 : ad 5 = uA := congrFun had 5
  have d6 : ad 6 = kA := congrFun had 6
  have d7 : ad 7 = mB := congrFun had 7
  have d8 : ad 8 = cB := congrFun had 8
  have d9 : ad 9 = pB := congrFun had 9
  have d10 : ad 10 = hB := congrFun had 10
  have d11 : ad 11 = uB := congrFun had 11
  have d12 : ad 12 = kB := congrFun had 12
  have d13 : ad 13 = mC := congrFun had 13
  have d14 : ad 14 = cC := congrFun had 14
  have d15 : ad 15 = pC := congrFun had 15
  have d16 : ad 16 = hC := congrFun had 16
  have d17 : ad 17 = uC := congrFun had 17
  have d18 : ad 18 = kC := congrFun had 18
  have d19 : ad 19 = sh := congrFun had 19
  have d20 : ad 20 = wX := congrFun had 20
  have d21 : ad 21 = wX1 := congrFun had 21
  have d22 : ad 22 = wX2 := congrFun had 22
  have d23 : ad 23 = wX3 := congrFun had 23
  have d24 : ad 24 = wX4 := congrFun had 24
  have d25 : ad 25 = wX5 := congrFun had 25
  have d26 : ad 26 = wX6 := congrFun had 26
  have d27 : ad 27 = wY := congrFun had 27
  have d28 : ad 28 = wY1 := congrFun had 28
  have d29 : ad 29 = wY2 := congrFun had 29
  have d30 : ad 30 = wY3 := congrFun had 30
  have d31 : ad 31 = wY4 := congrFun had 31
  have d32 : ad 32 = wY5 := congrFun had 32
  have d33 : ad 33 = wY6 := congrFun had 33
  have d34 : ad 34 = tm := congrFun had 34
  have d35 : ad 35 = cl := congrFun had 35
  have d36 : ad 36 = s0 := congrFun had 36
  have d37 : ad 37 = e0 := congrFun had 37
  have d38 : ad 38 = s1 := congrFun had 38
  have d39 : ad 39 = e1 := congrFun had 39
  have d40 : ad 40 = s2 := congrFun had 40
  have d41 : ad 41 = e2 := congrFun had 41
  have d42 : ad 42 = s3 := congrFun had 42
  have d43 : ad 43 = e3 := congrFun had 43
  have d44 : ad 44 = s4 := congrFun had 44
  have d45 : ad 45 = e4 := congrFun had 45
  have d46 : ad 46 = s5 := congrFun had 46
  have d47 : ad 47 = e5 := congrFun had 47
  have d48 : ad 48 = s6 := congrFun had 48
  have d49 : ad 49 = e6 := congrFun had 49
  have d50 : ad 50 = s7 := congrFun had 50
  have d51 : ad 51 = e7 := congrFun had 51
  have hmono : ∀ k, k + 1 < 52 → ad k < ad (k + 1) := fun k hk => by
    match k, hk with
    | 0, _ => rw [d0, d1]; exact t_mA
    | 1, _ => rw [d1, d2]; exact t_cA
    | 2, _ => rw [d2, d3]; exact t_pA
    | 3, _ => rw [d3, d4]; exact t_hA
    | 4, _ => rw [d4, d5]; exact t_uA
    | 5, _ => rw [d5, d6]; exact t_kA
    | 6, _ => rw [d6, d7]; exact t_mB
    | 7, _ => rw [d7, d8]; exact t_cB
    | 8, _ => rw [d8, d9]; exact t_pB
    | 9, _ => rw [d9, d10]; exact t_hB
    | 10, _ => rw [d10, d11]; exact t_uB
    | 11, _ => rw [d11, d12]; exact t_kB
    | 12, _ => rw [d12, d13]; exact t_mC
    | 13, _ => rw [d13, d14]; exact t_cC
    | 14, _ => rw [d14, d15]; exact t_pC
    | 15, _ => rw [d15, d16]; exact t_hC
    | 16, _ => rw [d16, d17]; exact t_uC
    | 17, _ => rw [d17, d18]; exact t_kC
    | 18, _ => rw [d18, d19]; exact t_sh
    | 19, _ => rw [d19, d20]; exact t_wX
    | 20, _ => rw [d20, d21]; exact t_wX1
    | 21, _ => rw [d21, d22]; exact t_wX2
    | 22, _ => rw [d22, d23]; exact t_wX3
    | 23, _ => rw [d23, d24]; exact t_wX4
    | 24, _ => rw [d24, d25]; exact t_wX5
    | 25, _ => rw [d25, d26]; exact t_wX6
    | 26, _ => rw [d26, d27]; exact t_wY
    | 27, _ => rw [d27, d28]; exact t_wY1
    | 28, _ => rw [d28, d29]; exact t_wY2
    | 29, _ => rw [d29, d30]; exact t_wY3
    | 30, _ => rw [d30, d31]; exact t_wY4
    | 31, _ => rw [d31, d32]; exact t_wY5
    | 32, _ => rw [d32, d33]; exact t_wY6
    | 33, _ => rw [d33, d34]; exact t_tm
    | 34, _ => rw [d34, d35]; exact t_cl
    | 35, _ => rw [d35, d36]; exact t_s0
    | 36, _ => rw [d36, d37]; exact t_e0
    | 37, _ => rw [d37, d38]; exact t_s1
    | 38, _ => rw [d38, d39]; exact t_e1
    | 39, _ => rw [d39, d40]; exact t_s2
    | 40, _ => rw [d40, d41]; exact t_e2
    | 41, _ => rw [d41, d42]; exact t_s3
    | 42, _ => rw [d42, d43]; exact t_e3
    | 43, _ => rw [d43, d44]; exact t_s4
    | 44, _ => rw [d44, d45]; exact t_e4
    | 45, _ => rw [d45, d46]; exact t_s5
    | 46, _ => rw [d46, d47]; exact t_e5
    | 47, _ => rw [d47, d48]; exact t_s6
    | 48, _ => rw [d48, d49]; exact t_e6
    | 49, _ => rw [d49, d50]; exact t_s7
    | 50, _ => rw [d50, d51]; exact t_e7
    | n + 51, hn => exact absurd hn (by omega)
  have hge : ∀ k, k < 52 → k ≠ 0 → mA ≤ ad k := fun k hk h0 => by
    have := adr_ge hmono k hk h0
    rw [d1] at this; exact this
  have hinj := mono_inj hmono
  obtain ⟨cd, hcd⟩ : ∃ cd : Nat → Nat, cd = (fun j => ad (piC j)) := ⟨_, rfl⟩
  have hcj : ∀ j, cd j = ad (piC j) := fun j => by rw [hcd]
  have c_0 : cd 0 = a0 := (hcj 0).trans d0
  have c_1 : cd 1 = mA := (hcj 1).trans d1
  have c_2 : cd 2 = mB := (hcj 2).trans d7
  have c_3 : cd 3 = mC := (hcj 3).trans d13
  have c_4 : cd 4 = cA := (hcj 4).trans d2
  have c_5 : cd 5 = pA := (hcj 5).trans d3
  have c_6 : cd 6 = hA := (hcj 6).trans d4
  have c_7 : cd 7 = cB := (hcj 7).trans d8
  have c_8 : cd 8 = pB := (hcj 8).trans d9
  have c_9 : cd 9 = hB := (hcj 9).trans d10
  have c_10 : cd 10 = cC := (hcj 10).trans d14
  have c_11 : cd 11 = pC := (hcj 11).trans d15
  have c_12 : cd 12 = hC := (hcj 12).trans d16
  have c_13 : cd 13 = sh := (hcj 13).trans d19
  have c_14 : cd 14 = wX := (hcj 14).trans d20
  have c_15 : cd 15 = wY := (hcj 15).trans d27
  have c_16 : cd 16 = wX1 := (hcj 16).trans d21
  have c_17 : cd 17 = wX2 := (hcj 17).trans d22
  have c_18 : cd 18 = wX3 := (hcj 18).trans d23
  have c_19 : cd 19 = wX4 := (hcj 19).trans d24
  have c_20 : cd 20 = wX5 := (hcj 20).trans d25
  have c_21 : cd 21 = wX6 := (hcj 21).trans d26
  have c_22 : cd 22 = wY1 := (hcj 22).trans d28
  have c_23 : cd 23 = wY2 := (hcj 23).trans d29
  have c_24 : cd 24 = wY3 := (hcj 24).trans d30
  have c_25 : cd 25 = wY4 := (hcj 25).trans d31
  have c_26 : cd 26 = wY5 := (hcj 26).trans d32
  have c_27 : cd 27 = wY6 := (hcj 27).trans d33
  have c_28 : cd 28 = tm := (hcj 28).trans d34
  have c_29 : cd 29 = cl := (hcj 29).trans d35
  have c_30 : cd 30 = s0 := (hcj 30).trans d36
  have c_31 : cd 31 = s1 := (hcj 31).trans d38
  have c_32 : cd 32 = s2 := (hcj 32).trans d40
  have c_33 : cd 33 = s3 := (hcj 33).trans d42
  have c_34 : cd 34 = s4 := (hcj 34).trans d44
  have c_35 : cd 35 = s5 := (hcj 35).trans d46
  have c_36 : cd 36 = s6 := (hcj 36).trans d48
  have c_37 : cd 37 = s7 := (hcj 37).trans d50
  have c_38 : cd 38 = e0 := (hcj 38).trans d37
  have c_39 : cd 39 = e1 := (hcj 39).trans d39
  have c_40 : cd 40 = e2 := (hcj 40).trans d41
  have c_41 : cd 41 = e3 := (hcj 41).trans d43
  have c_42 : cd 42 = e4 := (hcj 42).trans d45
  have c_43 : cd 43 = e5 := (hcj 43).trans d47
  have c_44 : cd 44 = e6 := (hcj 44).trans d49
  have c_45 : cd 45 = e7 := (hcj 45).trans d51
  refine G.arrQ (g := fun j => some (cd (30 + j))) f33 (fun j hj => by
    match j, hj with
    | 0, _ => exact (congrArg some c_30).symm
    | 1, _ => exact (congrArg some c_31).symm
    | 2, _ => exact (congrArg some c_32).symm
    | 3, _ => exact (congrArg some c_33).symm
    | 4, _ => exact (congrArg some c_34).symm
    | 5, _ => exact (congrArg some c_35).symm
    | 6, _ => exact (congrArg some c_36).symm
    | 7, _ => exact (congrArg some c_37).symm
    | n + 8, hn => exact absurd hn (by omega)) rfl ?_
  refine G.opq (fun V34 hV34 => ?_)
  have x34 : ∀ (q : Nat) (e : va_E), q ≠ sh → V33 q = some e → V34 q = some e := fun q e hq h => by rw [hV34, upv_ne hq]; exact h
  have f34 : V34 sh = some (vQ Z 3 8 (fun j => some (cd (30 + j)))) := by rw [hV34]; exact upv_eq _ _ _
  have z34 : ∀ (q : Nat) (e : va_E), q ≠ a0 → q ≠ sh → V34 q = some e → V34 q = some e := fun q e h0 h1 h => h
  have z33 : ∀ (q : Nat) (e : va_E), q ≠ a0 → q ≠ sh → V33 q = some e → V34 q = some e := fun q e h0 h1 h => z34 q e h0 h1 (x34 q e h1 h)
  have z32 : ∀ (q : Nat) (e : va_E), q ≠ a0 → q ≠ sh → V32 q = some e → V34 q = some e := fun q e h0 h1 h => z33 q e h0 h1 (x33 q e h1 h)
  have z31 : ∀ (q : Nat) (e : va_E), q ≠ a0 → q ≠ sh → V31 q = some e → V34 q = some e := fun q e h0 h1 h => z32 q e h0 h1 (x32 q e h)
  have z30 : ∀ (q : Nat) (e : va_E), q ≠ a0 → q ≠ sh → V30 q = some e → V34 q = some e := fun q e h0 h1 h => z31 q e h0 h1 (x31 q e h1 h)
  have z29 : ∀ (q : Nat) (e : va_E), q ≠ a0 → q ≠ sh → V29 q = some e → V34 q = some e := fun q e h0 h1 h => z30 q e h0 h1 (x30 q e h)
  have z28 : ∀ (q : Nat) (e : va_E), q ≠ a0 → q ≠ sh → V28 q = some e → V34 q = some e := fun q e h0 h1 h => z29 q e h0 h1 (x29 q e h1 h)
  have z27 : ∀ (q : Nat) (e : va_E), q ≠ a0 → q ≠ sh → V27 q = some e → V34 q = some e := fun q e h0 h1 h => z28 q e h0 h1 (x28 q e h)
  have z26 : ∀ (q : Nat) (e : va_E), q ≠ a0 → q ≠ sh → V26 q = some e → V34 q = some e := fun q e h0 h1 h => z27 q e h0 h1 (x27 q e h1 h)
  have z25 : ∀ (q : Nat) (e : va_E), q ≠ a0 → q ≠ sh → V25 q = some e → V34 q = some e := fun q e h0 h1 h => z26 q e h0 h1 (x26 q e h)
  have z24 : ∀ (q : Nat) (e : va_E), q ≠ a0 → q ≠ sh → V24 q = some e → V34 q = some e := fun q e h0 h1 h => z25 q e h0 h1 (x25 q e h1 h)
  have z23 : ∀ (q : Nat) (e : va_E), q ≠ a0 → q ≠ sh → V23 q = some e → V34 q = some e := fun q e h0 h1 h => z24 q e h0 h1 (x24 q e h)
  have z22 : ∀ (q : Nat) (e : va_E), q ≠ a0 → q ≠ sh → V22 q = some e → V34 q = some e := fun q e h0 h1 h => z23 q e h0 h1 (x23 q e h1 h)
  have z21 : ∀ (q : Nat) (e : va_E), q ≠ a0 → q ≠ sh → V21 q = some e → V34 q = some e := fun q e h0 h1 h => z22 q e h0 h1 (x22 q e h)
  have z20 : ∀ (q : Nat) (e : va_E), q ≠ a0 → q ≠ sh → V20 q = some e → V34 q = some e := fun q e h0 h1 h => z21 q e h0 h1 (x21 q e h1 h)
  have z19 : ∀ (q : Nat) (e : va_E), q ≠ a0 → q ≠ sh → V19 q = some e → V34 q = some e := fun q e h0 h1 h => z20 q e h0 h1 (x20 q e h)
  have z18 : ∀ (q : Nat) (e : va_E), q ≠ a0 → q ≠ sh → V18 q = some e → V34 q = some e := fun q e h0 h1 h => z19 q e h0 h1 (x19 q e h1 h)
  have z17 : ∀ (q : Nat) (e : va_E), q ≠ a0 → q ≠ sh → V17 q = some e → V34 q = some e := fun q e h0 h1 h => z18 q e h0 h1 (x18 q e h)
  have z16 : ∀ (q : Nat) (e : va_E), q ≠ a0 → q ≠ sh → V16 q = some e → V34 q = some e := fun q e h0 h1 h => z17 q e h0 h1 (x17 q e h0 h)
  have z15 : ∀ (q : Nat) (e : va_E), q ≠ a0 → q ≠ sh → V15 q = some e → V34 q = some e := fun q e h0 h1 h => z16 q e h0 h1 (x16 q e h)
  have z14 : ∀ (q : Nat) (e : va_E), q ≠ a0 → q ≠ sh → V14 q = some e → V34 q = some e := fun q e h0 h1 h => z15 q e h0 h1 (x15 q e h0 h)
  have z13 : ∀ (q : Nat) (e : va_E), q ≠ a0 → q ≠ sh → V13 q = some e → V34 q = some e := fun q e h0 h1 h => z14 q e h0 h1 (x14 q e h)
  have z12 : ∀ (q : Nat) (e : va_E), q ≠ a0 → q ≠ sh → V12 q = some e → V34 q = some e := fun q e h0 h1 h => z13 q e h0 h1 (x13 q e h0 h)
  have z11 : ∀ (q : Nat) (e : va_E), q ≠ a0 → q ≠ sh → V11 q = some e → V34 q = some e := fun q e h0 h1 h => z12 q e h0 h1 (x12 q e h)
  have z10 : ∀ (q : Nat) (e : va_E), q ≠ a0 → q ≠ sh → V10 q = some e → V34 q = some e := fun q e h0 h1 h => z11 q e h0 h1 (x11 q e h0 h)
  have z9 : ∀ (q : Nat) (e : va_E), q ≠ a0 → q ≠ sh → V9 q = some e → V34 q = some e := fun q e h0 h1 h => z10 q e h0 h1 (x10 q e h)
  have z8 : ∀ (q : Nat) (e : va_E), q ≠ a0 → q ≠ sh → V8 q = some e → V34 q = some e := fun q e h0 h1 h => z9 q e h0 h1 (x9 q e h0 h)
  have z7 : ∀ (q : Nat) (e : va_E), q ≠ a0 → q ≠ sh → V7 q = some e → V34 q = some e := fun q e h0 h1 h => z8 q e h0 h1 (x8 q e h)
  have z6 : ∀ (q : Nat) (e : va_E), q ≠ a0 → q ≠ sh → V6 q = some e → V34 q = some e := fun q e h0 h1 h => z7 q e h0 h1 (x7 q e h0 h)
  have z5 : ∀ (q : Nat) (e : va_E), q ≠ a0 → q ≠ sh → V5 q = some e → V34 q = some e := fun q e h0 h1 h => z6 q e h0 h1 (x6 q e h0 h)
  have z4 : ∀ (q : Nat) (e : va_E), q ≠ a0 → q ≠ sh → V4 q = some e → V34 q = some e := fun q e h0 h1 h => z5 q e h0 h1 (x5 q e h)
  have z3 : ∀ (q : Nat) (e : va_E), q ≠ a0 → q ≠ sh → V3 q = some e → V34 q = some e := fun q e h0 h1 h => z4 q e h0 h1 (x4 q e h0 h)
  have z2 : ∀ (q : Nat) (e : va_E), q ≠ a0 → q ≠ sh → V2 q = some e → V34 q = some e := fun q e h0 h1 h => z3 q e h0 h1 (x3 q e h)
  have z1 : ∀ (q : Nat) (e : va_E), q ≠ a0 → q ≠ sh → V1 q = some e → V34 q = some e := fun q e h0 h1 h => z2 q e h0 h1 (x2 q e h0 h)
  have z0 : ∀ (q : Nat) (e : va_E), q ≠ a0 → q ≠ sh → V q = some e → V34 q = some e := fun q e h0 h1 h => z1 q e h0 h1 (x1 q e h)
  have q_a0 : V34 a0 = some (vO 11 [.ref mA, .ref mB, .ref mC, .int (nI 0), .ref sh, .ref wX, .ref wY, .ref tm, .ref cl]) := (x34 _ _ n_a0_sh (x33 _ _ n_a0_sh (x32 _ _ (x31 _ _ n_a0_sh (x30 _ _ (x29 _ _ n_a0_sh (x28 _ _ (x27 _ _ n_a0_sh (x26 _ _ (x25 _ _ n_a0_sh (x24 _ _ (x23 _ _ n_a0_sh (x22 _ _ (x21 _ _ n_a0_sh (x20 _ _ (x19 _ _ n_a0_sh (x18 _ _ f17)))))))))))))))))
  have q_sh := f34
  have q_mA := (z1 _ _ n_mA_a0 n_mA_sh g1_mA)
  have q_cA := (z1 _ _ n_cA_a0 n_cA_sh g1_cA)
  have q_pA := (z1 _ _ n_pA_a0 n_pA_sh g1_pA)
  have q_hA := (z1 _ _ n_hA_a0 n_hA_sh g1_hA)
  have q_uA := (z1 _ _ n_uA_a0 n_uA_sh g1_uA)
  have q_kA := (z1 _ _ n_kA_a0 n_kA_sh g1_kA)
  have q_mB := (z3 _ _ n_mB_a0 n_mB_sh g3_mB)
  have q_cB := (z3 _ _ n_cB_a0 n_cB_sh g3_cB)
  have q_pB := (z3 _ _ n_pB_a0 n_pB_sh g3_pB)
  have q_hB := (z3 _ _ n_hB_a0 n_hB_sh g3_hB)
  have q_uB := (z3 _ _ n_uB_a0 n_uB_sh g3_uB)
  have q_kB := (z3 _ _ n_kB_a0 n_kB_sh g3_kB)
  have q_mC := (z5 _ _ n_mC_a0 n_mC_sh g5_mC)
  have q_cC := (z5 _ _ n_cC_a0 n_cC_sh g5_cC)
  have q_pC := (z5 _ _ n_pC_a0 n_pC_sh g5_pC)
  have q_hC := (z5 _ _ n_hC_a0 n_hC_sh g5_hC)
  have q_uC := (z5 _ _ n_uC_a0 n_uC_sh g5_uC)
  have q_kC := (z5 _ _ n_kC_a0 n_kC_sh g5_kC)
  have q_wX := (z10 _ _ n_wX_a0 n_wX_sh g10_wX)
  have q_wX1 := (z10 _ _ n_wX1_a0 n_wX1_sh g10_wX1)
  have q_wX2 := (z10 _ _ n_wX2_a0 n_wX2_sh g10_wX2)
  have q_wX3 := (z10 _ _ n_wX3_a0 n_wX3_sh g10_wX3)
  have q_wX4 := (z10 _ _ n_wX4_a0 n_wX4_sh g10_wX4)
  have q_wX5 := (z10 _ _ n_wX5_a0 n_wX5_sh g10_wX5)
  have q_wX6 := (z10 _ _ n_wX6_a0 n_wX6_sh g10_wX6)
  have q_wY := (z12 _ _ n_wY_a0 n_wY_sh g12_wY)
  have q_wY1 := (z12 _ _ n_wY1_a0 n_wY1_sh g12_wY1)
  have q_wY2 := (z12 _ _ n_wY2_a0 n_wY2_sh g12_wY2)
  have q_wY3 := (z12 _ _ n_wY3_a0 n_wY3_sh g12_wY3)
  have q_wY4 := (z12 _ _ n_wY4_a0 n_wY4_sh g12_wY4)
  have q_wY5 := (z12 _ _ n_wY5_a0 n_wY5_sh g12_wY5)
  have q_wY6 := (z12 _ _ n_wY6_a0 n_wY6_sh g12_wY6)
  have q_tm := (z14 _ _ n_tm_a0 n_tm_sh f14)
  have q_cl := (z16 _ _ n_cl_a0 n_cl_sh f16)
  have q_s0 := (z18 _ _ n_s0_a0 n_s0_sh g18_s0)
  have q_e0 := (z18 _ _ n_e0_a0 n_e0_sh g18_e0)
  have q_s1 := (z20 _ _ n_s1_a0 n_s1_sh g20_s1)
  have q_e1 := (z20 _ _ n_e1_a0 n_e1_sh g20_e1)
  have q_s2 := (z22 _ _ n_s2_a0 n_s2_sh g22_s2)
  have q_e2 := (z22 _ _ n_e2_a0 n_e2_sh g22_e2)
  have q_s3 := (z24 _ _ n_s3_a0 n_s3_sh g24_s3)
  have q_e3 := (z24 _ _ n_e3_a0 n_e3_sh g24_e3)
  have q_s4 := (z26 _ _ n_s4_a0 n_s4_sh g26_s4)
  have q_e4 := (z26 _ _ n_e4_a0 n_e4_sh g26_e4)
  have q_s5 := (z28 _ _ n_s5_a0 n_s5_sh g28_s5)
  have q_e5 := (z28 _ _ n_e5_a0 n_e5_sh g28_e5)
  have q_s6 := (z30 _ _ n_s6_a0 n_s6_sh g30_s6)
  have q_e6 := (z30 _ _ n_e6_a0 n_e6_sh g30_e6)
  have q_s7 := (z32 _ _ n_s7_a0 n_s7_sh g32_s7)
  have q_e7 := (z32 _ _ n_e7_a0 n_e7_sh g32_e7)
  have hF : ∀ j, j < 46 → V34 (cd j) = some (fC Z cd (nI 0) uA uB uC (fun _ => kA) (nf pl0) (fun _ => 0) (fun _ => kB) (nf pl0) (fun _ => 0) (fun _ => kC) (nf pl0) (fun _ => 0) (fun _ => 0) (fun _ => 0) (fun _ => 0) (fun _ => 0) (fun _ => 0) (fun _ => 0) (fun _ => 0) (fun _ => 0) (fun _ => 0) (fun _ => 0) (fun _ => 0) (fun _ => 0) (fun _ => 0) (fun _ => 0) (fun _ => none) (fun _ => (-1)) (fun _ => 0) (fun _ _ => 0) j) := fun j hj => by
    match j, hj with
    | 0, _ =>
      show V34 (cd 0) = some (vO 11 [.ref (cd 1), .ref (cd 2), .ref (cd 3), .int (nI 0), .ref (cd 13), .ref (cd 14), .ref (cd 15), .ref (cd 28), .ref (cd 29)])
      rw [c_0, c_1, c_2, c_3, c_13, c_14, c_15, c_28, c_29]; exact q_a0
    | 1, _ =>
      show V34 (cd 1) = some (vO 5 [.ref (cd 4), .ref (cd 5), .ref (cd 6), .ref uA])
      rw [c_1, c_4, c_5, c_6]; exact q_mA
    | 2, _ =>
      show V34 (cd 2) = some (vO 5 [.ref (cd 7), .ref (cd 8), .ref (cd 9), .ref uB])
      rw [c_2, c_7, c_8, c_9]; exact q_mB
    | 3, _ =>
      show V34 (cd 3) = some (vO 5 [.ref (cd 10), .ref (cd 11), .ref (cd 12), .ref uC])
      rw [c_3, c_10, c_11, c_12]; exact q_mC
    | 4, _ => rw [c_4]; exact q_cA
    | 5, _ => rw [c_5]; exact q_pA
    | 6, _ => rw [c_6]; exact q_hA
    | 7, _ => rw [c_7]; exact q_cB
    | 8, _ => rw [c_8]; exact q_pB
    | 9, _ => rw [c_9]; exact q_hB
    | 10, _ => rw [c_10]; exact q_cC
    | 11, _ => rw [c_11]; exact q_pC
    | 12, _ => rw [c_12]; exact q_hC
    | 13, _ => rw [c_13]; exact q_sh
    | 14, _ =>
      show V34 (cd 14) = some (vO 10 [.ref (cd 16), .ref (cd 17), .ref (cd 18), .ref (cd 19), .ref (cd 20), .ref (cd 21)])
      rw [c_14, c_16, c_17, c_18, c_19, c_20, c_21]; exact q_wX
    | 15, _ =>
      show V34 (cd 15) = some (vO 10 [.ref (cd 22), .ref (cd 23), .ref (cd 24), .ref (cd 25), .ref (cd 26), .ref (cd 27)])
      rw [c_15, c_22, c_23, c_24, c_25, c_26, c_27]; exact q_wY
    | 16, _ => rw [c_16]; exact q_wX1
    | 17, _ => rw [c_17]; exact q_wX2
    | 18, _ => rw [c_18]; exact q_wX3
    | 19, _ => rw [c_19]; exact q_wX4
    | 20, _ => rw [c_20]; exact q_wX5
    | 21, _ => rw [c_21]; exact q_wX6
    | 22, _ => rw [c_22]; exact q_wY1
    | 23, _ => rw [c_23]; exact q_wY2
    | 24, _ => rw [c_24]; exact q_wY3
    | 25, _ => rw [c_25]; exact q_wY4
    | 26, _ => rw [c_26]; exact q_wY5
    | 27, _ => rw [c_27]; exact q_wY6
    | 28, _ => rw [c_28]; exact q_tm
    | 29, _ => rw [c_29]; exact q_cl
    | 30, _ =>
      show V34 (cd 30) = some (vO 7 [.null, .int (-1), .int (nI 0), .ref (cd 38)])
      rw [c_30, c_38]; exact q_s0
    | 31, _ =>
      show V34 (cd 31) = some (vO 7 [.null, .int (-1), .int (nI 0), .ref (cd 39)])
      rw [c_31, c_39]; exact q_s1
    | 32, _ =>
      show V34 (cd 32) = some (vO 7 [.null, .int (-1), .int (nI 0), .ref (cd 40)])
      rw [c_32, c_40]; exact q_s2
    | 33, _ =>
      show V34 (cd 33) = some (vO 7 [.null, .int (-1), .int (nI 0), .ref (cd 41)])
      rw [c_33, c_41]; exact q_s3
    | 34, _ =>
      show V34 (cd 34) = some (vO 7 [.null, .int (-1), .int (nI 0), .ref (cd 42)])
      rw [c_34, c_42]; exact q_s4
    | 35, _ =>
      show V34 (cd 35) = some (vO 7 [.null, .int (-1), .int (nI 0), .ref (cd 43)])
      rw [c_35, c_43]; exact q_s5
    | 36, _ =>
      show V34 (cd 36) = some (vO 7 [.null, .int (-1), .int (nI 0), .ref (cd 44)])
      rw [c_36, c_44]; exact q_s6
    | 37, _ =>
      show V34 (cd 37) = some (vO 7 [.null, .int (-1), .int (nI 0), .ref (cd 45)])
      rw [c_37, c_45]; exact q_s7
    | 38, _ => rw [c_38]; exact q_e0
    | 39, _ => rw [c_39]; exact q_e1
    | 40, _ => rw [c_40]; exact q_e2
    | 41, _ => rw [c_41]; exact q_e3
    | 42, _ => rw [c_42]; exact q_e4
    | 43, _ => rw [c_43]; exact q_e5
    | 44, _ => rw [c_44]; exact q_e6
    | 45, _ => rw [c_45]; exact q_e7
    | n + 46, hn => exact absurd hn (by omega)
  have hci : inj cd 46 := fun i hi j hj e => by
    rw [hcj, hcj] at e
    exact piC_inj i hi j hj (hinj _ (piC_lt i hi) _ (piC_lt j hj) e)
  have hself : V34 = wC Z cd (nI 0) uA uB uC (fun _ => kA) (nf pl0) (fun _ => 0) (fun _ => kB) (nf pl0) (fun _ => 0) (fun _ => kC) (nf pl0) (fun _ => 0) (fun _ => 0) (fun _ => 0) (fun _ => 0) (fun _ => 0) (fun _ => 0) (fun _ => 0) (fun _ => 0) (fun _ => 0) (fun _ => 0) (fun _ => 0) (fun _ => 0) (fun _ => 0) (fun _ => 0) (fun _ => 0) (fun _ => none) (fun _ => (-1)) (fun _ => 0) (fun _ _ => 0) (bk_cut cd 46 V34) := bk_self hci hF
  have hoC : oC b0 cd (bk_cut cd 46 V34) := ⟨⟨hci, fun j hj => by
    rw [hcj]
    by_cases h0 : piC j = 0
    · rw [h0, d0]; exact hb0
    · exact Nat.le_trans hb_mA (hge _ (piC_lt j hj) h0)⟩, fun j hj => bk_cut_at hj⟩
  have r_uA : Rk (bk_cut cd 46 V34) uA 7 0 := ⟨by decide, by decide, by
    rw [bk_cut_out (fun j hj z => (piC_ug j hj).1 (hinj _ (piC_lt j hj) 5 (by decide) (by rw [← hcj, d5]; exact z.symm)))]; exact q_uA⟩
  have r_kA : Rk (bk_cut cd 46 V34) kA 0 0 := ⟨by decide, by decide, by
    rw [bk_cut_out (fun j hj z => (piC_ug j hj).2.1 (hinj _ (piC_lt j hj) 6 (by decide) (by rw [← hcj, d6]; exact z.symm)))]; exact q_kA⟩
  have r_uB : Rk (bk_cut cd 46 V34) uB 7 0 := ⟨by decide, by decide, by
    rw [bk_cut_out (fun j hj z => (piC_ug j hj).2.2.1 (hinj _ (piC_lt j hj) 11 (by decide) (by rw [← hcj, d11]; exact z.symm)))]; exact q_uB⟩
  have r_kB : Rk (bk_cut cd 46 V34) kB 0 0 := ⟨by decide, by decide, by
    rw [bk_cut_out (fun j hj z => (piC_ug j hj).2.2.2.1 (hinj _ (piC_lt j hj) 12 (by decide) (by rw [← hcj, d12]; exact z.symm)))]; exact q_kB⟩
  have r_uC : Rk (bk_cut cd 46 V34) uC 7 0 := ⟨by decide, by decide, by
    rw [bk_cut_out (fun j hj z => (piC_ug j hj).2.2.2.2.1 (hinj _ (piC_lt j hj) 17 (by decide) (by rw [← hcj, d17]; exact z.symm)))]; exact q_uC⟩
  have r_kC : Rk (bk_cut cd 46 V34) kC 0 0 := ⟨by decide, by decide, by
    rw [bk_cut_out (fun j hj z => (piC_ug j hj).2.2.2.2.2 (hinj _ (piC_lt j hj) 18 (by decide) (by rw [← hcj, d18]; exact z.symm)))]; exact q_kC⟩
  have hE : Ext Vb (bk_cut cd 46 V34) := fun q e h => by
    obtain ⟨h1, h2⟩ := hVb q e h
    have h3 : q < mA := hl_mA q e h2
    have h4 : mA < sh := by omega
    rw [bk_cut_out (fun j hj z => by
      rw [hcj] at z
      by_cases h0 : piC j = 0
      · rw [h0, d0] at z; exact h1 z
      · have := hge _ (piC_lt j hj) h0; omega)]
    exact z0 q e h1 (by omega) h2
  exact g_vret (pc := 117) (by decide) (by decide) (hPo _ _ ⟨rfl, cd, c_0, uA, uB, uC, (fun _ => kA), (fun _ => kB), (nf pl0), (fun _ => 0), (fun _ => kC), (fun _ => 0), (fun _ => 0), (fun _ => 0), (fun _ => 0), (fun _ => 0), (fun _ => 0), (fun _ => 0), (fun _ => 0), (fun _ => 0), (fun _ => 0), (fun _ => 0), (fun _ => 0), (fun _ => 0), (fun _ => 0), (fun _ => none), (fun _ => (-1)), (fun _ => 0), (fun _ _ => 0), bk_cut cd 46 V34, hself, hoC, hE, r_uA, r_uB, fun _ _ => r_kA, fun _ _ => r_kC, fun g hg => by unfold pl0; split <;> decide, fun g hg => by unfold pl0; split <;> decide, fun d hd => Or.inl ⟨rfl, rfl, rfl⟩⟩) dX11_init_117
end IN
