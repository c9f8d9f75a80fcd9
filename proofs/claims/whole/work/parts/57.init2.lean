section MS
variable {l : Launch} {D : va_G} {Z : Nat → ClassId} {b0 : Nat} {V : HV}
set_option maxHeartbeats 8000000 in
theorem c_X12_init2 {a0 : Nat} (hb0 : b0 ≤ a0) : KM l D Z b0 yX12_init cX12_init 1 none rmX12_init [.ref a0] (upv V a0 (vO 12 [.null, .null, .null, .null, .null, .null, .null, .null, .null, .null, .int 0, .int 0, .null, .null, .null, .int 0, .int 0, .int 0, .null, .null, .null, .null, .int 0])) (fun v V' => v = none ∧ ∃ ad : Nat → Nat, ad 0 = a0 ∧ aB b0 18 ad ∧ (∀ k, k + 1 < 18 → ad k < ad (k + 1)) ∧ (∀ (q : Nat) (e : va_E), q ≠ a0 → V q = some e → q < ad 1) ∧ V' = wM Z ad 0 0 0 0 0 0 (enc (fun _ => 0) (fun _ => 0) (fun g => if g = 1 then 19 else 0) (fun _ => 0)) (fun _ => 0) (fun _ => 0) (fun _ => 0) (fun _ => 0) (fun _ => 0) (fun _ => 0) (fun _ => 0) (fun _ => 0) (fun _ => 0) (fun _ => 0) (fun _ => 0) (fun _ => 0) (fun _ => 0) (fun _ => 0) (fun _ => 0) (fun _ => 0) V) := by
  refine KM.ofP (by decide) (Nat.le_of_ble_eq_true rfl) (fun Po hPo => ?_)
  refine G.locals (L' := [(0, .ref a0)]) [0] rfl ?_
  refine g_aload_n (q := 0) (pc := 0) dX12_init_0 rfl rfl ?_
  refine g_objInit (pc := 1) oiX12_1 oi_i oi_c ⟨Nat.le_of_ble_eq_true rfl, Nat.le_of_ble_eq_true rfl⟩ dX12_init_1 ?_
  refine g_aload_n (q := 0) (pc := 4) dX12_init_4 rfl rfl ?_
  refine g_bipush (v := nI 44) (pc := 5) dX12_init_5 (by decide) ?_
  refine g_newa0 (pc := 7) (N := 44) ac_int (nI_nneg (by decide)) (nI_toNat (by decide)) (by decide) (by decide) (by decide) dX12_init_7 (fun a1 hb1 hn1 hl1 => ?_)
  have ht1 : a0 < a1 := hl1 _ _ (upv_eq _ _ _)
  refine G.veq (upv_comm (show a0 ≠ a1 by omega) _ _) ?_
  refine g_putF (C := RX12) (F := TX12) (N := 23) (ci := 12) (ty := .array .int) (pc := 9) (upv_eq _ _ _) rfl inX12 tyX12 tyX12_ok nmX12 0 (by decide) flX12_9 rfl rfl rfl (fun _ _ _ h => h.2) (by decide +kernel) rfl rfl (by show 0 < 23; decide) hb0 dX12_init_9 ?_
  refine G.veq ((upv_upv _ _ _ _).trans (show _ = upv (upv V a1 (vI Z 0 44 (fun _ => 0))) a0 (vO 12 [.ref a1, .null, .null, .null, .null, .null, .null, .null, .null, .null, .int 0, .int 0, .null, .null, .null, .int 0, .int 0, .int 0, .null, .null, .null, .null, .int 0]) from rfl)) ?_
  refine g_aload_n (q := 0) (pc := 12) dX12_init_12 rfl rfl ?_
  refine g_bipush (v := nI 44) (pc := 13) dX12_init_13 (by decide) ?_
  refine g_newa0 (pc := 15) (N := 44) ac_int (nI_nneg (by decide)) (nI_toNat (by decide)) (by decide) (by decide) (by decide) dX12_init_15 (fun a2 hb2 hn2 hl2 => ?_)
  have ht2 : a1 < a2 := hl2 _ _ ((upv_ne (show a1 ≠ a0 by omega)).trans (upv_eq _ _ _))
  refine G.veq (upv_comm (show a0 ≠ a2 by omega) _ _) ?_
  refine g_putF (C := RX12) (F := TX12) (N := 23) (ci := 12) (ty := .array .int) (pc := 17) (upv_eq _ _ _) rfl inX12 tyX12 tyX12_ok nmX12 1 (by decide) flX12_13 rfl rfl rfl (fun _ _ _ h => h.2) (by decide +kernel) rfl rfl (by show 1 < 23; decide) hb0 dX12_init_17 ?_
  refine G.veq ((upv_upv _ _ _ _).trans (show _ = upv (upv (upv V a1 (vI Z 0 44 (fun _ => 0))) a2 (vI Z 0 44 (fun _ => 0))) a0 (vO 12 [.ref a1, .ref a2, .null, .null, .null, .null, .null, .null, .null, .null, .int 0, .int 0, .null, .null, .null, .int 0, .int 0, .int 0, .null, .null, .null, .null, .int 0]) from rfl)) ?_
  refine g_aload_n (q := 0) (pc := 20) dX12_init_20 rfl rfl ?_
  refine g_bipush (v := nI 44) (pc := 21) dX12_init_21 (by decide) ?_
  refine g_newa0 (pc := 23) (N := 44) ac_int (nI_nneg (by decide)) (nI_toNat (by decide)) (by decide) (by decide) (by decide) dX12_init_23 (fun a3 hb3 hn3 hl3 => ?_)
  have ht3 : a2 < a3 := hl3 _ _ ((upv_ne (show a2 ≠ a0 by omega)).trans (upv_eq _ _ _))
  refine G.veq (upv_comm (show a0 ≠ a3 by omega) _ _) ?_
  refine g_putF (C := RX12) (F := TX12) (N := 23) (ci := 12) (ty := .array .int) (pc := 25) (upv_eq _ _ _) rfl inX12 tyX12 tyX12_ok nmX12 2 (by decide) flX12_16 rfl rfl rfl (fun _ _ _ h => h.2) (by decide +kernel) rfl rfl (by show 2 < 23; decide) hb0 dX12_init_25 ?_
  refine G.veq ((upv_upv _ _ _ _).trans (show _ = upv (upv (upv (upv V a1 (vI Z 0 44 (fun _ => 0))) a2 (vI Z 0 44 (fun _ => 0))) a3 (vI Z 0 44 (fun _ => 0))) a0 (vO 12 [.ref a1, .ref a2, .ref a3, .null, .null, .null, .null, .null, .null, .null, .int 0, .int 0, .null, .null, .null, .int 0, .int 0, .int 0, .null, .null, .null, .null, .int 0]) from rfl)) ?_
  refine g_aload_n (q := 0) (pc := 28) dX12_init_28 rfl rfl ?_
  refine g_bipush (v := nI 44) (pc := 29) dX12_init_29 (by decide) ?_
  refine g_newa0 (pc := 31) (N := 44) ac_int (nI_nneg (by decide)) (nI_toNat (by decide)) (by decide) (by decide) (by decide) dX12_init_31 (fun a4 hb4 hn4 hl4 => ?_)
  have ht4 : a3 < a4 := hl4 _ _ ((upv_ne (show a3 ≠ a0 by omega)).trans (upv_eq _ _ _))
  refine G.veq (upv_comm (show a0 ≠ a4 by omega) _ _) ?_
  refine g_putF (C := RX12) (F := TX12) (N := 23) (ci := 12) (ty := .array .int) (pc := 33) (upv_eq _ _ _) rfl inX12 tyX12 tyX12_ok nmX12 3 (by decide) flX12_19 rfl rfl rfl (fun _ _ _ h => h.2) (by decide +kernel) rfl rfl (by show 3 < 23; decide) hb0 dX12_init_33 ?_
  refine G.veq ((upv_upv _ _ _ _).trans (show _ = upv (upv (upv (upv (upv V a1 (vI Z 0 44 (fun _ => 0))) a2 (vI Z 0 44 (fun _ => 0))) a3 (vI Z 0 44 (fun _ => 0))) a4 (vI Z 0 44 (fun _ => 0))) a0 (vO 12 [.ref a1, .ref a2, .ref a3, .ref a4, .null, .null, .null, .null, .null, .null, .int 0, .int 0, .null, .null, .null, .int 0, .int 0, .int 0, .null, .null, .null, .null, .int 0]) from rfl)) ?_
  refine g_aload_n (q := 0) (pc := 36) dX12_init_36 rfl rfl ?_
  refine g_bipush (v := nI 8) (pc := 37) dX12_init_37 (by decide) ?_
  refine g_newa0 (pc := 39) (N := 8) ac_int (nI_nneg (by decide)) (nI_toNat (by decide)) (by decide) (by decide) (by decide) dX12_init_39 (fun a5 hb5 hn5 hl5 => ?_)
  have ht5 : a4 < a5 := hl5 _ _ ((upv_ne (show a4 ≠ a0 by omega)).trans (upv_eq _ _ _))
  refine G.veq (upv_comm (show a0 ≠ a5 by omega) _ _) ?_
  refine g_putF (C := RX12) (F := TX12) (N := 23) (ci := 12) (ty := .array .int) (pc := 41) (upv_eq _ _ _) rfl inX12 tyX12 tyX12_ok nmX12 4 (by decide) flX12_22 rfl rfl rfl (fun _ _ _ h => h.2) (by decide +kernel) rfl rfl (by show 4 < 23; decide) hb0 dX12_init_41 ?_
  refine G.veq ((upv_upv _ _ _ _).trans (show _ = upv (upv (upv (upv (upv (upv V a1 (vI Z 0 44 (fun _ => 0))) a2 (vI Z 0 44 (fun _ => 0))) a3 (vI Z 0 44 (fun _ => 0))) a4 (vI Z 0 44 (fun _ => 0))) a5 (vI Z 0 8 (fun _ => 0))) a0 (vO 12 [.ref a1, .ref a2, .ref a3, .ref a4, .ref a5, .null, .null, .null, .null, .null, .int 0, .int 0, .null, .null, .null, .int 0, .int 0, .int 0, .null, .null, .null, .null, .int 0]) from rfl)) ?_
  refine g_aload_n (q := 0) (pc := 44) dX12_init_44 rfl rfl ?_
  refine g_bipush (v := nI 8) (pc := 45) dX12_init_45 (by decide) ?_
  refine g_newa0 (pc := 47) (N := 8) ac_int (nI_nneg (by decide)) (nI_toNat (by decide)) (by decide) (by decide) (by decide) dX12_init_47 (fun a6 hb6 hn6 hl6 => ?_)
  have ht6 : a5 < a6 := hl6 _ _ ((upv_ne (show a5 ≠ a0 by omega)).trans (upv_eq _ _ _))
  refine G.veq (upv_comm (show a0 ≠ a6 by omega) _ _) ?_
  refine g_putF (C := RX12) (F := TX12) (N := 23) (ci := 12) (ty := .array .int) (pc := 49) (upv_eq _ _ _) rfl inX12 tyX12 tyX12_ok nmX12 5 (by decide) flX12_25 rfl rfl rfl (fun _ _ _ h => h.2) (by decide +kernel) rfl rfl (by show 5 < 23; decide) hb0 dX12_init_49 ?_
  refine G.veq ((upv_upv _ _ _ _).trans (show _ = upv (upv (upv (upv (upv (upv (upv V a1 (vI Z 0 44 (fun _ => 0))) a2 (vI Z 0 44 (fun _ => 0))) a3 (vI Z 0 44 (fun _ => 0))) a4 (vI Z 0 44 (fun _ => 0))) a5 (vI Z 0 8 (fun _ => 0))) a6 (vI Z 0 8 (fun _ => 0))) a0 (vO 12 [.ref a1, .ref a2, .ref a3, .ref a4, .ref a5, .ref a6, .null, .null, .null, .null, .int 0, .int 0, .null, .null, .null, .int 0, .int 0, .int 0, .null, .null, .null, .null, .int 0]) from rfl)) ?_
  refine g_aload_n (q := 0) (pc := 52) dX12_init_52 rfl rfl ?_
  refine g_bipush (v := nI 8) (pc := 53) dX12_init_53 (by decide) ?_
  refine g_newa0 (pc := 55) (N := 8) ac_int (nI_nneg (by decide)) (nI_toNat (by decide)) (by decide) (by decide) (by decide) dX12_init_55 (fun a7 hb7 hn7 hl7 => ?_)
  have ht7 : a6 < a7 := hl7 _ _ ((upv_ne (show a6 ≠ a0 by omega)).trans (upv_eq _ _ _))
  refine G.veq (upv_comm (show a0 ≠ a7 by omega) _ _) ?_
  refine g_putF (C := RX12) (F := TX12) (N := 23) (ci := 12) (ty := .array .int) (pc := 57) (upv_eq _ _ _) rfl inX12 tyX12 tyX12_ok nmX12 6 (by decide) flX12_28 rfl rfl rfl (fun _ _ _ h => h.2) (by decide +kernel) rfl rfl (by show 6 < 23; decide) hb0 dX12_init_57 ?_
  refine G.veq ((upv_upv _ _ _ _).trans (show _ = upv (upv (upv (upv (upv (upv (upv (upv V a1 (vI Z 0 44 (fun _ => 0))) a2 (vI Z 0 44 (fun _ => 0))) a3 (vI Z 0 44 (fun _ => 0))) a4 (vI Z 0 44 (fun _ => 0))) a5 (vI Z 0 8 (fun _ => 0))) a6 (vI Z 0 8 (fun _ => 0))) a7 (vI Z 0 8 (fun _ => 0))) a0 (vO 12 [.ref a1, .ref a2, .ref a3, .ref a4, .ref a5, .ref a6, .ref a7, .null, .null, .null, .int 0, .int 0, .null, .null, .null, .int 0, .int 0, .int 0, .null, .null, .null, .null, .int 0]) from rfl)) ?_
  refine g_aload_n (q := 0) (pc := 60) dX12_init_60 rfl rfl ?_
  refine g_sipush (v := nI 800) (pc := 61) dX12_init_61 (by decide) ?_
  refine g_newa0 (pc := 64) (N := 800) ac_int (nI_nneg (by decide)) (nI_toNat (by decide)) (by decide) (by decide) (by decide) dX12_init_64 (fun a8 hb8 hn8 hl8 => ?_)
  have ht8 : a7 < a8 := hl8 _ _ ((upv_ne (show a7 ≠ a0 by omega)).trans (upv_eq _ _ _))
  refine G.veq (upv_comm (show a0 ≠ a8 by omega) _ _) ?_
  refine g_putF (C := RX12) (F := TX12) (N := 23) (ci := 12) (ty := .array .int) (pc := 66) (upv_eq _ _ _) rfl inX12 tyX12 tyX12_ok nmX12 7 (by decide) flX12_31 rfl rfl rfl (fun _ _ _ h => h.2) (by decide +kernel) rfl rfl (by show 7 < 23; decide) hb0 dX12_init_66 ?_
  refine G.veq ((upv_upv _ _ _ _).trans (show _ = upv (upv (upv (upv (upv (upv (upv (upv (upv V a1 (vI Z 0 44 (fun _ => 0))) a2 (vI Z 0 44 (fun _ => 0))) a3 (vI Z 0 44 (fun _ => 0))) a4 (vI Z 0 44 (fun _ => 0))) a5 (vI Z 0 8 (fun _ => 0))) a6 (vI Z 0 8 (fun _ => 0))) a7 (vI Z 0 8 (fun _ => 0))) a8 (vI Z 0 800 (fun _ => 0))) a0 (vO 12 [.ref a1, .ref a2, .ref a3, .ref a4, .ref a5, .ref a6, .ref a7, .ref a8, .null, .null, .int 0, .int 0, .null, .null, .null, .int 0, .int 0, .int 0, .null, .null, .null, .null, .int 0]) from rfl)) ?_
  refine g_aload_n (q := 0) (pc := 69) dX12_init_69 rfl rfl ?_
  refine g_bipush (v := nI 8) (pc := 70) dX12_init_70 (by decide) ?_
  refine g_newa0 (pc := 72) (N := 8) ac_int (nI_nneg (by decide)) (nI_toNat (by decide)) (by decide) (by decide) (by decide) dX12_init_72 (fun a9 hb9 hn9 hl9 => ?_)
  have ht9 : a8 < a9 := hl9 _ _ ((upv_ne (show a8 ≠ a0 by omega)).trans (upv_eq _ _ _))
  refine G.veq (upv_comm (show a0 ≠ a9 by omega) _ _) ?_
  refine g_putF (C := RX12) (F := TX12) (N := 23) (ci := 12) (ty := .array .int) (pc := 74) (upv_eq _ _ _) rfl inX12 tyX12 tyX12_ok nmX12 8 (by decide) flX12_34 rfl rfl rfl (fun _ _ _ h => h.2) (by decide +kernel) rfl rfl (by show 8 < 23; decide) hb0 dX12_init_74 ?_
  refine G.veq ((upv_upv _ _ _ _).trans (show _ = upv (upv (upv (upv (upv (upv (upv (upv (upv (upv V a1 (vI Z 0 44 (fun _ => 0))) a2 (vI Z 0 44 (fun _ => 0))) a3 (vI Z 0 44 (fun _ => 0))) a4 (vI Z 0 44 (fun _ => 0))) a5 (vI Z 0 8 (fun _ => 0))) a6 (vI Z 0 8 (fun _ => 0))) a7 (vI Z 0 8 (fun _ => 0))) a8 (vI Z 0 800 (fun _ => 0))) a9 (vI Z 0 8 (fun _ => 0))) a0 (vO 12 [.ref a1, .ref a2, .ref a3, .ref a4, .ref a5, .ref a6, .ref a7, .ref a8, .ref a9, .null, .int 0, .int 0, .null, .null, .null, .int 0, .int 0, .int 0, .null, .null, .null, .null, .int 0]) from rfl)) ?_
  refine g_aload_n (q := 0) (pc := 77) dX12_init_77 rfl rfl ?_
  refine g_bipush (v := nI 8) (pc := 78) dX12_init_78 (by decide) ?_
  refine g_newa0 (pc := 80) (N := 8) ac_int (nI_nneg (by decide)) (nI_toNat (by decide)) (by decide) (by decide) (by decide) dX12_init_80 (fun a10 hb10 hn10 hl10 => ?_)
  have ht10 : a9 < a10 := hl10 _ _ ((upv_ne (show a9 ≠ a0 by omega)).trans (upv_eq _ _ _))
  refine G.veq (upv_comm (show a0 ≠ a10 by omega) _ _) ?_
  refine g_putF (C := RX12) (F := TX12) (N := 23) (ci := 12) (ty := .array .int) (pc := 82) (upv_eq _ _ _) rfl inX12 tyX12 tyX12_ok nmX12 9 (by decide) flX12_37 rfl rfl rfl (fun _ _ _ h => h.2) (by decide +kernel) rfl rfl (by show 9 < 23; decide) hb0 dX12_init_82 ?_
  refine G.veq ((upv_upv _ _ _ _).trans (show _ = upv (upv (upv (upv (upv (upv (upv (upv (upv (upv (upv V a1 (vI Z 0 44 (fun _ => 0))) a2 (vI Z 0 44 (fun _ => 0))) a3 (vI Z 0 44 (fun _ => 0))) a4 (vI Z 0 44 (fun _ => 0))) a5 (vI Z 0 8 (fun _ => 0))) a6 (vI Z 0 8 (fun _ => 0))) a7 (vI Z 0 8 (fun _ => 0))) a8 (vI Z 0 800 (fun _ => 0))) a9 (vI Z 0 8 (fun _ => 0))) a10 (vI Z 0 8 (fun _ => 0))) a0 (vO 12 [.ref a1, .ref a2, .ref a3, .ref a4, .ref a5, .ref a6, .ref a7, .ref a8, .ref a9, .ref a10, .int 0, .int 0, .null, .null, .null, .int 0, .int 0, .int 0, .null, .null, .null, .null, .int 0]) from rfl)) ?_
  refine g_aload_n (q := 0) (pc := 85) dX12_init_85 rfl rfl ?_
  refine g_bipush (v := nI 20) (pc := 86) dX12_init_86 (by decide) ?_
  refine g_newa0 (pc := 88) (N := 20) ac_int (nI_nneg (by decide)) (nI_toNat (by decide)) (by decide) (by decide) (by decide) dX12_init_88 (fun a11 hb11 hn11 hl11 => ?_)
  have ht11 : a10 < a11 := hl11 _ _ ((upv_ne (show a10 ≠ a0 by omega)).trans (upv_eq _ _ _))
  refine G.veq (upv_comm (show a0 ≠ a11 by omega) _ _) ?_
  refine g_putF (C := RX12) (F := TX12) (N := 23) (ci := 12) (ty := .array .int) (pc := 90) (upv_eq _ _ _) rfl inX12 tyX12 tyX12_ok nmX12 12 (by decide) flX12_40 rfl rfl rfl (fun _ _ _ h => h.2) (by decide +kernel) rfl rfl (by show 12 < 23; decide) hb0 dX12_init_90 ?_
  refine G.veq ((upv_upv _ _ _ _).trans (show _ = upv (upv (upv (upv (upv (upv (upv (upv (upv (upv (upv (upv V a1 (vI Z 0 44 (fun _ => 0))) a2 (vI Z 0 44 (fun _ => 0))) a3 (vI Z 0 44 (fun _ => 0))) a4 (vI Z 0 44 (fun _ => 0))) a5 (vI Z 0 8 (fun _ => 0))) a6 (vI Z 0 8 (fun _ => 0))) a7 (vI Z 0 8 (fun _ => 0))) a8 (vI Z 0 800 (fun _ => 0))) a9 (vI Z 0 8 (fun _ => 0))) a10 (vI Z 0 8 (fun _ => 0))) a11 (vI Z 0 20 (fun _ => 0))) a0 (vO 12 [.ref a1, .ref a2, .ref a3, .ref a4, .ref a5, .ref a6, .ref a7, .ref a8, .ref a9, .ref a10, .int 0, .int 0, .ref a11, .null, .null, .int 0, .int 0, .int 0, .null, .null, .null, .null, .int 0]) from rfl)) ?_
  refine g_aload_n (q := 0) (pc := 93) dX12_init_93 rfl rfl ?_
  refine g_bipush (v := nI 20) (pc := 94) dX12_init_94 (by decide) ?_
  refine g_newa0 (pc := 96) (N := 20) ac_int (nI_nneg (by decide)) (nI_toNat (by decide)) (by decide) (by decide) (by decide) dX12_init_96 (fun a12 hb12 hn12 hl12 => ?_)
  have ht12 : a11 < a12 := hl12 _ _ ((upv_ne (show a11 ≠ a0 by omega)).trans (upv_eq _ _ _))
  refine G.veq (upv_comm (show a0 ≠ a12 by omega) _ _) ?_
  refine g_putF (C := RX12) (F := TX12) (N := 23) (ci := 12) (ty := .array .int) (pc := 98) (upv_eq _ _ _) rfl inX12 tyX12 tyX12_ok nmX12 13 (by decide) flX12_43 rfl rfl rfl (fun _ _ _ h => h.2) (by decide +kernel) rfl rfl (by show 13 < 23; decide) hb0 dX12_init_98 ?_
  refine G.veq ((upv_upv _ _ _ _).trans (show _ = upv (upv (upv (upv (upv (upv (upv (upv (upv (upv (upv (upv (upv V a1 (vI Z 0 44 (fun _ => 0))) a2 (vI Z 0 44 (fun _ => 0))) a3 (vI Z 0 44 (fun _ => 0))) a4 (vI Z 0 44 (fun _ => 0))) a5 (vI Z 0 8 (fun _ => 0))) a6 (vI Z 0 8 (fun _ => 0))) a7 (vI Z 0 8 (fun _ => 0))) a8 (vI Z 0 800 (fun _ => 0))) a9 (vI Z 0 8 (fun _ => 0))) a10 (vI Z 0 8 (fun _ => 0))) a11 (vI Z 0 20 (fun _ => 0))) a12 (vI Z 0 20 (fun _ => 0))) a0 (vO 12 [.ref a1, .ref a2, .ref a3, .ref a4, .ref a5, .ref a6, .ref a7, .ref a8, .ref a9, .ref a10, .int 0, .int 0, .ref a11, .ref a12, .null, .int 0, .int 0, .int 0, .null, .null, .null, .null, .int 0]) from rfl)) ?_
  refine g_aload_n (q := 0) (pc := 101) dX12_init_101 rfl rfl ?_
  refine g_bipush (v := nI 20) (pc := 102) dX12_init_102 (by decide) ?_
  refine g_newa0 (pc := 104) (N := 20) ac_int (nI_nneg (by decide)) (nI_toNat (by decide)) (by decide) (by decide) (by decide) dX12_init_104 (fun a13 hb13 hn13 hl13 => ?_)
  have ht13 : a12 < a13 := hl13 _ _ ((upv_ne (show a12 ≠ a0 by omega)).trans (upv_eq _ _ _))
  refine G.veq (upv_comm (show a0 ≠ a13 by omega) _ _) ?_
  refine g_putF (C := RX12) (F := TX12) (N := 23) (ci := 12) (ty := .array .int) (pc := 106) (upv_eq _ _ _) rfl inX12 tyX12 tyX12_ok nmX12 14 (by decide) flX12_46 rfl rfl rfl (fun _ _ _ h => h.2) (by decide +kernel) rfl rfl (by show 14 < 23; decide) hb0 dX12_init_106 ?_
  refine G.veq ((upv_upv _ _ _ _).trans (show _ = upv (upv (upv (upv (upv (upv (upv (upv (upv (upv (upv (upv (upv (upv V a1 (vI Z 0 44 (fun _ => 0))) a2 (vI Z 0 44 (fun _ => 0))) a3 (vI Z 0 44 (fun _ => 0))) a4 (vI Z 0 44 (fun _ => 0))) a5 (vI Z 0 8 (fun _ => 0))) a6 (vI Z 0 8 (fun _ => 0))) a7 (vI Z 0 8 (fun _ => 0))) a8 (vI Z 0 800 (fun _ => 0))) a9 (vI Z 0 8 (fun _ => 0))) a10 (vI Z 0 8 (fun _ => 0))) a11 (vI Z 0 20 (fun _ => 0))) a12 (vI Z 0 20 (fun _ => 0))) a13 (vI Z 0 20 (fun _ => 0))) a0 (vO 12 [.ref a1, .ref a2, .ref a3, .ref a4, .ref a5, .ref a6, .ref a7, .ref a8, .ref a9, .ref a10, .int 0, .int 0, .ref a11, .ref a12, .ref a13, .int 0, .int 0, .int 0, .null, .null, .null, .null, .int 0]) from rfl)) ?_
  refine g_aload_n (q := 0) (pc := 109) dX12_init_109 rfl rfl ?_
  refine g_iconst (v := nI 4) (pc := 110) dX12_init_110 (by decide) ?_
  refine g_newa0 (pc := 111) (N := 4) ac_int (nI_nneg (by decide)) (nI_toNat (by decide)) (by decide) (by decide) (by decide) dX12_init_111 (fun a14 hb14 hn14 hl14 => ?_)
  have ht14 : a13 < a14 := hl14 _ _ ((upv_ne (show a13 ≠ a0 by omega)).trans (upv_eq _ _ _))
  refine G.veq (upv_comm (show a0 ≠ a14 by omega) _ _) ?_
  refine g_putF (C := RX12) (F := TX12) (N := 23) (ci := 12) (ty := .array .int) (pc := 113) (upv_eq _ _ _) rfl inX12 tyX12 tyX12_ok nmX12 18 (by decide) flX12_49 rfl rfl rfl (fun _ _ _ h => h.2) (by decide +kernel) rfl rfl (by show 18 < 23; decide) hb0 dX12_init_113 ?_
  refine G.veq ((upv_upv _ _ _ _).trans (show _ = upv (upv (upv (upv (upv (upv (upv (upv (upv (upv (upv (upv (upv (upv (upv V a1 (vI Z 0 44 (fun _ => 0))) a2 (vI Z 0 44 (fun _ => 0))) a3 (vI Z 0 44 (fun _ => 0))) a4 (vI Z 0 44 (fun _ => 0))) a5 (vI Z 0 8 (fun _ => 0))) a6 (vI Z 0 8 (fun _ => 0))) a7 (vI Z 0 8 (fun _ => 0))) a8 (vI Z 0 800 (fun _ => 0))) a9 (vI Z 0 8 (fun _ => 0))) a10 (vI Z 0 8 (fun _ => 0))) a11 (vI Z 0 20 (fun _ => 0))) a12 (vI Z 0 20 (fun _ => 0))) a13 (vI Z 0 20 (fun _ => 0))) a14 (vI Z 0 4 (fun _ => 0))) a0 (vO 12 [.ref a1, .ref a2, .ref a3, .ref a4, .ref a5, .ref a6, .ref a7, .ref a8, .ref a9, .ref a10, .int 0, .int 0, .ref a11, .ref a12, .ref a13, .int 0, .int 0, .int 0, .ref a14, .null, .null, .null, .int 0]) from rfl)) ?_
  refine g_aload_n (q := 0) (pc := 116) dX12_init_116 rfl rfl ?_
  refine g_sipush (v := nI 400) (pc := 117) dX12_init_117 (by decide) ?_
  refine g_newa0 (pc := 120) (N := 400) ac_int (nI_nneg (by decide)) (nI_toNat (by decide)) (by decide) (by decide) (by decide) dX12_init_120 (fun a15 hb15 hn15 hl15 => ?_)
  have ht15 : a14 < a15 := hl15 _ _ ((upv_ne (show a14 ≠ a0 by omega)).trans (upv_eq _ _ _))
  refine G.veq (upv_comm (show a0 ≠ a15 by omega) _ _) ?_
  refine g_putF (C := RX12) (F := TX12) (N := 23) (ci := 12) (ty := .array .int) (pc := 122) (upv_eq _ _ _) rfl inX12 tyX12 tyX12_ok nmX12 19 (by decide) flX12_52 rfl rfl rfl (fun _ _ _ h => h.2) (by decide +kernel) rfl rfl (by show 19 < 23; decide) hb0 dX12_init_122 ?_
  refine G.veq ((upv_upv _ _ _ _).trans (show _ = upv (upv (upv (upv (upv (upv (upv (upv (upv (upv (upv (upv (upv (upv (upv (upv V a1 (vI Z 0 44 (fun _ => 0))) a2 (vI Z 0 44 (fun _ => 0))) a3 (vI Z 0 44 (fun _ => 0))) a4 (vI Z 0 44 (fun _ => 0))) a5 (vI Z 0 8 (fun _ => 0))) a6 (vI Z 0 8 (fun _ => 0))) a7 (vI Z 0 8 (fun _ => 0))) a8 (vI Z 0 800 (fun _ => 0))) a9 (vI Z 0 8 (fun _ => 0))) a10 (vI Z 0 8 (fun _ => 0))) a11 (vI Z 0 20 (fun _ => 0))) a12 (vI Z 0 20 (fun _ => 0))) a13 (vI Z 0 20 (fun _ => 0))) a14 (vI Z 0 4 (fun _ => 0))) a15 (vI Z 0 400 (fun _ => 0))) a0 (vO 12 [.ref a1, .ref a2, .ref a3, .ref a4, .ref a5, .ref a6, .ref a7, .ref a8, .ref a9, .ref a10, .int 0, .int 0, .ref a11, .ref a12, .ref a13, .int 0, .int 0, .int 0, .ref a14, .ref a15, .null, .null, .int 0]) from rfl)) ?_
  refine g_aload_n (q := 0) (pc := 125) dX12_init_125 rfl rfl ?_
  refine g_bipush (v := nI 20) (pc := 126) dX12_init_126 (by decide) ?_
  refine g_newa0 (pc := 128) (N := 20) ac_int (nI_nneg (by decide)) (nI_toNat (by decide)) (by decide) (by decide) (by decide) dX12_init_128 (fun a16 hb16 hn16 hl16 => ?_)
  have ht16 : a15 < a16 := hl16 _ _ ((upv_ne (show a15 ≠ a0 by omega)).trans (upv_eq _ _ _))
  refine G.veq (upv_comm (show a0 ≠ a16 by omega) _ _) ?_
  refine g_putF (C := RX12) (F := TX12) (N := 23) (ci := 12) (ty := .array .int) (pc := 130) (upv_eq _ _ _) rfl inX12 tyX12 tyX12_ok nmX12 20 (by decide) flX12_55 rfl rfl rfl (fun _ _ _ h => h.2) (by decide +kernel) rfl rfl (by show 20 < 23; decide) hb0 dX12_init_130 ?_
  refine G.veq ((upv_upv _ _ _ _).trans (show _ = upv (upv (upv (upv (upv (upv (upv (upv (upv (upv (upv (upv (upv (upv (upv (upv (upv V a1 (vI Z 0 44 (fun _ => 0))) a2 (vI Z 0 44 (fun _ => 0))) a3 (vI Z 0 44 (fun _ => 0))) a4 (vI Z 0 44 (fun _ => 0))) a5 (vI Z 0 8 (fun _ => 0))) a6 (vI Z 0 8 (fun _ => 0))) a7 (vI Z 0 8 (fun _ => 0))) a8 (vI Z 0 800 (fun _ => 0))) a9 (vI Z 0 8 (fun _ => 0))) a10 (vI Z 0 8 (fun _ => 0))) a11 (vI Z 0 20 (fun _ => 0))) a12 (vI Z 0 20 (fun _ => 0))) a13 (vI Z 0 20 (fun _ => 0))) a14 (vI Z 0 4 (fun _ => 0))) a15 (vI Z 0 400 (fun _ => 0))) a16 (vI Z 0 20 (fun _ => 0))) a0 (vO 12 [.ref a1, .ref a2, .ref a3, .ref a4, .ref a5, .ref a6, .ref a7, .ref a8, .ref a9, .ref a10, .int 0, .int 0, .ref a11, .ref a12, .ref a13, .int 0, .int 0, .int 0, .ref a14, .ref a15, .ref a16, .null, .int 0]) from rfl)) ?_
  refine g_aload_n (q := 0) (pc := 133) dX12_init_133 rfl rfl ?_
  refine g_bipush (v := nI 20) (pc := 134) dX12_init_134 (by decide) ?_
  refine g_newa0 (pc := 136) (N := 20) ac_int (nI_nneg (by decide)) (nI_toNat (by decide)) (by decide) (by decide) (by decide) dX12_init_136 (fun a17 hb17 hn17 hl17 => ?_)
  have ht17 : a16 < a17 := hl17 _ _ ((upv_ne (show a16 ≠ a0 by omega)).trans (upv_eq _ _ _))
  refine G.veq (upv_comm (show a0 ≠ a17 by omega) _ _) ?_
  refine g_putF (C := RX12) (F := TX12) (N := 23) (ci := 12) (ty := .array .int) (pc := 138) (upv_eq _ _ _) rfl inX12 tyX12 tyX12_ok nmX12 21 (by decide) flX12_58 rfl rfl rfl (fun _ _ _ h => h.2) (by decide +kernel) rfl rfl (by show 21 < 23; decide) hb0 dX12_init_138 ?_
  refine G.veq ((upv_upv _ _ _ _).trans (show _ = upv (upv (upv (upv (upv (upv (upv (upv (upv (upv (upv (upv (upv (upv (upv (upv (upv (upv V a1 (vI Z 0 44 (fun _ => 0))) a2 (vI Z 0 44 (fun _ => 0))) a3 (vI Z 0 44 (fun _ => 0))) a4 (vI Z 0 44 (fun _ => 0))) a5 (vI Z 0 8 (fun _ => 0))) a6 (vI Z 0 8 (fun _ => 0))) a7 (vI Z 0 8 (fun _ => 0))) a8 (vI Z 0 800 (fun _ => 0))) a9 (vI Z 0 8 (fun _ => 0))) a10 (vI Z 0 8 (fun _ => 0))) a11 (vI Z 0 20 (fun _ => 0))) a12 (vI Z 0 20 (fun _ => 0))) a13 (vI Z 0 20 (fun _ => 0))) a14 (vI Z 0 4 (fun _ => 0))) a15 (vI Z 0 400 (fun _ => 0))) a16 (vI Z 0 20 (fun _ => 0))) a17 (vI Z 0 20 (fun _ => 0))) a0 (vO 12 [.ref a1, .ref a2, .ref a3, .ref a4, .ref a5, .ref a6, .ref a7, .ref a8, .ref a9, .ref a10, .int 0, .int 0, .ref a11, .ref a12, .ref a13, .int 0, .int 0, .int 0, .ref a14, .ref a15, .ref a16, .ref a17, .int 0]) from rfl)) ?_
  obtain ⟨ad, had⟩ : ∃ ad : Nat → Nat, ad = (fun k => match k with | 0 => a0 | 1 => a1 | 2 => a2 | 3 => a3 | 4 => a4 | 5 => a5 | 6 => a6 | 7 => a7 | 8 => a8 | 9 => a9 | 10 => a10 | 11 => a11 | 12 => a12 | 13 => a13 | 14 => a14 | 15 => a15 | 16 => a16 | _ => a17) := ⟨_, rfl⟩
  have e0 : ad 0 = a0 := congrFun had 0
  have e1 : ad 1 = a1 := congrFun had 1
  have e2 : ad 2 = a2 := congrFun had 2
  have e3 : ad 3 = a3 := congrFun had 3
  have e4 : ad 4 = a4 := congrFun had 4
  have e5 : ad 5 = a5 := congrFun had 5
  have e6 : ad 6 = a6 := congrFun had 6
  have e7 : ad 7 = a7 := congrFun had 7
  have e8 : ad 8 = a8 := congrFun had 8
  have e9 : ad 9 = a9 := congrFun had 9
  have e10 : ad 10 = a10 := congrFun had 10
  have e11 : ad 11 = a11 := congrFun had 11
  have e12 : ad 12 = a12 := congrFun had 12
  have e13 : ad 13 = a13 := congrFun had 13
  have e14 : ad 14 = a14 := congrFun had 14
  have e15 : ad 15 = a15 := congrFun had 15
  have e16 : ad 16 = a16 := congrFun had 16
  have e17 : ad 17 = a17 := congrFun had 17
  have hmo : ∀ k, k + 1 < 18 → ad k < ad (k + 1) := fun k hk => by
    match k, hk with
    | 0, _ => rw [e0, e1]; exact ht1
    | 1, _ => rw [e1, e2]; exact ht2
    | 2, _ => rw [e2, e3]; exact ht3
    | 3, _ => rw [e3, e4]; exact ht4
    | 4, _ => rw [e4, e5]; exact ht5
    | 5, _ => rw [e5, e6]; exact ht6
    | 6, _ => rw [e6, e7]; exact ht7
    | 7, _ => rw [e7, e8]; exact ht8
    | 8, _ => rw [e8, e9]; exact ht9
    | 9, _ => rw [e9, e10]; exact ht10
    | 10, _ => rw [e10, e11]; exact ht11
    | 11, _ => rw [e11, e12]; exact ht12
    | 12, _ => rw [e12, e13]; exact ht13
    | 13, _ => rw [e13, e14]; exact ht14
    | 14, _ => rw [e14, e15]; exact ht15
    | 15, _ => rw [e15, e16]; exact ht16
    | 16, _ => rw [e16, e17]; exact ht17
    | n + 17, hn => exact absurd hn (by omega)
  have hfr : ∀ (q : Nat) (e : va_E), q ≠ a0 → V q = some e → q < ad 1 := fun q e h0 h => by
    rw [e1]; exact hl1 q e ((upv_ne h0).trans h)
  have hA : aB b0 18 ad := ⟨mono_inj (fun k hk => by
    match k, hk with
    | 0, _ => rw [e0, e1]; exact ht1
    | 1, _ => rw [e1, e2]; exact ht2
    | 2, _ => rw [e2, e3]; exact ht3
    | 3, _ => rw [e3, e4]; exact ht4
    | 4, _ => rw [e4, e5]; exact ht5
    | 5, _ => rw [e5, e6]; exact ht6
    | 6, _ => rw [e6, e7]; exact ht7
    | 7, _ => rw [e7, e8]; exact ht8
    | 8, _ => rw [e8, e9]; exact ht9
    | 9, _ => rw [e9, e10]; exact ht10
    | 10, _ => rw [e10, e11]; exact ht11
    | 11, _ => rw [e11, e12]; exact ht12
    | 12, _ => rw [e12, e13]; exact ht13
    | 13, _ => rw [e13, e14]; exact ht14
    | 14, _ => rw [e14, e15]; exact ht15
    | 15, _ => rw [e15, e16]; exact ht16
    | 16, _ => rw [e16, e17]; exact ht17
    | n + 17, hn => exact absurd hn (by omega)), fun k hk => by
    match k, hk with
    | 0, _ => rw [e0]; exact hb0
    | 1, _ => rw [e1]; exact hb1
    | 2, _ => rw [e2]; exact hb2
    | 3, _ => rw [e3]; exact hb3
    | 4, _ => rw [e4]; exact hb4
    | 5, _ => rw [e5]; exact hb5
    | 6, _ => rw [e6]; exact hb6
    | 7, _ => rw [e7]; exact hb7
    | 8, _ => rw [e8]; exact hb8
    | 9, _ => rw [e9]; exact hb9
    | 10, _ => rw [e10]; exact hb10
    | 11, _ => rw [e11]; exact hb11
    | 12, _ => rw [e12]; exact hb12
    | 13, _ => rw [e13]; exact hb13
    | 14, _ => rw [e14]; exact hb14
    | 15, _ => rw [e15]; exact hb15
    | 16, _ => rw [e16]; exact hb16
    | 17, _ => rw [e17]; exact hb17
    | n + 18, hn => exact absurd hn (by omega)⟩
  refine G.veq (V' := wM Z ad 0 0 0 0 0 0 (fun _ => 0) (fun _ => 0) (fun _ => 0) (fun _ => 0) (fun _ => 0) (fun _ => 0) (fun _ => 0) (fun _ => 0) (fun _ => 0) (fun _ => 0) (fun _ => 0) (fun _ => 0) (fun _ => 0) (fun _ => 0) (fun _ => 0) (fun _ => 0) (fun _ => 0) V) ?_ ?_
  · have hf : vO 12 [.ref a1, .ref a2, .ref a3, .ref a4, .ref a5, .ref a6, .ref a7, .ref a8, .ref a9, .ref a10, .int 0, .int 0, .ref a11, .ref a12, .ref a13, .int 0, .int 0, .int 0, .ref a14, .ref a15, .ref a16, .ref a17, .int 0] = vO 12 [.ref (ad 1), .ref (ad 2), .ref (ad 3), .ref (ad 4), .ref (ad 5), .ref (ad 6), .ref (ad 7), .ref (ad 8), .ref (ad 9), .ref (ad 10), .int 0, .int 0, .ref (ad 11), .ref (ad 12), .ref (ad 13), .int 0, .int 0, .int 0, .ref (ad 14), .ref (ad 15), .ref (ad 16), .ref (ad 17), .int 0] := by rw [e1, e2, e3, e4, e5, e6, e7, e8, e9, e10, e11, e12, e13, e14, e15, e16, e17]
    refine (((upv_comm (show a17 ≠ a0 by omega) _ _).trans (congrArg (fun X => upv X a17 (vI Z 0 20 (fun _ => 0))) ((upv_comm (show a16 ≠ a0 by omega) _ _).trans (congrArg (fun X => upv X a16 (vI Z 0 20 (fun _ => 0))) ((upv_comm (show a15 ≠ a0 by omega) _ _).trans (congrArg (fun X => upv X a15 (vI Z 0 400 (fun _ => 0))) ((upv_comm (show a14 ≠ a0 by omega) _ _).trans (congrArg (fun X => upv X a14 (vI Z 0 4 (fun _ => 0))) ((upv_comm (show a13 ≠ a0 by omega) _ _).trans (congrArg (fun X => upv X a13 (vI Z 0 20 (fun _ => 0))) ((upv_comm (show a12 ≠ a0 by omega) _ _).trans (congrArg (fun X => upv X a12 (vI Z 0 20 (fun _ => 0))) ((upv_comm (show a11 ≠ a0 by omega) _ _).trans (congrArg (fun X => upv X a11 (vI Z 0 20 (fun _ => 0))) ((upv_comm (show a10 ≠ a0 by omega) _ _).trans (congrArg (fun X => upv X a10 (vI Z 0 8 (fun _ => 0))) ((upv_comm (show a9 ≠ a0 by omega) _ _).trans (congrArg (fun X => upv X a9 (vI Z 0 8 (fun _ => 0))) ((upv_comm (show a8 ≠ a0 by omega) _ _).trans (congrArg (fun X => upv X a8 (vI Z 0 800 (fun _ => 0))) ((upv_comm (show a7 ≠ a0 by omega) _ _).trans (congrArg (fun X => upv X a7 (vI Z 0 8 (fun _ => 0))) ((upv_comm (show a6 ≠ a0 by omega) _ _).trans (congrArg (fun X => upv X a6 (vI Z 0 8 (fun _ => 0))) ((upv_comm (show a5 ≠ a0 by omega) _ _).trans (congrArg (fun X => upv X a5 (vI Z 0 8 (fun _ => 0))) ((upv_comm (show a4 ≠ a0 by omega) _ _).trans (congrArg (fun X => upv X a4 (vI Z 0 44 (fun _ => 0))) ((upv_comm (show a3 ≠ a0 by omega) _ _).trans (congrArg (fun X => upv X a3 (vI Z 0 44 (fun _ => 0))) ((upv_comm (show a2 ≠ a0 by omega) _ _).trans (congrArg (fun X => upv X a2 (vI Z 0 44 (fun _ => 0))) ((upv_comm (show a1 ≠ a0 by omega) _ _).trans (congrArg (fun X => upv X a1 (vI Z 0 44 (fun _ => 0))) rfl))))))))))))))))))))))))))))))))))).trans ?_
    show _ = bk ad 18 _ V
    simp only [bk, pM]
    rw [e0, e1, e2, e3, e4, e5, e6, e7, e8, e9, e10, e11, e12, e13, e14, e15, e16, e17]
  · rw [← e0]
    refine g_aload_n (q := 0) (pc := 141) dX12_init_141 rfl rfl ?_
    refine gm_get_s (pc := 142) hA dX12_init_142 ?_
    refine g_bipush (v := nI 42) (pc := 145) dX12_init_145 (by decide) ?_
    refine g_bipush (v := nI 19) (pc := 147) dX12_init_147 (by decide) ?_
    refine gm_st_s (pc := 149) (j := 42) (f' := (upd (fun _ => 0) 42 (nI 19))) hA (by omega) rfl dX12_init_149 ?_
    refine gm_eq_s (f' := enc (fun _ => 0) (fun _ => 0) (fun g => if g = 1 then 19 else 0) (fun _ => 0)) hA (by decide +kernel) ?_
    exact g_vret (pc := 150) (by decide) (by decide) (hPo _ _ ⟨rfl, ad, e0, hA, hmo, hfr, rfl⟩) dX12_init_150
end MS
section LW
variable {Z : Nat → ClassId} {b0 : Nat} {cd ad : Nat → Nat} {V Vb : HV}
theorem bk_hit {n j : Nat} {f : Nat → va_E} (hi : inj ad n) (hj : j < n) (h : bk ad n f V (ad j) = none) : False := by
  rw [bk_get hi (Nat.le_refl _) hj] at h; cases h
theorem CIadd {ik : Int32} {kd fg pl : Nat → Nat} {hr : Nat → Int32} {ikd ifg ipl : Nat → Nat} {ihr : Nat → Int32} {kp so sz : Nat → Nat} {el ki kf : Nat → Int32} {P : HV} (h : CI Z b0 cd Vb ik kd fg pl hr ikd ifg ipl ihr kp so sz el ki kf V) (hP : ∀ q e, P q = some e → V q = none) : CI Z b0 cd (ov P Vb) ik kd fg pl hr ikd ifg ipl ihr kp so sz el ki kf (ov P V) := by
  obtain ⟨ugA, ugB, ugC, rA, rB, pB, tB, rC, cX, lX, oX, nX, sX, zX, cY, lY, oY, nY, sY, zY, tm, cl, KR, SO, SZ, EL, V1, rfl, hA, hE, hgA, hgB, hmA, hmC, hpl, hipl, hSh⟩ := h
  have hdis : ∀ j, j < 46 → P (cd j) = none := fun j hj => by
    cases hp : P (cd j) with
    | none => rfl
    | some e =>
      have h1 := hP _ _ hp
      exact (bk_hit hA.1.1 hj h1).elim
  have hrk : ∀ {a q f : Nat}, Rk V1 a q f → Rk (ov P V1) a q f := fun {a q f} hr => by
    refine ⟨hr.1, hr.2.1, (ov_none ?_).trans hr.2.2⟩
    cases hp : P a with
    | none => rfl
    | some e =>
      have h1 := hP _ _ hp
      exact absurd (h1.symm.trans (wC_out hA hr.2.2)) (by intro z; cases z)
  refine ⟨ugA, ugB, ugC, rA, rB, pB, tB, rC, cX, lX, oX, nX, sX, zX, cY, lY, oY, nY, sY, zY, tm, cl, KR, SO, SZ, EL, ov P V1, ov_bk 46 hdis, ⟨hA.1, fun j hj => (ov_none (hdis j hj)).trans (hA.2 j hj)⟩, fun q e he => ?_, hrk hgA, hrk hgB, fun c hc => hrk (hmA c hc), fun c hc => hrk (hmC c hc), hpl, hipl, fun d hd => ?_⟩
  · cases hp : P q with
    | none => rw [ov_none hp] at he ⊢; exact hE q e he
    | some x => rw [ov_some hp] at he ⊢; exact he
  · rcases hSh d hd with q | ⟨q1, ⟨a, x, f, q2, q3, q4, q5⟩, q6⟩ | q
    · exact Or.inl q
    · exact Or.inr (Or.inl ⟨q1, ⟨a, x, f, q2, hrk q3, q4, q5⟩, q6⟩)
    · exact Or.inr (Or.inr q)
end LW
