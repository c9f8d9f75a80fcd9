section LW
variable {l : Launch} {D : va_G} {Z : Nat → ClassId} {b0 b Ls : Nat} {xs : Nat → Int32} {cd ad : Nat → Nat} {V : HV}
theorem LSt_0 {W : HV} {o : Nat} (hC : CI Z b0 cd (fun _ => none) (nI 0) (fun _ => 0) (fun _ => 0) pl0 (fun _ => 0) (fun _ => 0) (fun _ => 0) pl0 (fun _ => 0) (fun _ => 0) (fun _ => 0) (fun _ => 0) (fun _ => 0) (fun _ => 0) (fun _ => 0) W) (hA : aB b0 18 ad) (hmo : ∀ k, k + 1 < 18 → ad k < ad (k + 1)) (hfr : ∀ (q : Nat) (e : va_E), q ≠ ad 0 → W q = some e → q < ad 1) (h0 : W (ad 0) = none) (ho : (wM Z ad 0 0 0 0 0 0 (enc (fun _ => 0) (fun _ => 0) (fun g => if g = 1 then 19 else 0) (fun _ => 0)) (fun _ => 0) (fun _ => 0) (fun _ => 0) (fun _ => 0) (fun _ => 0) (fun _ => 0) (fun _ => 0) (fun _ => 0) (fun _ => 0) (fun _ => 0) (fun _ => 0) (fun _ => 0) (fun _ => 0) (fun _ => 0) (fun _ => 0) (fun _ => 0) W) o = none) : (∀ j, j < 18 → ad j ≠ o) ∧ LSt Z b0 cd ad o (upv (wM Z ad 0 0 0 0 0 0 (enc (fun _ => 0) (fun _ => 0) (fun g => if g = 1 then 19 else 0) (fun _ => 0)) (fun _ => 0) (fun _ => 0) (fun _ => 0) (fun _ => 0) (fun _ => 0) (fun _ => 0) (fun _ => 0) (fun _ => 0) (fun _ => 0) (fun _ => 0) (fun _ => 0) (fun _ => 0) (fun _ => 0) (fun _ => 0) (fun _ => 0) (fun _ => 0) W) o (vL Z 4 1 (fun _ => 0))) := by
  have hao : ∀ j, j < 18 → ad j ≠ o := fun j hj e => by
    subst e
    exact bk_hit hA.1 hj ho
  refine ⟨hao, ?_⟩
  have e1 : (wM Z ad 0 0 0 0 0 0 (enc (fun _ => 0) (fun _ => 0) (fun g => if g = 1 then 19 else 0) (fun _ => 0)) (fun _ => 0) (fun _ => 0) (fun _ => 0) (fun _ => 0) (fun _ => 0) (fun _ => 0) (fun _ => 0) (fun _ => 0) (fun _ => 0) (fun _ => 0) (fun _ => 0) (fun _ => 0) (fun _ => 0) (fun _ => 0) (fun _ => 0) (fun _ => 0) W) = ov (bk ad 18 (pM Z ad 0 0 0 0 0 0 (enc (fun _ => 0) (fun _ => 0) (fun g => if g = 1 then 19 else 0) (fun _ => 0)) (fun _ => 0) (fun _ => 0) (fun _ => 0) (fun _ => 0) (fun _ => 0) (fun _ => 0) (fun _ => 0) (fun _ => 0) (fun _ => 0) (fun _ => 0) (fun _ => 0) (fun _ => 0) (fun _ => 0) (fun _ => 0) (fun _ => 0) (fun _ => 0)) (fun _ => none)) W := bk_ov 18
  rw [e1] at ho ⊢
  have hC1 := CIadd hC (P := bk ad 18 (pM Z ad 0 0 0 0 0 0 (enc (fun _ => 0) (fun _ => 0) (fun g => if g = 1 then 19 else 0) (fun _ => 0)) (fun _ => 0) (fun _ => 0) (fun _ => 0) (fun _ => 0) (fun _ => 0) (fun _ => 0) (fun _ => 0) (fun _ => 0) (fun _ => 0) (fun _ => 0) (fun _ => 0) (fun _ => 0) (fun _ => 0) (fun _ => 0) (fun _ => 0) (fun _ => 0)) (fun _ => none)) (fun q e hq => by
    obtain ⟨j, hj, rfl⟩ := bk_in 18 hq
    by_cases z : j = 0
    · subst z; exact h0
    · cases hw : W (ad j) with
      | none => rfl
      | some e9 =>
        have h1 := hfr (ad j) e9 (fun e => z (hA.1 j hj 0 (by omega) e)) hw
        have h2 := adr_ge hmo j hj z
        exact absurd h1 (by omega))
  have hC2 := CIadd hC1 (P := upv (fun _ => none) o (vL Z 4 1 (fun _ => 0))) (fun q e hq => by
    by_cases z : q = o
    · subst z; exact ho
    · rw [upv_ne z] at hq; cases hq)
  rw [← upv_ov, ← upv_ov] at hC2
  refine ⟨nI 0, (fun _ => 0), (fun _ => 0), pl0, (fun _ => 0), (fun _ => 0), (fun _ => 0), pl0, (fun _ => 0), (fun _ => 0), (fun _ => 0), (fun _ => 0), (fun _ => 0), (fun _ => 0), (fun _ => 0), 0, 0, 0, 0, 0, (fun _ => 0), (fun _ => 0), (fun _ => 0), (fun _ => 0), (fun _ => 0), (fun _ => 0), (fun _ => 0), (fun _ => 0), (fun _ => 0), (fun _ => 0), (fun _ => 0), _, hC2, fun j hj => ?_, upv_eq _ _ _, Or.inl rfl, fun c hc => ⟨show 0 < 3 by decide, show 0 < 3 by decide, show 0 ≤ 100 by decide, fun e => absurd (show 0 = 1 from e) (by decide)⟩⟩
  exact (upv_ne (hao j hj)).trans ((ov_none rfl).trans (ov_some (bk_get hA.1 (Nat.le_refl _) hj)))
set_option maxHeartbeats 8000000 in
theorem law_start (hfl : l.stackTraces = false) (hLs : Ls ≤ 3072) : G l D Z b0 room_1 RL cL_law 8 (gEl b0 b Ls xs) lw_Z (fun _ => none) [(0, .ref b)] 0 0 0 [] := by
  refine g_new (C := RX11) (F := TX11) (N := 9) (ci := 11) (fs := [.null, .null, .null, .int 0, .null, .null, .null, .null, .null]) (pc := 0) inX11 tyX11 tyX11_ok clL_8 insX11 iniX11 rfl (by decide) (Nat.le_of_ble_eq_true rfl) (Nat.le_of_ble_eq_true rfl) dL_law_0 (fun a0 hb0 hn0 hl0 => ?_)
  refine g_dup (pc := 3) dL_law_3 rfl ?_
  refine g_callI (ret := none) (As := []) (rest := [.ref a0]) (pc := 4) rfl (c_X11_init (Vb := fun _ => none) (upv_eq _ _ _) hb0 (fun q e h => by cases h)) mlL_17 mX11_init ⟨Nat.le_of_ble_eq_true rfl, Nat.le_of_ble_eq_true rfl⟩ rfl rfl (Nat.le_of_ble_eq_true rfl) dL_law_4 ⟨(Nat.le_of_ble_eq_true rfl), (Nat.le_of_ble_eq_true rfl)⟩ (fun v9 W h9 => ?_)
  obtain ⟨rfl, cd, hcd, hC⟩ := h9
  subst hcd
  refine G.eqst (k2 := 52) (n2 := 1599) (st2 := [.ref (cd 0)]) rfl rfl rfl ?_
  refine g_astore_n (lv' := [(1, .ref (cd 0)), (0, .ref b)]) (pc := 7) dL_law_7 rfl (by decide) rfl ?_
  refine g_new (C := RX12) (F := TX12) (N := 23) (ci := 12) (fs := [.null, .null, .null, .null, .null, .null, .null, .null, .null, .null, .int 0, .int 0, .null, .null, .null, .int 0, .int 0, .int 0, .null, .null, .null, .null, .int 0]) (pc := 8) inX12 tyX12 tyX12_ok clL_18 insX12 iniX12 rfl (by decide) (Nat.le_of_ble_eq_true rfl) (Nat.le_of_ble_eq_true rfl) dL_law_8 (fun a1 hb1 hn1 hl1 => ?_)
  refine g_dup (pc := 11) dL_law_11 rfl ?_
  refine g_callI (ret := none) (As := []) (rest := [.ref a1]) (pc := 12) rfl (c_X12_init2 hb1) mlL_20 mX12_init ⟨Nat.le_of_ble_eq_true rfl, Nat.le_of_ble_eq_true rfl⟩ rfl rfl (Nat.le_of_ble_eq_true rfl) dL_law_12 ⟨(Nat.le_of_ble_eq_true rfl), (Nat.le_of_ble_eq_true rfl)⟩ (fun v9 W2 h9 => ?_)
  obtain ⟨rfl, ad, had, hA, hmo, hfr, rfl⟩ := h9
  subst had
  refine G.eqst (k2 := 70) (n2 := 3142) (st2 := [.ref (ad 0)]) rfl rfl rfl ?_
  refine g_astore_n (lv' := [(2, .ref (ad 0)), (1, .ref (cd 0)), (0, .ref b)]) (pc := 15) dL_law_15 rfl (by decide) rfl ?_
  refine g_iconst (v := nI 1) (pc := 16) dL_law_16 (by decide) ?_
  refine g_newa4 (pc := 17) (N := 1) ac_long (nI_nneg (by decide)) (nI_toNat (by decide)) (by decide) (Nat.le_of_ble_eq_true rfl) (Nat.le_of_ble_eq_true rfl) dL_law_17 (fun o hbo hno hlo => ?_)
  refine g_astore_n (lv' := [(3, .ref o), (2, .ref (ad 0)), (1, .ref (cd 0)), (0, .ref b)]) (pc := 19) dL_law_19 rfl (by decide) rfl ?_
  refine g_iconst (v := nI 0) (pc := 20) dL_law_20 (by decide) ?_
  refine g_istore (lv' := [(4, .int (nI 0)), (3, .ref o), (2, .ref (ad 0)), (1, .ref (cd 0)), (0, .ref b)]) (pc := 21) dL_law_21 (by decide) rfl ?_
  obtain ⟨hao, hLS⟩ := LSt_0 hC hA hmo hfr hn1 hno
  exact law_loop hA hao hbo hfl hLs 512 0 71 3143 _ (by omega) (Nat.zero_le _) (by decide) (by decide) hLS
end LW
/-- the law from its entry -/
theorem whole_start {p : Program} {e : Env} {s : State} {m : MethodId} {below : List Frame} {meth : Method} {c : Code} (l : Launch) (hflags : l.flags = flags0) {b L : Nat} {xs : Nat → Int32} (hL : L ≤ 3072) (C0 : lw_At p s m meth c b L xs) : W p l e room_1 s m #[Value.ref b] below meth c s.heap [] 0 0 (lw_Z below #[Value.ref b] s) (entryFrame m ([Value.ref b] : List Value).toArray 8) := by
  obtain ⟨hx, hb, hr, hml, hown, hts, hX, hbl, hlocks, hgv⟩ := C0
  obtain ⟨D, Z, hK⟩ := wldK hts
  have hZ := wldZ hts hgv
  have hfl : l.stackTraces = false := by
    unfold Launch.stackTraces; rw [hflags]; decide +kernel
  have ht : ∀ w ∈ TB, w.before #[Value.ref b] s = true := fun w h => hts w (List.mem_filter.mp h).1
  have hl := lv_entry ([.ref b]) (n := 8) (Nat.le_of_ble_eq_true rfl)
  rw [lg_entry_eq]
  generalize (lg_sl ([.ref b]) ++ List.replicate (8 - (lg_sl ([.ref b])).length) Slot.unset).toArray = ls at hl ⊢
  have hl : lv_has ls 8 [(0, .ref b)] := hl
  exact law_start hfl hL p e s m #[Value.ref b] below meth c s.heap [] ls ⟨hx, hb, hml, hown, ht, hK, Nat.le_refl _, hlocks⟩ ⟨hZ, hX, hbl, Nat.not_le.mpr hbl, rfl, hr, Nat.le_refl _⟩ (fun q e h => by cases h) va_S.rf hl
