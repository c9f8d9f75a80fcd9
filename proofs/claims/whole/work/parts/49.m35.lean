section MS
variable {l : Launch} {D : va_G} {Z : Nat → ClassId} {b0 : Nat} {cd : Nat → Nat} {ik : Int32} {ugA ugB ugC : Nat} {rA : Nat → Nat} {pA tA : Nat → Int32} {rB : Nat → Nat} {pB tB : Nat → Int32} {rC : Nat → Nat} {pC tC cX lX oX nX sX zX cY lY oY nY sY zY tm cl : Nat → Int32} {KR : Nat → Option Nat} {SO : Nat → Int32} {SZ : Nat → Nat} {EL : Nat → Nat → Int32} {V Vb : HV} {kd fg pl ikd ifg ipl kp so sz : Nat → Nat} {hr ihr el ki kf : Nat → Int32}
theorem adv_c (pl : Nat → Nat) (g s : Nat) : (¬ s < 4) ∨ (s < 4 ∧ nbo (pl g) s = none) ∨ (s < 4 ∧ ∃ t, nbo (pl g) s = some t) := by
  by_cases h : s < 4
  · cases hb : nbo (pl g) s with
    | none => exact Or.inr (Or.inl ⟨h, rfl⟩)
    | some t => exact Or.inr (Or.inr ⟨h, t, rfl⟩)
  · exact Or.inl h
def rmX11_obey : Room := { frames := 6, cells := 1, slots := 1, locals := 119 }
set_option maxHeartbeats 8000000 in
theorem c_X11_obey_k {kd2 fg2 pl2 : Nat → Nat} {hr2 : Nat → Int32} {d p : Nat} (hA : oC b0 cd V) (hE : Ext Vb V) (hgA : Rk V ugA 7 0) (hgB : Rk V ugB 7 0) (hmA : mo V rA kd fg) (hmC : mo V rC ikd ifg) (hpl : ∀ g, g < 2 → pl g < 20) (hipl : ∀ g, g < 2 → ipl g < 20) (hSh : Sh V KR SO SZ EL kp so sz el ki kf) (hmB2 : mo V rB kd2 fg2) (hpl2 : ∀ g, g < 2 → pl2 g < 20) (hd : d < 8) (hze : SZ d = sz d) (hz1 : sz d ≤ 100) (hel : ∀ i, i < sz d → EL d i = el (100 * d + i)) (hx : tx el (100 * d) p = nI 107) (hp3 : p + 3 < sz d) (hdg : ∀ j, j < 4 → p + 1 + j < sz d ∧ inB (tx el (100 * d) (p + 1 + j)) 48 57 = true) : KM l D Z b0 yX11_obey cX11_obey 6 (some .boolean) rmX11_obey [.ref (cd 0), .ref (cd (30 + d)), .int (nI p)] (wC Z cd ik ugA ugB ugC rA (nf pl) hr rB (nf pl2) hr2 rC (nf ipl) ihr cX lX oX nX sX zX cY lY oY nY sY zY tm cl KR SO SZ EL V) (fun v0 V' => (v0 = some (.int (nI 1)) ∧ ∃ (M2 : Mt) (rB2 : Nat → Nat) (V2 : HV), exM (tx el (100 * d) p) (fun j => dgN (tx el (100 * d)) (p + 1 + j)) (kd2, fg2, pl2, hr2) = some M2 ∧ mo V2 rB2 M2.1 M2.2.1 ∧ (∀ g, g < 2 → M2.2.2.1 g < 20) ∧ CH b0 cd Vb V2 ugA ugB rA rC kd fg pl ikd ifg ipl KR SO SZ EL kp so sz el ki kf ∧ V' = wC Z cd ik ugA ugB ugC rA (nf pl) hr rB2 (nf M2.2.2.1) M2.2.2.2 rC (nf ipl) ihr cX lX oX nX sX zX cY lY oY nY sY zY tm cl KR SO SZ EL V2) ∨ (v0 = some (.int (nI 0)) ∧ exM (tx el (100 * d) p) (fun j => dgN (tx el (100 * d)) (p + 1 + j)) (kd2, fg2, pl2, hr2) = none ∧ V' = wC Z cd ik ugA ugB ugC rA (nf pl) hr rB (nf pl2) hr2 rC (nf ipl) ihr cX lX oX nX sX zX cY lY oY nY sY zY tm cl KR SO SZ EL V)) := by
  refine KM.ofP (by decide) (Nat.le_of_ble_eq_true rfl) (fun Po hPo => ?_)
  refine G.locals (L' := [(0, .ref (cd 0)), (1, .ref (cd (30 + d))), (2, .int (nI p))]) [0, 1, 2] rfl ?_
  refine g_aload_n (q := 1) (pc := 0) dX11_obey_0 rfl rfl ?_
  refine g_iload_n (q := 2) (pc := 1) dX11_obey_1 rfl rfl ?_
  refine g_iconst (v := nI 1) (pc := 2) dX11_obey_2 (by decide) ?_
  refine g_iadd_N (pc := 3) dX11_obey_3 ?_
  have hdl0 := (dig_N (hdg 0 (by decide)).2).2
  refine e_callV (k2 := 0) (n2 := 0) (As := [.int (nI (p + 1))]) (rest := []) (pc := 4) (wC_sh hA hd) rfl (c_X7_digit_d hA hd (by rw [hze]; exact (hdg 0 (by decide)).1) (by rw [hze]; exact hz1) ((hel _ (hdg 0 (by decide)).1).trans (dig_N (hdg 0 (by decide)).2).1) (dig_N (hdg 0 (by decide)).2).2) mlX11_287 selX7_X7_digit_X7_digit mX7_digit ⟨Nat.le_of_ble_eq_true rfl, Nat.le_of_ble_eq_true rfl⟩ rfl rfl (Nat.le_of_ble_eq_true rfl) dX11_obey_4 (by decide) rfl rfl ?_
  refine g_istore_n (lv' := [(3, .int (nI (dgN (tx el (100 * d)) (p + 1 + 0)))), (0, .ref (cd 0)), (1, .ref (cd (30 + d))), (2, .int (nI p))]) (pc := 7) dX11_obey_7 rfl (by decide) rfl ?_
  refine g_aload_n (q := 2) (pc := 8) dX11_obey_8 rfl rfl ?_
  refine g_iload_n (q := 3) (pc := 9) dX11_obey_9 rfl rfl ?_
  refine g_iconst (v := nI 2) (pc := 10) dX11_obey_10 (by decide) ?_
  refine g_iadd_N (pc := 11) dX11_obey_11 ?_
  have hdl1 := (dig_N (hdg 1 (by decide)).2).2
  refine e_callV (k2 := 0) (n2 := 0) (As := [.int (nI (p + 2))]) (rest := []) (pc := 12) (wC_sh hA hd) rfl (c_X7_digit_d hA hd (by rw [hze]; exact (hdg 1 (by decide)).1) (by rw [hze]; exact hz1) ((hel _ (hdg 1 (by decide)).1).trans (dig_N (hdg 1 (by decide)).2).1) (dig_N (hdg 1 (by decide)).2).2) mlX11_287 selX7_X7_digit_X7_digit mX7_digit ⟨Nat.le_of_ble_eq_true rfl, Nat.le_of_ble_eq_true rfl⟩ rfl rfl (Nat.le_of_ble_eq_true rfl) dX11_obey_12 (by decide) rfl rfl ?_
  refine g_istore (lv' := [(4, .int (nI (dgN (tx el (100 * d)) (p + 1 + 1)))), (3, .int (nI (dgN (tx el (100 * d)) (p + 1 + 0)))), (0, .ref (cd 0)), (1, .ref (cd (30 + d))), (2, .int (nI p))]) (pc := 15) dX11_obey_15 (by decide) rfl ?_
  refine g_aload_n (q := 3) (pc := 17) dX11_obey_17 rfl rfl ?_
  refine g_iload_n (q := 4) (pc := 18) dX11_obey_18 rfl rfl ?_
  refine g_iconst (v := nI 3) (pc := 19) dX11_obey_19 (by decide) ?_
  refine g_iadd_N (pc := 20) dX11_obey_20 ?_
  have hdl2 := (dig_N (hdg 2 (by decide)).2).2
  refine e_callV (k2 := 0) (n2 := 0) (As := [.int (nI (p + 3))]) (rest := []) (pc := 21) (wC_sh hA hd) rfl (c_X7_digit_d hA hd (by rw [hze]; exact (hdg 2 (by decide)).1) (by rw [hze]; exact hz1) ((hel _ (hdg 2 (by decide)).1).trans (dig_N (hdg 2 (by decide)).2).1) (dig_N (hdg 2 (by decide)).2).2) mlX11_287 selX7_X7_digit_X7_digit mX7_digit ⟨Nat.le_of_ble_eq_true rfl, Nat.le_of_ble_eq_true rfl⟩ rfl rfl (Nat.le_of_ble_eq_true rfl) dX11_obey_21 (by decide) rfl rfl ?_
  refine g_istore (lv' := [(5, .int (nI (dgN (tx el (100 * d)) (p + 1 + 2)))), (4, .int (nI (dgN (tx el (100 * d)) (p + 1 + 1)))), (3, .int (nI (dgN (tx el (100 * d)) (p + 1 + 0)))), (0, .ref (cd 0)), (1, .ref (cd (30 + d))), (2, .int (nI p))]) (pc := 24) dX11_obey_24 (by decide) rfl ?_
  refine g_aload_n (q := 4) (pc := 26) dX11_obey_26 rfl rfl ?_
  refine g_iload_n (q := 5) (pc := 27) dX11_obey_27 rfl rfl ?_
  refine e_callV (k2 := 0) (n2 := 0) (As := [.int (nI p)]) (rest := []) (pc := 28) (wC_sh hA hd) rfl (c_X7_at_s (x := nI 107) hA hd (by rw [hze]; omega) (by rw [hze]; exact hz1) ((hel p (by omega)).trans hx)) mlX11_200 selX7_X7_at_X7_at mX7_at ⟨Nat.le_of_ble_eq_true rfl, Nat.le_of_ble_eq_true rfl⟩ rfl rfl (Nat.le_of_ble_eq_true rfl) dX11_obey_28 (by decide) rfl rfl ?_
  refine g_lookup (tgt := 64) (off := 33) (pc := 31) dX11_obey_31 (by decide) (by decide) (by decide) ?_
  refine g_aload_n (q := 3) (pc := 64) dX11_obey_64 rfl rfl ?_
  refine g_bipush (v := nI 10) (pc := 65) dX11_obey_65 (by decide) ?_
  refine g_iload_n (q := 2) (pc := 67) dX11_obey_67 rfl rfl ?_
  refine g_imul_N (pc := 68) dX11_obey_68 ?_
  refine g_iload (q := 1) (pc := 69) dX11_obey_69 rfl ?_
  refine g_iadd_N (pc := 71) dX11_obey_71 ?_
  refine g_iload (q := 0) (pc := 72) dX11_obey_72 rfl ?_
  refine g_aload_n (q := 4) (pc := 74) dX11_obey_74 rfl rfl ?_
  refine g_iload_n (q := 5) (pc := 75) dX11_obey_75 rfl rfl ?_
  refine g_iconst (v := nI 4) (pc := 76) dX11_obey_76 (by decide) ?_
  refine g_iadd_N (pc := 77) dX11_obey_77 ?_
  have hdl3 := (dig_N (hdg 3 (by decide)).2).2
  refine e_callV (k2 := 0) (n2 := 0) (As := [.int (nI (p + 4))]) (rest := [.int (nI (dgN (tx el (100 * d)) (p + 1 + 2))), .int (nI ((10 * (dgN (tx el (100 * d)) (p + 1 + 0))) + (dgN (tx el (100 * d)) (p + 1 + 1)))), .ref (cd 0)]) (pc := 78) (wC_sh hA hd) rfl (c_X7_digit_d hA hd (by rw [hze]; exact (hdg 3 (by decide)).1) (by rw [hze]; exact hz1) ((hel _ (hdg 3 (by decide)).1).trans (dig_N (hdg 3 (by decide)).2).1) (dig_N (hdg 3 (by decide)).2).2) mlX11_287 selX7_X7_digit_X7_digit mX7_digit ⟨Nat.le_of_ble_eq_true rfl, Nat.le_of_ble_eq_true rfl⟩ rfl rfl (Nat.le_of_ble_eq_true rfl) dX11_obey_78 (by decide) rfl rfl ?_
  by_cases hq9 : ((10 * (dgN (tx el (100 * d)) (p + 1 + 0))) + (dgN (tx el (100 * d)) (p + 1 + 1))) < 20 ∧ (dgN (tx el (100 * d)) (p + 1 + 2)) < 8
  · -- alt
    refine g_callV (As := [.int (nI ((10 * (dgN (tx el (100 * d)) (p + 1 + 0))) + (dgN (tx el (100 * d)) (p + 1 + 1)))), .int (nI (dgN (tx el (100 * d)) (p + 1 + 2))), .int (nI (dgN (tx el (100 * d)) (p + 1 + 3)))]) (rest := []) (pc := 81) (wC_0 hA) rfl (c_X11_obeyKind_s hA hE hgA hgB hmA hmC hpl hipl hSh hmB2 hpl2 hq9.1 hq9.2 (by omega)) mlX11_293 selX11_X11_obeyKind_X11_obeyKind mX11_obeyKind ⟨Nat.le_of_ble_eq_true rfl, Nat.le_of_ble_eq_true rfl⟩ rfl rfl (Nat.le_of_ble_eq_true rfl) dX11_obey_81 (by decide)  (fun v9 V9 h9 => ?_)
    obtain ⟨rfl, rB2, V2, hm9, hCH9, rfl⟩ := h9
    refine G.eqst (k2 := 1) (n2 := 1) (st2 := [.int (nI 1)]) rfl rfl rfl ?_
    exact g_zret (pc := 84) (by decide) (by decide) (by decide) (hPo _ _ (Or.inl ⟨rfl, (_, _, pl2, hr2), _, _, by rw [hx]; exact exM_k hq9.1 (by have := hq9.2; omega), hm9, hpl2, hCH9, rfl⟩)) dX11_obey_84
  · -- alt
    refine e_callV (k2 := 1) (n2 := 1) (As := [.int (nI ((10 * (dgN (tx el (100 * d)) (p + 1 + 0))) + (dgN (tx el (100 * d)) (p + 1 + 1)))), .int (nI (dgN (tx el (100 * d)) (p + 1 + 2))), .int (nI (dgN (tx el (100 * d)) (p + 1 + 3)))]) (rest := []) (pc := 81) (wC_0 hA) rfl (c_X11_obeyKind_n (kd2 := kd2) (fg2 := fg2) hA hq9 (by omega) (by omega)) mlX11_293 selX11_X11_obeyKind_X11_obeyKind mX11_obeyKind ⟨Nat.le_of_ble_eq_true rfl, Nat.le_of_ble_eq_true rfl⟩ rfl rfl (Nat.le_of_ble_eq_true rfl) dX11_obey_81 (by decide) rfl rfl ?_
    exact g_zret (pc := 84) (by decide) (by decide) (by decide) (hPo _ _ (Or.inr ⟨rfl, by rw [hx]; exact exM_kn (fun z => hq9 ⟨z.1, by have := z.2; omega⟩), rfl⟩)) dX11_obey_84
set_option maxHeartbeats 8000000 in
theorem c_X11_obey_g {kd2 fg2 pl2 : Nat → Nat} {hr2 : Nat → Int32} {d p : Nat} (hA : oC b0 cd V) (hE : Ext Vb V) (hgA : Rk V ugA 7 0) (hgB : Rk V ugB 7 0) (hmA : mo V rA kd fg) (hmC : mo V rC ikd ifg) (hpl : ∀ g, g < 2 → pl g < 20) (hipl : ∀ g, g < 2 → ipl g < 20) (hSh : Sh V KR SO SZ EL kp so sz el ki kf) (hmB2 : mo V rB kd2 fg2) (hpl2 : ∀ g, g < 2 → pl2 g < 20) (hd : d < 8) (hze : SZ d = sz d) (hz1 : sz d ≤ 100) (hel : ∀ i, i < sz d → EL d i = el (100 * d + i)) (hx : tx el (100 * d) p = nI 103) (hp3 : p + 3 < sz d) (hdg : ∀ j, j < 3 → p + 1 + j < sz d ∧ inB (tx el (100 * d) (p + 1 + j)) 48 57 = true) : KM l D Z b0 yX11_obey cX11_obey 6 (some .boolean) rmX11_obey [.ref (cd 0), .ref (cd (30 + d)), .int (nI p)] (wC Z cd ik ugA ugB ugC rA (nf pl) hr rB (nf pl2) hr2 rC (nf ipl) ihr cX lX oX nX sX zX cY lY oY nY sY zY tm cl KR SO SZ EL V) (fun v0 V' => (v0 = some (.int (nI 1)) ∧ ∃ (M2 : Mt) (rB2 : Nat → Nat) (V2 : HV), exM (tx el (100 * d) p) (fun j => dgN (tx el (100 * d)) (p + 1 + j)) (kd2, fg2, pl2, hr2) = some M2 ∧ mo V2 rB2 M2.1 M2.2.1 ∧ (∀ g, g < 2 → M2.2.2.1 g < 20) ∧ CH b0 cd Vb V2 ugA ugB rA rC kd fg pl ikd ifg ipl KR SO SZ EL kp so sz el ki kf ∧ V' = wC Z cd ik ugA ugB ugC rA (nf pl) hr rB2 (nf M2.2.2.1) M2.2.2.2 rC (nf ipl) ihr cX lX oX nX sX zX cY lY oY nY sY zY tm cl KR SO SZ EL V2) ∨ (v0 = some (.int (nI 0)) ∧ exM (tx el (100 * d) p) (fun j => dgN (tx el (100 * d)) (p + 1 + j)) (kd2, fg2, pl2, hr2) = none ∧ V' = wC Z cd ik ugA ugB ugC rA (nf pl) hr rB (nf pl2) hr2 rC (nf ipl) ihr cX lX oX nX sX zX cY lY oY nY sY zY tm cl KR SO SZ EL V)) := by
  refine KM.ofP (by decide) (Nat.le_of_ble_eq_true rfl) (fun Po hPo => ?_)
  refine G.locals (L' := [(0, .ref (cd 0)), (1, .ref (cd (30 + d))), (2, .int (nI p))]) [0, 1, 2] rfl ?_
  refine g_aload_n (q := 1) (pc := 0) dX11_obey_0 rfl rfl ?_
  refine g_iload_n (q := 2) (pc := 1) dX11_obey_1 rfl rfl ?_
  refine g_iconst (v := nI 1) (pc := 2) dX11_obey_2 (by decide) ?_
  refine g_iadd_N (pc := 3) dX11_obey_3 ?_
  have hdl0 := (dig_N (hdg 0 (by decide)).2).2
  refine e_callV (k2 := 0) (n2 := 0) (As := [.int (nI (p + 1))]) (rest := []) (pc := 4) (wC_sh hA hd) rfl (c_X7_digit_d hA hd (by rw [hze]; exact (hdg 0 (by decide)).1) (by rw [hze]; exact hz1) ((hel _ (hdg 0 (by decide)).1).trans (dig_N (hdg 0 (by decide)).2).1) (dig_N (hdg 0 (by decide)).2).2) mlX11_287 selX7_X7_digit_X7_digit mX7_digit ⟨Nat.le_of_ble_eq_true rfl, Nat.le_of_ble_eq_true rfl⟩ rfl rfl (Nat.le_of_ble_eq_true rfl) dX11_obey_4 (by decide) rfl rfl ?_
  refine g_istore_n (lv' := [(3, .int (nI (dgN (tx el (100 * d)) (p + 1 + 0)))), (0, .ref (cd 0)), (1, .ref (cd (30 + d))), (2, .int (nI p))]) (pc := 7) dX11_obey_7 rfl (by decide) rfl ?_
  refine g_aload_n (q := 2) (pc := 8) dX11_obey_8 rfl rfl ?_
  refine g_iload_n (q := 3) (pc := 9) dX11_obey_9 rfl rfl ?_
  refine g_iconst (v := nI 2) (pc := 10) dX11_obey_10 (by decide) ?_
  refine g_iadd_N (pc := 11) dX11_obey_11 ?_
  have hdl1 := (dig_N (hdg 1 (by decide)).2).2
  refine e_callV (k2 := 0) (n2 := 0) (As := [.int (nI (p + 2))]) (rest := []) (pc := 12) (wC_sh hA hd) rfl (c_X7_digit_d hA hd (by rw [hze]; exact (hdg 1 (by decide)).1) (by rw [hze]; exact hz1) ((hel _ (hdg 1 (by decide)).1).trans (dig_N (hdg 1 (by decide)).2).1) (dig_N (hdg 1 (by decide)).2).2) mlX11_287 selX7_X7_digit_X7_digit mX7_digit ⟨Nat.le_of_ble_eq_true rfl, Nat.le_of_ble_eq_true rfl⟩ rfl rfl (Nat.le_of_ble_eq_true rfl) dX11_obey_12 (by decide) rfl rfl ?_
  refine g_istore (lv' := [(4, .int (nI (dgN (tx el (100 * d)) (p + 1 + 1)))), (3, .int (nI (dgN (tx el (100 * d)) (p + 1 + 0)))), (0, .ref (cd 0)), (1, .ref (cd (30 + d))), (2, .int (nI p))]) (pc := 15) dX11_obey_15 (by decide) rfl ?_
  refine g_aload_n (q := 3) (pc := 17) dX11_obey_17 rfl rfl ?_
  refine g_iload_n (q := 4) (pc := 18) dX11_obey_18 rfl rfl ?_
  refine g_iconst (v := nI 3) (pc := 19) dX11_obey_19 (by decide) ?_
  refine g_iadd_N (pc := 20) dX11_obey_20 ?_
  have hdl2 := (dig_N (hdg 2 (by decide)).2).2
  refine e_callV (k2 := 0) (n2 := 0) (As := [.int (nI (p + 3))]) (rest := []) (pc := 21) (wC_sh hA hd) rfl (c_X7_digit_d hA hd (by rw [hze]; exact (hdg 2 (by decide)).1) (by rw [hze]; exact hz1) ((hel _ (hdg 2 (by decide)).1).trans (dig_N (hdg 2 (by decide)).2).1) (dig_N (hdg 2 (by decide)).2).2) mlX11_287 selX7_X7_digit_X7_digit mX7_digit ⟨Nat.le_of_ble_eq_true rfl, Nat.le_of_ble_eq_true rfl⟩ rfl rfl (Nat.le_of_ble_eq_true rfl) dX11_obey_21 (by decide) rfl rfl ?_
  refine g_istore (lv' := [(5, .int (nI (dgN (tx el (100 * d)) (p + 1 + 2)))), (4, .int (nI (dgN (tx el (100 * d)) (p + 1 + 1)))), (3, .int (nI (dgN (tx el (100 * d)) (p + 1 + 0)))), (0, .ref (cd 0)), (1, .ref (cd (30 + d))), (2, .int (nI p))]) (pc := 24) dX11_obey_24 (by decide) rfl ?_
  refine g_aload_n (q := 4) (pc := 26) dX11_obey_26 rfl rfl ?_
  refine g_iload_n (q := 5) (pc := 27) dX11_obey_27 rfl rfl ?_
  refine e_callV (k2 := 0) (n2 := 0) (As := [.int (nI p)]) (rest := []) (pc := 28) (wC_sh hA hd) rfl (c_X7_at_s (x := nI 103) hA hd (by rw [hze]; omega) (by rw [hze]; exact hz1) ((hel p (by omega)).trans hx)) mlX11_200 selX7_X7_at_X7_at mX7_at ⟨Nat.le_of_ble_eq_true rfl, Nat.le_of_ble_eq_true rfl⟩ rfl rfl (Nat.le_of_ble_eq_true rfl) dX11_obey_28 (by decide) rfl rfl ?_
  refine g_lookup (tgt := 85) (off := 54) (pc := 31) dX11_obey_31 (by decide) (by decide) (by decide) ?_
  refine g_aload_n (q := 3) (pc := 85) dX11_obey_85 rfl rfl ?_
  refine g_iload_n (q := 2) (pc := 86) dX11_obey_86 rfl rfl ?_
  refine g_bipush (v := nI 10) (pc := 87) dX11_obey_87 (by decide) ?_
  refine g_iload (q := 1) (pc := 89) dX11_obey_89 rfl ?_
  refine g_imul_N (pc := 91) dX11_obey_91 ?_
  refine g_iload (q := 0) (pc := 92) dX11_obey_92 rfl ?_
  refine g_iadd_N (pc := 94) dX11_obey_94 ?_
  by_cases hq9 : (dgN (tx el (100 * d)) (p + 1 + 0)) < 2 ∧ ((10 * (dgN (tx el (100 * d)) (p + 1 + 1))) + (dgN (tx el (100 * d)) (p + 1 + 2))) < 20
  · -- alt
    refine e_callV (k2 := 0) (n2 := 0) (As := [.int (nI (dgN (tx el (100 * d)) (p + 1 + 0))), .int (nI ((10 * (dgN (tx el (100 * d)) (p + 1 + 1))) + (dgN (tx el (100 * d)) (p + 1 + 2))))]) (rest := []) (pc := 95) (wC_0 hA) rfl (c_X11_obeyGang_s (kd2 := kd2) (fg2 := fg2) hA hq9.1 hq9.2) mlX11_296 selX11_X11_obeyGang_X11_obeyGang mX11_obeyGang ⟨Nat.le_of_ble_eq_true rfl, Nat.le_of_ble_eq_true rfl⟩ rfl rfl (Nat.le_of_ble_eq_true rfl) dX11_obey_95 (by decide) rfl rfl ?_
    exact g_zret (pc := 98) (by decide) (by decide) (by decide) (hPo _ _ (Or.inl ⟨rfl, (kd2, fg2, _, hr2), _, _, by rw [hx]; exact exM_g hq9.1 hq9.2, hmB2, hplU hpl2 hq9.2, ⟨hA, hE, hgA, hgB, hmA, hmC, hpl, hipl, hSh⟩, rfl⟩)) dX11_obey_98
  · -- alt
    refine e_callV (k2 := 0) (n2 := 0) (As := [.int (nI (dgN (tx el (100 * d)) (p + 1 + 0))), .int (nI ((10 * (dgN (tx el (100 * d)) (p + 1 + 1))) + (dgN (tx el (100 * d)) (p + 1 + 2))))]) (rest := []) (pc := 95) (wC_0 hA) rfl (c_X11_obeyGang_n (kd2 := kd2) (fg2 := fg2) hA hq9 (by omega) (by omega)) mlX11_296 selX11_X11_obeyGang_X11_obeyGang mX11_obeyGang ⟨Nat.le_of_ble_eq_true rfl, Nat.le_of_ble_eq_true rfl⟩ rfl rfl (Nat.le_of_ble_eq_true rfl) dX11_obey_95 (by decide) rfl rfl ?_
    exact g_zret (pc := 98) (by decide) (by decide) (by decide) (hPo _ _ (Or.inr ⟨rfl, by rw [hx]; exact exM_gn hq9, rfl⟩)) dX11_obey_98
set_option maxHeartbeats 8000000 in
theorem c_X11_obey_d {kd2 fg2 pl2 : Nat → Nat} {hr2 : Nat → Int32} {d p : Nat} (hA : oC b0 cd V) (hE : Ext Vb V) (hgA : Rk V ugA 7 0) (hgB : Rk V ugB 7 0) (hmA : mo V rA kd fg) (hmC : mo V rC ikd ifg) (hpl : ∀ g, g < 2 → pl g < 20) (hipl : ∀ g, g < 2 → ipl g < 20) (hSh : Sh V KR SO SZ EL kp so sz el ki kf) (hmB2 : mo V rB kd2 fg2) (hpl2 : ∀ g, g < 2 → pl2 g < 20) (hd : d < 8) (hze : SZ d = sz d) (hz1 : sz d ≤ 100) (hel : ∀ i, i < sz d → EL d i = el (100 * d + i)) (hx : tx el (100 * d) p = nI 100) (hp3 : p + 3 < sz d) (hdg : ∀ j, j < 2 → p + 1 + j < sz d ∧ inB (tx el (100 * d) (p + 1 + j)) 48 57 = true) : KM l D Z b0 yX11_obey cX11_obey 6 (some .boolean) rmX11_obey [.ref (cd 0), .ref (cd (30 + d)), .int (nI p)] (wC Z cd ik ugA ugB ugC rA (nf pl) hr rB (nf pl2) hr2 rC (nf ipl) ihr cX lX oX nX sX zX cY lY oY nY sY zY tm cl KR SO SZ EL V) (fun v0 V' => (v0 = some (.int (nI 1)) ∧ ∃ (M2 : Mt) (rB2 : Nat → Nat) (V2 : HV), exM (tx el (100 * d) p) (fun j => dgN (tx el (100 * d)) (p + 1 + j)) (kd2, fg2, pl2, hr2) = some M2 ∧ mo V2 rB2 M2.1 M2.2.1 ∧ (∀ g, g < 2 → M2.2.2.1 g < 20) ∧ CH b0 cd Vb V2 ugA ugB rA rC kd fg pl ikd ifg ipl KR SO SZ EL kp so sz el ki kf ∧ V' = wC Z cd ik ugA ugB ugC rA (nf pl) hr rB2 (nf M2.2.2.1) M2.2.2.2 rC (nf ipl) ihr cX lX oX nX sX zX cY lY oY nY sY zY tm cl KR SO SZ EL V2) ∨ (v0 = some (.int (nI 0)) ∧ exM (tx el (100 * d) p) (fun j => dgN (tx el (100 * d)) (p + 1 + j)) (kd2, fg2, pl2, hr2) = none ∧ V' = wC Z cd ik ugA ugB ugC rA (nf pl) hr rB (nf pl2) hr2 rC (nf ipl) ihr cX lX oX nX sX zX cY lY oY nY sY zY tm cl KR SO SZ EL V)) := by
  refine KM.ofP (by decide) (Nat.le_of_ble_eq_true rfl) (fun Po hPo => ?_)
  refine G.locals (L' := [(0, .ref (cd 0)), (1, .ref (cd (30 + d))), (2, .int (nI p))]) [0, 1, 2] rfl ?_
  refine g_aload_n (q := 1) (pc := 0) dX11_obey_0 rfl rfl ?_
  refine g_iload_n (q := 2) (pc := 1) dX11_obey_1 rfl rfl ?_
  refine g_iconst (v := nI 1) (pc := 2) dX11_obey_2 (by decide) ?_
  refine g_iadd_N (pc := 3) dX11_obey_3 ?_
  have hdl0 := (dig_N (hdg 0 (by decide)).2).2
  refine e_callV (k2 := 0) (n2 := 0) (As := [.int (nI (p + 1))]) (rest := []) (pc := 4) (wC_sh hA hd) rfl (c_X7_digit_d hA hd (by rw [hze]; exact (hdg 0 (by decide)).1) (by rw [hze]; exact hz1) ((hel _ (hdg 0 (by decide)).1).trans (dig_N (hdg 0 (by decide)).2).1) (dig_N (hdg 0 (by decide)).2).2) mlX11_287 selX7_X7_digit_X7_digit mX7_digit ⟨Nat.le_of_ble_eq_true rfl, Nat.le_of_ble_eq_true rfl⟩ rfl rfl (Nat.le_of_ble_eq_true rfl) dX11_obey_4 (by decide) rfl rfl ?_
  refine g_istore_n (lv' := [(3, .int (nI (dgN (tx el (100 * d)) (p + 1 + 0)))), (0, .ref (cd 0)), (1, .ref (cd (30 + d))), (2, .int (nI p))]) (pc := 7) dX11_obey_7 rfl (by decide) rfl ?_
  refine g_aload_n (q := 2) (pc := 8) dX11_obey_8 rfl rfl ?_
  refine g_iload_n (q := 3) (pc := 9) dX11_obey_9 rfl rfl ?_
  refine g_iconst (v := nI 2) (pc := 10) dX11_obey_10 (by decide) ?_
  refine g_iadd_N (pc := 11) dX11_obey_11 ?_
  have hdl1 := (dig_N (hdg 1 (by decide)).2).2
  refine e_callV (k2 := 0) (n2 := 0) (As := [.int (nI (p + 2))]) (rest := []) (pc := 12) (wC_sh hA hd) rfl (c_X7_digit_d hA hd (by rw [hze]; exact (hdg 1 (by decide)).1) (by rw [hze]; exact hz1) ((hel _ (hdg 1 (by decide)).1).trans (dig_N (hdg 1 (by decide)).2).1) (dig_N (hdg 1 (by decide)).2).2) mlX11_287 selX7_X7_digit_X7_digit mX7_digit ⟨Nat.le_of_ble_eq_true rfl, Nat.le_of_ble_eq_true rfl⟩ rfl rfl (Nat.le_of_ble_eq_true rfl) dX11_obey_12 (by decide) rfl rfl ?_
  refine g_istore (lv' := [(4, .int (nI (dgN (tx el (100 * d)) (p + 1 + 1)))), (3, .int (nI (dgN (tx el (100 * d)) (p + 1 + 0)))), (0, .ref (cd 0)), (1, .ref (cd (30 + d))), (2, .int (nI p))]) (pc := 15) dX11_obey_15 (by decide) rfl ?_
  refine g_aload_n (q := 3) (pc := 17) dX11_obey_17 rfl rfl ?_
  refine g_iload_n (q := 4) (pc := 18) dX11_obey_18 rfl rfl ?_
  refine g_iconst (v := nI 3) (pc := 19) dX11_obey_19 (by decide) ?_
  refine g_iadd_N (pc := 20) dX11_obey_20 ?_
  refine e_callV (k2 := 0) (n2 := 0) (As := [.int (nI (p + 3))]) (rest := []) (pc := 21) (wC_sh hA hd) rfl (c_X7_digit_s (x := tx el (100 * d) (p + 3)) hA hd (by rw [hze]; omega) (by rw [hze]; exact hz1) (hel (p + 3) (by omega))) mlX11_287 selX7_X7_digit_X7_digit mX7_digit ⟨Nat.le_of_ble_eq_true rfl, Nat.le_of_ble_eq_true rfl⟩ rfl rfl (Nat.le_of_ble_eq_true rfl) dX11_obey_21 (by decide) rfl rfl ?_
  refine g_istore (lv' := [(5, .int (tx el (100 * d) (p + 3) - nI 48)), (4, .int (nI (dgN (tx el (100 * d)) (p + 1 + 1)))), (3, .int (nI (dgN (tx el (100 * d)) (p + 1 + 0)))), (0, .ref (cd 0)), (1, .ref (cd (30 + d))), (2, .int (nI p))]) (pc := 24) dX11_obey_24 (by decide) rfl ?_
  refine g_aload_n (q := 4) (pc := 26) dX11_obey_26 rfl rfl ?_
  refine g_iload_n (q := 5) (pc := 27) dX11_obey_27 rfl rfl ?_
  refine e_callV (k2 := 0) (n2 := 0) (As := [.int (nI p)]) (rest := []) (pc := 28) (wC_sh hA hd) rfl (c_X7_at_s (x := nI 100) hA hd (by rw [hze]; omega) (by rw [hze]; exact hz1) ((hel p (by omega)).trans hx)) mlX11_200 selX7_X7_at_X7_at mX7_at ⟨Nat.le_of_ble_eq_true rfl, Nat.le_of_ble_eq_true rfl⟩ rfl rfl (Nat.le_of_ble_eq_true rfl) dX11_obey_28 (by decide) rfl rfl ?_
  refine g_lookup (tgt := 99) (off := 68) (pc := 31) dX11_obey_31 (by decide) (by decide) (by decide) ?_
  refine g_iload_n (q := 2) (pc := 99) dX11_obey_99 rfl rfl ?_
  refine g_iconst (v := nI 2) (pc := 100) dX11_obey_100 (by decide) ?_
  refine e_callS (k2 := 0) (n2 := 0) (As := [.int (nI (dgN (tx el (100 * d)) (p + 1 + 0))), .int (nI 2)]) (rest := []) (pc := 101) (c_X11_isBelowN (by decide) (by omega)) mlX11_69 mX11_isBelow ⟨Nat.le_of_ble_eq_true rfl, Nat.le_of_ble_eq_true rfl⟩ rfl rfl (Nat.le_of_ble_eq_true rfl) dX11_obey_101 (by decide) rfl rfl ?_
  refine g_if_eq_B (tgt := 125) (pc := 104) dX11_obey_104 (by decide) (fun c1 => ?_) (fun c1 => ?_)
  · -- T c1
    have c1 := of_decide_eq_false c1
    refine g_iconst (v := nI 0) (pc := 125) dX11_obey_125 (by decide) ?_
    exact g_zret (pc := 126) (by decide) (by decide) (by decide) (hPo _ _ (Or.inr ⟨rfl, by rw [hx]; exact exM_dn (fun z => (by assumption : ¬ _ < 2) z.1), rfl⟩)) dX11_obey_126
  · -- F c1
    have c1 := of_decide_eq_true c1
    refine g_aload_n (q := 3) (pc := 107) dX11_obey_107 rfl rfl ?_
    refine gc_get_O_mind (pc := 108) hA flX11_16 dX11_obey_108 ?_
    refine g_iload_n (q := 2) (pc := 111) dX11_obey_111 rfl rfl ?_
    refine g_iload (q := 1) (pc := 112) dX11_obey_112 rfl ?_
    rcases adv_c pl2 (dgN (tx el (100 * d)) (p + 1 + 0)) (dgN (tx el (100 * d)) (p + 1 + 1)) with hq8 | ⟨hq8, hb9⟩ | ⟨hq8, t9, hb9⟩
    · -- alt
      refine e_callV (k2 := 0) (n2 := 0) (As := [.int (nI (dgN (tx el (100 * d)) (p + 1 + 0))), .int (nI (dgN (tx el (100 * d)) (p + 1 + 1)))]) (rest := []) (pc := 114) (wC_2 hA) rfl (c_X5_advance_B_o hA hmB2 hgB (hpl2 _ (by assumption)) (by assumption) (by rw [inR_N (by omega)]; exact decide_eq_false hq8)) mlX11_106 selX5_X5_advance_X5_advance mX5_advance ⟨Nat.le_of_ble_eq_true rfl, Nat.le_of_ble_eq_true rfl⟩ rfl rfl (Nat.le_of_ble_eq_true rfl) dX11_obey_114 (by decide) rfl rfl ?_
      refine g_iconst (v := (-1)) (pc := 117) dX11_obey_117 (by decide) ?_
      refine g_icmp_eq (tgt := 125) (pc := 118) dX11_obey_118 (by decide) (fun c2 => ?_) (fun c2 => ?_)
      · -- T c2
        refine g_iconst (v := nI 0) (pc := 125) dX11_obey_125 (by decide) ?_
        exact g_zret (pc := 126) (by decide) (by decide) (by decide) (hPo _ _ (Or.inr ⟨rfl, by rw [hx]; exact exM_dn (fun z => hq8 z.2), rfl⟩)) dX11_obey_126
      · -- F c2
        exact absurd rfl c2
    · -- alt
      refine e_callV (k2 := 0) (n2 := 0) (As := [.int (nI (dgN (tx el (100 * d)) (p + 1 + 0))), .int (nI (dgN (tx el (100 * d)) (p + 1 + 1)))]) (rest := []) (pc := 114) (wC_2 hA) rfl (c_X5_advance_B_n hA hmB2 hgB (hpl2 _ (by assumption)) (by assumption) hq8 hb9) mlX11_106 selX5_X5_advance_X5_advance mX5_advance ⟨Nat.le_of_ble_eq_true rfl, Nat.le_of_ble_eq_true rfl⟩ rfl rfl (Nat.le_of_ble_eq_true rfl) dX11_obey_114 (by decide) rfl rfl ?_
      refine g_iconst (v := (-1)) (pc := 117) dX11_obey_117 (by decide) ?_
      refine g_icmp_eq (tgt := 125) (pc := 118) dX11_obey_118 (by decide) (fun c3 => ?_) (fun c3 => ?_)
      · -- T c3
        refine g_iconst (v := nI 0) (pc := 125) dX11_obey_125 (by decide) ?_
        exact g_zret (pc := 126) (by decide) (by decide) (by decide) (hPo _ _ (Or.inr ⟨rfl, by rw [hx]; exact exM_do hb9, rfl⟩)) dX11_obey_126
      · -- F c3
        exact absurd rfl c3
    · -- alt
      refine e_callV (k2 := 0) (n2 := 0) (As := [.int (nI (dgN (tx el (100 * d)) (p + 1 + 0))), .int (nI (dgN (tx el (100 * d)) (p + 1 + 1)))]) (rest := []) (pc := 114) (wC_2 hA) rfl (c_X5_advance_B_s hA hmB2 hgB (hpl2 _ (by assumption)) (by assumption) hq8 hb9) mlX11_106 selX5_X5_advance_X5_advance mX5_advance ⟨Nat.le_of_ble_eq_true rfl, Nat.le_of_ble_eq_true rfl⟩ rfl rfl (Nat.le_of_ble_eq_true rfl) dX11_obey_114 (by decide) rfl rfl ?_
      refine g_iconst (v := (-1)) (pc := 117) dX11_obey_117 (by decide) ?_
      refine g_icmp_eq (tgt := 125) (pc := 118) dX11_obey_118 (by decide) (fun c4 => ?_) (fun c4 => ?_)
      · -- T c4
        exact absurd c4 (nI_m1 (by have := toilN_le (k := kd2 t9) (hmB2 t9 (nbo_lt (hpl2 _ (by assumption)) hb9)).2.1; omega))
      · -- F c4
        refine g_iconst (v := nI 1) (pc := 121) dX11_obey_121 (by decide) ?_
        refine g_goto (tgt := 126) (pc := 122) dX11_obey_122 (by decide) ?_
        exact g_zret (pc := 126) (by decide) (by decide) (by decide) (hPo _ _ (Or.inl ⟨rfl, (_, _, _, _), _, _, by rw [hx]; exact exM_d (by assumption) hq8 hb9, mo.st hmB2 hgB, hplU hpl2 (nbo_lt (hpl2 _ (by assumption)) hb9), ⟨hA, hE, hgA, hgB, hmA, hmC, hpl, hipl, hSh⟩, rfl⟩)) dX11_obey_126
theorem c_X11_obey {kd2 fg2 pl2 : Nat → Nat} {hr2 : Nat → Int32} {d p : Nat} (hA : oC b0 cd V) (hE : Ext Vb V) (hgA : Rk V ugA 7 0) (hgB : Rk V ugB 7 0) (hmA : mo V rA kd fg) (hmC : mo V rC ikd ifg) (hpl : ∀ g, g < 2 → pl g < 20) (hipl : ∀ g, g < 2 → ipl g < 20) (hSh : Sh V KR SO SZ EL kp so sz el ki kf) (hmB2 : mo V rB kd2 fg2) (hpl2 : ∀ g, g < 2 → pl2 g < 20) (hd : d < 8) (hze : SZ d = sz d) (hz1 : sz d ≤ 100) (hel : ∀ i, i < sz d → EL d i = el (100 * d + i)) (hok : OkT (tx el (100 * d)) (sz d)) (hp : p < sz d) (hs9 : stA (tx el (100 * d)) p = 99) : KM l D Z b0 yX11_obey cX11_obey 6 (some .boolean) rmX11_obey [.ref (cd 0), .ref (cd (30 + d)), .int (nI p)] (wC Z cd ik ugA ugB ugC rA (nf pl) hr rB (nf pl2) hr2 rC (nf ipl) ihr cX lX oX nX sX zX cY lY oY nY sY zY tm cl KR SO SZ EL V) (fun v0 V' => (v0 = some (.int (nI 1)) ∧ ∃ (M2 : Mt) (rB2 : Nat → Nat) (V2 : HV), exM (tx el (100 * d) p) (fun j => dgN (tx el (100 * d)) (p + 1 + j)) (kd2, fg2, pl2, hr2) = some M2 ∧ mo V2 rB2 M2.1 M2.2.1 ∧ (∀ g, g < 2 → M2.2.2.1 g < 20) ∧ CH b0 cd Vb V2 ugA ugB rA rC kd fg pl ikd ifg ipl KR SO SZ EL kp so sz el ki kf ∧ V' = wC Z cd ik ugA ugB ugC rA (nf pl) hr rB2 (nf M2.2.2.1) M2.2.2.2 rC (nf ipl) ihr cX lX oX nX sX zX cY lY oY nY sY zY tm cl KR SO SZ EL V2) ∨ (v0 = some (.int (nI 0)) ∧ exM (tx el (100 * d) p) (fun j => dgN (tx el (100 * d)) (p + 1 + j)) (kd2, fg2, pl2, hr2) = none ∧ V' = wC Z cd ik ugA ugB ugC rA (nf pl) hr rB (nf pl2) hr2 rC (nf ipl) ihr cX lX oX nX sX zX cY lY oY nY sY zY tm cl KR SO SZ EL V)) := by
  have hw := fun z => (hok.let hp).mp z hs9
  have hD := hok.dig hp hs9
  rcases wdL_3 rfl hw with e | e | e
  · have ew : wdL (tx el (100 * d) p) = 4 := by rw [e]; exact wdL_k
    rw [ew] at hD
    exact c_X11_obey_k hA hE hgA hgB hmA hmC hpl hipl hSh hmB2 hpl2 hd hze hz1 hel e (by have := (hD 4 (by decide)).1; omega) (fun j hj => ⟨by have := (hD 4 (by decide)).1; omega, (hD 4 (by decide)).2.2 j hj⟩)
  · have ew : wdL (tx el (100 * d) p) = 3 := by rw [e]; exact wdL_g
    rw [ew] at hD
    exact c_X11_obey_g hA hE hgA hgB hmA hmC hpl hipl hSh hmB2 hpl2 hd hze hz1 hel e (by have := (hD 3 (by decide)).1; omega) (fun j hj => ⟨by have := (hD 3 (by decide)).1; omega, (hD 3 (by decide)).2.2 j hj⟩)
  · have ew : wdL (tx el (100 * d) p) = 2 := by rw [e]; exact wdL_d
    rw [ew] at hD
    exact c_X11_obey_d hA hE hgA hgB hmA hmC hpl hipl hSh hmB2 hpl2 hd hze hz1 hel e (by have := (hD 2 (by decide)).1; omega) (fun j hj => ⟨by have := (hD 2 (by decide)).1; omega, (hD 2 (by decide)).2.2 j hj⟩)
def rmX11_obeyAll : Room := { frames := 7, cells := 100, slots := 100, locals := 144 }
set_option maxHeartbeats 8000000 in
theorem c_X11_obeyAll {d : Nat} (hA : oC b0 cd V) (hE : Ext Vb V) (hgA : Rk V ugA 7 0) (hgB : Rk V ugB 7 0) (hmA : mo V rA kd fg) (hmC : mo V rC ikd ifg) (hpl : ∀ g, g < 2 → pl g < 20) (hipl : ∀ g, g < 2 → ipl g < 20) (hSh : Sh V KR SO SZ EL kp so sz el ki kf) (hmB2 : mo V rB kd fg) (hd : d < 8) (hze : SZ d = sz d) (hz1 : sz d ≤ 100) (hel : ∀ i, i < sz d → EL d i = el (100 * d + i)) (hok : OkT (tx el (100 * d)) (sz d)) : KM l D Z b0 yX11_obeyAll cX11_obeyAll 4 (some .int) rmX11_obeyAll [.ref (cd 0), .ref (cd (30 + d))] (wC Z cd ik ugA ugB ugC rA (nf pl) hr rB (nf pl) hr rC (nf ipl) ihr cX lX oX nX sX zX cY lY oY nY sY zY tm cl KR SO SZ EL V) (fun v0 V' => ∃ (rB2 : Nat → Nat) (pB2 tB2 : Nat → Int32) (V2 : HV), CH b0 cd Vb V2 ugA ugB rA rC kd fg pl ikd ifg ipl KR SO SZ EL kp so sz el ki kf ∧ V' = wC Z cd ik ugA ugB ugC rA (nf pl) hr rB2 pB2 tB2 rC (nf ipl) ihr cX lX oX nX sX zX cY lY oY nY sY zY tm cl KR SO SZ EL V2 ∧ ((∃ i, FltAt (tx el (100 * d)) (sz d) (kd, fg, pl, hr) i ∧ v0 = some (.int ((-2000) - nI i))) ∨ ∃ M2, EE (tx el (100 * d)) (kd, fg, pl, hr) (sz d) = some M2 ∧ v0 = some (.int (nI (cnA (tx el (100 * d)) (sz d)))) ∧ mo V2 rB2 M2.1 M2.2.1 ∧ (∀ g, g < 2 → M2.2.2.1 g < 20) ∧ pB2 = nf M2.2.2.1 ∧ tB2 = M2.2.2.2)) := by
  refine KM.ofP (by decide) (Nat.le_of_ble_eq_true rfl) (fun Po hPo => ?_)
  refine G.locals (L' := [(0, .ref (cd 0)), (1, .ref (cd (30 + d)))]) [0, 1] rfl ?_
  refine g_iconst (v := nI 0) (pc := 0) dX11_obeyAll_0 (by decide) ?_
  refine g_istore_n (lv' := [(2, .int (nI 0)), (0, .ref (cd 0)), (1, .ref (cd (30 + d)))]) (pc := 1) dX11_obeyAll_1 rfl (by decide) rfl ?_
  refine g_iconst (v := nI 0) (pc := 2) dX11_obeyAll_2 (by decide) ?_
  refine g_istore_n (lv' := [(3, .int (nI 0)), (2, .int (nI 0)), (0, .ref (cd 0)), (1, .ref (cd (30 + d)))]) (pc := 3) dX11_obeyAll_3 rfl (by decide) rfl ?_
  have lp4 : ∀ (d4 : Nat) (i : Nat) (q9 : Nat) (V8 : HV) (M8 : Mt) (rB8 : Nat → Nat), i + d4 = sz d + 1 → (i ≤ sz d) → (q9 ≤ i) → (q9 ≤ 100) → (CH b0 cd Vb V8 ugA ugB rA rC kd fg pl ikd ifg ipl KR SO SZ EL kp so sz el ki kf) → (EE (tx el (100 * d)) (kd, fg, pl, hr) i = some M8) → (mo V8 rB8 M8.1 M8.2.1) → (∀ g, g < 2 → M8.2.2.1 g < 20) → G l D Z b0 rmX11_obeyAll RX11 cX11_obeyAll 4 (gE (some .int) "obeyAll") (gT D b0 Po rmX11_obeyAll.cells rmX11_obeyAll.slots) (wC Z cd ik ugA ugB ugC rA (nf pl) hr rB8 (nf M8.2.2.1) M8.2.2.2 rC (nf ipl) ihr cX lX oX nX sX zX cY lY oY nY sY zY tm cl KR SO SZ EL V8) [(3, .int (nI i)), (2, .int (nI (cnA (tx el (100 * d)) i))), (0, .ref (cd 0)), (1, .ref (cd (30 + d)))] q9 q9 4 [] := by
    intro d4
    induction d4 with
    | zero =>
      intro i q9 V8 M8 rB8 hd4 hiN hq9 hq99 hCH8 hEE hmB8 hpl8
      exact absurd hd4 (by omega)
    | succ d4 ih4 =>
      intro i q9 V8 M8 rB8 hd4 hiN hq9 hq99 hCH8 hEE hmB8 hpl8
      refine g_iload_n (q := 0) (pc := 4) dX11_obeyAll_4 rfl rfl ?_
      refine g_aload_n (q := 3) (pc := 5) dX11_obeyAll_5 rfl rfl ?_
      refine gc_get_S_size (pc := 6) (d := d) hCH8.1 (by omega) flX11_132 dX11_obeyAll_6 ?_
      refine g_top (x := nI (SZ d)) (y := nI (sz d)) (congrArg nI hze) ?_
      refine g_icmp_ge_N (tgt := 48) (pc := 9) (by omega) (by omega) dX11_obeyAll_9 (by decide) (fun c1 => ?_) (fun c1 => ?_)
      · -- T c1
        refine g_iload_n (q := 1) (pc := 48) dX11_obeyAll_48 rfl rfl ?_
        exact g_iret (pc := 49) (show _ ≤ 100 by omega) (show _ ≤ 100 by omega) (hPo _ _ (by obtain rfl : i = sz d := (by omega); exact ⟨_, _, _, _, hCH8, rfl, Or.inr ⟨M8, hEE, rfl, hmB8, hpl8, rfl, rfl⟩⟩)) dX11_obeyAll_49
      · -- F c1
        refine g_aload_n (q := 3) (pc := 12) dX11_obeyAll_12 rfl rfl ?_
        refine g_iload_n (q := 0) (pc := 13) dX11_obeyAll_13 rfl rfl ?_
        refine e_callV (k2 := q9) (n2 := q9) (As := [.int (nI i)]) (rest := []) (pc := 14) (wC_sh hCH8.1 hd) rfl (c_X7_at_s (x := tx el (100 * d) i) hCH8.1 hd (by rw [hze]; omega) (by rw [hze]; exact hz1) (hel i (by omega))) mlX11_200 selX7_X7_at_X7_at mX7_at ⟨Nat.le_of_ble_eq_true rfl, Nat.le_of_ble_eq_true rfl⟩ rfl rfl (Nat.le_of_ble_eq_true rfl) dX11_obeyAll_14 ⟨(show q9 ≤ 100 by omega), (show q9 ≤ 100 by omega)⟩ rfl rfl ?_
        refine e_callS (k2 := q9) (n2 := q9) (As := [.int (tx el (100 * d) i)]) (rest := []) (pc := 17) c_X11_digitsBehind mlX11_284 mX11_digitsBehind ⟨Nat.le_of_ble_eq_true rfl, Nat.le_of_ble_eq_true rfl⟩ rfl rfl (Nat.le_of_ble_eq_true rfl) dX11_obeyAll_17 ⟨(show q9 ≤ 100 by omega), (show q9 ≤ 100 by omega)⟩ rfl rfl ?_
        refine g_iconst (v := (-1)) (pc := 20) dX11_obeyAll_20 (by decide) ?_
        refine g_icmp_eq (tgt := 42) (pc := 21) dX11_obeyAll_21 (by decide) (fun c2 => ?_) (fun c2 => ?_)
        · -- T c2
          have hs9 : ¬ stA (tx el (100 * d)) i = 99 := (hok.let (by omega)).mp (wdI_m.mp c2)
          rw [show cnA (tx el (100 * d)) i = cnA (tx el (100 * d)) (i + 1) from (cnA_c hs9).symm]
          refine g_iinc (q := 0) (lv' := [(3, .int (nI (i + 1))), (2, .int (nI (cnA (tx el (100 * d)) (i + 1)))), (0, .ref (cd 0)), (1, .ref (cd (30 + d)))]) (pc := 42) dX11_obeyAll_42 rfl (nI_inc _ _) (by decide) rfl ?_
          refine g_goto (tgt := 4) (pc := 45) dX11_obeyAll_45 (by decide) ?_
          refine G.locals (L' := [(3, .int (nI (i + 1))), (2, .int (nI (cnA (tx el (100 * d)) (i + 1)))), (0, .ref (cd 0)), (1, .ref (cd (30 + d)))]) [0, 1, 2, 3] rfl ?_
          exact ih4 (i + 1) q9 V8 M8 rB8 (by omega) (by omega) (by omega) (by omega) hCH8 ((EE_c hs9).trans hEE) hmB8 hpl8
        · -- F c2
          have hs9 : stA (tx el (100 * d)) i = 99 := by
            cases Nat.decEq (stA (tx el (100 * d)) i) 99 with
            | isTrue z => exact z
            | isFalse z => exact absurd (wdI_m.mpr ((hok.let (by omega)).mpr z)) c2
          refine g_aload_n (q := 2) (pc := 24) dX11_obeyAll_24 rfl rfl ?_
          refine g_aload_n (q := 3) (pc := 25) dX11_obeyAll_25 rfl rfl ?_
          refine g_iload_n (q := 0) (pc := 26) dX11_obeyAll_26 rfl rfl ?_
          refine g_callV (As := [.ref (cd (30 + d)), .int (nI i)]) (rest := []) (pc := 27) (wC_0 hCH8.1) rfl (c_X11_obey hCH8.1 hCH8.2.1 hCH8.2.2.1 hCH8.2.2.2.1 hCH8.2.2.2.2.1 hCH8.2.2.2.2.2.1 hCH8.2.2.2.2.2.2.1 hCH8.2.2.2.2.2.2.2.1 hCH8.2.2.2.2.2.2.2.2 hmB8 hpl8 hd hze hz1 hel hok (by omega) hs9) mlX11_290 selX11_X11_obey_X11_obey mX11_obey ⟨Nat.le_of_ble_eq_true rfl, Nat.le_of_ble_eq_true rfl⟩ rfl rfl (Nat.le_of_ble_eq_true rfl) dX11_obeyAll_27 ⟨(show q9 + 1 ≤ 100 by omega), (show q9 + 1 ≤ 100 by omega)⟩  (fun v9 V9 h9 => ?_)
          rcases h9 with ⟨rfl, M2, rB2, V2, hex9, hm9, hpl9, hCH9, rfl⟩ | ⟨rfl, hex9, rfl⟩
          · -- 0
            refine G.eqst (k2 := q9 + 1) (n2 := q9 + 1) (st2 := [.int (nI 1)]) rfl rfl rfl ?_
            refine g_if_ne (tgt := 39) (pc := 30) dX11_obeyAll_30 (by decide) (fun _ => ?_) (fun c0 => absurd c0 (by decide))
            refine g_iinc (q := 1) (lv' := [(2, .int (nI ((cnA (tx el (100 * d)) i) + 1))), (3, .int (nI i)), (0, .ref (cd 0)), (1, .ref (cd (30 + d)))]) (pc := 39) dX11_obeyAll_39 rfl (nI_inc _ _) (by decide) rfl ?_
            rw [show cnA (tx el (100 * d)) i + 1 = cnA (tx el (100 * d)) (i + 1) from (cnA_x hs9).symm]
            refine g_iinc (q := 1) (lv' := [(3, .int (nI (i + 1))), (2, .int (nI (cnA (tx el (100 * d)) (i + 1)))), (0, .ref (cd 0)), (1, .ref (cd (30 + d)))]) (pc := 42) dX11_obeyAll_42 rfl (nI_inc _ _) (by decide) rfl ?_
            refine g_goto (tgt := 4) (pc := 45) dX11_obeyAll_45 (by decide) ?_
            refine G.locals (L' := [(3, .int (nI (i + 1))), (2, .int (nI (cnA (tx el (100 * d)) (i + 1)))), (0, .ref (cd 0)), (1, .ref (cd (30 + d)))]) [0, 1, 2, 3] rfl ?_
            exact ih4 (i + 1) (q9 + 1) V2 M2 rB2 (by omega) (by omega) (by omega) (by omega) hCH9 ((EE_x hs9 hEE).trans hex9) hm9 hpl9
          · -- 1
            refine G.eqst (k2 := q9 + 1) (n2 := q9 + 1) (st2 := [.int (nI 0)]) rfl rfl rfl ?_
            refine g_if_ne (tgt := 39) (pc := 30) dX11_obeyAll_30 (by decide) (fun c0 => absurd c0 (by decide)) (fun _ => ?_)
            refine g_sipush (v := (-2000)) (pc := 33) dX11_obeyAll_33 (by decide) ?_
            refine g_iload_n (q := 0) (pc := 36) dX11_obeyAll_36 rfl rfl ?_
            refine g_isub (pc := 37) dX11_obeyAll_37 ?_
            exact g_iret (pc := 38) (show _ ≤ 100 by omega) (show _ ≤ 100 by omega) (hPo _ _ ⟨_, _, _, _, hCH8, rfl, Or.inl ⟨i, ⟨by omega, ⟨_, hEE⟩, (EE_x hs9 hEE).trans hex9⟩, rfl⟩⟩) dX11_obeyAll_38
  refine G.locals (L' := [(3, .int (nI 0)), (2, .int (nI 0)), (0, .ref (cd 0)), (1, .ref (cd (30 + d)))]) [0, 1, 2, 3] rfl ?_
  exact lp4 (sz d + 1) 0 0 V (kd, fg, pl, hr) rB (by omega) (Nat.zero_le _) (Nat.le_refl _) (by decide) (⟨hA, hE, hgA, hgB, hmA, hmC, hpl, hipl, hSh⟩) rfl hmB2 hpl
end MS
