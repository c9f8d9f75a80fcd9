theorem SP.b {kd fg : Nat → Nat} (ho : ∀ c, c < 20 → kd c < 8 ∧ fg c < 10) {w2 : Nat → Nat} {a : Nat} {T L : Nat → Nat} {N : Nat → Int32} (h : SP (tw kd fg) w2 a T L N) : ∀ v, v < 20 → dO kd fg a v ≤ 600 := fun v hv => by
  rw [← SolO.d h.1 hv]; exact (h.2.2 v hv).1
theorem mxI_m {a b : Nat} (ha : a < 2147483648) (hb : b < 2147483648) : mxI (nI a) (nI b) = nI (if b < a then a else b) := by
  rw [mxI_n ha hb]; congr 1
  by_cases q : a < b
  · rw [if_pos q, if_neg (by omega)]
  · rw [if_neg q]
    by_cases z : b < a
    · rw [if_pos z]
    · rw [if_neg z]; omega
theorem lsS_lt {D0 D1 : Nat → Nat} {u m s v n : Nat} (h : nbo u s = some v) (h0 : D0 u < n) (h1 : D1 v < n) : ∀ k, s < k → lsS D0 D1 u m k < n
  | 0, hk => absurd hk (Nat.not_lt_zero _)
  | k + 1, hk => by
    by_cases q : s = k
    · subst q; rw [lsS_s h]
      have h9 : (if D1 v < D0 u then D0 u else D1 v) < n := by split <;> omega
      generalize (if D1 v < D0 u then D0 u else D1 v) = mx at h9 ⊢
      split <;> omega
    · have h9 := lsS_lt (m := m) h h0 h1 k (by omega)
      cases hb : nbo u k with
      | none => rw [lsS_n hb]; exact h9
      | some x => rw [lsS_s hb]; generalize (if D1 x < D0 u then D0 u else D1 x) = mx; split <;> omega
theorem lsU_lt {D0 D1 : Nat → Nat} (h0 : D0 0 < 1000) (h1 : D1 1 < 1000) : ∀ k, lsU D0 D1 (k + 1) < 1000
  | 0 => lsS_lt (u := 0) (s := 1) (v := 1) rfl h0 h1 4 (by decide)
  | k + 1 => Nat.lt_of_le_of_lt (lsS_le D0 D1 (k + 1) _ 4) (lsU_lt h0 h1 k)
theorem nb_ex {c : Nat} (hc : c < 20) : nbo c 0 ≠ none ∨ nbo c 2 ≠ none := by
  by_cases h : 5 ≤ c
  · left; rw [nbo_0 h]; exact fun q => by cases q
  · right; rw [nbo_2 (by omega)]; exact fun q => by cases q
def SDI (kd fg pl : Nat → Nat) (g s b t : Nat) : Prop := (sdP kd fg pl g s = ((-4), (-4)) ∧ b = 0 ∧ t = 1000000 ∧ ∀ x, x < s → nbo (pl g) x = none) ∨ (sdP kd fg pl g s = (nI b, nI t) ∧ b < 4 ∧ t < 1000)
theorem SDI.t {kd fg pl : Nat → Nat} {g s b t : Nat} (h : SDI kd fg pl g s b t) : t ≤ 1000000 := by
  rcases h with ⟨_, _, h, _⟩ | ⟨_, _, h⟩ <;> omega
theorem SDI.none {kd fg pl : Nat → Nat} {g s b t : Nat} (h : SDI kd fg pl g s b t) (hb : nbo (pl g) s = none) : SDI kd fg pl g (s + 1) b t := by
  rcases h with ⟨h1, h2, h3, h4⟩ | ⟨h1, h2, h3⟩
  · exact Or.inl ⟨by rw [sdP_n hb]; exact h1, h2, h3, fun x hx => by
      by_cases q : x = s
      · subst q; exact hb
      · exact h4 x (by omega)⟩
  · exact Or.inr ⟨by rw [sdP_n hb]; exact h1, h2, h3⟩
theorem SDI.lt {kd fg pl : Nat → Nat} {g s b t u : Nat} (h : SDI kd fg pl g s b t) (hs : s < 4) (hb : nbo (pl g) s = some u) (hv : soonV (updN kd u 7) (updN fg u 0) (updN pl g u) < 1000) (hl : soonV (updN kd u 7) (updN fg u 0) (updN pl g u) < t) : SDI kd fg pl g (s + 1) s (soonV (updN kd u 7) (updN fg u 0) (updN pl g u)) := by
  rcases h with ⟨h1, h2, h3, h4⟩ | ⟨h1, h2, h3⟩
  · exact Or.inr ⟨sdP_1 hb (by rw [h1]; decide), hs, hv⟩
  · exact Or.inr ⟨sdP_2 hb (by rw [h1]; show nI _ < nI t; rw [Int32.lt_iff_toInt_lt, nI_toInt (by omega), nI_toInt (by omega)]; omega), hs, hv⟩
theorem SDI.ge {kd fg pl : Nat → Nat} {g s b t u : Nat} (h : SDI kd fg pl g s b t) (hb : nbo (pl g) s = some u) (hv : soonV (updN kd u 7) (updN fg u 0) (updN pl g u) < 1000) (hl : t ≤ soonV (updN kd u 7) (updN fg u 0) (updN pl g u)) : SDI kd fg pl g (s + 1) b t := by
  rcases h with ⟨h1, h2, h3, h4⟩ | ⟨h1, h2, h3⟩
  · omega
  · refine Or.inr ⟨by rw [sdP_k hb (by rw [h1]; exact nI_nneg (by omega)) (by rw [h1]; show ¬ nI _ < nI t; rw [Int32.lt_iff_toInt_lt, nI_toInt (by omega), nI_toInt (by omega)]; omega)]; exact h1, h2, h3⟩
theorem SDI.fin {kd fg pl : Nat → Nat} {g s b t : Nat} (h : SDI kd fg pl g s b t) (hs : 4 ≤ s) (hs2 : s ≤ 4) (hp : pl g < 20) : sdP kd fg pl g 4 = (nI b, nI t) := by
  obtain rfl : s = 4 := by omega
  rcases h with ⟨h1, h2, h3, h4⟩ | ⟨h1, h2, h3⟩
  · rcases nb_ex hp with q | q
    · exact absurd (h4 0 (by decide)) q
    · exact absurd (h4 2 (by decide)) q
  · exact h1
section MS
variable {l : Launch} {D : va_G} {Z : Nat → ClassId} {b0 : Nat} {cd : Nat → Nat} {ik : Int32} {ugA ugB ugC : Nat} {rA : Nat → Nat} {pA tA : Nat → Int32} {rB : Nat → Nat} {pB tB : Nat → Int32} {rC : Nat → Nat} {pC tC cX lX oX nX sX zX cY lY oY nY sY zY tm cl : Nat → Int32} {KR : Nat → Option Nat} {SO : Nat → Int32} {SZ : Nat → Nat} {EL : Nat → Nat → Int32} {V Vb : HV} {kd fg pl ikd ifg ipl kp so sz : Nat → Nat} {hr ihr el ki kf : Nat → Int32}
def rmX11_toils : Room := { frames := 4, cells := 0, slots := 0, locals := 82 }
set_option maxHeartbeats 8000000 in
theorem c_X11_toils  (hA : oC b0 cd V) (hE : Ext Vb V) (hgA : Rk V ugA 7 0) (hgB : Rk V ugB 7 0) (hmA : mo V rA kd fg) (hmC : mo V rC ikd ifg) (hpl : ∀ g, g < 2 → pl g < 20) (hipl : ∀ g, g < 2 → ipl g < 20) (hSh : Sh V KR SO SZ EL kp so sz el ki kf) : KM l D Z b0 yX11_toils cX11_toils 3 (some .int) rmX11_toils [.ref (cd 0)] (wC Z cd ik ugA ugB ugC rA (nf pl) hr rB pB tB rC (nf ipl) ihr cX lX oX nX sX zX cY lY oY nY sY zY tm cl KR SO SZ EL V) (fun v0 V' => v0 = some (.int (spToils kd fg pl)) ∧ CI Z b0 cd Vb ik kd fg pl hr ikd ifg ipl ihr kp so sz el ki kf V') := by
  refine KM.ofP (by decide) (Nat.le_of_ble_eq_true rfl) (fun Po hPo => ?_)
  refine G.locals (L' := [(0, .ref (cd 0))]) [0] rfl ?_
  refine g_aload_n (q := 0) (pc := 0) dX11_toils_0 rfl rfl ?_
  refine gc_get_O_now (pc := 1) hA flX11_12 dX11_toils_1 ?_
  refine gc_get_MA_places (pc := 4) hA flX11_100 dX11_toils_4 ?_
  refine g_iconst (v := nI 0) (pc := 7) dX11_toils_7 (by decide) ?_
  refine gc_ld_pA (pc := 8) (j := 0) (x := nI (pl 0)) hA (by first | omega | exact hpl 1 (by decide) | exact hpl 0 (by decide)) rfl dX11_toils_8 ?_
  refine g_istore_n (lv' := [(1, .int (nI (pl 0))), (0, .ref (cd 0))]) (pc := 9) dX11_toils_9 rfl (by decide) rfl ?_
  refine g_aload_n (q := 1) (pc := 10) dX11_toils_10 rfl rfl ?_
  refine gc_get_O_now (pc := 11) hA flX11_12 dX11_toils_11 ?_
  refine gc_get_MA_places (pc := 14) hA flX11_100 dX11_toils_14 ?_
  refine g_iconst (v := nI 1) (pc := 17) dX11_toils_17 (by decide) ?_
  refine gc_ld_pA (pc := 18) (j := 1) (x := nI (pl 1)) hA (by first | omega | exact hpl 1 (by decide) | exact hpl 0 (by decide)) rfl dX11_toils_18 ?_
  refine g_istore_n (lv' := [(2, .int (nI (pl 1))), (1, .int (nI (pl 0))), (0, .ref (cd 0))]) (pc := 19) dX11_toils_19 rfl (by decide) rfl ?_
  refine g_iload_n (q := 1) (pc := 20) dX11_toils_20 rfl rfl ?_
  refine g_iload_n (q := 0) (pc := 21) dX11_toils_21 rfl rfl ?_
  refine g_icmp_ne_N (tgt := 27) (pc := 22) (by have := hpl 0 (by decide); omega) (by have := hpl 1 (by decide); omega) dX11_toils_22 (by decide) (fun c1 => ?_) (fun c1 => ?_)
  · -- T c1
    refine g_aload_n (q := 2) (pc := 27) dX11_toils_27 rfl rfl ?_
    refine gc_get_O_ways (pc := 28) hA flX11_35 dX11_toils_28 ?_
    refine g_aload_n (q := 2) (pc := 31) dX11_toils_31 rfl rfl ?_
    refine gc_get_O_now (pc := 32) hA flX11_12 dX11_toils_32 ?_
    refine e_callVv (k2 := 0) (n2 := 0) (As := [.ref (cd 1)]) (rest := []) (pc := 35) (wC_14 hA) rfl (c_X10_byToil_XA hA hmA) mlX11_161 selX10_X10_byToil_X10_byToil mX10_byToil ⟨Nat.le_of_ble_eq_true rfl, Nat.le_of_ble_eq_true rfl⟩ rfl rfl (Nat.le_of_ble_eq_true rfl) dX11_toils_35 (by decide) rfl rfl ?_
    refine g_aload_n (q := 2) (pc := 38) dX11_toils_38 rfl rfl ?_
    refine gc_get_O_ways (pc := 39) hA flX11_35 dX11_toils_39 ?_
    refine g_iload_n (q := 1) (pc := 42) dX11_toils_42 rfl rfl ?_
    refine g_callV (As := [.int (nI (pl 0))]) (rest := []) (pc := 43) (wC_14 hA) rfl (c_X10_spread_X hA (hpl 0 (by decide)) (mo.tw hmA) (fun _ _ => Nat.zero_le _)) mlX11_142 selX10_X10_spread_X10_spread mX10_spread ⟨Nat.le_of_ble_eq_true rfl, Nat.le_of_ble_eq_true rfl⟩ rfl rfl (Nat.le_of_ble_eq_true rfl) dX11_toils_43 (by decide)  (fun v9 V9 h9 => ?_)
    obtain ⟨T43, L43, N43, rfl, hSP43, rfl⟩ := h9
    refine G.eqst (k2 := 0) (n2 := 0) (st2 := []) rfl rfl rfl ?_
    refine gc_eq_lX (f' := nf (dO kd fg (pl 0))) hA (SP.o hSP43) ?_
    refine g_aload_n (q := 2) (pc := 46) dX11_toils_46 rfl rfl ?_
    refine gc_get_O_ways (pc := 47) hA flX11_35 dX11_toils_47 ?_
    refine gc_get_WX_least (pc := 50) hA flX11_118 dX11_toils_50 ?_
    refine g_iload_n (q := 0) (pc := 53) dX11_toils_53 rfl rfl ?_
    refine gc_ld_lX (pc := 54) (j := pl 1) (x := nI ((dO kd fg (pl 0)) (pl 1))) hA (by first | omega | exact hpl 1 (by decide) | exact hpl 0 (by decide)) rfl dX11_toils_54 ?_
    refine g_aload_n (q := 2) (pc := 55) dX11_toils_55 rfl rfl ?_
    refine gc_get_O_ways (pc := 56) hA flX11_35 dX11_toils_56 ?_
    refine gc_get_WX_cost (pc := 59) hA flX11_164 dX11_toils_59 ?_
    refine g_iload_n (q := 0) (pc := 62) dX11_toils_62 rfl rfl ?_
    refine gc_ld_cX (pc := 63) (j := pl 1) (x := nI ((tw kd fg) (pl 1))) hA (by first | omega | exact hpl 1 (by decide) | exact hpl 0 (by decide)) rfl dX11_toils_63 ?_
    refine g_isub_N (pc := 64) (dO_w (pl := pl) ⟨mo.ok hmA, hpl⟩ (hpl 0 (by decide)) (hpl 1 (by decide)) (by assumption)) dX11_toils_64 ?_
    exact g_iret (pc := 65) (by decide) (by decide) (gC hPo (by rw [spToils, if_neg (by assumption)]) (CI.mk ⟨hA, hE, hgA, hgB, hmA, hmC, hpl, hipl, hSh⟩)) dX11_toils_65
  · -- F c1
    refine g_iconst (v := nI 0) (pc := 25) dX11_toils_25 (by decide) ?_
    exact g_iret (pc := 26) (by decide) (by decide) (gC hPo (by rw [spToils, if_pos (by assumption)]) (CI.mk ⟨hA, hE, hgA, hgB, hmA, hmC, hpl, hipl, hSh⟩)) dX11_toils_26
theorem d_X11_toils  {V2 : HV} (hCI : CI Z b0 cd Vb ik kd fg pl hr ikd ifg ipl ihr kp so sz el ki kf V2)  : KM l D Z b0 yX11_toils cX11_toils 3 (some .int) rmX11_toils [.ref (cd 0)] V2 (fun v0 V' => v0 = some (.int (spToils kd fg pl)) ∧ CI Z b0 cd Vb ik kd fg pl hr ikd ifg ipl ihr kp so sz el ki kf V') := by
  obtain ⟨ugA, ugB, ugC, rA, rB, pB, tB, rC, cX, lX, oX, nX, sX, zX, cY, lY, oY, nY, sY, zY, tm, cl, KR, SO, SZ, EL, V, rfl, hA, hE, hgA, hgB, hmA, hmC, hpl, hipl, hSh⟩ := hCI
  exact c_X11_toils hA hE hgA hgB hmA hmC hpl hipl hSh 
def rmX11_soonIn : Room := { frames := 4, cells := 0, slots := 0, locals := 82 }
set_option maxHeartbeats 8000000 in
theorem c_X11_soonIn_A {k9 f9 p9 : Nat → Nat} (hA : oC b0 cd V) (hm9 : mo V rA k9 f9) (hp9 : ∀ g, g < 2 → p9 g < 20) : KM l D Z b0 yX11_soonIn cX11_soonIn 6 (some .int) rmX11_soonIn [.ref (cd 0), .ref (cd 1)] (wC Z cd ik ugA ugB ugC rA (nf p9) tA rB pB tB rC pC tC cX lX oX nX sX zX cY lY oY nY sY zY tm cl KR SO SZ EL V) (fun v0 V' => v0 = some (.int (nI (soonV k9 f9 p9))) ∧ ∃ (cX9 lX9 oX9 nX9 sX9 zX9 cY9 lY9 oY9 nY9 sY9 zY9 : Nat → Int32), V' = wC Z cd ik ugA ugB ugC rA (nf p9) tA rB pB tB rC pC tC cX9 lX9 oX9 nX9 sX9 zX9 cY9 lY9 oY9 nY9 sY9 zY9 tm cl KR SO SZ EL V) := by
  refine KM.ofP (by decide) (Nat.le_of_ble_eq_true rfl) (fun Po hPo => ?_)
  refine G.locals (L' := [(0, .ref (cd 0)), (1, .ref (cd 1))]) [0, 1] rfl ?_
  refine g_aload_n (q := 1) (pc := 0) dX11_soonIn_0 rfl rfl ?_
  refine e_callV (k2 := 0) (n2 := 0) (As := []) (rest := []) (pc := 1) (wC_1 hA) rfl (c_X5_gangsMet_A hA (hp9 0 (by decide)) (hp9 1 (by decide))) mlX11_110 selX5_X5_gangsMet_X5_gangsMet mX5_gangsMet ⟨Nat.le_of_ble_eq_true rfl, Nat.le_of_ble_eq_true rfl⟩ rfl rfl (Nat.le_of_ble_eq_true rfl) dX11_soonIn_1 (by decide) rfl rfl ?_
  refine g_if_eq_B (tgt := 9) (pc := 4) dX11_soonIn_4 (by decide) (fun c1 => ?_) (fun c1 => ?_)
  · -- T c1
    refine g_aload_n (q := 0) (pc := 9) dX11_soonIn_9 rfl rfl ?_
    refine gc_get_O_ways (pc := 10) hA flX11_35 dX11_soonIn_10 ?_
    refine g_aload_n (q := 1) (pc := 13) dX11_soonIn_13 rfl rfl ?_
    refine e_callVv (k2 := 0) (n2 := 0) (As := [.ref (cd 1)]) (rest := []) (pc := 14) (wC_14 hA) rfl (c_X10_byToil_XA hA hm9) mlX11_161 selX10_X10_byToil_X10_byToil mX10_byToil ⟨Nat.le_of_ble_eq_true rfl, Nat.le_of_ble_eq_true rfl⟩ rfl rfl (Nat.le_of_ble_eq_true rfl) dX11_soonIn_14 (by decide) rfl rfl ?_
    refine g_aload_n (q := 0) (pc := 17) dX11_soonIn_17 rfl rfl ?_
    refine gc_get_O_ways (pc := 18) hA flX11_35 dX11_soonIn_18 ?_
    refine g_aload_n (q := 1) (pc := 21) dX11_soonIn_21 rfl rfl ?_
    refine gc_get_MA_places (pc := 22) hA flX11_100 dX11_soonIn_22 ?_
    refine g_iconst (v := nI 0) (pc := 25) dX11_soonIn_25 (by decide) ?_
    refine gc_ld_pA (pc := 26) (j := 0) (x := nI (p9 0)) hA (by omega) rfl dX11_soonIn_26 ?_
    refine g_callV (As := [.int (nI (p9 0))]) (rest := []) (pc := 27) (wC_14 hA) rfl (c_X10_spread_X hA (hp9 0 (by decide)) (mo.tw hm9) (fun _ _ => Nat.zero_le _)) mlX11_142 selX10_X10_spread_X10_spread mX10_spread ⟨Nat.le_of_ble_eq_true rfl, Nat.le_of_ble_eq_true rfl⟩ rfl rfl (Nat.le_of_ble_eq_true rfl) dX11_soonIn_27 (by decide)  (fun v9 V9 h9 => ?_)
    obtain ⟨T27, L27, N27, rfl, hSP27, rfl⟩ := h9
    refine G.eqst (k2 := 0) (n2 := 0) (st2 := []) rfl rfl rfl ?_
    refine gc_eq_lX (f' := nf (dO k9 f9 (p9 0))) hA (SP.o hSP27) ?_
    refine g_aload_n (q := 0) (pc := 30) dX11_soonIn_30 rfl rfl ?_
    refine gc_get_O_otherWays (pc := 31) hA flX11_39 dX11_soonIn_31 ?_
    refine g_aload_n (q := 1) (pc := 34) dX11_soonIn_34 rfl rfl ?_
    refine e_callVv (k2 := 0) (n2 := 0) (As := [.ref (cd 1)]) (rest := []) (pc := 35) (wC_15 hA) rfl (c_X10_byToil_YA hA hm9) mlX11_161 selX10_X10_byToil_X10_byToil mX10_byToil ⟨Nat.le_of_ble_eq_true rfl, Nat.le_of_ble_eq_true rfl⟩ rfl rfl (Nat.le_of_ble_eq_true rfl) dX11_soonIn_35 (by decide) rfl rfl ?_
    refine g_aload_n (q := 0) (pc := 38) dX11_soonIn_38 rfl rfl ?_
    refine gc_get_O_otherWays (pc := 39) hA flX11_39 dX11_soonIn_39 ?_
    refine g_aload_n (q := 1) (pc := 42) dX11_soonIn_42 rfl rfl ?_
    refine gc_get_MA_places (pc := 43) hA flX11_100 dX11_soonIn_43 ?_
    refine g_iconst (v := nI 1) (pc := 46) dX11_soonIn_46 (by decide) ?_
    refine gc_ld_pA (pc := 47) (j := 1) (x := nI (p9 1)) hA (by omega) rfl dX11_soonIn_47 ?_
    refine g_callV (As := [.int (nI (p9 1))]) (rest := []) (pc := 48) (wC_15 hA) rfl (c_X10_spread_Y hA (hp9 1 (by decide)) (mo.tw hm9) (fun _ _ => Nat.zero_le _)) mlX11_142 selX10_X10_spread_X10_spread mX10_spread ⟨Nat.le_of_ble_eq_true rfl, Nat.le_of_ble_eq_true rfl⟩ rfl rfl (Nat.le_of_ble_eq_true rfl) dX11_soonIn_48 (by decide)  (fun v9 V9 h9 => ?_)
    obtain ⟨T48, L48, N48, rfl, hSP48, rfl⟩ := h9
    refine G.eqst (k2 := 0) (n2 := 0) (st2 := []) rfl rfl rfl ?_
    refine gc_eq_lY (f' := nf (dO k9 f9 (p9 1))) hA (SP.o hSP48) ?_
    have hb0 := SP.b (mo.ok hm9) hSP27
    have hb1 := SP.b (mo.ok hm9) hSP48
    refine g_ldc (v := nI 1000000) (pc := 51) ctX11_152 dX11_soonIn_51 ?_
    refine g_istore_n (lv' := [(2, .int (nI 1000000)), (0, .ref (cd 0)), (1, .ref (cd 1))]) (pc := 53) dX11_soonIn_53 rfl (by decide) rfl ?_
    refine g_iconst (v := nI 0) (pc := 54) dX11_soonIn_54 (by decide) ?_
    refine g_istore_n (lv' := [(3, .int (nI 0)), (2, .int (nI 1000000)), (0, .ref (cd 0)), (1, .ref (cd 1))]) (pc := 55) dX11_soonIn_55 rfl (by decide) rfl ?_
    have lp56 : ∀ (d56 : Nat) (u : Nat) (m9 : Nat), u + d56 = 21 → (u ≤ 20) → (m9 = lsU (dO k9 f9 (p9 0)) (dO k9 f9 (p9 1)) u) → G l D Z b0 rmX11_soonIn RX11 cX11_soonIn 6 (gE (some .int) "soonIn") (gT D b0 Po rmX11_soonIn.cells rmX11_soonIn.slots) (wC Z cd ik ugA ugB ugC rA (nf p9) tA rB pB tB rC pC tC (nf (tw k9 f9)) (nf (dO k9 f9 (p9 0))) (nf L27) N27 (nf (fun _ => 0)) (bf (fun _ => true)) (nf (tw k9 f9)) (nf (dO k9 f9 (p9 1))) (nf L48) N48 (nf (fun _ => 0)) (bf (fun _ => true)) tm cl KR SO SZ EL V) [(3, .int (nI u)), (2, .int (nI m9)), (0, .ref (cd 0)), (1, .ref (cd 1))] 0 0 56 [] := by
      intro d56
      induction d56 with
      | zero =>
        intro u m9 hd56 hu20 hm
        exact absurd hd56 (by omega)
      | succ d56 ih56 =>
        intro u m9 hd56 hu20 hm
        refine g_iload_n (q := 0) (pc := 56) dX11_soonIn_56 rfl rfl ?_
        refine g_bipush (v := nI 20) (pc := 57) dX11_soonIn_57 (by decide) ?_
        refine g_icmp_ge_N (tgt := 124) (pc := 59) (by omega) (by omega) dX11_soonIn_59 (by decide) (fun c2 => ?_) (fun c2 => ?_)
        · -- T c2
          refine g_iload_n (q := 1) (pc := 124) dX11_soonIn_124 rfl rfl ?_
          exact g_iret (pc := 125) (by decide) (by decide) (hPo _ _ ⟨by rw [show soonV k9 f9 p9 = m9 from by rw [soonV, if_neg (by simp [*]), hm, show u = 20 by omega]], _, _, _, _, _, _, _, _, _, _, _, _, rfl⟩) dX11_soonIn_125
        · -- F c2
          refine g_iconst (v := nI 0) (pc := 62) dX11_soonIn_62 (by decide) ?_
          refine g_istore (lv' := [(4, .int (nI 0)), (3, .int (nI u)), (2, .int (nI m9)), (0, .ref (cd 0)), (1, .ref (cd 1))]) (pc := 63) dX11_soonIn_63 (by decide) rfl ?_
          have lp65 : ∀ (d65 : Nat) (s1 : Nat) (m8 : Nat), s1 + d65 = 5 → (s1 ≤ 4) → (m8 = lsS (dO k9 f9 (p9 0)) (dO k9 f9 (p9 1)) u (lsU (dO k9 f9 (p9 0)) (dO k9 f9 (p9 1)) u) s1) → G l D Z b0 rmX11_soonIn RX11 cX11_soonIn 6 (gE (some .int) "soonIn") (gT D b0 Po rmX11_soonIn.cells rmX11_soonIn.slots) (wC Z cd ik ugA ugB ugC rA (nf p9) tA rB pB tB rC pC tC (nf (tw k9 f9)) (nf (dO k9 f9 (p9 0))) (nf L27) N27 (nf (fun _ => 0)) (bf (fun _ => true)) (nf (tw k9 f9)) (nf (dO k9 f9 (p9 1))) (nf L48) N48 (nf (fun _ => 0)) (bf (fun _ => true)) tm cl KR SO SZ EL V) [(4, .int (nI s1)), (3, .int (nI u)), (2, .int (nI m8)), (0, .ref (cd 0)), (1, .ref (cd 1))] 0 0 65 [] := by
            intro d65
            induction d65 with
            | zero =>
              intro s1 m8 hd65 hs5 hm8
              exact absurd hd65 (by omega)
            | succ d65 ih65 =>
              intro s1 m8 hd65 hs5 hm8
              refine g_iload (q := 0) (pc := 65) dX11_soonIn_65 rfl ?_
              refine g_iconst (v := nI 4) (pc := 67) dX11_soonIn_67 (by decide) ?_
              refine g_icmp_ge_N (tgt := 118) (pc := 68) (by omega) (by omega) dX11_soonIn_68 (by decide) (fun c3 => ?_) (fun c3 => ?_)
              · -- T c3
                refine g_iinc (q := 1) (lv' := [(3, .int (nI (u + 1))), (4, .int (nI s1)), (2, .int (nI m8)), (0, .ref (cd 0)), (1, .ref (cd 1))]) (pc := 118) dX11_soonIn_118 rfl (nI_inc _ _) (by decide) rfl ?_
                refine g_goto (tgt := 56) (pc := 121) dX11_soonIn_121 (by decide) ?_
                refine G.locals (L' := [(3, .int (nI (u + 1))), (2, .int (nI m8)), (0, .ref (cd 0)), (1, .ref (cd 1))]) [0, 2, 3, 4] rfl ?_
                exact ih56 (u + 1) m8 (by omega) (by omega) (by rw [hm8, show s1 = 4 by omega]; rfl)
              · -- F c3
                refine g_iload_n (q := 1) (pc := 71) dX11_soonIn_71 rfl rfl ?_
                refine g_iload (q := 0) (pc := 72) dX11_soonIn_72 rfl ?_
                rcases hn74 : nbo u s1 with _ | t74
                · -- alt
                  refine e_callS (k2 := 0) (n2 := 0) (As := [.int (nI u), .int (nI s1)]) (rest := []) (pc := 74) (c_X11_neighbour_n (t := 0) (by omega) (by omega) hn74) mlX11_303 mX11_neighbour ⟨Nat.le_of_ble_eq_true rfl, Nat.le_of_ble_eq_true rfl⟩ rfl rfl (Nat.le_of_ble_eq_true rfl) dX11_soonIn_74 (by decide) rfl rfl ?_
                  refine g_istore (lv' := [(5, .int (-1)), (4, .int (nI s1)), (3, .int (nI u)), (2, .int (nI m8)), (0, .ref (cd 0)), (1, .ref (cd 1))]) (pc := 77) dX11_soonIn_77 (by decide) rfl ?_
                  refine g_iload (q := 0) (pc := 79) dX11_soonIn_79 rfl ?_
                  refine g_iconst (v := (-1)) (pc := 81) dX11_soonIn_81 (by decide) ?_
                  refine g_icmp_eq (tgt := 112) (pc := 82) dX11_soonIn_82 (by decide) (fun c4 => ?_) (fun c4 => ?_)
                  · -- T c4
                    refine g_iinc (q := 1) (lv' := [(4, .int (nI (s1 + 1))), (5, .int (-1)), (3, .int (nI u)), (2, .int (nI m8)), (0, .ref (cd 0)), (1, .ref (cd 1))]) (pc := 112) dX11_soonIn_112 rfl (nI_inc _ _) (by decide) rfl ?_
                    refine g_goto (tgt := 65) (pc := 115) dX11_soonIn_115 (by decide) ?_
                    refine G.locals (L' := [(4, .int (nI (s1 + 1))), (3, .int (nI u)), (2, .int (nI m8)), (0, .ref (cd 0)), (1, .ref (cd 1))]) [0, 2, 3, 4, 5] rfl ?_
                    exact ih65 (s1 + 1) m8 (by omega) (by omega) (by first | exact hm8.trans (lsS_n hn74).symm | (rw [lsS_s hn74, hm8]))
                  · -- F c4
                    exact absurd rfl c4
                · -- alt
                  have t74l := nbo_lt (c := u) (by omega) hn74
                  refine e_callS (k2 := 0) (n2 := 0) (As := [.int (nI u), .int (nI s1)]) (rest := []) (pc := 74) (c_X11_neighbour_s (by omega) (by omega) hn74) mlX11_303 mX11_neighbour ⟨Nat.le_of_ble_eq_true rfl, Nat.le_of_ble_eq_true rfl⟩ rfl rfl (Nat.le_of_ble_eq_true rfl) dX11_soonIn_74 (by decide) rfl rfl ?_
                  refine g_istore (lv' := [(5, .int (nI t74)), (4, .int (nI s1)), (3, .int (nI u)), (2, .int (nI m8)), (0, .ref (cd 0)), (1, .ref (cd 1))]) (pc := 77) dX11_soonIn_77 (by decide) rfl ?_
                  refine g_iload (q := 0) (pc := 79) dX11_soonIn_79 rfl ?_
                  refine g_iconst (v := (-1)) (pc := 81) dX11_soonIn_81 (by decide) ?_
                  refine g_icmp_eq (tgt := 112) (pc := 82) dX11_soonIn_82 (by decide) (fun c5 => ?_) (fun c5 => ?_)
                  · -- T c5
                    exact absurd c5 (nI_m1 (by omega))
                  · -- F c5
                    refine g_iload_n (q := 3) (pc := 85) dX11_soonIn_85 rfl rfl ?_
                    refine g_aload_n (q := 4) (pc := 86) dX11_soonIn_86 rfl rfl ?_
                    refine gc_get_O_ways (pc := 87) hA flX11_35 dX11_soonIn_87 ?_
                    refine gc_get_WX_least (pc := 90) hA flX11_118 dX11_soonIn_90 ?_
                    refine g_iload_n (q := 2) (pc := 93) dX11_soonIn_93 rfl rfl ?_
                    refine gc_ld_lX (pc := 94) (j := u) (x := nI ((dO k9 f9 (p9 0)) u)) hA (by omega) rfl dX11_soonIn_94 ?_
                    refine g_aload_n (q := 4) (pc := 95) dX11_soonIn_95 rfl rfl ?_
                    refine gc_get_O_otherWays (pc := 96) hA flX11_39 dX11_soonIn_96 ?_
                    refine gc_get_WY_least (pc := 99) hA flX11_118 dX11_soonIn_99 ?_
                    refine g_iload (q := 0) (pc := 102) dX11_soonIn_102 rfl ?_
                    refine gc_ld_lY (pc := 104) (j := t74) (x := nI ((dO k9 f9 (p9 1)) t74)) hA (by omega) rfl dX11_soonIn_104 ?_
                    refine g_jmax (pc := 105) mlX11_124 ⟨Nat.le_of_ble_eq_true rfl, Nat.le_of_ble_eq_true rfl⟩ (Nat.le_of_ble_eq_true rfl) dX11_soonIn_105 (by decide) ?_
                    refine g_top (x := mxI (nI ((dO k9 f9 (p9 0)) u)) (nI ((dO k9 f9 (p9 1)) t74))) (y := nI (if (dO k9 f9 (p9 1)) t74 < (dO k9 f9 (p9 0)) u then (dO k9 f9 (p9 0)) u else (dO k9 f9 (p9 1)) t74)) (mxI_m (by have := hb0 u (by omega); omega) (by have := hb1 t74 t74l; omega)) ?_
                    refine g_jmin (pc := 108) mlX11_306 ⟨Nat.le_of_ble_eq_true rfl, Nat.le_of_ble_eq_true rfl⟩ (Nat.le_of_ble_eq_true rfl) dX11_soonIn_108 (by decide) ?_
                    refine g_top (x := mnI (nI m8) (nI (if (dO k9 f9 (p9 1)) t74 < (dO k9 f9 (p9 0)) u then (dO k9 f9 (p9 0)) u else (dO k9 f9 (p9 1)) t74))) (y := nI (if (if (dO k9 f9 (p9 1)) t74 < (dO k9 f9 (p9 0)) u then (dO k9 f9 (p9 0)) u else (dO k9 f9 (p9 1)) t74) < m8 then (if (dO k9 f9 (p9 1)) t74 < (dO k9 f9 (p9 0)) u then (dO k9 f9 (p9 0)) u else (dO k9 f9 (p9 1)) t74) else m8)) (mnI_n (by have := lsS_le (dO k9 f9 (p9 0)) (dO k9 f9 (p9 1)) u (lsU (dO k9 f9 (p9 0)) (dO k9 f9 (p9 1)) u) s1; have := lsU_le (dO k9 f9 (p9 0)) (dO k9 f9 (p9 1)) u; omega) (by have := hb0 u (by omega); have := hb1 t74 t74l; split <;> omega)) ?_
                    refine g_istore_n (lv' := [(2, .int (nI (if (if (dO k9 f9 (p9 1)) t74 < (dO k9 f9 (p9 0)) u then (dO k9 f9 (p9 0)) u else (dO k9 f9 (p9 1)) t74) < m8 then (if (dO k9 f9 (p9 1)) t74 < (dO k9 f9 (p9 0)) u then (dO k9 f9 (p9 0)) u else (dO k9 f9 (p9 1)) t74) else m8))), (5, .int (nI t74)), (4, .int (nI s1)), (3, .int (nI u)), (0, .ref (cd 0)), (1, .ref (cd 1))]) (pc := 111) dX11_soonIn_111 rfl (by decide) rfl ?_
                    refine g_iinc (q := 2) (lv' := [(4, .int (nI (s1 + 1))), (2, .int (nI (if (if (dO k9 f9 (p9 1)) t74 < (dO k9 f9 (p9 0)) u then (dO k9 f9 (p9 0)) u else (dO k9 f9 (p9 1)) t74) < m8 then (if (dO k9 f9 (p9 1)) t74 < (dO k9 f9 (p9 0)) u then (dO k9 f9 (p9 0)) u else (dO k9 f9 (p9 1)) t74) else m8))), (5, .int (nI t74)), (3, .int (nI u)), (0, .ref (cd 0)), (1, .ref (cd 1))]) (pc := 112) dX11_soonIn_112 rfl (nI_inc _ _) (by decide) rfl ?_
                    refine g_goto (tgt := 65) (pc := 115) dX11_soonIn_115 (by decide) ?_
                    refine G.locals (L' := [(4, .int (nI (s1 + 1))), (3, .int (nI u)), (2, .int (nI (if (if (dO k9 f9 (p9 1)) t74 < (dO k9 f9 (p9 0)) u then (dO k9 f9 (p9 0)) u else (dO k9 f9 (p9 1)) t74) < m8 then (if (dO k9 f9 (p9 1)) t74 < (dO k9 f9 (p9 0)) u then (dO k9 f9 (p9 0)) u else (dO k9 f9 (p9 1)) t74) else m8))), (0, .ref (cd 0)), (1, .ref (cd 1))]) [0, 3, 1, 4, 5] rfl ?_
                    exact ih65 (s1 + 1) (if (if (dO k9 f9 (p9 1)) t74 < (dO k9 f9 (p9 0)) u then (dO k9 f9 (p9 0)) u else (dO k9 f9 (p9 1)) t74) < m8 then (if (dO k9 f9 (p9 1)) t74 < (dO k9 f9 (p9 0)) u then (dO k9 f9 (p9 0)) u else (dO k9 f9 (p9 1)) t74) else m8) (by omega) (by omega) (by first | exact hm8.trans (lsS_n hn74).symm | (rw [lsS_s hn74, hm8]))
          refine G.locals (L' := [(4, .int (nI 0)), (3, .int (nI u)), (2, .int (nI m9)), (0, .ref (cd 0)), (1, .ref (cd 1))]) [0, 1, 2, 3, 4] rfl ?_
          exact lp65 5 0 m9 (by omega) (by decide) hm
    refine G.locals (L' := [(3, .int (nI 0)), (2, .int (nI 1000000)), (0, .ref (cd 0)), (1, .ref (cd 1))]) [0, 1, 2, 3] rfl ?_
    exact lp56 21 0 1000000 (by omega) (by decide) rfl
  · -- F c1
    refine g_iconst (v := nI 0) (pc := 7) dX11_soonIn_7 (by decide) ?_
    exact g_iret (pc := 8) (by decide) (by decide) (hPo _ _ ⟨by rw [show soonV k9 f9 p9 = 0 from if_pos (by assumption)], _, _, _, _, _, _, _, _, _, _, _, _, rfl⟩) dX11_soonIn_8
theorem soonV_lt_A {k9 f9 p9 : Nat → Nat} (hm9 : mo V rA k9 f9) (hp9 : ∀ g, g < 2 → p9 g < 20) : soonV k9 f9 p9 < 1000 := by
  have ho : okM k9 f9 p9 := ⟨mo.ok hm9, hp9⟩
  have hw : ∀ c, c < 20 → tw k9 f9 c ≤ 30 := mo.tw hm9
  unfold soonV; split
  · omega
  · exact lsU_lt (Nat.lt_of_le_of_lt (SolO.bd hw (dO_sol ho (hp9 0 (by decide))) (by decide)) (by decide)) (Nat.lt_of_le_of_lt (SolO.bd hw (dO_sol ho (hp9 1 (by decide))) (by decide)) (by decide)) 19
set_option maxHeartbeats 8000000 in
theorem c_X11_soonIn_B {k9 f9 p9 : Nat → Nat} (hA : oC b0 cd V) (hm9 : mo V rB k9 f9) (hp9 : ∀ g, g < 2 → p9 g < 20) : KM l D Z b0 yX11_soonIn cX11_soonIn 6 (some .int) rmX11_soonIn [.ref (cd 0), .ref (cd 2)] (wC Z cd ik ugA ugB ugC rA pA tA rB (nf p9) tB rC pC tC cX lX oX nX sX zX cY lY oY nY sY zY tm cl KR SO SZ EL V) (fun v0 V' => v0 = some (.int (nI (soonV k9 f9 p9))) ∧ ∃ (cX9 lX9 oX9 nX9 sX9 zX9 cY9 lY9 oY9 nY9 sY9 zY9 : Nat → Int32), V' = wC Z cd ik ugA ugB ugC rA pA tA rB (nf p9) tB rC pC tC cX9 lX9 oX9 nX9 sX9 zX9 cY9 lY9 oY9 nY9 sY9 zY9 tm cl KR SO SZ EL V) := by
  refine KM.ofP (by decide) (Nat.le_of_ble_eq_true rfl) (fun Po hPo => ?_)
  refine G.locals (L' := [(0, .ref (cd 0)), (1, .ref (cd 2))]) [0, 1] rfl ?_
  refine g_aload_n (q := 1) (pc := 0) dX11_soonIn_0 rfl rfl ?_
  refine e_callV (k2 := 0) (n2 := 0) (As := []) (rest := []) (pc := 1) (wC_2 hA) rfl (c_X5_gangsMet_B hA (hp9 0 (by decide)) (hp9 1 (by decide))) mlX11_110 selX5_X5_gangsMet_X5_gangsMet mX5_gangsMet ⟨Nat.le_of_ble_eq_true rfl, Nat.le_of_ble_eq_true rfl⟩ rfl rfl (Nat.le_of_ble_eq_true rfl) dX11_soonIn_1 (by decide) rfl rfl ?_
  refine g_if_eq_B (tgt := 9) (pc := 4) dX11_soonIn_4 (by decide) (fun c1 => ?_) (fun c1 => ?_)
  · -- T c1
    refine g_aload_n (q := 0) (pc := 9) dX11_soonIn_9 rfl rfl ?_
    refine gc_get_O_ways (pc := 10) hA flX11_35 dX11_soonIn_10 ?_
    refine g_aload_n (q := 1) (pc := 13) dX11_soonIn_13 rfl rfl ?_
    refine e_callVv (k2 := 0) (n2 := 0) (As := [.ref (cd 2)]) (rest := []) (pc := 14) (wC_14 hA) rfl (c_X10_byToil_XB hA hm9) mlX11_161 selX10_X10_byToil_X10_byToil mX10_byToil ⟨Nat.le_of_ble_eq_true rfl, Nat.le_of_ble_eq_true rfl⟩ rfl rfl (Nat.le_of_ble_eq_true rfl) dX11_soonIn_14 (by decide) rfl rfl ?_
    refine g_aload_n (q := 0) (pc := 17) dX11_soonIn_17 rfl rfl ?_
    refine gc_get_O_ways (pc := 18) hA flX11_35 dX11_soonIn_18 ?_
    refine g_aload_n (q := 1) (pc := 21) dX11_soonIn_21 rfl rfl ?_
    refine gc_get_MB_places (pc := 22) hA flX11_100 dX11_soonIn_22 ?_
    refine g_iconst (v := nI 0) (pc := 25) dX11_soonIn_25 (by decide) ?_
    refine gc_ld_pB (pc := 26) (j := 0) (x := nI (p9 0)) hA (by omega) rfl dX11_soonIn_26 ?_
    refine g_callV (As := [.int (nI (p9 0))]) (rest := []) (pc := 27) (wC_14 hA) rfl (c_X10_spread_X hA (hp9 0 (by decide)) (mo.tw hm9) (fun _ _ => Nat.zero_le _)) mlX11_142 selX10_X10_spread_X10_spread mX10_spread ⟨Nat.le_of_ble_eq_true rfl, Nat.le_of_ble_eq_true rfl⟩ rfl rfl (Nat.le_of_ble_eq_true rfl) dX11_soonIn_27 (by decide)  (fun v9 V9 h9 => ?_)
    obtain ⟨T27, L27, N27, rfl, hSP27, rfl⟩ := h9
    refine G.eqst (k2 := 0) (n2 := 0) (st2 := []) rfl rfl rfl ?_
    refine gc_eq_lX (f' := nf (dO k9 f9 (p9 0))) hA (SP.o hSP27) ?_
    refine g_aload_n (q := 0) (pc := 30) dX11_soonIn_30 rfl rfl ?_
    refine gc_get_O_otherWays (pc := 31) hA flX11_39 dX11_soonIn_31 ?_
    refine g_aload_n (q := 1) (pc := 34) dX11_soonIn_34 rfl rfl ?_
    refine e_callVv (k2 := 0) (n2 := 0) (As := [.ref (cd 2)]) (rest := []) (pc := 35) (wC_15 hA) rfl (c_X10_byToil_YB hA hm9) mlX11_161 selX10_X10_byToil_X10_byToil mX10_byToil ⟨Nat.le_of_ble_eq_true rfl, Nat.le_of_ble_eq_true rfl⟩ rfl rfl (Nat.le_of_ble_eq_true rfl) dX11_soonIn_35 (by decide) rfl rfl ?_
    refine g_aload_n (q := 0) (pc := 38) dX11_soonIn_38 rfl rfl ?_
    refine gc_get_O_otherWays (pc := 39) hA flX11_39 dX11_soonIn_39 ?_
    refine g_aload_n (q := 1) (pc := 42) dX11_soonIn_42 rfl rfl ?_
    refine gc_get_MB_places (pc := 43) hA flX11_100 dX11_soonIn_43 ?_
    refine g_iconst (v := nI 1) (pc := 46) dX11_soonIn_46 (by decide) ?_
    refine gc_ld_pB (pc := 47) (j := 1) (x := nI (p9 1)) hA (by omega) rfl dX11_soonIn_47 ?_
    refine g_callV (As := [.int (nI (p9 1))]) (rest := []) (pc := 48) (wC_15 hA) rfl (c_X10_spread_Y hA (hp9 1 (by decide)) (mo.tw hm9) (fun _ _ => Nat.zero_le _)) mlX11_142 selX10_X10_spread_X10_spread mX10_spread ⟨Nat.le_of_ble_eq_true rfl, Nat.le_of_ble_eq_true rfl⟩ rfl rfl (Nat.le_of_ble_eq_true rfl) dX11_soonIn_48 (by decide)  (fun v9 V9 h9 => ?_)
    obtain ⟨T48, L48, N48, rfl, hSP48, rfl⟩ := h9
    refine G.eqst (k2 := 0) (n2 := 0) (st2 := []) rfl rfl rfl ?_
    refine gc_eq_lY (f' := nf (dO k9 f9 (p9 1))) hA (SP.o hSP48) ?_
    have hb0 := SP.b (mo.ok hm9) hSP27
    have hb1 := SP.b (mo.ok hm9) hSP48
    refine g_ldc (v := nI 1000000) (pc := 51) ctX11_152 dX11_soonIn_51 ?_
    refine g_istore_n (lv' := [(2, .int (nI 1000000)), (0, .ref (cd 0)), (1, .ref (cd 2))]) (pc := 53) dX11_soonIn_53 rfl (by decide) rfl ?_
    refine g_iconst (v := nI 0) (pc := 54) dX11_soonIn_54 (by decide) ?_
    refine g_istore_n (lv' := [(3, .int (nI 0)), (2, .int (nI 1000000)), (0, .ref (cd 0)), (1, .ref (cd 2))]) (pc := 55) dX11_soonIn_55 rfl (by decide) rfl ?_
    have lp56 : ∀ (d56 : Nat) (u : Nat) (m9 : Nat), u + d56 = 21 → (u ≤ 20) → (m9 = lsU (dO k9 f9 (p9 0)) (dO k9 f9 (p9 1)) u) → G l D Z b0 rmX11_soonIn RX11 cX11_soonIn 6 (gE (some .int) "soonIn") (gT D b0 Po rmX11_soonIn.cells rmX11_soonIn.slots) (wC Z cd ik ugA ugB ugC rA pA tA rB (nf p9) tB rC pC tC (nf (tw k9 f9)) (nf (dO k9 f9 (p9 0))) (nf L27) N27 (nf (fun _ => 0)) (bf (fun _ => true)) (nf (tw k9 f9)) (nf (dO k9 f9 (p9 1))) (nf L48) N48 (nf (fun _ => 0)) (bf (fun _ => true)) tm cl KR SO SZ EL V) [(3, .int (nI u)), (2, .int (nI m9)), (0, .ref (cd 0)), (1, .ref (cd 2))] 0 0 56 [] := by
      intro d56
      induction d56 with
      | zero =>
        intro u m9 hd56 hu20 hm
        exact absurd hd56 (by omega)
      | succ d56 ih56 =>
        intro u m9 hd56 hu20 hm
        refine g_iload_n (q := 0) (pc := 56) dX11_soonIn_56 rfl rfl ?_
        refine g_bipush (v := nI 20) (pc := 57) dX11_soonIn_57 (by decide) ?_
        refine g_icmp_ge_N (tgt := 124) (pc := 59) (by omega) (by omega) dX11_soonIn_59 (by decide) (fun c2 => ?_) (fun c2 => ?_)
        · -- T c2
          refine g_iload_n (q := 1) (pc := 124) dX11_soonIn_124 rfl rfl ?_
          exact g_iret (pc := 125) (by decide) (by decide) (hPo _ _ ⟨by rw [show soonV k9 f9 p9 = m9 from by rw [soonV, if_neg (by simp [*]), hm, show u = 20 by omega]], _, _, _, _, _, _, _, _, _, _, _, _, rfl⟩) dX11_soonIn_125
        · -- F c2
          refine g_iconst (v := nI 0) (pc := 62) dX11_soonIn_62 (by decide) ?_
          refine g_istore (lv' := [(4, .int (nI 0)), (3, .int (nI u)), (2, .int (nI m9)), (0, .ref (cd 0)), (1, .ref (cd 2))]) (pc := 63) dX11_soonIn_63 (by decide) rfl ?_
          have lp65 : ∀ (d65 : Nat) (s1 : Nat) (m8 : Nat), s1 + d65 = 5 → (s1 ≤ 4) → (m8 = lsS (dO k9 f9 (p9 0)) (dO k9 f9 (p9 1)) u (lsU (dO k9 f9 (p9 0)) (dO k9 f9 (p9 1)) u) s1) → G l D Z b0 rmX11_soonIn RX11 cX11_soonIn 6 (gE (some .int) "soonIn") (gT D b0 Po rmX11_soonIn.cells rmX11_soonIn.slots) (wC Z cd ik ugA ugB ugC rA pA tA rB (nf p9) tB rC pC tC (nf (tw k9 f9)) (nf (dO k9 f9 (p9 0))) (nf L27) N27 (nf (fun _ => 0)) (bf (fun _ => true)) (nf (tw k9 f9)) (nf (dO k9 f9 (p9 1))) (nf L48) N48 (nf (fun _ => 0)) (bf (fun _ => true)) tm cl KR SO SZ EL V) [(4, .int (nI s1)), (3, .int (nI u)), (2, .int (nI m8)), (0, .ref (cd 0)), (1, .ref (cd 2))] 0 0 65 [] := by
            intro d65
            induction d65 with
            | zero =>
              intro s1 m8 hd65 hs5 hm8
              exact absurd hd65 (by omega)
            | succ d65 ih65 =>
              intro s1 m8 hd65 hs5 hm8
              refine g_iload (q := 0) (pc := 65) dX11_soonIn_65 rfl ?_
              refine g_iconst (v := nI 4) (pc := 67) dX11_soonIn_67 (by decide) ?_
              refine g_icmp_ge_N (tgt := 118) (pc := 68) (by omega) (by omega) dX11_soonIn_68 (by decide) (fun c3 => ?_) (fun c3 => ?_)
              · -- T c3
                refine g_iinc (q := 1) (lv' := [(3, .int (nI (u + 1))), (4, .int (nI s1)), (2, .int (nI m8)), (0, .ref (cd 0)), (1, .ref (cd 2))]) (pc := 118) dX11_soonIn_118 rfl (nI_inc _ _) (by decide) rfl ?_
                refine g_goto (tgt := 56) (pc := 121) dX11_soonIn_121 (by decide) ?_
                refine G.locals (L' := [(3, .int (nI (u + 1))), (2, .int (nI m8)), (0, .ref (cd 0)), (1, .ref (cd 2))]) [0, 2, 3, 4] rfl ?_
                exact ih56 (u + 1) m8 (by omega) (by omega) (by rw [hm8, show s1 = 4 by omega]; rfl)
              · -- F c3
                refine g_iload_n (q := 1) (pc := 71) dX11_soonIn_71 rfl rfl ?_
                refine g_iload (q := 0) (pc := 72) dX11_soonIn_72 rfl ?_
                rcases hn74 : nbo u s1 with _ | t74
                · -- alt
                  refine e_callS (k2 := 0) (n2 := 0) (As := [.int (nI u), .int (nI s1)]) (rest := []) (pc := 74) (c_X11_neighbour_n (t := 0) (by omega) (by omega) hn74) mlX11_303 mX11_neighbour ⟨Nat.le_of_ble_eq_true rfl, Nat.le_of_ble_eq_true rfl⟩ rfl rfl (Nat.le_of_ble_eq_true rfl) dX11_soonIn_74 (by decide) rfl rfl ?_
                  refine g_istore (lv' := [(5, .int (-1)), (4, .int (nI s1)), (3, .int (nI u)), (2, .int (nI m8)), (0, .ref (cd 0)), (1, .ref (cd 2))]) (pc := 77) dX11_soonIn_77 (by decide) rfl ?_
                  refine g_iload (q := 0) (pc := 79) dX11_soonIn_79 rfl ?_
                  refine g_iconst (v := (-1)) (pc := 81) dX11_soonIn_81 (by decide) ?_
                  refine g_icmp_eq (tgt := 112) (pc := 82) dX11_soonIn_82 (by decide) (fun c4 => ?_) (fun c4 => ?_)
                  · -- T c4
                    refine g_iinc (q := 1) (lv' := [(4, .int (nI (s1 + 1))), (5, .int (-1)), (3, .int (nI u)), (2, .int (nI m8)), (0, .ref (cd 0)), (1, .ref (cd 2))]) (pc := 112) dX11_soonIn_112 rfl (nI_inc _ _) (by decide) rfl ?_
                    refine g_goto (tgt := 65) (pc := 115) dX11_soonIn_115 (by decide) ?_
                    refine G.locals (L' := [(4, .int (nI (s1 + 1))), (3, .int (nI u)), (2, .int (nI m8)), (0, .ref (cd 0)), (1, .ref (cd 2))]) [0, 2, 3, 4, 5] rfl ?_
                    exact ih65 (s1 + 1) m8 (by omega) (by omega) (by first | exact hm8.trans (lsS_n hn74).symm | (rw [lsS_s hn74, hm8]))
                  · -- F c4
                    exact absurd rfl c4
                · -- alt
                  have t74l := nbo_lt (c := u) (by omega) hn74
                  refine e_callS (k2 := 0) (n2 := 0) (As := [.int (nI u), .int (nI s1)]) (rest := []) (pc := 74) (c_X11_neighbour_s (by omega) (by omega) hn74) mlX11_303 mX11_neighbour ⟨Nat.le_of_ble_eq_true rfl, Nat.le_of_ble_eq_true rfl⟩ rfl rfl (Nat.le_of_ble_eq_true rfl) dX11_soonIn_74 (by decide) rfl rfl ?_
                  refine g_istore (lv' := [(5, .int (nI t74)), (4, .int (nI s1)), (3, .int (nI u)), (2, .int (nI m8)), (0, .ref (cd 0)), (1, .ref (cd 2))]) (pc := 77) dX11_soonIn_77 (by decide) rfl ?_
                  refine g_iload (q := 0) (pc := 79) dX11_soonIn_79 rfl ?_
                  refine g_iconst (v := (-1)) (pc := 81) dX11_soonIn_81 (by decide) ?_
                  refine g_icmp_eq (tgt := 112) (pc := 82) dX11_soonIn_82 (by decide) (fun c5 => ?_) (fun c5 => ?_)
                  · -- T c5
                    exact absurd c5 (nI_m1 (by omega))
                  · -- F c5
                    refine g_iload_n (q := 3) (pc := 85) dX11_soonIn_85 rfl rfl ?_
                    refine g_aload_n (q := 4) (pc := 86) dX11_soonIn_86 rfl rfl ?_
                    refine gc_get_O_ways (pc := 87) hA flX11_35 dX11_soonIn_87 ?_
                    refine gc_get_WX_least (pc := 90) hA flX11_118 dX11_soonIn_90 ?_
                    refine g_iload_n (q := 2) (pc := 93) dX11_soonIn_93 rfl rfl ?_
                    refine gc_ld_lX (pc := 94) (j := u) (x := nI ((dO k9 f9 (p9 0)) u)) hA (by omega) rfl dX11_soonIn_94 ?_
                    refine g_aload_n (q := 4) (pc := 95) dX11_soonIn_95 rfl rfl ?_
                    refine gc_get_O_otherWays (pc := 96) hA flX11_39 dX11_soonIn_96 ?_
                    refine gc_get_WY_least (pc := 99) hA flX11_118 dX11_soonIn_99 ?_
                    refine g_iload (q := 0) (pc := 102) dX11_soonIn_102 rfl ?_
                    refine gc_ld_lY (pc := 104) (j := t74) (x := nI ((dO k9 f9 (p9 1)) t74)) hA (by omega) rfl dX11_soonIn_104 ?_
                    refine g_jmax (pc := 105) mlX11_124 ⟨Nat.le_of_ble_eq_true rfl, Nat.le_of_ble_eq_true rfl⟩ (Nat.le_of_ble_eq_true rfl) dX11_soonIn_105 (by decide) ?_
                    refine g_top (x := mxI (nI ((dO k9 f9 (p9 0)) u)) (nI ((dO k9 f9 (p9 1)) t74))) (y := nI (if (dO k9 f9 (p9 1)) t74 < (dO k9 f9 (p9 0)) u then (dO k9 f9 (p9 0)) u else (dO k9 f9 (p9 1)) t74)) (mxI_m (by have := hb0 u (by omega); omega) (by have := hb1 t74 t74l; omega)) ?_
                    refine g_jmin (pc := 108) mlX11_306 ⟨Nat.le_of_ble_eq_true rfl, Nat.le_of_ble_eq_true rfl⟩ (Nat.le_of_ble_eq_true rfl) dX11_soonIn_108 (by decide) ?_
                    refine g_top (x := mnI (nI m8) (nI (if (dO k9 f9 (p9 1)) t74 < (dO k9 f9 (p9 0)) u then (dO k9 f9 (p9 0)) u else (dO k9 f9 (p9 1)) t74))) (y := nI (if (if (dO k9 f9 (p9 1)) t74 < (dO k9 f9 (p9 0)) u then (dO k9 f9 (p9 0)) u else (dO k9 f9 (p9 1)) t74) < m8 then (if (dO k9 f9 (p9 1)) t74 < (dO k9 f9 (p9 0)) u then (dO k9 f9 (p9 0)) u else (dO k9 f9 (p9 1)) t74) else m8)) (mnI_n (by have := lsS_le (dO k9 f9 (p9 0)) (dO k9 f9 (p9 1)) u (lsU (dO k9 f9 (p9 0)) (dO k9 f9 (p9 1)) u) s1; have := lsU_le (dO k9 f9 (p9 0)) (dO k9 f9 (p9 1)) u; omega) (by have := hb0 u (by omega); have := hb1 t74 t74l; split <;> omega)) ?_
                    refine g_istore_n (lv' := [(2, .int (nI (if (if (dO k9 f9 (p9 1)) t74 < (dO k9 f9 (p9 0)) u then (dO k9 f9 (p9 0)) u else (dO k9 f9 (p9 1)) t74) < m8 then (if (dO k9 f9 (p9 1)) t74 < (dO k9 f9 (p9 0)) u then (dO k9 f9 (p9 0)) u else (dO k9 f9 (p9 1)) t74) else m8))), (5, .int (nI t74)), (4, .int (nI s1)), (3, .int (nI u)), (0, .ref (cd 0)), (1, .ref (cd 2))]) (pc := 111) dX11_soonIn_111 rfl (by decide) rfl ?_
                    refine g_iinc (q := 2) (lv' := [(4, .int (nI (s1 + 1))), (2, .int (nI (if (if (dO k9 f9 (p9 1)) t74 < (dO k9 f9 (p9 0)) u then (dO k9 f9 (p9 0)) u else (dO k9 f9 (p9 1)) t74) < m8 then (if (dO k9 f9 (p9 1)) t74 < (dO k9 f9 (p9 0)) u then (dO k9 f9 (p9 0)) u else (dO k9 f9 (p9 1)) t74) else m8))), (5, .int (nI t74)), (3, .int (nI u)), (0, .ref (cd 0)), (1, .ref (cd 2))]) (pc := 112) dX11_soonIn_112 rfl (nI_inc _ _) (by decide) rfl ?_
                    refine g_goto (tgt := 65) (pc := 115) dX11_soonIn_115 (by decide) ?_
                    refine G.locals (L' := [(4, .int (nI (s1 + 1))), (3, .int (nI u)), (2, .int (nI (if (if (dO k9 f9 (p9 1)) t74 < (dO k9 f9 (p9 0)) u then (dO k9 f9 (p9 0)) u else (dO k9 f9 (p9 1)) t74) < m8 then (if (dO k9 f9 (p9 1)) t74 < (dO k9 f9 (p9 0)) u then (dO k9 f9 (p9 0)) u else (dO k9 f9 (p9 1)) t74) else m8))), (0, .ref (cd 0)), (1, .ref (cd 2))]) [0, 3, 1, 4, 5] rfl ?_
                    exact ih65 (s1 + 1) (if (if (dO k9 f9 (p9 1)) t74 < (dO k9 f9 (p9 0)) u then (dO k9 f9 (p9 0)) u else (dO k9 f9 (p9 1)) t74) < m8 then (if (dO k9 f9 (p9 1)) t74 < (dO k9 f9 (p9 0)) u then (dO k9 f9 (p9 0)) u else (dO k9 f9 (p9 1)) t74) else m8) (by omega) (by omega) (by first | exact hm8.trans (lsS_n hn74).symm | (rw [lsS_s hn74, hm8]))
          refine G.locals (L' := [(4, .int (nI 0)), (3, .int (nI u)), (2, .int (nI m9)), (0, .ref (cd 0)), (1, .ref (cd 2))]) [0, 1, 2, 3, 4] rfl ?_
          exact lp65 5 0 m9 (by omega) (by decide) hm
    refine G.locals (L' := [(3, .int (nI 0)), (2, .int (nI 1000000)), (0, .ref (cd 0)), (1, .ref (cd 2))]) [0, 1, 2, 3] rfl ?_
    exact lp56 21 0 1000000 (by omega) (by decide) rfl
  · -- F c1
    refine g_iconst (v := nI 0) (pc := 7) dX11_soonIn_7 (by decide) ?_
    exact g_iret (pc := 8) (by decide) (by decide) (hPo _ _ ⟨by rw [show soonV k9 f9 p9 = 0 from if_pos (by assumption)], _, _, _, _, _, _, _, _, _, _, _, _, rfl⟩) dX11_soonIn_8
theorem soonV_lt_B {k9 f9 p9 : Nat → Nat} (hm9 : mo V rB k9 f9) (hp9 : ∀ g, g < 2 → p9 g < 20) : soonV k9 f9 p9 < 1000 := by
  have ho : okM k9 f9 p9 := ⟨mo.ok hm9, hp9⟩
  have hw : ∀ c, c < 20 → tw k9 f9 c ≤ 30 := mo.tw hm9
  unfold soonV; split
  · omega
  · exact lsU_lt (Nat.lt_of_le_of_lt (SolO.bd hw (dO_sol ho (hp9 0 (by decide))) (by decide)) (by decide)) (Nat.lt_of_le_of_lt (SolO.bd hw (dO_sol ho (hp9 1 (by decide))) (by decide)) (by decide)) 19
def rmX11_soon : Room := { frames := 5, cells := 0, slots := 0, locals := 107 }
set_option maxHeartbeats 8000000 in
theorem c_X11_soon  (hA : oC b0 cd V) (hE : Ext Vb V) (hgA : Rk V ugA 7 0) (hgB : Rk V ugB 7 0) (hmA : mo V rA kd fg) (hmC : mo V rC ikd ifg) (hpl : ∀ g, g < 2 → pl g < 20) (hipl : ∀ g, g < 2 → ipl g < 20) (hSh : Sh V KR SO SZ EL kp so sz el ki kf) : KM l D Z b0 yX11_soon cX11_soon 1 (some .int) rmX11_soon [.ref (cd 0)] (wC Z cd ik ugA ugB ugC rA (nf pl) hr rB pB tB rC (nf ipl) ihr cX lX oX nX sX zX cY lY oY nY sY zY tm cl KR SO SZ EL V) (fun v0 V' => v0 = some (.int (nI (soonV kd fg pl))) ∧ CI Z b0 cd Vb ik kd fg pl hr ikd ifg ipl ihr kp so sz el ki kf V') := by
  refine KM.ofP (by decide) (Nat.le_of_ble_eq_true rfl) (fun Po hPo => ?_)
  refine G.locals (L' := [(0, .ref (cd 0))]) [0] rfl ?_
  refine g_aload_n (q := 0) (pc := 0) dX11_soon_0 rfl rfl ?_
  refine g_aload_n (q := 0) (pc := 1) dX11_soon_1 rfl rfl ?_
  refine gc_get_O_now (pc := 2) hA flX11_12 dX11_soon_2 ?_
  refine g_callV (As := [.ref (cd 1)]) (rest := []) (pc := 5) (wC_0 hA) rfl (c_X11_soonIn_A hA hmA hpl) mlX11_167 selX11_X11_soonIn_X11_soonIn mX11_soonIn ⟨Nat.le_of_ble_eq_true rfl, Nat.le_of_ble_eq_true rfl⟩ rfl rfl (Nat.le_of_ble_eq_true rfl) dX11_soon_5 (by decide)  (fun v9 V9 h9 => ?_)
  obtain ⟨rfl, cX_5, lX_5, oX_5, nX_5, sX_5, zX_5, cY_5, lY_5, oY_5, nY_5, sY_5, zY_5, rfl⟩ := h9
  refine G.eqst (k2 := 0) (n2 := 0) (st2 := [.int (nI (soonV kd fg pl))]) rfl rfl rfl ?_
  exact g_iret (pc := 8) (by decide) (by decide) (gC hPo (rfl) (CI.mk ⟨hA, hE, hgA, hgB, hmA, hmC, hpl, hipl, hSh⟩)) dX11_soon_8
theorem d_X11_soon  {V2 : HV} (hCI : CI Z b0 cd Vb ik kd fg pl hr ikd ifg ipl ihr kp so sz el ki kf V2)  : KM l D Z b0 yX11_soon cX11_soon 1 (some .int) rmX11_soon [.ref (cd 0)] V2 (fun v0 V' => v0 = some (.int (nI (soonV kd fg pl))) ∧ CI Z b0 cd Vb ik kd fg pl hr ikd ifg ipl ihr kp so sz el ki kf V') := by
  obtain ⟨ugA, ugB, ugC, rA, rB, pB, tB, rC, cX, lX, oX, nX, sX, zX, cY, lY, oY, nY, sY, zY, tm, cl, KR, SO, SZ, EL, V, rfl, hA, hE, hgA, hgB, hmA, hmC, hpl, hipl, hSh⟩ := hCI
  exact c_X11_soon hA hE hgA hgB hmA hmC hpl hipl hSh 
def rmX11_side : Room := { frames := 5, cells := 0, slots := 0, locals := 107 }
set_option maxHeartbeats 8000000 in
theorem c_X11_side {g what : Int32} (hA : oC b0 cd V) (hE : Ext Vb V) (hgA : Rk V ugA 7 0) (hgB : Rk V ugB 7 0) (hmA : mo V rA kd fg) (hmC : mo V rC ikd ifg) (hpl : ∀ g, g < 2 → pl g < 20) (hipl : ∀ g, g < 2 → ipl g < 20) (hSh : Sh V KR SO SZ EL kp so sz el ki kf) : KM l D Z b0 yX11_side cX11_side 7 (some .int) rmX11_side [.ref (cd 0), .int g, .int what] (wC Z cd ik ugA ugB ugC rA (nf pl) hr rB pB tB rC (nf ipl) ihr cX lX oX nX sX zX cY lY oY nY sY zY tm cl KR SO SZ EL V) (fun v0 V' => v0 = some (.int (spSide kd fg pl g what)) ∧ CI Z b0 cd Vb ik kd fg pl hr ikd ifg ipl ihr kp so sz el ki kf V') := by
  refine KM.ofP (by decide) (Nat.le_of_ble_eq_true rfl) (fun Po hPo => ?_)
  refine G.locals (L' := [(0, .ref (cd 0)), (1, .int g), (2, .int what)]) [0, 1, 2] rfl ?_
  refine g_iload_n (q := 1) (pc := 0) dX11_side_0 rfl rfl ?_
  refine g_iconst (v := nI 2) (pc := 1) dX11_side_1 (by decide) ?_
  refine e_callS (k2 := 0) (n2 := 0) (As := [.int g, .int (nI 2)]) (rest := []) (pc := 2) (c_X11_isBelow (by decide)) mlX11_69 mX11_isBelow ⟨Nat.le_of_ble_eq_true rfl, Nat.le_of_ble_eq_true rfl⟩ rfl rfl (Nat.le_of_ble_eq_true rfl) dX11_side_2 (by decide) rfl rfl ?_
  refine g_if_eq_B (tgt := 16) (pc := 5) dX11_side_5 (by decide) (fun c1 => ?_) (fun c1 => ?_)
  · -- T c1
    refine g_iconst (v := (-1)) (pc := 16) dX11_side_16 (by decide) ?_
    exact g_iret (pc := 17) (by decide) (by decide) (gC hPo (by rw [spSide, if_neg (by simp [*])]) (CI.mk ⟨hA, hE, hgA, hgB, hmA, hmC, hpl, hipl, hSh⟩)) dX11_side_17
  · -- F c1
    obtain ⟨g, hg, rfl⟩ := inR_t c1
    refine g_iload_n (q := 2) (pc := 8) dX11_side_8 rfl rfl ?_
    refine g_iconst (v := nI 2) (pc := 9) dX11_side_9 (by decide) ?_
    refine e_callS (k2 := 0) (n2 := 0) (As := [.int what, .int (nI 2)]) (rest := []) (pc := 10) (c_X11_isBelow (by decide)) mlX11_69 mX11_isBelow ⟨Nat.le_of_ble_eq_true rfl, Nat.le_of_ble_eq_true rfl⟩ rfl rfl (Nat.le_of_ble_eq_true rfl) dX11_side_10 (by decide) rfl rfl ?_
    refine g_if_ne_B (tgt := 18) (pc := 13) dX11_side_13 (by decide) (fun c2 => ?_) (fun c2 => ?_)
    · -- T c2
      obtain ⟨what, hwhat, rfl⟩ := inR_t c2
      refine g_iconst (v := nI 0) (pc := 18) dX11_side_18 (by decide) ?_
      refine g_istore_n (lv' := [(3, .int (nI 0)), (0, .ref (cd 0)), (1, .int (nI g)), (2, .int (nI what))]) (pc := 19) dX11_side_19 rfl (by decide) rfl ?_
      refine g_ldc (v := nI 1000000) (pc := 20) ctX11_152 dX11_side_20 ?_
      refine g_istore (lv' := [(4, .int (nI 1000000)), (3, .int (nI 0)), (0, .ref (cd 0)), (1, .int (nI g)), (2, .int (nI what))]) (pc := 22) dX11_side_22 (by decide) rfl ?_
      refine g_iconst (v := nI 0) (pc := 24) dX11_side_24 (by decide) ?_
      refine g_istore (lv' := [(5, .int (nI 0)), (4, .int (nI 1000000)), (3, .int (nI 0)), (0, .ref (cd 0)), (1, .int (nI g)), (2, .int (nI what))]) (pc := 25) dX11_side_25 (by decide) rfl ?_
      have lp27 : ∀ (d27 : Nat) (s1 : Nat) (b : Nat) (t : Nat) (rB8 : Nat → Nat) (pB8 : Nat → Int32) (tB8 : Nat → Int32) (cX8 : Nat → Int32) (lX8 : Nat → Int32) (oX8 : Nat → Int32) (nX8 : Nat → Int32) (sX8 : Nat → Int32) (zX8 : Nat → Int32) (cY8 : Nat → Int32) (lY8 : Nat → Int32) (oY8 : Nat → Int32) (nY8 : Nat → Int32) (sY8 : Nat → Int32) (zY8 : Nat → Int32), s1 + d27 = 5 → (s1 ≤ 4) → (SDI kd fg pl g s1 b t) → G l D Z b0 rmX11_side RX11 cX11_side 7 (gE (some .int) "side") (gT D b0 Po rmX11_side.cells rmX11_side.slots) (wC Z cd ik ugA ugB ugC rA (nf pl) hr rB8 pB8 tB8 rC (nf ipl) ihr cX8 lX8 oX8 nX8 sX8 zX8 cY8 lY8 oY8 nY8 sY8 zY8 tm cl KR SO SZ EL V) [(5, .int (nI s1)), (4, .int (nI t)), (3, .int (nI b)), (0, .ref (cd 0)), (1, .int (nI g)), (2, .int (nI what))] 0 0 27 [] := by
        intro d27
        induction d27 with
        | zero =>
          intro s1 b t rB8 pB8 tB8 cX8 lX8 oX8 nX8 sX8 zX8 cY8 lY8 oY8 nY8 sY8 zY8 hd27 hs5 hsd
          exact absurd hd27 (by omega)
        | succ d27 ih27 =>
          intro s1 b t rB8 pB8 tB8 cX8 lX8 oX8 nX8 sX8 zX8 cY8 lY8 oY8 nY8 sY8 zY8 hd27 hs5 hsd
          refine g_iload (q := 0) (pc := 27) dX11_side_27 rfl ?_
          refine g_iconst (v := nI 4) (pc := 29) dX11_side_29 (by decide) ?_
          refine g_icmp_ge_N (tgt := 88) (pc := 30) (by omega) (by omega) dX11_side_30 (by decide) (fun c3 => ?_) (fun c3 => ?_)
          · -- T c3
            refine g_iload_n (q := 5) (pc := 88) dX11_side_88 rfl rfl ?_
            refine g_if_ne_N (tgt := 96) (pc := 89) (by omega) dX11_side_89 (by decide) (fun c4 => ?_) (fun c4 => ?_)
            · -- T c4
              refine g_iload (q := 1) (pc := 96) dX11_side_96 rfl ?_
              exact g_iret (pc := 98) (by decide) (by decide) (gC hPo (by rw [spSide, if_pos (by assumption), if_pos (by assumption), dN_N (by omega), dN_N (by omega), SDI.fin hsd (by omega) hs5 (hpl g hg)]; simp [*]) (CI.mk ⟨hA, hE, hgA, hgB, hmA, hmC, hpl, hipl, hSh⟩)) dX11_side_98
            · -- F c4
              refine g_iload_n (q := 2) (pc := 92) dX11_side_92 rfl rfl ?_
              refine g_goto (tgt := 98) (pc := 93) dX11_side_93 (by decide) ?_
              exact g_iret (pc := 98) (by decide) (by decide) (gC hPo (by rw [spSide, if_pos (by assumption), if_pos (by assumption), dN_N (by omega), dN_N (by omega), SDI.fin hsd (by omega) hs5 (hpl g hg)]; simp [*]) (CI.mk ⟨hA, hE, hgA, hgB, hmA, hmC, hpl, hipl, hSh⟩)) dX11_side_98
          · -- F c3
            refine g_aload_n (q := 3) (pc := 33) dX11_side_33 rfl rfl ?_
            refine gc_get_O_mind (pc := 34) hA flX11_16 dX11_side_34 ?_
            refine g_aload_n (q := 3) (pc := 37) dX11_side_37 rfl rfl ?_
            refine gc_get_O_now (pc := 38) hA flX11_12 dX11_side_38 ?_
            refine e_callVv (k2 := 0) (n2 := 0) (As := [.ref (cd 1)]) (rest := []) (pc := 41) (wC_2 hA) rfl (c_X5_become_BA hA hmA) mlX11_62 selX5_X5_become_X5_become mX5_become ⟨Nat.le_of_ble_eq_true rfl, Nat.le_of_ble_eq_true rfl⟩ rfl rfl (Nat.le_of_ble_eq_true rfl) dX11_side_41 (by decide) rfl rfl ?_
            refine g_aload_n (q := 3) (pc := 44) dX11_side_44 rfl rfl ?_
            refine gc_get_O_mind (pc := 45) hA flX11_16 dX11_side_45 ?_
            refine g_iload_n (q := 4) (pc := 48) dX11_side_48 rfl rfl ?_
            refine g_iload (q := 0) (pc := 49) dX11_side_49 rfl ?_
            rcases hd51 : nbo (pl g) s1 with _ | u51
            · -- alt
              refine e_callV (k2 := 0) (n2 := 0) (As := [.int (nI g), .int (nI s1)]) (rest := []) (pc := 51) (wC_2 hA) rfl (c_X5_advance_B_n hA hmA hgB (hpl g hg) (by omega) (by omega) hd51) mlX11_106 selX5_X5_advance_X5_advance mX5_advance ⟨Nat.le_of_ble_eq_true rfl, Nat.le_of_ble_eq_true rfl⟩ rfl rfl (Nat.le_of_ble_eq_true rfl) dX11_side_51 (by decide) rfl rfl ?_
              refine g_iconst (v := (-1)) (pc := 54) dX11_side_54 (by decide) ?_
              refine g_icmp_eq (tgt := 82) (pc := 55) dX11_side_55 (by decide) (fun c5 => ?_) (fun c5 => ?_)
              · -- T c5
                refine g_iinc (q := 0) (lv' := [(5, .int (nI (s1 + 1))), (4, .int (nI t)), (3, .int (nI b)), (0, .ref (cd 0)), (1, .int (nI g)), (2, .int (nI what))]) (pc := 82) dX11_side_82 rfl (nI_inc _ _) (by decide) rfl ?_
                refine g_goto (tgt := 27) (pc := 85) dX11_side_85 (by decide) ?_
                refine G.locals (L' := [(5, .int (nI (s1 + 1))), (4, .int (nI t)), (3, .int (nI b)), (0, .ref (cd 0)), (1, .int (nI g)), (2, .int (nI what))]) [0, 1, 2, 3, 4, 5] rfl ?_
                exact ih27 (s1 + 1) b t rA (nf pl) hr cX8 lX8 oX8 nX8 sX8 zX8 cY8 lY8 oY8 nY8 sY8 zY8 (by omega) (by omega) (SDI.none hsd hd51)
              · -- F c5
                exact absurd rfl c5
            · -- alt
              have u51l := nbo_lt (c := pl g) (hpl g hg) hd51
              refine e_callV (k2 := 0) (n2 := 0) (As := [.int (nI g), .int (nI s1)]) (rest := []) (pc := 51) (wC_2 hA) rfl (c_X5_advance_B_s hA hmA hgB (hpl g hg) (by omega) (by omega) hd51) mlX11_106 selX5_X5_advance_X5_advance mX5_advance ⟨Nat.le_of_ble_eq_true rfl, Nat.le_of_ble_eq_true rfl⟩ rfl rfl (Nat.le_of_ble_eq_true rfl) dX11_side_51 (by decide) rfl rfl ?_
              refine g_iconst (v := (-1)) (pc := 54) dX11_side_54 (by decide) ?_
              refine g_icmp_eq (tgt := 82) (pc := 55) dX11_side_55 (by decide) (fun c6 => ?_) (fun c6 => ?_)
              · -- T c6
                exact absurd c6 (nI_m1 (by have := toilN_le (k := kd u51) (hmA u51 u51l).2.1; omega))
              · -- F c6
                have hv9 := soonV_lt_B (k9 := updN kd u51 7) (f9 := updN fg u51 0) (mo.st hmA hgB) (hplU (g := g) hpl u51l)
                refine g_aload_n (q := 3) (pc := 58) dX11_side_58 rfl rfl ?_
                refine g_aload_n (q := 3) (pc := 59) dX11_side_59 rfl rfl ?_
                refine gc_get_O_mind (pc := 60) hA flX11_16 dX11_side_60 ?_
                refine g_callV (As := [.ref (cd 2)]) (rest := []) (pc := 63) (wC_0 hA) rfl (c_X11_soonIn_B hA (mo.st hmA hgB) (hplU (g := g) hpl u51l)) mlX11_167 selX11_X11_soonIn_X11_soonIn mX11_soonIn ⟨Nat.le_of_ble_eq_true rfl, Nat.le_of_ble_eq_true rfl⟩ rfl rfl (Nat.le_of_ble_eq_true rfl) dX11_side_63 (by decide)  (fun v9 V9 h9 => ?_)
                obtain ⟨rfl, cX_63, lX_63, oX_63, nX_63, sX_63, zX_63, cY_63, lY_63, oY_63, nY_63, sY_63, zY_63, rfl⟩ := h9
                refine G.eqst (k2 := 0) (n2 := 0) (st2 := [.int (nI (soonV (updN kd u51 7) (updN fg u51 0) (updN pl g u51)))]) rfl rfl rfl ?_
                refine g_istore (lv' := [(6, .int (nI (soonV (updN kd u51 7) (updN fg u51 0) (updN pl g u51)))), (5, .int (nI s1)), (4, .int (nI t)), (3, .int (nI b)), (0, .ref (cd 0)), (1, .int (nI g)), (2, .int (nI what))]) (pc := 66) dX11_side_66 (by decide) rfl ?_
                refine g_iload (q := 0) (pc := 68) dX11_side_68 rfl ?_
                refine g_iload (q := 2) (pc := 70) dX11_side_70 rfl ?_
                refine g_icmp_ge_N (tgt := 82) (pc := 72) (by omega) (by have := hsd.t; omega) dX11_side_72 (by decide) (fun c7 => ?_) (fun c7 => ?_)
                · -- T c7
                  refine g_iinc (q := 1) (lv' := [(5, .int (nI (s1 + 1))), (6, .int (nI (soonV (updN kd u51 7) (updN fg u51 0) (updN pl g u51)))), (4, .int (nI t)), (3, .int (nI b)), (0, .ref (cd 0)), (1, .int (nI g)), (2, .int (nI what))]) (pc := 82) dX11_side_82 rfl (nI_inc _ _) (by decide) rfl ?_
                  refine g_goto (tgt := 27) (pc := 85) dX11_side_85 (by decide) ?_
                  refine G.locals (L' := [(5, .int (nI (s1 + 1))), (4, .int (nI t)), (3, .int (nI b)), (0, .ref (cd 0)), (1, .int (nI g)), (2, .int (nI what))]) [0, 2, 3, 4, 5, 6] rfl ?_
                  exact ih27 (s1 + 1) b t (updN rA u51 ugB) (nf (updN pl g u51)) (upd hr g (hr g + nI (toilN (kd u51) (fg u51)))) cX_63 lX_63 oX_63 nX_63 sX_63 zX_63 cY_63 lY_63 oY_63 nY_63 sY_63 zY_63 (by omega) (by omega) (SDI.ge hsd hd51 hv9 (by omega))
                · -- F c7
                  refine g_iload (q := 0) (pc := 75) dX11_side_75 rfl ?_
                  refine g_istore (lv' := [(4, .int (nI (soonV (updN kd u51 7) (updN fg u51 0) (updN pl g u51)))), (6, .int (nI (soonV (updN kd u51 7) (updN fg u51 0) (updN pl g u51)))), (5, .int (nI s1)), (3, .int (nI b)), (0, .ref (cd 0)), (1, .int (nI g)), (2, .int (nI what))]) (pc := 77) dX11_side_77 (by decide) rfl ?_
                  refine g_iload (q := 2) (pc := 79) dX11_side_79 rfl ?_
                  refine g_istore_n (lv' := [(3, .int (nI s1)), (4, .int (nI (soonV (updN kd u51 7) (updN fg u51 0) (updN pl g u51)))), (6, .int (nI (soonV (updN kd u51 7) (updN fg u51 0) (updN pl g u51)))), (5, .int (nI s1)), (0, .ref (cd 0)), (1, .int (nI g)), (2, .int (nI what))]) (pc := 81) dX11_side_81 rfl (by decide) rfl ?_
                  refine g_iinc (q := 3) (lv' := [(5, .int (nI (s1 + 1))), (3, .int (nI s1)), (4, .int (nI (soonV (updN kd u51 7) (updN fg u51 0) (updN pl g u51)))), (6, .int (nI (soonV (updN kd u51 7) (updN fg u51 0) (updN pl g u51)))), (0, .ref (cd 0)), (1, .int (nI g)), (2, .int (nI what))]) (pc := 82) dX11_side_82 rfl (nI_inc _ _) (by decide) rfl ?_
                  refine g_goto (tgt := 27) (pc := 85) dX11_side_85 (by decide) ?_
                  refine G.locals (L' := [(5, .int (nI (s1 + 1))), (4, .int (nI (soonV (updN kd u51 7) (updN fg u51 0) (updN pl g u51)))), (3, .int (nI s1)), (0, .ref (cd 0)), (1, .int (nI g)), (2, .int (nI what))]) [0, 2, 1, 4, 5, 6] rfl ?_
                  exact ih27 (s1 + 1) s1 (soonV (updN kd u51 7) (updN fg u51 0) (updN pl g u51)) (updN rA u51 ugB) (nf (updN pl g u51)) (upd hr g (hr g + nI (toilN (kd u51) (fg u51)))) cX_63 lX_63 oX_63 nX_63 sX_63 zX_63 cY_63 lY_63 oY_63 nY_63 sY_63 zY_63 (by omega) (by omega) (SDI.lt hsd (by omega) hd51 hv9 (by omega))
      refine G.locals (L' := [(5, .int (nI 0)), (4, .int (nI 1000000)), (3, .int (nI 0)), (0, .ref (cd 0)), (1, .int (nI g)), (2, .int (nI what))]) [0, 1, 2, 3, 4, 5] rfl ?_
      exact lp27 5 0 0 1000000 rB pB tB cX lX oX nX sX zX cY lY oY nY sY zY (by omega) (by decide) (Or.inl ⟨rfl, rfl, rfl, fun x hx => absurd hx (Nat.not_lt_zero _)⟩)
    · -- F c2
      refine g_iconst (v := (-1)) (pc := 16) dX11_side_16 (by decide) ?_
      exact g_iret (pc := 17) (by decide) (by decide) (gC hPo (by rw [spSide, if_pos (by assumption), if_neg (by simp [*])]) (CI.mk ⟨hA, hE, hgA, hgB, hmA, hmC, hpl, hipl, hSh⟩)) dX11_side_17
theorem d_X11_side {g what : Int32} {V2 : HV} (hCI : CI Z b0 cd Vb ik kd fg pl hr ikd ifg ipl ihr kp so sz el ki kf V2)  : KM l D Z b0 yX11_side cX11_side 7 (some .int) rmX11_side [.ref (cd 0), .int g, .int what] V2 (fun v0 V' => v0 = some (.int (spSide kd fg pl g what)) ∧ CI Z b0 cd Vb ik kd fg pl hr ikd ifg ipl ihr kp so sz el ki kf V') := by
  obtain ⟨ugA, ugB, ugC, rA, rB, pB, tB, rC, cX, lX, oX, nX, sX, zX, cY, lY, oY, nY, sY, zY, tm, cl, KR, SO, SZ, EL, V, rfl, hA, hE, hgA, hgB, hmA, hmC, hpl, hipl, hSh⟩ := hCI
  exact c_X11_side hA hE hgA hgB hmA hmC hpl hipl hSh 
end MS
