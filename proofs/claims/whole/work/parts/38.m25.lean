theorem hplU {pl : Nat → Nat} {g t : Nat} (h : ∀ g, g < 2 → pl g < 20) (ht : t < 20) : ∀ j, j < 2 → updN pl g t j < 20 := fun j hj => by
  unfold updN; split
  · exact ht
  · exact h j hj
theorem cnt_1 {kd fg : Nat → Nat} {what i s : Nat} (h : what = 8) (hs : s = sumN (cw kd fg what) i) : s + slowN (kd i) (fg i) = sumN (cw kd fg what) (i + 1) := by
  subst h; rw [hs]; rfl
theorem cnt_2 {kd fg : Nat → Nat} {what i s : Nat} (h : what = 9) (hs : s = sumN (cw kd fg what) i) : s + toilN (kd i) (fg i) = sumN (cw kd fg what) (i + 1) := by
  subst h; rw [hs]; rfl
theorem cnt_3 {kd fg : Nat → Nat} {what i s : Nat} (h1 : ¬ what = 8) (h2 : ¬ what = 9) (h : what = kd i) (hs : s = sumN (cw kd fg what) i) : s + 1 = sumN (cw kd fg what) (i + 1) := by
  rw [hs]; show _ = sumN _ i + cw kd fg what i; unfold cw; rw [if_neg h1, if_neg h2, if_pos h.symm]
theorem cnt_4 {kd fg : Nat → Nat} {what i s : Nat} (h1 : ¬ what = 8) (h2 : ¬ what = 9) (h : ¬ what = kd i) (hs : s = sumN (cw kd fg what) i) : s = sumN (cw kd fg what) (i + 1) := by
  rw [hs]; show _ = sumN _ i + cw kd fg what i; unfold cw; rw [if_neg h1, if_neg h2, if_neg (fun z => h z.symm)]; rfl
theorem mxS {z q : Nat} (hz : z < 1000) (hq : q < 100000) : mxI (nI 0) (nI z - nI q) = nI (z - q) := by
  by_cases h : q ≤ z
  · rw [nI_sub h, mxI_n (by decide) (by omega)]
    congr 1; split <;> omega
  · have e : (nI z - nI q).toInt = (z : Int) - q := by
      rw [Int32.toInt_sub, nI_toInt (by omega), nI_toInt (by omega), Int.bmod_eq_of_le_mul_two] <;> omega
    have e0 : (nI 0).toInt = 0 := by decide
    unfold mxI
    rw [if_neg (by rw [Int32.lt_iff_toInt_lt, e, e0]; omega), show z - q = 0 by omega]
theorem inB_of {z : Int32} (h1 : ¬ z < nI 1) (h2 : z ≤ nI 99) : inB z 1 99 = true := by
  rw [Int32.lt_iff_toInt_lt, nI_toInt (by omega)] at h1; rw [Int32.le_iff_toInt_le, nI_toInt (by omega)] at h2
  exact decide_eq_true (by omega)
theorem inB_n1 {z : Int32} (h1 : z < nI 1) : ¬ inB z 1 99 = true := fun q => by
  have := of_decide_eq_true q
  rw [Int32.lt_iff_toInt_lt, nI_toInt (by omega)] at h1; omega
theorem inB_n2 {z : Int32} (h2 : ¬ z ≤ nI 99) : ¬ inB z 1 99 = true := fun q => by
  have := of_decide_eq_true q
  rw [Int32.le_iff_toInt_le, nI_toInt (by omega)] at h2; omega
theorem rch_t {L : Nat → Nat} {z i : Nat} {h9 : Int32} (h : h9 = rch L z i) (hl : L i < z) : h9 ||| nI 1 <<< (nI i &&& 31) = rch L z (i + 1) := by
  rw [rch, if_pos hl, h]
theorem rch_f {L : Nat → Nat} {z i : Nat} {h9 : Int32} (h : h9 = rch L z i) (hl : ¬ L i < z) : h9 = rch L z (i + 1) := by
  rw [rch, if_neg hl, h]; exact Int32.or_zero.symm
section MS
variable {l : Launch} {D : va_G} {Z : Nat → ClassId} {b0 : Nat} {cd : Nat → Nat} {ik : Int32} {ugA ugB ugC : Nat} {rA : Nat → Nat} {pA tA : Nat → Int32} {rB : Nat → Nat} {pB tB : Nat → Int32} {rC : Nat → Nat} {pC tC cX lX oX nX sX zX cY lY oY nY sY zY tm cl : Nat → Int32} {KR : Nat → Option Nat} {SO : Nat → Int32} {SZ : Nat → Nat} {EL : Nat → Nat → Int32} {V Vb : HV} {kd fg pl ikd ifg ipl kp so sz : Nat → Nat} {hr ihr el ki kf : Nat → Int32}
def rmX11_cell : Room := { frames := 3, cells := 0, slots := 0, locals := 60 }
set_option maxHeartbeats 8000000 in
theorem c_X11_cell {c what : Int32} (hA : oC b0 cd V) (hE : Ext Vb V) (hgA : Rk V ugA 7 0) (hgB : Rk V ugB 7 0) (hmA : mo V rA kd fg) (hmC : mo V rC ikd ifg) (hpl : ∀ g, g < 2 → pl g < 20) (hipl : ∀ g, g < 2 → ipl g < 20) (hSh : Sh V KR SO SZ EL kp so sz el ki kf) : KM l D Z b0 yX11_cell cX11_cell 4 (some .int) rmX11_cell [.ref (cd 0), .int c, .int what] (wC Z cd ik ugA ugB ugC rA (nf pl) hr rB pB tB rC (nf ipl) ihr cX lX oX nX sX zX cY lY oY nY sY zY tm cl KR SO SZ EL V) (fun v0 V' => v0 = some (.int (spCell kd fg c what)) ∧ CI Z b0 cd Vb ik kd fg pl hr ikd ifg ipl ihr kp so sz el ki kf V') := by
  refine KM.ofP (by decide) (Nat.le_of_ble_eq_true rfl) (fun Po hPo => ?_)
  refine G.locals (L' := [(0, .ref (cd 0)), (1, .int c), (2, .int what)]) [0, 1, 2] rfl ?_
  refine g_iload_n (q := 1) (pc := 0) dX11_cell_0 rfl rfl ?_
  refine g_bipush (v := nI 20) (pc := 1) dX11_cell_1 (by decide) ?_
  refine e_callS (k2 := 0) (n2 := 0) (As := [.int c, .int (nI 20)]) (rest := []) (pc := 3) (c_X11_isBelow (by decide)) mlX11_69 mX11_isBelow ⟨Nat.le_of_ble_eq_true rfl, Nat.le_of_ble_eq_true rfl⟩ rfl rfl (Nat.le_of_ble_eq_true rfl) dX11_cell_3 (by decide) rfl rfl ?_
  refine g_if_ne_B (tgt := 11) (pc := 6) dX11_cell_6 (by decide) (fun c1 => ?_) (fun c1 => ?_)
  · -- T c1
    obtain ⟨c, hc, rfl⟩ := inR_t c1
    refine g_aload_n (q := 0) (pc := 11) dX11_cell_11 rfl rfl ?_
    refine gc_get_O_now (pc := 12) hA flX11_12 dX11_cell_12 ?_
    refine gc_get_MA_cells (pc := 15) hA flX11_73 dX11_cell_15 ?_
    refine g_iload_n (q := 1) (pc := 18) dX11_cell_18 rfl rfl ?_
    refine gc_ld_rA (pc := 19) (c := c) hA (by omega) dX11_cell_19 ?_
    refine g_astore_n (lv' := [(3, .ref (rA c)), (0, .ref (cd 0)), (1, .int (nI c)), (2, .int what)]) (pc := 20) dX11_cell_20 rfl (by decide) rfl ?_
    refine g_iload_n (q := 3) (pc := 21) dX11_cell_21 rfl rfl ?_
    rcases i32_rng what 0 4 (by decide) with ⟨n9, hlo9, hhi9, rfl⟩ | hout9
    · -- in
      by_cases k2 : n9 = 0
      · subst k2
        refine g_tableIn (tgt := 56) (off := 34) (pc := 22) dX11_cell_22 (by decide) (by decide) (by decide) (by decide) ?_
        refine g_aload_n (q := 0) (pc := 56) dX11_cell_56 rfl rfl ?_
        refine g_rk_kind (pc := 57) (q := kd c) (f := fg c) (wC_rk hA (hmA c (by omega))) mlX11_77 ⟨Nat.le_of_ble_eq_true rfl, Nat.le_of_ble_eq_true rfl⟩ (Nat.le_of_ble_eq_true rfl) dX11_cell_57 ⟨Nat.zero_le _, Nat.zero_le _⟩ ?_
        exact g_iret (pc := 60) (by decide) (by decide) (gC hPo (by rw [spCell, if_pos (by assumption), if_pos (by decide), dN_N (by omega)]; rfl) (CI.mk ⟨hA, hE, hgA, hgB, hmA, hmC, hpl, hipl, hSh⟩)) dX11_cell_60
      by_cases k3 : n9 = 1
      · subst k3
        refine g_tableIn (tgt := 61) (off := 39) (pc := 22) dX11_cell_22 (by decide) (by decide) (by decide) (by decide) ?_
        refine g_aload_n (q := 0) (pc := 61) dX11_cell_61 rfl rfl ?_
        refine g_rk_figure (pc := 62) (q := kd c) (f := fg c) (wC_rk hA (hmA c (by omega))) flX11_83 dX11_cell_62 ?_
        exact g_iret (pc := 65) (by decide) (by decide) (gC hPo (by rw [spCell, if_pos (by assumption), if_pos (by decide), dN_N (by omega)]; rfl) (CI.mk ⟨hA, hE, hgA, hgB, hmA, hmC, hpl, hipl, hSh⟩)) dX11_cell_65
      by_cases k4 : n9 = 2
      · subst k4
        refine g_tableIn (tgt := 66) (off := 44) (pc := 22) dX11_cell_22 (by decide) (by decide) (by decide) (by decide) ?_
        refine g_aload_n (q := 0) (pc := 66) dX11_cell_66 rfl rfl ?_
        refine g_rk_slow (pc := 67) (q := kd c) (f := fg c) (wC_rk hA (hmA c (by omega))) mlX11_87 ⟨Nat.le_of_ble_eq_true rfl, Nat.le_of_ble_eq_true rfl⟩ (Nat.le_of_ble_eq_true rfl) dX11_cell_67 ⟨Nat.zero_le _, Nat.zero_le _⟩ ?_
        exact g_iret (pc := 70) (by decide) (by decide) (gC hPo (by rw [spCell, if_pos (by assumption), if_pos (by decide), dN_N (by omega)]; rfl) (CI.mk ⟨hA, hE, hgA, hgB, hmA, hmC, hpl, hipl, hSh⟩)) dX11_cell_70
      by_cases k5 : n9 = 3
      · subst k5
        refine g_tableIn (tgt := 71) (off := 49) (pc := 22) dX11_cell_22 (by decide) (by decide) (by decide) (by decide) ?_
        refine g_aload_n (q := 0) (pc := 71) dX11_cell_71 rfl rfl ?_
        refine g_rk_loss (pc := 72) (q := kd c) (f := fg c) (wC_rk hA (hmA c (by omega))) mlX11_90 ⟨Nat.le_of_ble_eq_true rfl, Nat.le_of_ble_eq_true rfl⟩ (Nat.le_of_ble_eq_true rfl) dX11_cell_72 ⟨Nat.zero_le _, Nat.zero_le _⟩ ?_
        exact g_iret (pc := 75) (by decide) (by decide) (gC hPo (by rw [spCell, if_pos (by assumption), if_pos (by decide), dN_N (by omega)]; rfl) (CI.mk ⟨hA, hE, hgA, hgB, hmA, hmC, hpl, hipl, hSh⟩)) dX11_cell_75
      by_cases k6 : n9 = 4
      · subst k6
        refine g_tableIn (tgt := 76) (off := 54) (pc := 22) dX11_cell_22 (by decide) (by decide) (by decide) (by decide) ?_
        refine g_aload_n (q := 0) (pc := 76) dX11_cell_76 rfl rfl ?_
        refine g_rk_toil (pc := 77) (q := kd c) (f := fg c) (wC_rk hA (hmA c (by omega))) mlX11_93 ⟨Nat.le_of_ble_eq_true rfl, Nat.le_of_ble_eq_true rfl⟩ (Nat.le_of_ble_eq_true rfl) dX11_cell_77 ⟨Nat.zero_le _, Nat.zero_le _⟩ ?_
        exact g_iret (pc := 80) (by decide) (by decide) (gC hPo (by rw [spCell, if_pos (by assumption), if_pos (by decide), dN_N (by omega)]; rfl) (CI.mk ⟨hA, hE, hgA, hgB, hmA, hmC, hpl, hipl, hSh⟩)) dX11_cell_80
      exfalso; omega
    · -- out
      refine g_tableOut (tgt := 81) (pc := 22) dX11_cell_22 hout9 (by decide) ?_
      refine g_iconst (v := (-1)) (pc := 81) dX11_cell_81 (by decide) ?_
      exact g_iret (pc := 82) (by decide) (by decide) (gC hPo (by rw [spCell, if_pos (by assumption), if_neg (by rw [inR_out (by omega)]; decide)]) (CI.mk ⟨hA, hE, hgA, hgB, hmA, hmC, hpl, hipl, hSh⟩)) dX11_cell_82
  · -- F c1
    refine g_iconst (v := (-1)) (pc := 9) dX11_cell_9 (by decide) ?_
    exact g_iret (pc := 10) (by decide) (by decide) (gC hPo (by rw [spCell, if_neg (by simp [*])]) (CI.mk ⟨hA, hE, hgA, hgB, hmA, hmC, hpl, hipl, hSh⟩)) dX11_cell_10
theorem d_X11_cell {c what : Int32} {V2 : HV} (hCI : CI Z b0 cd Vb ik kd fg pl hr ikd ifg ipl ihr kp so sz el ki kf V2)  : KM l D Z b0 yX11_cell cX11_cell 4 (some .int) rmX11_cell [.ref (cd 0), .int c, .int what] V2 (fun v0 V' => v0 = some (.int (spCell kd fg c what)) ∧ CI Z b0 cd Vb ik kd fg pl hr ikd ifg ipl ihr kp so sz el ki kf V') := by
  obtain ⟨ugA, ugB, ugC, rA, rB, pB, tB, rC, cX, lX, oX, nX, sX, zX, cY, lY, oY, nY, sY, zY, tm, cl, KR, SO, SZ, EL, V, rfl, hA, hE, hgA, hgB, hmA, hmC, hpl, hipl, hSh⟩ := hCI
  exact c_X11_cell hA hE hgA hgB hmA hmC hpl hipl hSh 
def rmX11_gang : Room := { frames := 1, cells := 0, slots := 0, locals := 21 }
set_option maxHeartbeats 8000000 in
theorem c_X11_gang {g what : Int32} (hA : oC b0 cd V) (hE : Ext Vb V) (hgA : Rk V ugA 7 0) (hgB : Rk V ugB 7 0) (hmA : mo V rA kd fg) (hmC : mo V rC ikd ifg) (hpl : ∀ g, g < 2 → pl g < 20) (hipl : ∀ g, g < 2 → ipl g < 20) (hSh : Sh V KR SO SZ EL kp so sz el ki kf) : KM l D Z b0 yX11_gang cX11_gang 3 (some .int) rmX11_gang [.ref (cd 0), .int g, .int what] (wC Z cd ik ugA ugB ugC rA (nf pl) hr rB pB tB rC (nf ipl) ihr cX lX oX nX sX zX cY lY oY nY sY zY tm cl KR SO SZ EL V) (fun v0 V' => v0 = some (.int (spGang (enc kd fg pl hr) g what)) ∧ CI Z b0 cd Vb ik kd fg pl hr ikd ifg ipl ihr kp so sz el ki kf V') := by
  refine KM.ofP (by decide) (Nat.le_of_ble_eq_true rfl) (fun Po hPo => ?_)
  refine G.locals (L' := [(0, .ref (cd 0)), (1, .int g), (2, .int what)]) [0, 1, 2] rfl ?_
  refine g_iload_n (q := 1) (pc := 0) dX11_gang_0 rfl rfl ?_
  refine g_iconst (v := nI 2) (pc := 1) dX11_gang_1 (by decide) ?_
  refine e_callS (k2 := 0) (n2 := 0) (As := [.int g, .int (nI 2)]) (rest := []) (pc := 2) (c_X11_isBelow (by decide)) mlX11_69 mX11_isBelow ⟨Nat.le_of_ble_eq_true rfl, Nat.le_of_ble_eq_true rfl⟩ rfl rfl (Nat.le_of_ble_eq_true rfl) dX11_gang_2 (by decide) rfl rfl ?_
  refine g_if_eq_B (tgt := 16) (pc := 5) dX11_gang_5 (by decide) (fun c1 => ?_) (fun c1 => ?_)
  · -- T c1
    refine g_iconst (v := (-1)) (pc := 16) dX11_gang_16 (by decide) ?_
    exact g_iret (pc := 17) (by decide) (by decide) (gC hPo (by rw [spGang, if_neg (by simp [*])]) (CI.mk ⟨hA, hE, hgA, hgB, hmA, hmC, hpl, hipl, hSh⟩)) dX11_gang_17
  · -- F c1
    obtain ⟨g, hg, rfl⟩ := inR_t c1
    refine g_iload_n (q := 2) (pc := 8) dX11_gang_8 rfl rfl ?_
    refine g_iconst (v := nI 2) (pc := 9) dX11_gang_9 (by decide) ?_
    refine e_callS (k2 := 0) (n2 := 0) (As := [.int what, .int (nI 2)]) (rest := []) (pc := 10) (c_X11_isBelow (by decide)) mlX11_69 mX11_isBelow ⟨Nat.le_of_ble_eq_true rfl, Nat.le_of_ble_eq_true rfl⟩ rfl rfl (Nat.le_of_ble_eq_true rfl) dX11_gang_10 (by decide) rfl rfl ?_
    refine g_if_ne_B (tgt := 18) (pc := 13) dX11_gang_13 (by decide) (fun c2 => ?_) (fun c2 => ?_)
    · -- T c2
      obtain ⟨what, hwhat, rfl⟩ := inR_t c2
      refine g_iload_n (q := 2) (pc := 18) dX11_gang_18 rfl rfl ?_
      refine g_if_ne_N (tgt := 34) (pc := 19) (by omega) dX11_gang_19 (by decide) (fun c3 => ?_) (fun c3 => ?_)
      · -- T c3
        refine g_aload_n (q := 0) (pc := 34) dX11_gang_34 rfl rfl ?_
        refine gc_get_O_now (pc := 35) hA flX11_12 dX11_gang_35 ?_
        refine gc_get_MA_hours (pc := 38) hA flX11_103 dX11_gang_38 ?_
        refine g_iload_n (q := 1) (pc := 41) dX11_gang_41 rfl rfl ?_
        refine gc_ld_tA (pc := 42) (j := g) (x := hr g) hA (by omega) rfl dX11_gang_42 ?_
        exact g_iret (pc := 43) (by decide) (by decide) (gC hPo (by rw [spGang, if_pos (by assumption), if_pos (by assumption), dN_N (by omega), dN_N (by omega)]; first | (rw [show what = 0 by omega]; exact enc_p) | (rw [show what = 1 by omega]; exact enc_h)) (CI.mk ⟨hA, hE, hgA, hgB, hmA, hmC, hpl, hipl, hSh⟩)) dX11_gang_43
      · -- F c3
        refine g_aload_n (q := 0) (pc := 22) dX11_gang_22 rfl rfl ?_
        refine gc_get_O_now (pc := 23) hA flX11_12 dX11_gang_23 ?_
        refine gc_get_MA_places (pc := 26) hA flX11_100 dX11_gang_26 ?_
        refine g_iload_n (q := 1) (pc := 29) dX11_gang_29 rfl rfl ?_
        refine gc_ld_pA (pc := 30) (j := g) (x := nI (pl g)) hA (by omega) rfl dX11_gang_30 ?_
        refine g_goto (tgt := 43) (pc := 31) dX11_gang_31 (by decide) ?_
        exact g_iret (pc := 43) (by decide) (by decide) (gC hPo (by rw [spGang, if_pos (by assumption), if_pos (by assumption), dN_N (by omega), dN_N (by omega)]; first | (rw [show what = 0 by omega]; exact enc_p) | (rw [show what = 1 by omega]; exact enc_h)) (CI.mk ⟨hA, hE, hgA, hgB, hmA, hmC, hpl, hipl, hSh⟩)) dX11_gang_43
    · -- F c2
      refine g_iconst (v := (-1)) (pc := 16) dX11_gang_16 (by decide) ?_
      exact g_iret (pc := 17) (by decide) (by decide) (gC hPo (by rw [spGang, if_pos (by assumption), if_neg (by simp [*])]) (CI.mk ⟨hA, hE, hgA, hgB, hmA, hmC, hpl, hipl, hSh⟩)) dX11_gang_17
theorem d_X11_gang {g what : Int32} {V2 : HV} (hCI : CI Z b0 cd Vb ik kd fg pl hr ikd ifg ipl ihr kp so sz el ki kf V2)  : KM l D Z b0 yX11_gang cX11_gang 3 (some .int) rmX11_gang [.ref (cd 0), .int g, .int what] V2 (fun v0 V' => v0 = some (.int (spGang (enc kd fg pl hr) g what)) ∧ CI Z b0 cd Vb ik kd fg pl hr ikd ifg ipl ihr kp so sz el ki kf V') := by
  obtain ⟨ugA, ugB, ugC, rA, rB, pB, tB, rC, cX, lX, oX, nX, sX, zX, cY, lY, oY, nY, sY, zY, tm, cl, KR, SO, SZ, EL, V, rfl, hA, hE, hgA, hgB, hmA, hmC, hpl, hipl, hSh⟩ := hCI
  exact c_X11_gang hA hE hgA hgB hmA hmC hpl hipl hSh 
def rmX11_dig : Room := { frames := 4, cells := 0, slots := 0, locals := 84 }
set_option maxHeartbeats 8000000 in
theorem c_X11_dig_s {g s1 t : Nat} (hA : oC b0 cd V) (hE : Ext Vb V) (hgA : Rk V ugA 7 0) (hgB : Rk V ugB 7 0) (hmA : mo V rA kd fg) (hmC : mo V rC ikd ifg) (hpl : ∀ g, g < 2 → pl g < 20) (hipl : ∀ g, g < 2 → ipl g < 20) (hSh : Sh V KR SO SZ EL kp so sz el ki kf) (hg : g < 2) (hs : s1 < 4) (h : nbo (pl g) s1 = some t) : KM l D Z b0 yX11_dig cX11_dig 4 (some .int) rmX11_dig [.ref (cd 0), .int (nI g), .int (nI s1)] (wC Z cd ik ugA ugB ugC rA (nf pl) hr rB pB tB rC (nf ipl) ihr cX lX oX nX sX zX cY lY oY nY sY zY tm cl KR SO SZ EL V) (fun v0 V' => v0 = some (.int (nI (toilN (kd t) (fg t)))) ∧ CI Z b0 cd Vb ik (updN kd t 7) (updN fg t 0) (updN pl g t) (upd hr g (hr g + nI (toilN (kd t) (fg t)))) ikd ifg ipl ihr kp so sz el ki kf V') := by
  refine KM.ofP (by decide) (Nat.le_of_ble_eq_true rfl) (fun Po hPo => ?_)
  refine G.locals (L' := [(0, .ref (cd 0)), (1, .int (nI g)), (2, .int (nI s1))]) [0, 1, 2] rfl ?_
  refine g_iload_n (q := 1) (pc := 0) dX11_dig_0 rfl rfl ?_
  refine g_iconst (v := nI 2) (pc := 1) dX11_dig_1 (by decide) ?_
  refine e_callS (k2 := 0) (n2 := 0) (As := [.int (nI g), .int (nI 2)]) (rest := []) (pc := 2) (c_X11_isBelowN (by decide) (by omega)) mlX11_69 mX11_isBelow ⟨Nat.le_of_ble_eq_true rfl, Nat.le_of_ble_eq_true rfl⟩ rfl rfl (Nat.le_of_ble_eq_true rfl) dX11_dig_2 (by decide) rfl rfl ?_
  refine g_if_eq_B (tgt := 16) (pc := 5) dX11_dig_5 (by decide) (fun c1 => ?_) (fun c1 => ?_)
  · -- T c1
    exact absurd (of_decide_eq_false c1) (by omega)
  · -- F c1
    have c1 := of_decide_eq_true c1
    refine g_iload_n (q := 2) (pc := 8) dX11_dig_8 rfl rfl ?_
    refine g_iconst (v := nI 4) (pc := 9) dX11_dig_9 (by decide) ?_
    refine e_callS (k2 := 0) (n2 := 0) (As := [.int (nI s1), .int (nI 4)]) (rest := []) (pc := 10) (c_X11_isBelowN (by decide) (by omega)) mlX11_69 mX11_isBelow ⟨Nat.le_of_ble_eq_true rfl, Nat.le_of_ble_eq_true rfl⟩ rfl rfl (Nat.le_of_ble_eq_true rfl) dX11_dig_10 (by decide) rfl rfl ?_
    refine g_if_ne_B (tgt := 18) (pc := 13) dX11_dig_13 (by decide) (fun c2 => ?_) (fun c2 => ?_)
    · -- T c2
      have c2 := of_decide_eq_true c2
      refine g_aload_n (q := 0) (pc := 18) dX11_dig_18 rfl rfl ?_
      refine gc_get_O_now (pc := 19) hA flX11_12 dX11_dig_19 ?_
      refine g_iload_n (q := 1) (pc := 22) dX11_dig_22 rfl rfl ?_
      refine g_iload_n (q := 2) (pc := 23) dX11_dig_23 rfl rfl ?_
      have tl := nbo_lt (c := pl g) (hpl g hg) h
      refine e_callV (k2 := 0) (n2 := 0) (As := [.int (nI g), .int (nI s1)]) (rest := []) (pc := 24) (wC_1 hA) rfl (c_X5_advance_A_s hA hmA hgA (hpl g hg) (by omega) (by omega) h) mlX11_106 selX5_X5_advance_X5_advance mX5_advance ⟨Nat.le_of_ble_eq_true rfl, Nat.le_of_ble_eq_true rfl⟩ rfl rfl (Nat.le_of_ble_eq_true rfl) dX11_dig_24 (by decide) rfl rfl ?_
      refine g_istore_n (lv' := [(3, .int (nI (toilN (kd t) (fg t)))), (0, .ref (cd 0)), (1, .int (nI g)), (2, .int (nI s1))]) (pc := 27) dX11_dig_27 rfl (by decide) rfl ?_
      refine g_iload_n (q := 0) (pc := 28) dX11_dig_28 rfl rfl ?_
      refine g_iconst (v := (-1)) (pc := 29) dX11_dig_29 (by decide) ?_
      refine g_icmp_ne (tgt := 38) (pc := 30) dX11_dig_30 (by decide) (fun c3 => ?_) (fun c3 => ?_)
      · -- T c3
        refine g_iload_n (q := 0) (pc := 38) dX11_dig_38 rfl rfl ?_
        exact g_iret (pc := 39) (by decide) (by decide) (gC hPo (rfl) (CI.mk ⟨hA, hE, hgA, hgB, (mo.st hmA hgA), hmC, (hplU hpl tl), hipl, hSh⟩)) dX11_dig_39
      · -- F c3
        exact absurd c3 (nI_m1 (by have := toilN_le (k := kd t) (hmA t tl).2.1; omega))
    · -- F c2
      exact absurd (of_decide_eq_false c2) (by omega)
theorem d_X11_dig_s {g s1 t : Nat} {V2 : HV} (hCI : CI Z b0 cd Vb ik kd fg pl hr ikd ifg ipl ihr kp so sz el ki kf V2) (hg : g < 2) (hs : s1 < 4) (h : nbo (pl g) s1 = some t) : KM l D Z b0 yX11_dig cX11_dig 4 (some .int) rmX11_dig [.ref (cd 0), .int (nI g), .int (nI s1)] V2 (fun v0 V' => v0 = some (.int (nI (toilN (kd t) (fg t)))) ∧ CI Z b0 cd Vb ik (updN kd t 7) (updN fg t 0) (updN pl g t) (upd hr g (hr g + nI (toilN (kd t) (fg t)))) ikd ifg ipl ihr kp so sz el ki kf V') := by
  obtain ⟨ugA, ugB, ugC, rA, rB, pB, tB, rC, cX, lX, oX, nX, sX, zX, cY, lY, oY, nY, sY, zY, tm, cl, KR, SO, SZ, EL, V, rfl, hA, hE, hgA, hgB, hmA, hmC, hpl, hipl, hSh⟩ := hCI
  exact c_X11_dig_s hA hE hgA hgB hmA hmC hpl hipl hSh hg hs h
set_option maxHeartbeats 8000000 in
theorem c_X11_dig_n {g s1 : Nat} (hA : oC b0 cd V) (hE : Ext Vb V) (hgA : Rk V ugA 7 0) (hgB : Rk V ugB 7 0) (hmA : mo V rA kd fg) (hmC : mo V rC ikd ifg) (hpl : ∀ g, g < 2 → pl g < 20) (hipl : ∀ g, g < 2 → ipl g < 20) (hSh : Sh V KR SO SZ EL kp so sz el ki kf) (hg : g < 2) (hs : s1 < 4) (h : nbo (pl g) s1 = none) : KM l D Z b0 yX11_dig cX11_dig 4 (some .int) rmX11_dig [.ref (cd 0), .int (nI g), .int (nI s1)] (wC Z cd ik ugA ugB ugC rA (nf pl) hr rB pB tB rC (nf ipl) ihr cX lX oX nX sX zX cY lY oY nY sY zY tm cl KR SO SZ EL V) (fun v0 V' => v0 = some (.int ((-3))) ∧ CI Z b0 cd Vb ik kd fg pl hr ikd ifg ipl ihr kp so sz el ki kf V') := by
  refine KM.ofP (by decide) (Nat.le_of_ble_eq_true rfl) (fun Po hPo => ?_)
  refine G.locals (L' := [(0, .ref (cd 0)), (1, .int (nI g)), (2, .int (nI s1))]) [0, 1, 2] rfl ?_
  refine g_iload_n (q := 1) (pc := 0) dX11_dig_0 rfl rfl ?_
  refine g_iconst (v := nI 2) (pc := 1) dX11_dig_1 (by decide) ?_
  refine e_callS (k2 := 0) (n2 := 0) (As := [.int (nI g), .int (nI 2)]) (rest := []) (pc := 2) (c_X11_isBelowN (by decide) (by omega)) mlX11_69 mX11_isBelow ⟨Nat.le_of_ble_eq_true rfl, Nat.le_of_ble_eq_true rfl⟩ rfl rfl (Nat.le_of_ble_eq_true rfl) dX11_dig_2 (by decide) rfl rfl ?_
  refine g_if_eq_B (tgt := 16) (pc := 5) dX11_dig_5 (by decide) (fun c1 => ?_) (fun c1 => ?_)
  · -- T c1
    exact absurd (of_decide_eq_false c1) (by omega)
  · -- F c1
    have c1 := of_decide_eq_true c1
    refine g_iload_n (q := 2) (pc := 8) dX11_dig_8 rfl rfl ?_
    refine g_iconst (v := nI 4) (pc := 9) dX11_dig_9 (by decide) ?_
    refine e_callS (k2 := 0) (n2 := 0) (As := [.int (nI s1), .int (nI 4)]) (rest := []) (pc := 10) (c_X11_isBelowN (by decide) (by omega)) mlX11_69 mX11_isBelow ⟨Nat.le_of_ble_eq_true rfl, Nat.le_of_ble_eq_true rfl⟩ rfl rfl (Nat.le_of_ble_eq_true rfl) dX11_dig_10 (by decide) rfl rfl ?_
    refine g_if_ne_B (tgt := 18) (pc := 13) dX11_dig_13 (by decide) (fun c2 => ?_) (fun c2 => ?_)
    · -- T c2
      have c2 := of_decide_eq_true c2
      refine g_aload_n (q := 0) (pc := 18) dX11_dig_18 rfl rfl ?_
      refine gc_get_O_now (pc := 19) hA flX11_12 dX11_dig_19 ?_
      refine g_iload_n (q := 1) (pc := 22) dX11_dig_22 rfl rfl ?_
      refine g_iload_n (q := 2) (pc := 23) dX11_dig_23 rfl rfl ?_
      refine e_callV (k2 := 0) (n2 := 0) (As := [.int (nI g), .int (nI s1)]) (rest := []) (pc := 24) (wC_1 hA) rfl (c_X5_advance_A_n hA hmA hgA (hpl g hg) (by omega) (by omega) h) mlX11_106 selX5_X5_advance_X5_advance mX5_advance ⟨Nat.le_of_ble_eq_true rfl, Nat.le_of_ble_eq_true rfl⟩ rfl rfl (Nat.le_of_ble_eq_true rfl) dX11_dig_24 (by decide) rfl rfl ?_
      refine g_istore_n (lv' := [(3, .int (-1)), (0, .ref (cd 0)), (1, .int (nI g)), (2, .int (nI s1))]) (pc := 27) dX11_dig_27 rfl (by decide) rfl ?_
      refine g_iload_n (q := 0) (pc := 28) dX11_dig_28 rfl rfl ?_
      refine g_iconst (v := (-1)) (pc := 29) dX11_dig_29 (by decide) ?_
      refine g_icmp_ne (tgt := 38) (pc := 30) dX11_dig_30 (by decide) (fun c3 => ?_) (fun c3 => ?_)
      · -- T c3
        exact absurd rfl c3
      · -- F c3
        refine g_bipush (v := (-3)) (pc := 33) dX11_dig_33 (by decide) ?_
        refine g_goto (tgt := 39) (pc := 35) dX11_dig_35 (by decide) ?_
        exact g_iret (pc := 39) (by decide) (by decide) (gC hPo (rfl) (CI.mk ⟨hA, hE, hgA, hgB, hmA, hmC, hpl, hipl, hSh⟩)) dX11_dig_39
    · -- F c2
      exact absurd (of_decide_eq_false c2) (by omega)
theorem d_X11_dig_n {g s1 : Nat} {V2 : HV} (hCI : CI Z b0 cd Vb ik kd fg pl hr ikd ifg ipl ihr kp so sz el ki kf V2) (hg : g < 2) (hs : s1 < 4) (h : nbo (pl g) s1 = none) : KM l D Z b0 yX11_dig cX11_dig 4 (some .int) rmX11_dig [.ref (cd 0), .int (nI g), .int (nI s1)] V2 (fun v0 V' => v0 = some (.int ((-3))) ∧ CI Z b0 cd Vb ik kd fg pl hr ikd ifg ipl ihr kp so sz el ki kf V') := by
  obtain ⟨ugA, ugB, ugC, rA, rB, pB, tB, rC, cX, lX, oX, nX, sX, zX, cY, lY, oY, nY, sY, zY, tm, cl, KR, SO, SZ, EL, V, rfl, hA, hE, hgA, hgB, hmA, hmC, hpl, hipl, hSh⟩ := hCI
  exact c_X11_dig_n hA hE hgA hgB hmA hmC hpl hipl hSh hg hs h
set_option maxHeartbeats 8000000 in
theorem c_X11_dig_b {g s1 : Int32} (hA : oC b0 cd V) (hE : Ext Vb V) (hgA : Rk V ugA 7 0) (hgB : Rk V ugB 7 0) (hmA : mo V rA kd fg) (hmC : mo V rC ikd ifg) (hpl : ∀ g, g < 2 → pl g < 20) (hipl : ∀ g, g < 2 → ipl g < 20) (hSh : Sh V KR SO SZ EL kp so sz el ki kf) (h : (inR g 2 && inR s1 4) = false) : KM l D Z b0 yX11_dig cX11_dig 4 (some .int) rmX11_dig [.ref (cd 0), .int g, .int s1] (wC Z cd ik ugA ugB ugC rA (nf pl) hr rB pB tB rC (nf ipl) ihr cX lX oX nX sX zX cY lY oY nY sY zY tm cl KR SO SZ EL V) (fun v0 V' => v0 = some (.int ((-1))) ∧ CI Z b0 cd Vb ik kd fg pl hr ikd ifg ipl ihr kp so sz el ki kf V') := by
  refine KM.ofP (by decide) (Nat.le_of_ble_eq_true rfl) (fun Po hPo => ?_)
  refine G.locals (L' := [(0, .ref (cd 0)), (1, .int g), (2, .int s1)]) [0, 1, 2] rfl ?_
  refine g_iload_n (q := 1) (pc := 0) dX11_dig_0 rfl rfl ?_
  refine g_iconst (v := nI 2) (pc := 1) dX11_dig_1 (by decide) ?_
  refine e_callS (k2 := 0) (n2 := 0) (As := [.int g, .int (nI 2)]) (rest := []) (pc := 2) (c_X11_isBelow (by decide)) mlX11_69 mX11_isBelow ⟨Nat.le_of_ble_eq_true rfl, Nat.le_of_ble_eq_true rfl⟩ rfl rfl (Nat.le_of_ble_eq_true rfl) dX11_dig_2 (by decide) rfl rfl ?_
  refine g_if_eq_B (tgt := 16) (pc := 5) dX11_dig_5 (by decide) (fun c1 => ?_) (fun c1 => ?_)
  · -- T c1
    refine g_iconst (v := (-1)) (pc := 16) dX11_dig_16 (by decide) ?_
    exact g_iret (pc := 17) (by decide) (by decide) (gC hPo (rfl) (CI.mk ⟨hA, hE, hgA, hgB, hmA, hmC, hpl, hipl, hSh⟩)) dX11_dig_17
  · -- F c1
    obtain ⟨g, hg, rfl⟩ := inR_t c1
    refine g_iload_n (q := 2) (pc := 8) dX11_dig_8 rfl rfl ?_
    refine g_iconst (v := nI 4) (pc := 9) dX11_dig_9 (by decide) ?_
    refine e_callS (k2 := 0) (n2 := 0) (As := [.int s1, .int (nI 4)]) (rest := []) (pc := 10) (c_X11_isBelow (by decide)) mlX11_69 mX11_isBelow ⟨Nat.le_of_ble_eq_true rfl, Nat.le_of_ble_eq_true rfl⟩ rfl rfl (Nat.le_of_ble_eq_true rfl) dX11_dig_10 (by decide) rfl rfl ?_
    refine g_if_ne_B (tgt := 18) (pc := 13) dX11_dig_13 (by decide) (fun c2 => ?_) (fun c2 => ?_)
    · -- T c2
      exact absurd h (by simp [*])
    · -- F c2
      refine g_iconst (v := (-1)) (pc := 16) dX11_dig_16 (by decide) ?_
      exact g_iret (pc := 17) (by decide) (by decide) (gC hPo (rfl) (CI.mk ⟨hA, hE, hgA, hgB, hmA, hmC, hpl, hipl, hSh⟩)) dX11_dig_17
theorem d_X11_dig_b {g s1 : Int32} {V2 : HV} (hCI : CI Z b0 cd Vb ik kd fg pl hr ikd ifg ipl ihr kp so sz el ki kf V2) (h : (inR g 2 && inR s1 4) = false) : KM l D Z b0 yX11_dig cX11_dig 4 (some .int) rmX11_dig [.ref (cd 0), .int g, .int s1] V2 (fun v0 V' => v0 = some (.int ((-1))) ∧ CI Z b0 cd Vb ik kd fg pl hr ikd ifg ipl ihr kp so sz el ki kf V') := by
  obtain ⟨ugA, ugB, ugC, rA, rB, pB, tB, rC, cX, lX, oX, nX, sX, zX, cY, lY, oY, nY, sY, zY, tm, cl, KR, SO, SZ, EL, V, rfl, hA, hE, hgA, hgB, hmA, hmC, hpl, hipl, hSh⟩ := hCI
  exact c_X11_dig_b hA hE hgA hgB hmA hmC hpl hipl hSh h
def rmX11_met : Room := { frames := 2, cells := 0, slots := 0, locals := 44 }
set_option maxHeartbeats 8000000 in
theorem c_X11_met  (hA : oC b0 cd V) (hE : Ext Vb V) (hgA : Rk V ugA 7 0) (hgB : Rk V ugB 7 0) (hmA : mo V rA kd fg) (hmC : mo V rC ikd ifg) (hpl : ∀ g, g < 2 → pl g < 20) (hipl : ∀ g, g < 2 → ipl g < 20) (hSh : Sh V KR SO SZ EL kp so sz el ki kf) : KM l D Z b0 yX11_met cX11_met 1 (some .int) rmX11_met [.ref (cd 0)] (wC Z cd ik ugA ugB ugC rA (nf pl) hr rB pB tB rC (nf ipl) ihr cX lX oX nX sX zX cY lY oY nY sY zY tm cl KR SO SZ EL V) (fun v0 V' => v0 = some (.int (bI (metB (pl 0) (pl 1)))) ∧ CI Z b0 cd Vb ik kd fg pl hr ikd ifg ipl ihr kp so sz el ki kf V') := by
  refine KM.ofP (by decide) (Nat.le_of_ble_eq_true rfl) (fun Po hPo => ?_)
  refine G.locals (L' := [(0, .ref (cd 0))]) [0] rfl ?_
  refine g_aload_n (q := 0) (pc := 0) dX11_met_0 rfl rfl ?_
  refine gc_get_O_now (pc := 1) hA flX11_12 dX11_met_1 ?_
  refine e_callV (k2 := 0) (n2 := 0) (As := []) (rest := []) (pc := 4) (wC_1 hA) rfl (c_X5_gangsMet_A hA (hpl 0 (by decide)) (hpl 1 (by decide))) mlX11_110 selX5_X5_gangsMet_X5_gangsMet mX5_gangsMet ⟨Nat.le_of_ble_eq_true rfl, Nat.le_of_ble_eq_true rfl⟩ rfl rfl (Nat.le_of_ble_eq_true rfl) dX11_met_4 (by decide) rfl rfl ?_
  refine g_if_eq_B (tgt := 14) (pc := 7) dX11_met_7 (by decide) (fun c1 => ?_) (fun c1 => ?_)
  · -- T c1
    refine g_iconst (v := nI 0) (pc := 14) dX11_met_14 (by decide) ?_
    exact g_iret (pc := 15) (by decide) (by decide) (gC hPo (by simp [bI, *]) (CI.mk ⟨hA, hE, hgA, hgB, hmA, hmC, hpl, hipl, hSh⟩)) dX11_met_15
  · -- F c1
    refine g_iconst (v := nI 1) (pc := 10) dX11_met_10 (by decide) ?_
    refine g_goto (tgt := 15) (pc := 11) dX11_met_11 (by decide) ?_
    exact g_iret (pc := 15) (by decide) (by decide) (gC hPo (by simp [bI, *]) (CI.mk ⟨hA, hE, hgA, hgB, hmA, hmC, hpl, hipl, hSh⟩)) dX11_met_15
theorem d_X11_met  {V2 : HV} (hCI : CI Z b0 cd Vb ik kd fg pl hr ikd ifg ipl ihr kp so sz el ki kf V2)  : KM l D Z b0 yX11_met cX11_met 1 (some .int) rmX11_met [.ref (cd 0)] V2 (fun v0 V' => v0 = some (.int (bI (metB (pl 0) (pl 1)))) ∧ CI Z b0 cd Vb ik kd fg pl hr ikd ifg ipl ihr kp so sz el ki kf V') := by
  obtain ⟨ugA, ugB, ugC, rA, rB, pB, tB, rC, cX, lX, oX, nX, sX, zX, cY, lY, oY, nY, sY, zY, tm, cl, KR, SO, SZ, EL, V, rfl, hA, hE, hgA, hgB, hmA, hmC, hpl, hipl, hSh⟩ := hCI
  exact c_X11_met hA hE hgA hgB hmA hmC hpl hipl hSh 
def rmX11_image : Room := { frames := 1, cells := 0, slots := 0, locals := 22 }
set_option maxHeartbeats 8000000 in
theorem c_X11_image  (hA : oC b0 cd V) (hE : Ext Vb V) (hgA : Rk V ugA 7 0) (hgB : Rk V ugB 7 0) (hmA : mo V rA kd fg) (hmC : mo V rC ikd ifg) (hpl : ∀ g, g < 2 → pl g < 20) (hipl : ∀ g, g < 2 → ipl g < 20) (hSh : Sh V KR SO SZ EL kp so sz el ki kf) : KM l D Z b0 yX11_image cX11_image 1 (some .int) rmX11_image [.ref (cd 0)] (wC Z cd ik ugA ugB ugC rA (nf pl) hr rB pB tB rC (nf ipl) ihr cX lX oX nX sX zX cY lY oY nY sY zY tm cl KR SO SZ EL V) (fun v0 V' => v0 = some (.int (hr 0 + hr 1)) ∧ CI Z b0 cd Vb (nI 1) kd fg pl hr kd fg pl hr kp so sz el ki kf V') := by
  refine KM.ofP (by decide) (Nat.le_of_ble_eq_true rfl) (fun Po hPo => ?_)
  refine G.locals (L' := [(0, .ref (cd 0))]) [0] rfl ?_
  refine g_aload_n (q := 0) (pc := 0) dX11_image_0 rfl rfl ?_
  refine gc_get_O_kept (pc := 1) hA flX11_19 dX11_image_1 ?_
  refine g_aload_n (q := 0) (pc := 4) dX11_image_4 rfl rfl ?_
  refine gc_get_O_now (pc := 5) hA flX11_12 dX11_image_5 ?_
  refine e_callVv (k2 := 0) (n2 := 0) (As := [.ref (cd 1)]) (rest := []) (pc := 8) (wC_3 hA) rfl (c_X5_become_CA hA hmA) mlX11_62 selX5_X5_become_X5_become mX5_become ⟨Nat.le_of_ble_eq_true rfl, Nat.le_of_ble_eq_true rfl⟩ rfl rfl (Nat.le_of_ble_eq_true rfl) dX11_image_8 (by decide) rfl rfl ?_
  refine g_aload_n (q := 0) (pc := 11) dX11_image_11 rfl rfl ?_
  refine g_iconst (v := nI 1) (pc := 12) dX11_image_12 (by decide) ?_
  refine gc_put_O_isKept (pc := 13) hA flX11_22 dX11_image_13 ?_
  refine g_aload_n (q := 0) (pc := 16) dX11_image_16 rfl rfl ?_
  refine gc_get_O_kept (pc := 17) hA flX11_19 dX11_image_17 ?_
  refine e_callV (k2 := 0) (n2 := 0) (As := []) (rest := []) (pc := 20) (wC_3 hA) rfl (c_X5_allHours_C hA) mlX11_194 selX5_X5_allHours_X5_allHours mX5_allHours ⟨Nat.le_of_ble_eq_true rfl, Nat.le_of_ble_eq_true rfl⟩ rfl rfl (Nat.le_of_ble_eq_true rfl) dX11_image_20 (by decide) rfl rfl ?_
  exact g_iret (pc := 23) (by decide) (by decide) (gC hPo (rfl) (CI.mk ⟨hA, hE, hgA, hgB, hmA, hmA, hpl, hpl, hSh⟩)) dX11_image_23
theorem d_X11_image  {V2 : HV} (hCI : CI Z b0 cd Vb ik kd fg pl hr ikd ifg ipl ihr kp so sz el ki kf V2)  : KM l D Z b0 yX11_image cX11_image 1 (some .int) rmX11_image [.ref (cd 0)] V2 (fun v0 V' => v0 = some (.int (hr 0 + hr 1)) ∧ CI Z b0 cd Vb (nI 1) kd fg pl hr kd fg pl hr kp so sz el ki kf V') := by
  obtain ⟨ugA, ugB, ugC, rA, rB, pB, tB, rC, cX, lX, oX, nX, sX, zX, cY, lY, oY, nY, sY, zY, tm, cl, KR, SO, SZ, EL, V, rfl, hA, hE, hgA, hgB, hmA, hmC, hpl, hipl, hSh⟩ := hCI
  exact c_X11_image hA hE hgA hgB hmA hmC hpl hipl hSh 
def rmX11_restore : Room := { frames := 1, cells := 0, slots := 0, locals := 22 }
set_option maxHeartbeats 8000000 in
theorem c_X11_restore_s  (hA : oC b0 cd V) (hE : Ext Vb V) (hgA : Rk V ugA 7 0) (hgB : Rk V ugB 7 0) (hmA : mo V rA kd fg) (hmC : mo V rC ikd ifg) (hpl : ∀ g, g < 2 → pl g < 20) (hipl : ∀ g, g < 2 → ipl g < 20) (hSh : Sh V KR SO SZ EL kp so sz el ki kf) : KM l D Z b0 yX11_restore cX11_restore 1 (some .int) rmX11_restore [.ref (cd 0)] (wC Z cd (nI 1) ugA ugB ugC rA (nf pl) hr rB pB tB rC (nf ipl) ihr cX lX oX nX sX zX cY lY oY nY sY zY tm cl KR SO SZ EL V) (fun v0 V' => v0 = some (.int (ihr 0 + ihr 1)) ∧ CI Z b0 cd Vb (nI 1) ikd ifg ipl ihr ikd ifg ipl ihr kp so sz el ki kf V') := by
  refine KM.ofP (by decide) (Nat.le_of_ble_eq_true rfl) (fun Po hPo => ?_)
  refine G.locals (L' := [(0, .ref (cd 0))]) [0] rfl ?_
  refine g_aload_n (q := 0) (pc := 0) dX11_restore_0 rfl rfl ?_
  refine gc_get_O_isKept (pc := 1) hA flX11_22 dX11_restore_1 ?_
  refine g_if_ne (tgt := 10) (pc := 4) dX11_restore_4 (by decide) (fun _ => ?_) (fun c0 => absurd c0 (by decide))
  refine g_aload_n (q := 0) (pc := 10) dX11_restore_10 rfl rfl ?_
  refine gc_get_O_now (pc := 11) hA flX11_12 dX11_restore_11 ?_
  refine g_aload_n (q := 0) (pc := 14) dX11_restore_14 rfl rfl ?_
  refine gc_get_O_kept (pc := 15) hA flX11_19 dX11_restore_15 ?_
  refine e_callVv (k2 := 0) (n2 := 0) (As := [.ref (cd 3)]) (rest := []) (pc := 18) (wC_1 hA) rfl (c_X5_become_AC hA hmC) mlX11_62 selX5_X5_become_X5_become mX5_become ⟨Nat.le_of_ble_eq_true rfl, Nat.le_of_ble_eq_true rfl⟩ rfl rfl (Nat.le_of_ble_eq_true rfl) dX11_restore_18 (by decide) rfl rfl ?_
  refine g_aload_n (q := 0) (pc := 21) dX11_restore_21 rfl rfl ?_
  refine gc_get_O_now (pc := 22) hA flX11_12 dX11_restore_22 ?_
  refine e_callV (k2 := 0) (n2 := 0) (As := []) (rest := []) (pc := 25) (wC_1 hA) rfl (c_X5_allHours_A hA) mlX11_194 selX5_X5_allHours_X5_allHours mX5_allHours ⟨Nat.le_of_ble_eq_true rfl, Nat.le_of_ble_eq_true rfl⟩ rfl rfl (Nat.le_of_ble_eq_true rfl) dX11_restore_25 (by decide) rfl rfl ?_
  exact g_iret (pc := 28) (by decide) (by decide) (gC hPo (rfl) (CI.mk ⟨hA, hE, hgA, hgB, hmC, hmC, hipl, hipl, hSh⟩)) dX11_restore_28
theorem d_X11_restore_s  {V2 : HV} (hCI : CI Z b0 cd Vb (nI 1) kd fg pl hr ikd ifg ipl ihr kp so sz el ki kf V2)  : KM l D Z b0 yX11_restore cX11_restore 1 (some .int) rmX11_restore [.ref (cd 0)] V2 (fun v0 V' => v0 = some (.int (ihr 0 + ihr 1)) ∧ CI Z b0 cd Vb (nI 1) ikd ifg ipl ihr ikd ifg ipl ihr kp so sz el ki kf V') := by
  obtain ⟨ugA, ugB, ugC, rA, rB, pB, tB, rC, cX, lX, oX, nX, sX, zX, cY, lY, oY, nY, sY, zY, tm, cl, KR, SO, SZ, EL, V, rfl, hA, hE, hgA, hgB, hmA, hmC, hpl, hipl, hSh⟩ := hCI
  exact c_X11_restore_s hA hE hgA hgB hmA hmC hpl hipl hSh 
set_option maxHeartbeats 8000000 in
theorem c_X11_restore_n  (hA : oC b0 cd V) (hE : Ext Vb V) (hgA : Rk V ugA 7 0) (hgB : Rk V ugB 7 0) (hmA : mo V rA kd fg) (hmC : mo V rC ikd ifg) (hpl : ∀ g, g < 2 → pl g < 20) (hipl : ∀ g, g < 2 → ipl g < 20) (hSh : Sh V KR SO SZ EL kp so sz el ki kf) : KM l D Z b0 yX11_restore cX11_restore 1 (some .int) rmX11_restore [.ref (cd 0)] (wC Z cd (nI 0) ugA ugB ugC rA (nf pl) hr rB pB tB rC (nf ipl) ihr cX lX oX nX sX zX cY lY oY nY sY zY tm cl KR SO SZ EL V) (fun v0 V' => v0 = some (.int ((-3))) ∧ CI Z b0 cd Vb (nI 0) kd fg pl hr ikd ifg ipl ihr kp so sz el ki kf V') := by
  refine KM.ofP (by decide) (Nat.le_of_ble_eq_true rfl) (fun Po hPo => ?_)
  refine G.locals (L' := [(0, .ref (cd 0))]) [0] rfl ?_
  refine g_aload_n (q := 0) (pc := 0) dX11_restore_0 rfl rfl ?_
  refine gc_get_O_isKept (pc := 1) hA flX11_22 dX11_restore_1 ?_
  refine g_if_ne (tgt := 10) (pc := 4) dX11_restore_4 (by decide) (fun c0 => absurd c0 (by decide)) (fun _ => ?_)
  refine g_bipush (v := (-3)) (pc := 7) dX11_restore_7 (by decide) ?_
  exact g_iret (pc := 9) (by decide) (by decide) (gC hPo (rfl) (CI.mk ⟨hA, hE, hgA, hgB, hmA, hmC, hpl, hipl, hSh⟩)) dX11_restore_9
theorem d_X11_restore_n  {V2 : HV} (hCI : CI Z b0 cd Vb (nI 0) kd fg pl hr ikd ifg ipl ihr kp so sz el ki kf V2)  : KM l D Z b0 yX11_restore cX11_restore 1 (some .int) rmX11_restore [.ref (cd 0)] V2 (fun v0 V' => v0 = some (.int ((-3))) ∧ CI Z b0 cd Vb (nI 0) kd fg pl hr ikd ifg ipl ihr kp so sz el ki kf V') := by
  obtain ⟨ugA, ugB, ugC, rA, rB, pB, tB, rC, cX, lX, oX, nX, sX, zX, cY, lY, oY, nY, sY, zY, tm, cl, KR, SO, SZ, EL, V, rfl, hA, hE, hgA, hgB, hmA, hmC, hpl, hipl, hSh⟩ := hCI
  exact c_X11_restore_n hA hE hgA hgB hmA hmC hpl hipl hSh 
def rmX11_time : Room := { frames := 5, cells := 0, slots := 0, locals := 103 }
set_option maxHeartbeats 8000000 in
theorem c_X11_time {a c : Int32} (hA : oC b0 cd V) (hE : Ext Vb V) (hgA : Rk V ugA 7 0) (hgB : Rk V ugB 7 0) (hmA : mo V rA kd fg) (hmC : mo V rC ikd ifg) (hpl : ∀ g, g < 2 → pl g < 20) (hipl : ∀ g, g < 2 → ipl g < 20) (hSh : Sh V KR SO SZ EL kp so sz el ki kf) : KM l D Z b0 yX11_time cX11_time 3 (some .int) rmX11_time [.ref (cd 0), .int a, .int c] (wC Z cd ik ugA ugB ugC rA (nf pl) hr rB pB tB rC (nf ipl) ihr cX lX oX nX sX zX cY lY oY nY sY zY tm cl KR SO SZ EL V) (fun v0 V' => v0 = some (.int (spTime kd fg a c)) ∧ CI Z b0 cd Vb ik kd fg pl hr ikd ifg ipl ihr kp so sz el ki kf V') := by
  refine KM.ofP (by decide) (Nat.le_of_ble_eq_true rfl) (fun Po hPo => ?_)
  refine G.locals (L' := [(0, .ref (cd 0)), (1, .int a), (2, .int c)]) [0, 1, 2] rfl ?_
  refine g_iload_n (q := 1) (pc := 0) dX11_time_0 rfl rfl ?_
  refine g_bipush (v := nI 20) (pc := 1) dX11_time_1 (by decide) ?_
  refine e_callS (k2 := 0) (n2 := 0) (As := [.int a, .int (nI 20)]) (rest := []) (pc := 3) (c_X11_isBelow (by decide)) mlX11_69 mX11_isBelow ⟨Nat.le_of_ble_eq_true rfl, Nat.le_of_ble_eq_true rfl⟩ rfl rfl (Nat.le_of_ble_eq_true rfl) dX11_time_3 (by decide) rfl rfl ?_
  refine g_if_eq_B (tgt := 18) (pc := 6) dX11_time_6 (by decide) (fun c1 => ?_) (fun c1 => ?_)
  · -- T c1
    refine g_iconst (v := (-1)) (pc := 18) dX11_time_18 (by decide) ?_
    exact g_iret (pc := 19) (by decide) (by decide) (gC hPo (by rw [spTime, if_neg (by simp [*])]) (CI.mk ⟨hA, hE, hgA, hgB, hmA, hmC, hpl, hipl, hSh⟩)) dX11_time_19
  · -- F c1
    obtain ⟨a, ha, rfl⟩ := inR_t c1
    refine g_iload_n (q := 2) (pc := 9) dX11_time_9 rfl rfl ?_
    refine g_bipush (v := nI 20) (pc := 10) dX11_time_10 (by decide) ?_
    refine e_callS (k2 := 0) (n2 := 0) (As := [.int c, .int (nI 20)]) (rest := []) (pc := 12) (c_X11_isBelow (by decide)) mlX11_69 mX11_isBelow ⟨Nat.le_of_ble_eq_true rfl, Nat.le_of_ble_eq_true rfl⟩ rfl rfl (Nat.le_of_ble_eq_true rfl) dX11_time_12 (by decide) rfl rfl ?_
    refine g_if_ne_B (tgt := 20) (pc := 15) dX11_time_15 (by decide) (fun c2 => ?_) (fun c2 => ?_)
    · -- T c2
      obtain ⟨c, hc, rfl⟩ := inR_t c2
      refine g_aload_n (q := 0) (pc := 20) dX11_time_20 rfl rfl ?_
      refine g_iload_n (q := 1) (pc := 21) dX11_time_21 rfl rfl ?_
      refine e_callVv (k2 := 0) (n2 := 0) (As := [.int (nI a)]) (rest := []) (pc := 22) (wC_0 hA) rfl (c_X11_knockFrom hA hmA (by omega)) mlX11_114 selX11_X11_knockFrom_X11_knockFrom mX11_knockFrom ⟨Nat.le_of_ble_eq_true rfl, Nat.le_of_ble_eq_true rfl⟩ rfl rfl (Nat.le_of_ble_eq_true rfl) dX11_time_22 (by decide) rfl rfl ?_
      refine g_aload_n (q := 0) (pc := 25) dX11_time_25 rfl rfl ?_
      refine gc_get_O_ways (pc := 26) hA flX11_35 dX11_time_26 ?_
      refine gc_get_WX_least (pc := 29) hA flX11_118 dX11_time_29 ?_
      refine g_iload_n (q := 2) (pc := 32) dX11_time_32 rfl rfl ?_
      refine gc_ld_lX (pc := 33) (j := c) (x := nI ((dT kd fg a) c)) hA (by omega) rfl dX11_time_33 ?_
      exact g_iret (pc := 34) (by decide) (by decide) (gC hPo (by rw [spTime, if_pos (by assumption), if_pos (by assumption), dN_N (by omega), dN_N (by omega)]) (CI.mk ⟨hA, hE, hgA, hgB, hmA, hmC, hpl, hipl, hSh⟩)) dX11_time_34
    · -- F c2
      refine g_iconst (v := (-1)) (pc := 18) dX11_time_18 (by decide) ?_
      exact g_iret (pc := 19) (by decide) (by decide) (gC hPo (by rw [spTime, if_pos (by assumption), if_neg (by simp [*])]) (CI.mk ⟨hA, hE, hgA, hgB, hmA, hmC, hpl, hipl, hSh⟩)) dX11_time_19
theorem d_X11_time {a c : Int32} {V2 : HV} (hCI : CI Z b0 cd Vb ik kd fg pl hr ikd ifg ipl ihr kp so sz el ki kf V2)  : KM l D Z b0 yX11_time cX11_time 3 (some .int) rmX11_time [.ref (cd 0), .int a, .int c] V2 (fun v0 V' => v0 = some (.int (spTime kd fg a c)) ∧ CI Z b0 cd Vb ik kd fg pl hr ikd ifg ipl ihr kp so sz el ki kf V') := by
  obtain ⟨ugA, ugB, ugC, rA, rB, pB, tB, rC, cX, lX, oX, nX, sX, zX, cY, lY, oY, nY, sY, zY, tm, cl, KR, SO, SZ, EL, V, rfl, hA, hE, hgA, hgB, hmA, hmC, hpl, hipl, hSh⟩ := hCI
  exact c_X11_time hA hE hgA hgB hmA hmC hpl hipl hSh 
def rmX11_paths : Room := { frames := 5, cells := 0, slots := 0, locals := 103 }
set_option maxHeartbeats 8000000 in
theorem c_X11_paths {a c : Int32} (hA : oC b0 cd V) (hE : Ext Vb V) (hgA : Rk V ugA 7 0) (hgB : Rk V ugB 7 0) (hmA : mo V rA kd fg) (hmC : mo V rC ikd ifg) (hpl : ∀ g, g < 2 → pl g < 20) (hipl : ∀ g, g < 2 → ipl g < 20) (hSh : Sh V KR SO SZ EL kp so sz el ki kf) : KM l D Z b0 yX11_paths cX11_paths 3 (some .int) rmX11_paths [.ref (cd 0), .int a, .int c] (wC Z cd ik ugA ugB ugC rA (nf pl) hr rB pB tB rC (nf ipl) ihr cX lX oX nX sX zX cY lY oY nY sY zY tm cl KR SO SZ EL V) (fun v0 V' => v0 = some (.int (spPaths kd fg a c)) ∧ CI Z b0 cd Vb ik kd fg pl hr ikd ifg ipl ihr kp so sz el ki kf V') := by
  refine KM.ofP (by decide) (Nat.le_of_ble_eq_true rfl) (fun Po hPo => ?_)
  refine G.locals (L' := [(0, .ref (cd 0)), (1, .int a), (2, .int c)]) [0, 1, 2] rfl ?_
  refine g_iload_n (q := 1) (pc := 0) dX11_paths_0 rfl rfl ?_
  refine g_bipush (v := nI 20) (pc := 1) dX11_paths_1 (by decide) ?_
  refine e_callS (k2 := 0) (n2 := 0) (As := [.int a, .int (nI 20)]) (rest := []) (pc := 3) (c_X11_isBelow (by decide)) mlX11_69 mX11_isBelow ⟨Nat.le_of_ble_eq_true rfl, Nat.le_of_ble_eq_true rfl⟩ rfl rfl (Nat.le_of_ble_eq_true rfl) dX11_paths_3 (by decide) rfl rfl ?_
  refine g_if_eq_B (tgt := 18) (pc := 6) dX11_paths_6 (by decide) (fun c1 => ?_) (fun c1 => ?_)
  · -- T c1
    refine g_iconst (v := (-1)) (pc := 18) dX11_paths_18 (by decide) ?_
    exact g_iret (pc := 19) (by decide) (by decide) (gC hPo (by rw [spPaths, if_neg (by simp [*])]) (CI.mk ⟨hA, hE, hgA, hgB, hmA, hmC, hpl, hipl, hSh⟩)) dX11_paths_19
  · -- F c1
    obtain ⟨a, ha, rfl⟩ := inR_t c1
    refine g_iload_n (q := 2) (pc := 9) dX11_paths_9 rfl rfl ?_
    refine g_bipush (v := nI 20) (pc := 10) dX11_paths_10 (by decide) ?_
    refine e_callS (k2 := 0) (n2 := 0) (As := [.int c, .int (nI 20)]) (rest := []) (pc := 12) (c_X11_isBelow (by decide)) mlX11_69 mX11_isBelow ⟨Nat.le_of_ble_eq_true rfl, Nat.le_of_ble_eq_true rfl⟩ rfl rfl (Nat.le_of_ble_eq_true rfl) dX11_paths_12 (by decide) rfl rfl ?_
    refine g_if_ne_B (tgt := 20) (pc := 15) dX11_paths_15 (by decide) (fun c2 => ?_) (fun c2 => ?_)
    · -- T c2
      obtain ⟨c, hc, rfl⟩ := inR_t c2
      refine g_aload_n (q := 0) (pc := 20) dX11_paths_20 rfl rfl ?_
      refine g_iload_n (q := 1) (pc := 21) dX11_paths_21 rfl rfl ?_
      refine e_callVv (k2 := 0) (n2 := 0) (As := [.int (nI a)]) (rest := []) (pc := 22) (wC_0 hA) rfl (c_X11_knockFrom hA hmA (by omega)) mlX11_114 selX11_X11_knockFrom_X11_knockFrom mX11_knockFrom ⟨Nat.le_of_ble_eq_true rfl, Nat.le_of_ble_eq_true rfl⟩ rfl rfl (Nat.le_of_ble_eq_true rfl) dX11_paths_22 (by decide) rfl rfl ?_
      refine g_aload_n (q := 0) (pc := 25) dX11_paths_25 rfl rfl ?_
      refine gc_get_O_ways (pc := 26) hA flX11_35 dX11_paths_26 ?_
      refine gc_get_WX_number (pc := 29) hA flX11_129 dX11_paths_29 ?_
      refine g_iload_n (q := 2) (pc := 32) dX11_paths_32 rfl rfl ?_
      refine gc_ld_nX (pc := 33) (j := c) (x := (dC kd fg a) c) hA (by omega) rfl dX11_paths_33 ?_
      exact g_iret (pc := 34) (by decide) (by decide) (gC hPo (by rw [spPaths, if_pos (by assumption), if_pos (by assumption), dN_N (by omega), dN_N (by omega)]) (CI.mk ⟨hA, hE, hgA, hgB, hmA, hmC, hpl, hipl, hSh⟩)) dX11_paths_34
    · -- F c2
      refine g_iconst (v := (-1)) (pc := 18) dX11_paths_18 (by decide) ?_
      exact g_iret (pc := 19) (by decide) (by decide) (gC hPo (by rw [spPaths, if_pos (by assumption), if_neg (by simp [*])]) (CI.mk ⟨hA, hE, hgA, hgB, hmA, hmC, hpl, hipl, hSh⟩)) dX11_paths_19
theorem d_X11_paths {a c : Int32} {V2 : HV} (hCI : CI Z b0 cd Vb ik kd fg pl hr ikd ifg ipl ihr kp so sz el ki kf V2)  : KM l D Z b0 yX11_paths cX11_paths 3 (some .int) rmX11_paths [.ref (cd 0), .int a, .int c] V2 (fun v0 V' => v0 = some (.int (spPaths kd fg a c)) ∧ CI Z b0 cd Vb ik kd fg pl hr ikd ifg ipl ihr kp so sz el ki kf V') := by
  obtain ⟨ugA, ugB, ugC, rA, rB, pB, tB, rC, cX, lX, oX, nX, sX, zX, cY, lY, oY, nY, sY, zY, tm, cl, KR, SO, SZ, EL, V, rfl, hA, hE, hgA, hgB, hmA, hmC, hpl, hipl, hSh⟩ := hCI
  exact c_X11_paths hA hE hgA hgB hmA hmC hpl hipl hSh 
def rmX11_loud : Room := { frames := 5, cells := 0, slots := 0, locals := 103 }
set_option maxHeartbeats 8000000 in
theorem c_X11_loud {a c z : Int32} (hA : oC b0 cd V) (hE : Ext Vb V) (hgA : Rk V ugA 7 0) (hgB : Rk V ugB 7 0) (hmA : mo V rA kd fg) (hmC : mo V rC ikd ifg) (hpl : ∀ g, g < 2 → pl g < 20) (hipl : ∀ g, g < 2 → ipl g < 20) (hSh : Sh V KR SO SZ EL kp so sz el ki kf) : KM l D Z b0 yX11_loud cX11_loud 4 (some .int) rmX11_loud [.ref (cd 0), .int a, .int c, .int z] (wC Z cd ik ugA ugB ugC rA (nf pl) hr rB pB tB rC (nf ipl) ihr cX lX oX nX sX zX cY lY oY nY sY zY tm cl KR SO SZ EL V) (fun v0 V' => v0 = some (.int (spLoud kd fg a c z)) ∧ CI Z b0 cd Vb ik kd fg pl hr ikd ifg ipl ihr kp so sz el ki kf V') := by
  refine KM.ofP (by decide) (Nat.le_of_ble_eq_true rfl) (fun Po hPo => ?_)
  refine G.locals (L' := [(0, .ref (cd 0)), (1, .int a), (2, .int c), (3, .int z)]) [0, 1, 2, 3] rfl ?_
  refine g_iload_n (q := 1) (pc := 0) dX11_loud_0 rfl rfl ?_
  refine g_bipush (v := nI 20) (pc := 1) dX11_loud_1 (by decide) ?_
  refine e_callS (k2 := 0) (n2 := 0) (As := [.int a, .int (nI 20)]) (rest := []) (pc := 3) (c_X11_isBelow (by decide)) mlX11_69 mX11_isBelow ⟨Nat.le_of_ble_eq_true rfl, Nat.le_of_ble_eq_true rfl⟩ rfl rfl (Nat.le_of_ble_eq_true rfl) dX11_loud_3 (by decide) rfl rfl ?_
  refine g_if_eq_B (tgt := 27) (pc := 6) dX11_loud_6 (by decide) (fun c1 => ?_) (fun c1 => ?_)
  · -- T c1
    refine g_iconst (v := (-1)) (pc := 27) dX11_loud_27 (by decide) ?_
    exact g_iret (pc := 28) (by decide) (by decide) (gC hPo (by rw [spLoud, if_neg (by simp [*])]) (CI.mk ⟨hA, hE, hgA, hgB, hmA, hmC, hpl, hipl, hSh⟩)) dX11_loud_28
  · -- F c1
    obtain ⟨a, ha, rfl⟩ := inR_t c1
    refine g_iload_n (q := 2) (pc := 9) dX11_loud_9 rfl rfl ?_
    refine g_bipush (v := nI 20) (pc := 10) dX11_loud_10 (by decide) ?_
    refine e_callS (k2 := 0) (n2 := 0) (As := [.int c, .int (nI 20)]) (rest := []) (pc := 12) (c_X11_isBelow (by decide)) mlX11_69 mX11_isBelow ⟨Nat.le_of_ble_eq_true rfl, Nat.le_of_ble_eq_true rfl⟩ rfl rfl (Nat.le_of_ble_eq_true rfl) dX11_loud_12 (by decide) rfl rfl ?_
    refine g_if_eq_B (tgt := 27) (pc := 15) dX11_loud_15 (by decide) (fun c2 => ?_) (fun c2 => ?_)
    · -- T c2
      refine g_iconst (v := (-1)) (pc := 27) dX11_loud_27 (by decide) ?_
      exact g_iret (pc := 28) (by decide) (by decide) (gC hPo (by rw [spLoud, if_pos (by assumption), if_neg (by simp [*])]) (CI.mk ⟨hA, hE, hgA, hgB, hmA, hmC, hpl, hipl, hSh⟩)) dX11_loud_28
    · -- F c2
      obtain ⟨c, hc, rfl⟩ := inR_t c2
      refine g_iload_n (q := 3) (pc := 18) dX11_loud_18 rfl rfl ?_
      refine g_bipush (v := nI 100) (pc := 19) dX11_loud_19 (by decide) ?_
      refine e_callS (k2 := 0) (n2 := 0) (As := [.int z, .int (nI 100)]) (rest := []) (pc := 21) (c_X11_isBelow (by decide)) mlX11_69 mX11_isBelow ⟨Nat.le_of_ble_eq_true rfl, Nat.le_of_ble_eq_true rfl⟩ rfl rfl (Nat.le_of_ble_eq_true rfl) dX11_loud_21 (by decide) rfl rfl ?_
      refine g_if_ne_B (tgt := 29) (pc := 24) dX11_loud_24 (by decide) (fun c3 => ?_) (fun c3 => ?_)
      · -- T c3
        obtain ⟨z, hz, rfl⟩ := inR_t c3
        refine g_aload_n (q := 0) (pc := 29) dX11_loud_29 rfl rfl ?_
        refine g_iload_n (q := 1) (pc := 30) dX11_loud_30 rfl rfl ?_
        refine e_callVv (k2 := 0) (n2 := 0) (As := [.int (nI a)]) (rest := []) (pc := 31) (wC_0 hA) rfl (c_X11_knockFrom hA hmA (by omega)) mlX11_114 selX11_X11_knockFrom_X11_knockFrom mX11_knockFrom ⟨Nat.le_of_ble_eq_true rfl, Nat.le_of_ble_eq_true rfl⟩ rfl rfl (Nat.le_of_ble_eq_true rfl) dX11_loud_31 (by decide) rfl rfl ?_
        refine g_iconst (v := nI 0) (pc := 34) dX11_loud_34 (by decide) ?_
        refine g_iload_n (q := 3) (pc := 35) dX11_loud_35 rfl rfl ?_
        refine g_aload_n (q := 0) (pc := 36) dX11_loud_36 rfl rfl ?_
        refine gc_get_O_ways (pc := 37) hA flX11_35 dX11_loud_37 ?_
        refine gc_get_WX_lost (pc := 40) hA flX11_121 dX11_loud_40 ?_
        refine g_iload_n (q := 2) (pc := 43) dX11_loud_43 rfl rfl ?_
        refine gc_ld_oX (pc := 44) (j := c) (x := nI ((dL kd fg a) c)) hA (by omega) rfl dX11_loud_44 ?_
        refine g_isub (pc := 45) dX11_loud_45 ?_
        refine g_jmax (pc := 46) mlX11_124 ⟨Nat.le_of_ble_eq_true rfl, Nat.le_of_ble_eq_true rfl⟩ (Nat.le_of_ble_eq_true rfl) dX11_loud_46 (by decide) ?_
        refine g_top (x := mxI (nI 0) ((nI z) - (nI ((dL kd fg a) c)))) (y := nI (z - dL kd fg a c)) (mxS (by omega) (by have := (dT_b (pl := fun _ => 0) ⟨mo.ok hmA, fun _ _ => Nat.zero_lt_succ _⟩ ha hc).2; omega)) ?_
        exact g_iret (pc := 49) (by decide) (by decide) (gC hPo (by rw [spLoud, if_pos (by assumption), if_pos (by assumption), if_pos (by assumption), dN_N (by omega), dN_N (by omega), dN_N (by omega)]) (CI.mk ⟨hA, hE, hgA, hgB, hmA, hmC, hpl, hipl, hSh⟩)) dX11_loud_49
      · -- F c3
        refine g_iconst (v := (-1)) (pc := 27) dX11_loud_27 (by decide) ?_
        exact g_iret (pc := 28) (by decide) (by decide) (gC hPo (by rw [spLoud, if_pos (by assumption), if_pos (by assumption), if_neg (by simp [*])]) (CI.mk ⟨hA, hE, hgA, hgB, hmA, hmC, hpl, hipl, hSh⟩)) dX11_loud_28
theorem d_X11_loud {a c z : Int32} {V2 : HV} (hCI : CI Z b0 cd Vb ik kd fg pl hr ikd ifg ipl ihr kp so sz el ki kf V2)  : KM l D Z b0 yX11_loud cX11_loud 4 (some .int) rmX11_loud [.ref (cd 0), .int a, .int c, .int z] V2 (fun v0 V' => v0 = some (.int (spLoud kd fg a c z)) ∧ CI Z b0 cd Vb ik kd fg pl hr ikd ifg ipl ihr kp so sz el ki kf V') := by
  obtain ⟨ugA, ugB, ugC, rA, rB, pB, tB, rC, cX, lX, oX, nX, sX, zX, cY, lY, oY, nY, sY, zY, tm, cl, KR, SO, SZ, EL, V, rfl, hA, hE, hgA, hgB, hmA, hmC, hpl, hipl, hSh⟩ := hCI
  exact c_X11_loud hA hE hgA hgB hmA hmC hpl hipl hSh 
def rmX11_reaches : Room := { frames := 5, cells := 0, slots := 0, locals := 103 }
set_option maxHeartbeats 8000000 in
theorem c_X11_reaches {a z : Int32} (hA : oC b0 cd V) (hE : Ext Vb V) (hgA : Rk V ugA 7 0) (hgB : Rk V ugB 7 0) (hmA : mo V rA kd fg) (hmC : mo V rC ikd ifg) (hpl : ∀ g, g < 2 → pl g < 20) (hipl : ∀ g, g < 2 → ipl g < 20) (hSh : Sh V KR SO SZ EL kp so sz el ki kf) : KM l D Z b0 yX11_reaches cX11_reaches 5 (some .int) rmX11_reaches [.ref (cd 0), .int a, .int z] (wC Z cd ik ugA ugB ugC rA (nf pl) hr rB pB tB rC (nf ipl) ihr cX lX oX nX sX zX cY lY oY nY sY zY tm cl KR SO SZ EL V) (fun v0 V' => v0 = some (.int (spReach kd fg a z)) ∧ CI Z b0 cd Vb ik kd fg pl hr ikd ifg ipl ihr kp so sz el ki kf V') := by
  refine KM.ofP (by decide) (Nat.le_of_ble_eq_true rfl) (fun Po hPo => ?_)
  refine G.locals (L' := [(0, .ref (cd 0)), (1, .int a), (2, .int z)]) [0, 1, 2] rfl ?_
  refine g_iload_n (q := 1) (pc := 0) dX11_reaches_0 rfl rfl ?_
  refine g_bipush (v := nI 20) (pc := 1) dX11_reaches_1 (by decide) ?_
  refine e_callS (k2 := 0) (n2 := 0) (As := [.int a, .int (nI 20)]) (rest := []) (pc := 3) (c_X11_isBelow (by decide)) mlX11_69 mX11_isBelow ⟨Nat.le_of_ble_eq_true rfl, Nat.le_of_ble_eq_true rfl⟩ rfl rfl (Nat.le_of_ble_eq_true rfl) dX11_reaches_3 (by decide) rfl rfl ?_
  refine g_if_eq_B (tgt := 20) (pc := 6) dX11_reaches_6 (by decide) (fun c1 => ?_) (fun c1 => ?_)
  · -- T c1
    refine g_iconst (v := (-1)) (pc := 20) dX11_reaches_20 (by decide) ?_
    exact g_iret (pc := 21) (by decide) (by decide) (gC hPo (by rw [spReach, if_neg (by simp [*])]) (CI.mk ⟨hA, hE, hgA, hgB, hmA, hmC, hpl, hipl, hSh⟩)) dX11_reaches_21
  · -- F c1
    obtain ⟨a, ha, rfl⟩ := inR_t c1
    refine g_iload_n (q := 2) (pc := 9) dX11_reaches_9 rfl rfl ?_
    refine g_iconst (v := nI 1) (pc := 10) dX11_reaches_10 (by decide) ?_
    refine g_icmp_lt (tgt := 20) (pc := 11) dX11_reaches_11 (by decide) (fun c2 => ?_) (fun c2 => ?_)
    · -- T c2
      refine g_iconst (v := (-1)) (pc := 20) dX11_reaches_20 (by decide) ?_
      exact g_iret (pc := 21) (by decide) (by decide) (gC hPo (by rw [spReach, if_pos (by assumption), if_neg (by first | exact inB_n1 (by assumption) | exact inB_n2 (by assumption))]) (CI.mk ⟨hA, hE, hgA, hgB, hmA, hmC, hpl, hipl, hSh⟩)) dX11_reaches_21
    · -- F c2
      refine g_iload_n (q := 2) (pc := 14) dX11_reaches_14 rfl rfl ?_
      refine g_bipush (v := nI 99) (pc := 15) dX11_reaches_15 (by decide) ?_
      refine g_icmp_le (tgt := 22) (pc := 17) dX11_reaches_17 (by decide) (fun c3 => ?_) (fun c3 => ?_)
      · -- T c3
        obtain ⟨z, hz1, hz2, rfl⟩ := inB_t (inB_of (by assumption) c3)
        refine g_aload_n (q := 0) (pc := 22) dX11_reaches_22 rfl rfl ?_
        refine g_iload_n (q := 1) (pc := 23) dX11_reaches_23 rfl rfl ?_
        refine e_callVv (k2 := 0) (n2 := 0) (As := [.int (nI a)]) (rest := []) (pc := 24) (wC_0 hA) rfl (c_X11_knockFrom hA hmA (by omega)) mlX11_114 selX11_X11_knockFrom_X11_knockFrom mX11_knockFrom ⟨Nat.le_of_ble_eq_true rfl, Nat.le_of_ble_eq_true rfl⟩ rfl rfl (Nat.le_of_ble_eq_true rfl) dX11_reaches_24 (by decide) rfl rfl ?_
        refine g_iconst (v := nI 0) (pc := 27) dX11_reaches_27 (by decide) ?_
        refine g_istore_n (lv' := [(3, .int (nI 0)), (0, .ref (cd 0)), (1, .int (nI a)), (2, .int (nI z))]) (pc := 28) dX11_reaches_28 rfl (by decide) rfl ?_
        refine g_iconst (v := nI 0) (pc := 29) dX11_reaches_29 (by decide) ?_
        refine g_istore (lv' := [(4, .int (nI 0)), (3, .int (nI 0)), (0, .ref (cd 0)), (1, .int (nI a)), (2, .int (nI z))]) (pc := 30) dX11_reaches_30 (by decide) rfl ?_
        have lp32 : ∀ (d32 : Nat) (i : Nat) (h9 : Int32), i + d32 = 21 → (i ≤ 20) → (h9 = rch (dL kd fg a) z i) → G l D Z b0 rmX11_reaches RX11 cX11_reaches 5 (gE (some .int) "reaches") (gT D b0 Po rmX11_reaches.cells rmX11_reaches.slots) (wC Z cd ik ugA ugB ugC rA (nf pl) hr rB pB tB rC (nf ipl) ihr (nf (sw kd fg)) (nf (dT kd fg a)) (nf (dL kd fg a)) (dC kd fg a) (nf (lw kd fg)) (bf (fun _ => true)) cY lY oY nY sY zY tm cl KR SO SZ EL V) [(4, .int (nI i)), (3, .int h9), (0, .ref (cd 0)), (1, .int (nI a)), (2, .int (nI z))] 0 0 32 [] := by
          intro d32
          induction d32 with
          | zero =>
            intro i h9 hd32 hiN hr9
            exact absurd hd32 (by omega)
          | succ d32 ih32 =>
            intro i h9 hd32 hiN hr9
            refine g_iload (q := 0) (pc := 32) dX11_reaches_32 rfl ?_
            refine g_bipush (v := nI 20) (pc := 34) dX11_reaches_34 (by decide) ?_
            refine g_icmp_ge_N (tgt := 66) (pc := 36) (by omega) (by omega) dX11_reaches_36 (by decide) (fun c4 => ?_) (fun c4 => ?_)
            · -- T c4
              refine g_iload_n (q := 1) (pc := 66) dX11_reaches_66 rfl rfl ?_
              exact g_iret (pc := 67) (by decide) (by decide) (gC hPo (by obtain rfl : i = 20 := (by omega); rw [spReach, if_pos (by assumption), if_pos (by rw [inB_N (by omega)]; exact decide_eq_true (by omega)), dN_N (by omega), dN_N (by omega)]; exact hr9.symm) (CI.mk ⟨hA, hE, hgA, hgB, hmA, hmC, hpl, hipl, hSh⟩)) dX11_reaches_67
            · -- F c4
              refine g_iload_n (q := 4) (pc := 39) dX11_reaches_39 rfl rfl ?_
              refine g_aload_n (q := 2) (pc := 40) dX11_reaches_40 rfl rfl ?_
              refine gc_get_O_ways (pc := 41) hA flX11_35 dX11_reaches_41 ?_
              refine gc_get_WX_lost (pc := 44) hA flX11_121 dX11_reaches_44 ?_
              refine g_iload (q := 0) (pc := 47) dX11_reaches_47 rfl ?_
              refine gc_ld_oX (pc := 49) (j := i) (x := nI ((dL kd fg a) i)) hA (by omega) rfl dX11_reaches_49 ?_
              refine g_icmp_le_N (tgt := 60) (pc := 50) (by omega) (by have := (dT_b (pl := fun _ => 0) ⟨mo.ok hmA, fun _ _ => Nat.zero_lt_succ _⟩ ha (v := i) (by omega)).2; omega) dX11_reaches_50 (by decide) (fun c5 => ?_) (fun c5 => ?_)
              · -- T c5
                refine g_iinc (q := 0) (lv' := [(4, .int (nI (i + 1))), (3, .int h9), (0, .ref (cd 0)), (1, .int (nI a)), (2, .int (nI z))]) (pc := 60) dX11_reaches_60 rfl (nI_inc _ _) (by decide) rfl ?_
                refine g_goto (tgt := 32) (pc := 63) dX11_reaches_63 (by decide) ?_
                refine G.locals (L' := [(4, .int (nI (i + 1))), (3, .int h9), (0, .ref (cd 0)), (1, .int (nI a)), (2, .int (nI z))]) [0, 1, 2, 3, 4] rfl ?_
                exact ih32 (i + 1) h9 (by omega) (by omega) (by first | exact rch_t hr9 (by omega) | exact rch_f hr9 (by omega))
              · -- F c5
                refine g_iload_n (q := 1) (pc := 53) dX11_reaches_53 rfl rfl ?_
                refine g_iconst (v := nI 1) (pc := 54) dX11_reaches_54 (by decide) ?_
                refine g_iload (q := 0) (pc := 55) dX11_reaches_55 rfl ?_
                refine g_ishl (pc := 57) dX11_reaches_57 ?_
                refine g_ior (pc := 58) dX11_reaches_58 ?_
                refine g_istore_n (lv' := [(3, .int (h9 ||| ((nI 1) <<< ((nI i) &&& 31)))), (4, .int (nI i)), (0, .ref (cd 0)), (1, .int (nI a)), (2, .int (nI z))]) (pc := 59) dX11_reaches_59 rfl (by decide) rfl ?_
                refine g_iinc (q := 1) (lv' := [(4, .int (nI (i + 1))), (3, .int (h9 ||| ((nI 1) <<< ((nI i) &&& 31)))), (0, .ref (cd 0)), (1, .int (nI a)), (2, .int (nI z))]) (pc := 60) dX11_reaches_60 rfl (nI_inc _ _) (by decide) rfl ?_
                refine g_goto (tgt := 32) (pc := 63) dX11_reaches_63 (by decide) ?_
                refine G.locals (L' := [(4, .int (nI (i + 1))), (3, .int (h9 ||| ((nI 1) <<< ((nI i) &&& 31)))), (0, .ref (cd 0)), (1, .int (nI a)), (2, .int (nI z))]) [0, 1, 2, 3, 4] rfl ?_
                exact ih32 (i + 1) (h9 ||| ((nI 1) <<< ((nI i) &&& 31))) (by omega) (by omega) (by first | exact rch_t hr9 (by omega) | exact rch_f hr9 (by omega))
        refine G.locals (L' := [(4, .int (nI 0)), (3, .int (nI 0)), (0, .ref (cd 0)), (1, .int (nI a)), (2, .int (nI z))]) [0, 1, 2, 3, 4] rfl ?_
        exact lp32 21 0 (nI 0) (by omega) (by decide) rfl
      · -- F c3
        refine g_iconst (v := (-1)) (pc := 20) dX11_reaches_20 (by decide) ?_
        exact g_iret (pc := 21) (by decide) (by decide) (gC hPo (by rw [spReach, if_pos (by assumption), if_neg (by first | exact inB_n1 (by assumption) | exact inB_n2 (by assumption))]) (CI.mk ⟨hA, hE, hgA, hgB, hmA, hmC, hpl, hipl, hSh⟩)) dX11_reaches_21
theorem d_X11_reaches {a z : Int32} {V2 : HV} (hCI : CI Z b0 cd Vb ik kd fg pl hr ikd ifg ipl ihr kp so sz el ki kf V2)  : KM l D Z b0 yX11_reaches cX11_reaches 5 (some .int) rmX11_reaches [.ref (cd 0), .int a, .int z] V2 (fun v0 V' => v0 = some (.int (spReach kd fg a z)) ∧ CI Z b0 cd Vb ik kd fg pl hr ikd ifg ipl ihr kp so sz el ki kf V') := by
  obtain ⟨ugA, ugB, ugC, rA, rB, pB, tB, rC, cX, lX, oX, nX, sX, zX, cY, lY, oY, nY, sY, zY, tm, cl, KR, SO, SZ, EL, V, rfl, hA, hE, hgA, hgB, hmA, hmC, hpl, hipl, hSh⟩ := hCI
  exact c_X11_reaches hA hE hgA hgB hmA hmC hpl hipl hSh 
def rmX11_count : Room := { frames := 3, cells := 0, slots := 0, locals := 60 }
set_option maxHeartbeats 8000000 in
theorem c_X11_count {what : Int32} (hA : oC b0 cd V) (hE : Ext Vb V) (hgA : Rk V ugA 7 0) (hgB : Rk V ugB 7 0) (hmA : mo V rA kd fg) (hmC : mo V rC ikd ifg) (hpl : ∀ g, g < 2 → pl g < 20) (hipl : ∀ g, g < 2 → ipl g < 20) (hSh : Sh V KR SO SZ EL kp so sz el ki kf) : KM l D Z b0 yX11_count cX11_count 5 (some .int) rmX11_count [.ref (cd 0), .int what] (wC Z cd ik ugA ugB ugC rA (nf pl) hr rB pB tB rC (nf ipl) ihr cX lX oX nX sX zX cY lY oY nY sY zY tm cl KR SO SZ EL V) (fun v0 V' => v0 = some (.int (spCount kd fg what)) ∧ CI Z b0 cd Vb ik kd fg pl hr ikd ifg ipl ihr kp so sz el ki kf V') := by
  refine KM.ofP (by decide) (Nat.le_of_ble_eq_true rfl) (fun Po hPo => ?_)
  refine G.locals (L' := [(0, .ref (cd 0)), (1, .int what)]) [0, 1] rfl ?_
  refine g_iload_n (q := 1) (pc := 0) dX11_count_0 rfl rfl ?_
  refine g_bipush (v := nI 10) (pc := 1) dX11_count_1 (by decide) ?_
  refine e_callS (k2 := 0) (n2 := 0) (As := [.int what, .int (nI 10)]) (rest := []) (pc := 3) (c_X11_isBelow (by decide)) mlX11_69 mX11_isBelow ⟨Nat.le_of_ble_eq_true rfl, Nat.le_of_ble_eq_true rfl⟩ rfl rfl (Nat.le_of_ble_eq_true rfl) dX11_count_3 (by decide) rfl rfl ?_
  refine g_if_ne_B (tgt := 11) (pc := 6) dX11_count_6 (by decide) (fun c1 => ?_) (fun c1 => ?_)
  · -- T c1
    obtain ⟨what, hwhat, rfl⟩ := inR_t c1
    refine g_iconst (v := nI 0) (pc := 11) dX11_count_11 (by decide) ?_
    refine g_istore_n (lv' := [(2, .int (nI 0)), (0, .ref (cd 0)), (1, .int (nI what))]) (pc := 12) dX11_count_12 rfl (by decide) rfl ?_
    refine g_iconst (v := nI 0) (pc := 13) dX11_count_13 (by decide) ?_
    refine g_istore_n (lv' := [(3, .int (nI 0)), (2, .int (nI 0)), (0, .ref (cd 0)), (1, .int (nI what))]) (pc := 14) dX11_count_14 rfl (by decide) rfl ?_
    have lp15 : ∀ (d15 : Nat) (i : Nat) (s9 : Nat), i + d15 = 21 → (i ≤ 20) → (s9 = sumN (cw kd fg what) i) → G l D Z b0 rmX11_count RX11 cX11_count 5 (gE (some .int) "count") (gT D b0 Po rmX11_count.cells rmX11_count.slots) (wC Z cd ik ugA ugB ugC rA (nf pl) hr rB pB tB rC (nf ipl) ihr cX lX oX nX sX zX cY lY oY nY sY zY tm cl KR SO SZ EL V) [(3, .int (nI i)), (2, .int (nI s9)), (0, .ref (cd 0)), (1, .int (nI what))] 0 0 15 [] := by
      intro d15
      induction d15 with
      | zero =>
        intro i s9 hd15 hiN hs9
        exact absurd hd15 (by omega)
      | succ d15 ih15 =>
        intro i s9 hd15 hiN hs9
        refine g_iload_n (q := 0) (pc := 15) dX11_count_15 rfl rfl ?_
        refine g_bipush (v := nI 20) (pc := 16) dX11_count_16 (by decide) ?_
        refine g_icmp_ge_N (tgt := 84) (pc := 18) (by omega) (by omega) dX11_count_18 (by decide) (fun c2 => ?_) (fun c2 => ?_)
        · -- T c2
          refine g_iload_n (q := 1) (pc := 84) dX11_count_84 rfl rfl ?_
          exact g_iret (pc := 85) (by decide) (by decide) (gC hPo (by obtain rfl : i = 20 := (by omega); rw [spCount, if_pos (by assumption), dN_N (by omega), hs9]) (CI.mk ⟨hA, hE, hgA, hgB, hmA, hmC, hpl, hipl, hSh⟩)) dX11_count_85
        · -- F c2
          refine g_aload_n (q := 2) (pc := 21) dX11_count_21 rfl rfl ?_
          refine gc_get_O_now (pc := 22) hA flX11_12 dX11_count_22 ?_
          refine gc_get_MA_cells (pc := 25) hA flX11_73 dX11_count_25 ?_
          refine g_iload_n (q := 0) (pc := 28) dX11_count_28 rfl rfl ?_
          refine gc_ld_rA (pc := 29) (c := i) hA (by omega) dX11_count_29 ?_
          refine g_astore (lv' := [(4, .ref (rA i)), (3, .int (nI i)), (2, .int (nI s9)), (0, .ref (cd 0)), (1, .int (nI what))]) (pc := 30) dX11_count_30 (by decide) rfl ?_
          refine g_iload_n (q := 4) (pc := 32) dX11_count_32 rfl rfl ?_
          refine g_bipush (v := nI 8) (pc := 33) dX11_count_33 (by decide) ?_
          refine g_icmp_ne_N (tgt := 49) (pc := 35) (by omega) (by omega) dX11_count_35 (by decide) (fun c3 => ?_) (fun c3 => ?_)
          · -- T c3
            refine g_iload_n (q := 4) (pc := 49) dX11_count_49 rfl rfl ?_
            refine g_bipush (v := nI 9) (pc := 50) dX11_count_50 (by decide) ?_
            refine g_icmp_ne_N (tgt := 66) (pc := 52) (by omega) (by omega) dX11_count_52 (by decide) (fun c4 => ?_) (fun c4 => ?_)
            · -- T c4
              refine g_iload_n (q := 4) (pc := 66) dX11_count_66 rfl rfl ?_
              refine g_aload (q := 0) (pc := 67) dX11_count_67 rfl ?_
              refine g_rk_kind (pc := 69) (q := kd i) (f := fg i) (wC_rk hA (hmA i (by omega))) mlX11_77 ⟨Nat.le_of_ble_eq_true rfl, Nat.le_of_ble_eq_true rfl⟩ (Nat.le_of_ble_eq_true rfl) dX11_count_69 ⟨Nat.zero_le _, Nat.zero_le _⟩ ?_
              refine g_icmp_ne_N (tgt := 78) (pc := 72) (by omega) (by have := (hmA i (by omega)).1; omega) dX11_count_72 (by decide) (fun c5 => ?_) (fun c5 => ?_)
              · -- T c5
                refine g_iinc (q := 1) (lv' := [(3, .int (nI (i + 1))), (4, .ref (rA i)), (2, .int (nI s9)), (0, .ref (cd 0)), (1, .int (nI what))]) (pc := 78) dX11_count_78 rfl (nI_inc _ _) (by decide) rfl ?_
                refine g_goto (tgt := 15) (pc := 81) dX11_count_81 (by decide) ?_
                refine G.locals (L' := [(3, .int (nI (i + 1))), (2, .int (nI s9)), (0, .ref (cd 0)), (1, .int (nI what))]) [0, 2, 3, 4] rfl ?_
                exact ih15 (i + 1) s9 (by omega) (by omega) (by first | exact cnt_1 (by assumption) hs9 | exact cnt_2 (by assumption) hs9 | exact cnt_3 (by assumption) (by assumption) (by assumption) hs9 | exact cnt_4 (by assumption) (by assumption) (by assumption) hs9)
              · -- F c5
                refine g_iinc (q := 2) (lv' := [(2, .int (nI (s9 + 1))), (4, .ref (rA i)), (3, .int (nI i)), (0, .ref (cd 0)), (1, .int (nI what))]) (pc := 75) dX11_count_75 rfl (nI_inc _ _) (by decide) rfl ?_
                refine g_iinc (q := 2) (lv' := [(3, .int (nI (i + 1))), (2, .int (nI (s9 + 1))), (4, .ref (rA i)), (0, .ref (cd 0)), (1, .int (nI what))]) (pc := 78) dX11_count_78 rfl (nI_inc _ _) (by decide) rfl ?_
                refine g_goto (tgt := 15) (pc := 81) dX11_count_81 (by decide) ?_
                refine G.locals (L' := [(3, .int (nI (i + 1))), (2, .int (nI (s9 + 1))), (0, .ref (cd 0)), (1, .int (nI what))]) [0, 1, 3, 4] rfl ?_
                exact ih15 (i + 1) (s9 + 1) (by omega) (by omega) (by first | exact cnt_1 (by assumption) hs9 | exact cnt_2 (by assumption) hs9 | exact cnt_3 (by assumption) (by assumption) (by assumption) hs9 | exact cnt_4 (by assumption) (by assumption) (by assumption) hs9)
            · -- F c4
              refine g_iload_n (q := 2) (pc := 55) dX11_count_55 rfl rfl ?_
              refine g_aload (q := 0) (pc := 56) dX11_count_56 rfl ?_
              refine g_rk_toil (pc := 58) (q := kd i) (f := fg i) (wC_rk hA (hmA i (by omega))) mlX11_93 ⟨Nat.le_of_ble_eq_true rfl, Nat.le_of_ble_eq_true rfl⟩ (Nat.le_of_ble_eq_true rfl) dX11_count_58 ⟨Nat.zero_le _, Nat.zero_le _⟩ ?_
              refine g_iadd_N (pc := 61) dX11_count_61 ?_
              refine g_istore_n (lv' := [(2, .int (nI (s9 + (toilN (kd i) (fg i))))), (4, .ref (rA i)), (3, .int (nI i)), (0, .ref (cd 0)), (1, .int (nI what))]) (pc := 62) dX11_count_62 rfl (by decide) rfl ?_
              refine g_goto (tgt := 78) (pc := 63) dX11_count_63 (by decide) ?_
              refine g_iinc (q := 2) (lv' := [(3, .int (nI (i + 1))), (2, .int (nI (s9 + (toilN (kd i) (fg i))))), (4, .ref (rA i)), (0, .ref (cd 0)), (1, .int (nI what))]) (pc := 78) dX11_count_78 rfl (nI_inc _ _) (by decide) rfl ?_
              refine g_goto (tgt := 15) (pc := 81) dX11_count_81 (by decide) ?_
              refine G.locals (L' := [(3, .int (nI (i + 1))), (2, .int (nI (s9 + (toilN (kd i) (fg i))))), (0, .ref (cd 0)), (1, .int (nI what))]) [0, 1, 3, 4] rfl ?_
              exact ih15 (i + 1) (s9 + (toilN (kd i) (fg i))) (by omega) (by omega) (by first | exact cnt_1 (by assumption) hs9 | exact cnt_2 (by assumption) hs9 | exact cnt_3 (by assumption) (by assumption) (by assumption) hs9 | exact cnt_4 (by assumption) (by assumption) (by assumption) hs9)
          · -- F c3
            refine g_iload_n (q := 2) (pc := 38) dX11_count_38 rfl rfl ?_
            refine g_aload (q := 0) (pc := 39) dX11_count_39 rfl ?_
            refine g_rk_slow (pc := 41) (q := kd i) (f := fg i) (wC_rk hA (hmA i (by omega))) mlX11_87 ⟨Nat.le_of_ble_eq_true rfl, Nat.le_of_ble_eq_true rfl⟩ (Nat.le_of_ble_eq_true rfl) dX11_count_41 ⟨Nat.zero_le _, Nat.zero_le _⟩ ?_
            refine g_iadd_N (pc := 44) dX11_count_44 ?_
            refine g_istore_n (lv' := [(2, .int (nI (s9 + (slowN (kd i) (fg i))))), (4, .ref (rA i)), (3, .int (nI i)), (0, .ref (cd 0)), (1, .int (nI what))]) (pc := 45) dX11_count_45 rfl (by decide) rfl ?_
            refine g_goto (tgt := 78) (pc := 46) dX11_count_46 (by decide) ?_
            refine g_iinc (q := 2) (lv' := [(3, .int (nI (i + 1))), (2, .int (nI (s9 + (slowN (kd i) (fg i))))), (4, .ref (rA i)), (0, .ref (cd 0)), (1, .int (nI what))]) (pc := 78) dX11_count_78 rfl (nI_inc _ _) (by decide) rfl ?_
            refine g_goto (tgt := 15) (pc := 81) dX11_count_81 (by decide) ?_
            refine G.locals (L' := [(3, .int (nI (i + 1))), (2, .int (nI (s9 + (slowN (kd i) (fg i))))), (0, .ref (cd 0)), (1, .int (nI what))]) [0, 1, 3, 4] rfl ?_
            exact ih15 (i + 1) (s9 + (slowN (kd i) (fg i))) (by omega) (by omega) (by first | exact cnt_1 (by assumption) hs9 | exact cnt_2 (by assumption) hs9 | exact cnt_3 (by assumption) (by assumption) (by assumption) hs9 | exact cnt_4 (by assumption) (by assumption) (by assumption) hs9)
    refine G.locals (L' := [(3, .int (nI 0)), (2, .int (nI 0)), (0, .ref (cd 0)), (1, .int (nI what))]) [0, 1, 2, 3] rfl ?_
    exact lp15 21 0 0 (by omega) (by decide) rfl
  · -- F c1
    refine g_iconst (v := (-1)) (pc := 9) dX11_count_9 (by decide) ?_
    exact g_iret (pc := 10) (by decide) (by decide) (gC hPo (by rw [spCount, if_neg (by simp [*])]) (CI.mk ⟨hA, hE, hgA, hgB, hmA, hmC, hpl, hipl, hSh⟩)) dX11_count_10
theorem d_X11_count {what : Int32} {V2 : HV} (hCI : CI Z b0 cd Vb ik kd fg pl hr ikd ifg ipl ihr kp so sz el ki kf V2)  : KM l D Z b0 yX11_count cX11_count 5 (some .int) rmX11_count [.ref (cd 0), .int what] V2 (fun v0 V' => v0 = some (.int (spCount kd fg what)) ∧ CI Z b0 cd Vb ik kd fg pl hr ikd ifg ipl ihr kp so sz el ki kf V') := by
  obtain ⟨ugA, ugB, ugC, rA, rB, pB, tB, rC, cX, lX, oX, nX, sX, zX, cY, lY, oY, nY, sY, zY, tm, cl, KR, SO, SZ, EL, V, rfl, hA, hE, hgA, hgB, hmA, hmC, hpl, hipl, hSh⟩ := hCI
  exact c_X11_count hA hE hgA hgB hmA hmC hpl hipl hSh 
end MS
