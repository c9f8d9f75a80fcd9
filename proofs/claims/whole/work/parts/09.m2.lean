section MS
variable {l : Launch} {D : va_G} {Z : Nat → ClassId} {b0 : Nat} {ad : Nat → Nat} {hi th po ba en se : Int32} {s im rd mi el ki kf ti lo wa nu li to ot : Nat → Int32} {kd fg pl kp so sz ikd ifg ipl : Nat → Nat} {hr ihr : Nat → Int32} {V : HV}
def dN (x : Int32) : Nat := x.toNatClampNeg
theorem dN_N {j : Nat} (h : j < 2147483648) : dN (nI j) = j := nI_toNat h
theorem inR_out {x : Int32} {n : Nat} (h : x.toInt < 0 ∨ ((n : Nat) : Int) ≤ x.toInt) : inR x n = false := decide_eq_false (by omega)
def cellN (k f : Nat) : Nat → Int32
  | 0 => nI k
  | 1 => nI f
  | 2 => nI (slowN k f)
  | 3 => nI (lossN k f)
  | _ => nI (toilN k f)
def spCell (kd fg : Nat → Nat) (c what : Int32) : Int32 := if inR c 20 = true then (if inR what 5 = true then cellN (kd (dN c)) (fg (dN c)) (dN what) else (-1)) else (-1)
def spGang (s : Nat → Int32) (g what : Int32) : Int32 := if inR g 2 = true then (if inR what 2 = true then s (40 + 2 * dN g + dN what) else (-1)) else (-1)
def okSort (so : Option Nat) (s : Nat) : Bool := match so with
  | none => true
  | some t => decide (s = t)
def spWR (kp so : Nat → Nat) (d : Int32) (r : Option Nat) : Int32 := if inR d 8 = true then (if kp (dN d) = 0 then (-11) else if kp (dN d) = 2 then (if okSort r (so (dN d)) = true then nI 0 else (-12)) else (-12)) else (-1)
def spWK (kp : Nat → Nat) (d : Int32) : Int32 := if inR d 8 = true then (if kp (dN d) = 0 then (-11) else if kp (dN d) = 1 then nI 0 else (-12)) else (-1)
def spLay (kp : Nat → Nat) (d c : Int32) : Int32 := if inR c 20 = true then spWK kp d else (-1)
theorem spWR_0 {kp so : Nat → Nat} {d : Int32} {r : Option Nat} (h : spWR kp so d r = 0) : ∃ n, n < 8 ∧ d = nI n ∧ kp n = 2 ∧ okSort r (so n) = true := by
  unfold spWR at h
  by_cases h1 : inR d 8 = true
  · obtain ⟨n, hn, rfl⟩ := inR_t h1
    rw [if_pos h1, dN_N (by omega)] at h
    refine ⟨n, hn, rfl, ?_⟩
    by_cases h2 : kp n = 0
    · rw [if_pos h2] at h; exact absurd h (by decide)
    · rw [if_neg h2] at h
      by_cases h3 : kp n = 2
      · rw [if_pos h3] at h
        by_cases h4 : okSort r (so n) = true
        · exact ⟨h3, h4⟩
        · rw [if_neg h4] at h; exact absurd h (by decide)
      · rw [if_neg h3] at h; exact absurd h (by decide)
  · rw [if_neg h1] at h; exact absurd h (by decide)
theorem spWR_ok {kp so : Nat → Nat} {n : Nat} {r : Option Nat} (hn : n < 8) (h : kp n = 2) (h2 : okSort r (so n) = true) : spWR kp so (nI n) r = nI 0 := by
  unfold spWR; rw [inR_lt hn (by omega), if_pos rfl, dN_N (by omega), h, if_neg (by decide), if_pos rfl, if_pos h2]
theorem spWK_0 {kp : Nat → Nat} {d : Int32} (h : spWK kp d = 0) : ∃ n, n < 8 ∧ d = nI n ∧ kp n = 1 := by
  unfold spWK at h
  by_cases h1 : inR d 8 = true
  · obtain ⟨n, hn, rfl⟩ := inR_t h1
    rw [if_pos h1, dN_N (by omega)] at h
    refine ⟨n, hn, rfl, ?_⟩
    by_cases h2 : kp n = 0
    · rw [if_pos h2] at h; exact absurd h (by decide)
    · rw [if_neg h2] at h
      by_cases h3 : kp n = 1
      · exact h3
      · rw [if_neg h3] at h; exact absurd h (by decide)
  · rw [if_neg h1] at h; exact absurd h (by decide)
theorem spWK_ok {kp : Nat → Nat} {n : Nat} (hn : n < 8) (h : kp n = 1) : spWK kp (nI n) = nI 0 := by
  unfold spWK; rw [inR_lt hn (by omega), if_pos rfl, dN_N (by omega), h, if_neg (by decide), if_pos rfl]
def tossI (k f : Nat) : Int32 := if k = 7 ∨ f = 0 then (-15) else if k = 3 then nI (100 + f) else if k = 4 then nI 200 + payI k f else nI f
def spKeep (d what k figure : Int32) : Bool := inR d 8 && (inR what 2 && (!(decide (dN what = 1)) || (inR k 8 && inR figure 10)))
def spRow (d r n : Int32) : Int32 := if inR d 8 = true then (if inR r 3 = true then (if n ≤ nI 100 then (if 0 ≤ n then nI 0 else (-14)) else (-1)) else (-1)) else (-1)
def spPut (kp so sz : Nat → Nat) (d i : Int32) : Int32 := if spWR kp so d none = 0 then (if inR i (sz (dN d)) = true then nI 0 else (-13)) else spWR kp so d none
def narS (s : Nat) (v : Int32) : Int32 := if s = 0 then v.toInt8.toInt32 else if s = 1 then v.toInt16.toInt32 else v
def spEl (kp sz : Nat → Nat) (d i : Int32) : Nat := if inR d 8 = true then (if kp (dN d) = 2 then (if inR i (sz (dN d)) = true then 0 else 2) else 2) else 1
def okS (kp so sz : Nat → Nat) (ki kf : Nat → Int32) : Prop := ∀ d, d < 8 → kp d < 3 ∧ so d < 3 ∧ sz d ≤ 100 ∧ (kp d = 1 → ∃ k f, k < 8 ∧ f < 10 ∧ ki d = nI k ∧ kf d = nI f)
theorem Int32_acl (a b : Int32) : a + b - a = b := by rw [Int32.add_comm, Int32.add_sub_cancel]
theorem inZ (i : Int32) {z : Nat} (hz : z ≤ 100) : (decide (lN 0 ≤ i.toInt64) && decide (i.toInt64 ≤ (nI z - nI 1).toInt64)) = inR i z := by
  have h1 : (nI z - nI 1).toInt = (z : Int) - 1 := by
    rw [Int32.toInt_sub, nI_toInt (by omega), nI_toInt (by omega), Int.bmod_eq_of_le_mul_two] <;> omega
  rw [← Bool.decide_and]; unfold inR
  refine decide_eq_decide.mpr ?_
  rw [Int64.le_iff_toInt_le, Int64.le_iff_toInt_le, lN_toInt (by omega), Int32.toInt_toInt64, Int32.toInt_toInt64, h1]; omega
theorem c_X12_isInZ {i : Int32} {z : Nat} (hA : aB b0 18 ad) (hz : z ≤ 100) {VV : HV} (h : KE l D Z b0 yX12_isIn cX12_isIn 6 (some .boolean) rmX12_isIn [.long i.toInt64, .long (lN 0), .long (nI z - nI 1).toInt64] VV (some (.int (bI (decide (lN 0 ≤ i.toInt64) && decide (i.toInt64 ≤ (nI z - nI 1).toInt64))))) VV) : KE l D Z b0 yX12_isIn cX12_isIn 6 (some .boolean) rmX12_isIn [.long i.toInt64, .long (lN 0), .long (nI z - nI 1).toInt64] VV (some (.int (bI (inR i z)))) VV := by
  rw [inZ i hz] at h; exact h
-- cell
def rmX12_cell : Room := { frames := 2, cells := 0, slots := 0, locals := 45 }
theorem c_X12_cell {c what : Int32} (hA : aB b0 18 ad) (ho : okM kd fg pl) : KE l D Z b0 yX12_cell cX12_cell 3 (some .int) rmX12_cell [.ref (ad 0), .int c, .int what] (wM Z ad hi th po ba en se (enc kd fg pl hr) im rd mi (nf kp) (nf so) (nf sz) el ki kf ti lo wa nu li to ot V) (some (.int (spCell kd fg c what))) (wM Z ad hi th po ba en se (enc kd fg pl hr) im rd mi (nf kp) (nf so) (nf sz) el ki kf ti lo wa nu li to ot V) := by
  refine KE.of (by decide) (Nat.le_of_ble_eq_true rfl) (fun Po hPo => ?_)
  refine G.locals (L' := [(0, .ref (ad 0)), (1, .int c), (2, .int what)]) [0, 1, 2] rfl ?_
  refine g_iload_n (q := 1) (pc := 0) dX12_cell_0 rfl rfl ?_
  refine e_callS (k2 := 0) (n2 := 0) (As := [.int c]) (rest := []) (pc := 1) (c_X12_isCell hA) mlX12_143 mX12_isCell ⟨Nat.le_of_ble_eq_true rfl, Nat.le_of_ble_eq_true rfl⟩ rfl rfl (Nat.le_of_ble_eq_true rfl) dX12_cell_1 (by decide) rfl rfl ?_
  refine g_if_ne_B (tgt := 9) (pc := 4) dX12_cell_4 (by decide) (fun c1 => ?_) (fun c1 => ?_)
  · -- T c1
    obtain ⟨c, hc, rfl⟩ := inR_t c1
    refine g_iload_n (q := 2) (pc := 9) dX12_cell_9 rfl rfl ?_
    rcases i32_rng what 0 4 (by decide) with ⟨n9, hlo9, hhi9, rfl⟩ | hout9
    · -- in
      by_cases k2 : n9 = 0
      · subst k2
        refine g_tableIn (tgt := 44) (off := 34) (pc := 10) dX12_cell_10 (by decide) (by decide) (by decide) (by decide) ?_
        refine g_aload_n (q := 0) (pc := 44) dX12_cell_44 rfl rfl ?_
        refine g_iload_n (q := 1) (pc := 45) dX12_cell_45 rfl rfl ?_
        refine e_callV (k2 := 0) (n2 := 0) (As := [.int (nI c)]) (rest := []) (pc := 46) (wM_0 hA) rfl (c_X12_kind hA hc) mlX12_77 selX12_X12_kind_X12_kind mX12_kind ⟨Nat.le_of_ble_eq_true rfl, Nat.le_of_ble_eq_true rfl⟩ rfl rfl (Nat.le_of_ble_eq_true rfl) dX12_cell_46 (by decide) rfl rfl ?_
        exact g_iret (pc := 49) (by decide) (by decide) (eqI hPo (by rw [spCell, if_pos (by assumption), if_pos (by decide), dN_N (by omega)]; rfl)) dX12_cell_49
      by_cases k3 : n9 = 1
      · subst k3
        refine g_tableIn (tgt := 50) (off := 40) (pc := 10) dX12_cell_10 (by decide) (by decide) (by decide) (by decide) ?_
        refine g_aload_n (q := 0) (pc := 50) dX12_cell_50 rfl rfl ?_
        refine g_iload_n (q := 1) (pc := 51) dX12_cell_51 rfl rfl ?_
        refine e_callV (k2 := 0) (n2 := 0) (As := [.int (nI c)]) (rest := []) (pc := 52) (wM_0 hA) rfl (c_X12_figure hA hc) mlX12_81 selX12_X12_figure_X12_figure mX12_figure ⟨Nat.le_of_ble_eq_true rfl, Nat.le_of_ble_eq_true rfl⟩ rfl rfl (Nat.le_of_ble_eq_true rfl) dX12_cell_52 (by decide) rfl rfl ?_
        exact g_iret (pc := 55) (by decide) (by decide) (eqI hPo (by rw [spCell, if_pos (by assumption), if_pos (by decide), dN_N (by omega)]; rfl)) dX12_cell_55
      by_cases k4 : n9 = 2
      · subst k4
        refine g_tableIn (tgt := 56) (off := 46) (pc := 10) dX12_cell_10 (by decide) (by decide) (by decide) (by decide) ?_
        refine g_aload_n (q := 0) (pc := 56) dX12_cell_56 rfl rfl ?_
        refine g_iload_n (q := 1) (pc := 57) dX12_cell_57 rfl rfl ?_
        refine e_callV (k2 := 0) (n2 := 0) (As := [.int (nI c)]) (rest := []) (pc := 58) (wM_0 hA) rfl (c_X12_slow hA ho hc) mlX12_107 selX12_X12_slow_X12_slow mX12_slow ⟨Nat.le_of_ble_eq_true rfl, Nat.le_of_ble_eq_true rfl⟩ rfl rfl (Nat.le_of_ble_eq_true rfl) dX12_cell_58 (by decide) rfl rfl ?_
        exact g_iret (pc := 61) (by decide) (by decide) (eqI hPo (by rw [spCell, if_pos (by assumption), if_pos (by decide), dN_N (by omega)]; rfl)) dX12_cell_61
      by_cases k5 : n9 = 3
      · subst k5
        refine g_tableIn (tgt := 62) (off := 52) (pc := 10) dX12_cell_10 (by decide) (by decide) (by decide) (by decide) ?_
        refine g_aload_n (q := 0) (pc := 62) dX12_cell_62 rfl rfl ?_
        refine g_iload_n (q := 1) (pc := 63) dX12_cell_63 rfl rfl ?_
        refine e_callV (k2 := 0) (n2 := 0) (As := [.int (nI c)]) (rest := []) (pc := 64) (wM_0 hA) rfl (c_X12_loss hA ho hc) mlX12_110 selX12_X12_loss_X12_loss mX12_loss ⟨Nat.le_of_ble_eq_true rfl, Nat.le_of_ble_eq_true rfl⟩ rfl rfl (Nat.le_of_ble_eq_true rfl) dX12_cell_64 (by decide) rfl rfl ?_
        exact g_iret (pc := 67) (by decide) (by decide) (eqI hPo (by rw [spCell, if_pos (by assumption), if_pos (by decide), dN_N (by omega)]; rfl)) dX12_cell_67
      by_cases k6 : n9 = 4
      · subst k6
        refine g_tableIn (tgt := 68) (off := 58) (pc := 10) dX12_cell_10 (by decide) (by decide) (by decide) (by decide) ?_
        refine g_aload_n (q := 0) (pc := 68) dX12_cell_68 rfl rfl ?_
        refine g_iload_n (q := 1) (pc := 69) dX12_cell_69 rfl rfl ?_
        refine e_callV (k2 := 0) (n2 := 0) (As := [.int (nI c)]) (rest := []) (pc := 70) (wM_0 hA) rfl (c_X12_toil hA ho hc) mlX12_100 selX12_X12_toil_X12_toil mX12_toil ⟨Nat.le_of_ble_eq_true rfl, Nat.le_of_ble_eq_true rfl⟩ rfl rfl (Nat.le_of_ble_eq_true rfl) dX12_cell_70 (by decide) rfl rfl ?_
        exact g_iret (pc := 73) (by decide) (by decide) (eqI hPo (by rw [spCell, if_pos (by assumption), if_pos (by decide), dN_N (by omega)]; rfl)) dX12_cell_73
      exfalso; omega
    · -- out
      refine g_tableOut (tgt := 74) (pc := 10) dX12_cell_10 hout9 (by decide) ?_
      refine g_iconst (v := (-1)) (pc := 74) dX12_cell_74 (by decide) ?_
      exact g_iret (pc := 75) (by decide) (by decide) (eqI hPo (by rw [spCell, if_pos (by assumption), if_neg (by rw [inR_out (by omega)]; decide)])) dX12_cell_75
  · -- F c1
    refine g_iconst (v := (-1)) (pc := 7) dX12_cell_7 (by decide) ?_
    exact g_iret (pc := 8) (by decide) (by decide) (eqI hPo (by rw [spCell, if_neg (by simp [*])])) dX12_cell_8
def rmX12_gang : Room := { frames := 2, cells := 0, slots := 0, locals := 45 }
theorem c_X12_gang {g what : Int32} (hA : aB b0 18 ad)  : KE l D Z b0 yX12_gang cX12_gang 3 (some .int) rmX12_gang [.ref (ad 0), .int g, .int what] (wM Z ad hi th po ba en se (enc kd fg pl hr) im rd mi (nf kp) (nf so) (nf sz) el ki kf ti lo wa nu li to ot V) (some (.int (spGang (enc kd fg pl hr) g what))) (wM Z ad hi th po ba en se (enc kd fg pl hr) im rd mi (nf kp) (nf so) (nf sz) el ki kf ti lo wa nu li to ot V) := by
  refine KE.of (by decide) (Nat.le_of_ble_eq_true rfl) (fun Po hPo => ?_)
  refine G.locals (L' := [(0, .ref (ad 0)), (1, .int g), (2, .int what)]) [0, 1, 2] rfl ?_
  refine g_iload_n (q := 1) (pc := 0) dX12_gang_0 rfl rfl ?_
  refine e_callS (k2 := 0) (n2 := 0) (As := [.int g]) (rest := []) (pc := 1) (c_X12_isGang hA) mlX12_146 mX12_isGang ⟨Nat.le_of_ble_eq_true rfl, Nat.le_of_ble_eq_true rfl⟩ rfl rfl (Nat.le_of_ble_eq_true rfl) dX12_gang_1 (by decide) rfl rfl ?_
  refine g_if_eq_B (tgt := 33) (pc := 4) dX12_gang_4 (by decide) (fun c1 => ?_) (fun c1 => ?_)
  · -- T c1
    refine g_iconst (v := (-1)) (pc := 33) dX12_gang_33 (by decide) ?_
    exact g_iret (pc := 34) (by decide) (by decide) (eqI hPo (by rw [spGang, if_neg (by simp [*])])) dX12_gang_34
  · -- F c1
    obtain ⟨g, hg, rfl⟩ := inR_t c1
    refine g_iload_n (q := 2) (pc := 7) dX12_gang_7 rfl rfl ?_
    refine g_i2l (v := (what).toInt64) (pc := 8) dX12_gang_8 rfl ?_
    refine g_lconst (v := lN 0) (pc := 9) dX12_gang_9 (by decide) ?_
    refine g_lconst (v := lN 1) (pc := 10) dX12_gang_10 (by decide) ?_
    refine e_callS (k2 := 0) (n2 := 0) (As := [.long ((what).toInt64), .long (lN 0), .long (lN 1)]) (rest := []) (pc := 11) (c_X12_isInR 2 rfl hA (by decide) (c_X12_isIn hA)) mlX12_67 mX12_isIn ⟨Nat.le_of_ble_eq_true rfl, Nat.le_of_ble_eq_true rfl⟩ rfl rfl (Nat.le_of_ble_eq_true rfl) dX12_gang_11 (by decide) rfl rfl ?_
    refine g_if_eq_B (tgt := 33) (pc := 14) dX12_gang_14 (by decide) (fun c2 => ?_) (fun c2 => ?_)
    · -- T c2
      refine g_iconst (v := (-1)) (pc := 33) dX12_gang_33 (by decide) ?_
      exact g_iret (pc := 34) (by decide) (by decide) (eqI hPo (by rw [spGang, if_pos (by assumption), if_neg (by simp [*])])) dX12_gang_34
    · -- F c2
      obtain ⟨what, hwhat, rfl⟩ := inR_t c2
      refine g_aload_n (q := 0) (pc := 17) dX12_gang_17 rfl rfl ?_
      refine gm_get_s (pc := 18) hA dX12_gang_18 ?_
      refine g_bipush (v := nI 40) (pc := 21) dX12_gang_21 (by decide) ?_
      refine g_iconst (v := nI 2) (pc := 23) dX12_gang_23 (by decide) ?_
      refine g_iload_n (q := 1) (pc := 24) dX12_gang_24 rfl rfl ?_
      refine g_imul_N (pc := 25) dX12_gang_25 ?_
      refine g_iadd_N (pc := 26) dX12_gang_26 ?_
      refine g_iload_n (q := 2) (pc := 27) dX12_gang_27 rfl rfl ?_
      refine g_iadd_N (pc := 28) dX12_gang_28 ?_
      refine gm_ld_s (pc := 29) (j := (40 + (2 * g)) + what) (x := enc kd fg pl hr ((40 + (2 * g)) + what)) hA (by omega) rfl dX12_gang_29 ?_
      refine g_goto (tgt := 34) (pc := 30) dX12_gang_30 (by decide) ?_
      exact g_iret (pc := 34) (by decide) (by decide) (eqI hPo (by rw [spGang, if_pos (by assumption), if_pos (by assumption), dN_N (by omega), dN_N (by omega)])) dX12_gang_34
def rmX12_dig : Room := { frames := 3, cells := 0, slots := 0, locals := 65 }
theorem c_X12_dig_s {g s1 t : Nat} (hA : aB b0 18 ad) (ho : okM kd fg pl) (hg : g < 2) (hs : s1 < 4) (h : nbo (pl g) s1 = some t) : KE l D Z b0 yX12_dig cX12_dig 4 (some .int) rmX12_dig [.ref (ad 0), .int (nI g), .int (nI s1)] (wM Z ad hi th po ba en se (enc kd fg pl hr) im rd mi (nf kp) (nf so) (nf sz) el ki kf ti lo wa nu li to ot V) (some (.int (nI (toilN (kd t) (fg t))))) (wM Z ad hi th po ba en se (enc (updN kd t 7) (updN fg t 0) (updN pl g t) (upd hr g (hr g + nI (toilN (kd t) (fg t))))) im rd mi (nf kp) (nf so) (nf sz) el ki kf ti lo wa nu li to ot V) := by
  refine KE.of (by decide) (Nat.le_of_ble_eq_true rfl) (fun Po hPo => ?_)
  refine G.locals (L' := [(0, .ref (ad 0)), (1, .int (nI g)), (2, .int (nI s1))]) [0, 1, 2] rfl ?_
  refine g_iload_n (q := 1) (pc := 0) dX12_dig_0 rfl rfl ?_
  refine e_callS (k2 := 0) (n2 := 0) (As := [.int (nI g)]) (rest := []) (pc := 1) (c_X12_isGangN hA (by omega) (c_X12_isGang hA)) mlX12_146 mX12_isGang ⟨Nat.le_of_ble_eq_true rfl, Nat.le_of_ble_eq_true rfl⟩ rfl rfl (Nat.le_of_ble_eq_true rfl) dX12_dig_1 (by decide) rfl rfl ?_
  refine g_if_eq_B (tgt := 19) (pc := 4) dX12_dig_4 (by decide) (fun c1 => ?_) (fun c1 => ?_)
  · -- T c1
    exact absurd (of_decide_eq_false c1) (by omega)
  · -- F c1
    have c1 := of_decide_eq_true c1
    refine g_iload_n (q := 2) (pc := 7) dX12_dig_7 rfl rfl ?_
    refine g_i2l (v := lN s1) (pc := 8) dX12_dig_8 (nI_l (by omega)) ?_
    refine g_lconst (v := lN 0) (pc := 9) dX12_dig_9 (by decide) ?_
    refine g_ldc2 (v := lN 3) (pc := 10) klX12_168 dX12_dig_10 ?_
    refine e_callS (k2 := 0) (n2 := 0) (As := [.long (lN s1), .long (lN 0), .long (lN 3)]) (rest := []) (pc := 13) (c_X12_isInN hA (by omega) (by decide) (by decide) (c_X12_isIn hA)) mlX12_67 mX12_isIn ⟨Nat.le_of_ble_eq_true rfl, Nat.le_of_ble_eq_true rfl⟩ rfl rfl (Nat.le_of_ble_eq_true rfl) dX12_dig_13 (by decide) rfl rfl ?_
    refine g_if_ne_B (tgt := 21) (pc := 16) dX12_dig_16 (by decide) (fun c2 => ?_) (fun c2 => ?_)
    · -- T c2
      have c2 := of_decide_eq_true c2
      refine g_aload_n (q := 0) (pc := 21) dX12_dig_21 rfl rfl ?_
      refine gm_get_s (pc := 22) hA dX12_dig_22 ?_
      refine g_bipush (v := nI 40) (pc := 25) dX12_dig_25 (by decide) ?_
      refine g_iconst (v := nI 2) (pc := 27) dX12_dig_27 (by decide) ?_
      refine g_iload_n (q := 1) (pc := 28) dX12_dig_28 rfl rfl ?_
      refine g_imul_N (pc := 29) dX12_dig_29 ?_
      refine g_iadd_N (pc := 30) dX12_dig_30 ?_
      refine g_iconst (v := nI 1) (pc := 31) dX12_dig_31 (by decide) ?_
      refine g_iadd_N (pc := 32) dX12_dig_32 ?_
      refine gm_ld_s (pc := 33) (j := (40 + (2 * g)) + 1) (x := hr g) hA (by omega) enc_h dX12_dig_33 ?_
      refine g_istore_n (lv' := [(3, .int (hr g)), (0, .ref (ad 0)), (1, .int (nI g)), (2, .int (nI s1))]) (pc := 34) dX12_dig_34 rfl (by decide) rfl ?_
      refine g_aload_n (q := 1) (pc := 35) dX12_dig_35 rfl rfl ?_
      refine g_iload_n (q := 2) (pc := 36) dX12_dig_36 rfl rfl ?_
      refine g_iload_n (q := 3) (pc := 37) dX12_dig_37 rfl rfl ?_
      refine e_callV (k2 := 0) (n2 := 0) (As := [.int (nI g), .int (nI s1)]) (rest := []) (pc := 38) (wM_0 hA) rfl (c_X12_digs_s hA ho (by omega) (by omega) h) mlX12_149 selX12_X12_digs_X12_digs mX12_digs ⟨Nat.le_of_ble_eq_true rfl, Nat.le_of_ble_eq_true rfl⟩ rfl rfl (Nat.le_of_ble_eq_true rfl) dX12_dig_38 (by decide) rfl rfl ?_
      refine g_if_eq (tgt := 62) (pc := 41) dX12_dig_41 (by decide) (fun c0 => absurd c0 (by decide)) (fun _ => ?_)
      refine g_aload_n (q := 1) (pc := 44) dX12_dig_44 rfl rfl ?_
      refine gm_get_s (pc := 45) hA dX12_dig_45 ?_
      refine g_bipush (v := nI 40) (pc := 48) dX12_dig_48 (by decide) ?_
      refine g_iconst (v := nI 2) (pc := 50) dX12_dig_50 (by decide) ?_
      refine g_iload_n (q := 2) (pc := 51) dX12_dig_51 rfl rfl ?_
      refine g_imul_N (pc := 52) dX12_dig_52 ?_
      refine g_iadd_N (pc := 53) dX12_dig_53 ?_
      refine g_iconst (v := nI 1) (pc := 54) dX12_dig_54 (by decide) ?_
      refine g_iadd_N (pc := 55) dX12_dig_55 ?_
      refine gm_ld_s (pc := 56) (j := (40 + (2 * g)) + 1) (x := hr g + nI (toilN (kd t) (fg t))) hA (by omega) (enc_h.trans (upd_eq _ _ _)) dX12_dig_56 ?_
      refine g_iload_n (q := 0) (pc := 57) dX12_dig_57 rfl rfl ?_
      refine g_isub (pc := 58) dX12_dig_58 ?_
      refine g_top (x := (hr g + nI (toilN (kd t) (fg t))) - (hr g)) (y := nI (toilN (kd t) (fg t))) (Int32_acl _ _) ?_
      refine g_goto (tgt := 64) (pc := 59) dX12_dig_59 (by decide) ?_
      exact g_iret (pc := 64) (by decide) (by decide) (hPo) dX12_dig_64
    · -- F c2
      exact absurd (of_decide_eq_false c2) (by omega)
theorem c_X12_dig_b {g s1 : Int32} (hA : aB b0 18 ad) (h : (inR g 2 && inR s1 4) = false) : KE l D Z b0 yX12_dig cX12_dig 4 (some .int) rmX12_dig [.ref (ad 0), .int g, .int s1] (wM Z ad hi th po ba en se (enc kd fg pl hr) im rd mi (nf kp) (nf so) (nf sz) el ki kf ti lo wa nu li to ot V) (some (.int (-1))) (wM Z ad hi th po ba en se (enc kd fg pl hr) im rd mi (nf kp) (nf so) (nf sz) el ki kf ti lo wa nu li to ot V) := by
  refine KE.of (by decide) (Nat.le_of_ble_eq_true rfl) (fun Po hPo => ?_)
  refine G.locals (L' := [(0, .ref (ad 0)), (1, .int g), (2, .int s1)]) [0, 1, 2] rfl ?_
  refine g_iload_n (q := 1) (pc := 0) dX12_dig_0 rfl rfl ?_
  refine e_callS (k2 := 0) (n2 := 0) (As := [.int g]) (rest := []) (pc := 1) (c_X12_isGang hA) mlX12_146 mX12_isGang ⟨Nat.le_of_ble_eq_true rfl, Nat.le_of_ble_eq_true rfl⟩ rfl rfl (Nat.le_of_ble_eq_true rfl) dX12_dig_1 (by decide) rfl rfl ?_
  refine g_if_eq_B (tgt := 19) (pc := 4) dX12_dig_4 (by decide) (fun c1 => ?_) (fun c1 => ?_)
  · -- T c1
    refine g_iconst (v := (-1)) (pc := 19) dX12_dig_19 (by decide) ?_
    exact g_iret (pc := 20) (by decide) (by decide) (hPo) dX12_dig_20
  · -- F c1
    obtain ⟨g, hg, rfl⟩ := inR_t c1
    refine g_iload_n (q := 2) (pc := 7) dX12_dig_7 rfl rfl ?_
    refine g_i2l (v := (s1).toInt64) (pc := 8) dX12_dig_8 rfl ?_
    refine g_lconst (v := lN 0) (pc := 9) dX12_dig_9 (by decide) ?_
    refine g_ldc2 (v := lN 3) (pc := 10) klX12_168 dX12_dig_10 ?_
    refine e_callS (k2 := 0) (n2 := 0) (As := [.long ((s1).toInt64), .long (lN 0), .long (lN 3)]) (rest := []) (pc := 13) (c_X12_isInR 4 rfl hA (by decide) (c_X12_isIn hA)) mlX12_67 mX12_isIn ⟨Nat.le_of_ble_eq_true rfl, Nat.le_of_ble_eq_true rfl⟩ rfl rfl (Nat.le_of_ble_eq_true rfl) dX12_dig_13 (by decide) rfl rfl ?_
    refine g_if_ne_B (tgt := 21) (pc := 16) dX12_dig_16 (by decide) (fun c2 => ?_) (fun c2 => ?_)
    · -- T c2
      exact absurd h (by simp [*])
    · -- F c2
      refine g_iconst (v := (-1)) (pc := 19) dX12_dig_19 (by decide) ?_
      exact g_iret (pc := 20) (by decide) (by decide) (hPo) dX12_dig_20
theorem c_X12_dig_n {g s1 : Nat} (hA : aB b0 18 ad) (ho : okM kd fg pl) (hg : g < 2) (hs : s1 < 4) (h : nbo (pl g) s1 = none) : KE l D Z b0 yX12_dig cX12_dig 4 (some .int) rmX12_dig [.ref (ad 0), .int (nI g), .int (nI s1)] (wM Z ad hi th po ba en se (enc kd fg pl hr) im rd mi (nf kp) (nf so) (nf sz) el ki kf ti lo wa nu li to ot V) (some (.int (-3))) (wM Z ad hi th po ba en se (enc kd fg pl hr) im rd mi (nf kp) (nf so) (nf sz) el ki kf ti lo wa nu li to ot V) := by
  refine KE.of (by decide) (Nat.le_of_ble_eq_true rfl) (fun Po hPo => ?_)
  refine G.locals (L' := [(0, .ref (ad 0)), (1, .int (nI g)), (2, .int (nI s1))]) [0, 1, 2] rfl ?_
  refine g_iload_n (q := 1) (pc := 0) dX12_dig_0 rfl rfl ?_
  refine e_callS (k2 := 0) (n2 := 0) (As := [.int (nI g)]) (rest := []) (pc := 1) (c_X12_isGangN hA (by omega) (c_X12_isGang hA)) mlX12_146 mX12_isGang ⟨Nat.le_of_ble_eq_true rfl, Nat.le_of_ble_eq_true rfl⟩ rfl rfl (Nat.le_of_ble_eq_true rfl) dX12_dig_1 (by decide) rfl rfl ?_
  refine g_if_eq_B (tgt := 19) (pc := 4) dX12_dig_4 (by decide) (fun c1 => ?_) (fun c1 => ?_)
  · -- T c1
    exact absurd (of_decide_eq_false c1) (by omega)
  · -- F c1
    have c1 := of_decide_eq_true c1
    refine g_iload_n (q := 2) (pc := 7) dX12_dig_7 rfl rfl ?_
    refine g_i2l (v := lN s1) (pc := 8) dX12_dig_8 (nI_l (by omega)) ?_
    refine g_lconst (v := lN 0) (pc := 9) dX12_dig_9 (by decide) ?_
    refine g_ldc2 (v := lN 3) (pc := 10) klX12_168 dX12_dig_10 ?_
    refine e_callS (k2 := 0) (n2 := 0) (As := [.long (lN s1), .long (lN 0), .long (lN 3)]) (rest := []) (pc := 13) (c_X12_isInN hA (by omega) (by decide) (by decide) (c_X12_isIn hA)) mlX12_67 mX12_isIn ⟨Nat.le_of_ble_eq_true rfl, Nat.le_of_ble_eq_true rfl⟩ rfl rfl (Nat.le_of_ble_eq_true rfl) dX12_dig_13 (by decide) rfl rfl ?_
    refine g_if_ne_B (tgt := 21) (pc := 16) dX12_dig_16 (by decide) (fun c2 => ?_) (fun c2 => ?_)
    · -- T c2
      have c2 := of_decide_eq_true c2
      refine g_aload_n (q := 0) (pc := 21) dX12_dig_21 rfl rfl ?_
      refine gm_get_s (pc := 22) hA dX12_dig_22 ?_
      refine g_bipush (v := nI 40) (pc := 25) dX12_dig_25 (by decide) ?_
      refine g_iconst (v := nI 2) (pc := 27) dX12_dig_27 (by decide) ?_
      refine g_iload_n (q := 1) (pc := 28) dX12_dig_28 rfl rfl ?_
      refine g_imul_N (pc := 29) dX12_dig_29 ?_
      refine g_iadd_N (pc := 30) dX12_dig_30 ?_
      refine g_iconst (v := nI 1) (pc := 31) dX12_dig_31 (by decide) ?_
      refine g_iadd_N (pc := 32) dX12_dig_32 ?_
      refine gm_ld_s (pc := 33) (j := (40 + (2 * g)) + 1) (x := hr g) hA (by omega) enc_h dX12_dig_33 ?_
      refine g_istore_n (lv' := [(3, .int (hr g)), (0, .ref (ad 0)), (1, .int (nI g)), (2, .int (nI s1))]) (pc := 34) dX12_dig_34 rfl (by decide) rfl ?_
      refine g_aload_n (q := 1) (pc := 35) dX12_dig_35 rfl rfl ?_
      refine g_iload_n (q := 2) (pc := 36) dX12_dig_36 rfl rfl ?_
      refine g_iload_n (q := 3) (pc := 37) dX12_dig_37 rfl rfl ?_
      refine e_callV (k2 := 0) (n2 := 0) (As := [.int (nI g), .int (nI s1)]) (rest := []) (pc := 38) (wM_0 hA) rfl (c_X12_digs_n hA ho (by omega) (by omega) h) mlX12_149 selX12_X12_digs_X12_digs mX12_digs ⟨Nat.le_of_ble_eq_true rfl, Nat.le_of_ble_eq_true rfl⟩ rfl rfl (Nat.le_of_ble_eq_true rfl) dX12_dig_38 (by decide) rfl rfl ?_
      refine g_if_eq (tgt := 62) (pc := 41) dX12_dig_41 (by decide) (fun _ => ?_) (fun c0 => absurd c0 (by decide))
      refine g_bipush (v := (-3)) (pc := 62) dX12_dig_62 (by decide) ?_
      exact g_iret (pc := 64) (by decide) (by decide) (hPo) dX12_dig_64
    · -- F c2
      exact absurd (of_decide_eq_false c2) (by omega)
def rmX12_met : Room := { frames := 2, cells := 0, slots := 0, locals := 45 }
theorem c_X12_met  (hA : aB b0 18 ad) (ho : okM kd fg pl) : KE l D Z b0 yX12_met cX12_met 1 (some .int) rmX12_met [.ref (ad 0)] (wM Z ad hi th po ba en se (enc kd fg pl hr) im rd mi (nf kp) (nf so) (nf sz) el ki kf ti lo wa nu li to ot V) (some (.int (bI (metB (pl 0) (pl 1))))) (wM Z ad hi th po ba en se (enc kd fg pl hr) im rd mi (nf kp) (nf so) (nf sz) el ki kf ti lo wa nu li to ot V) := by
  refine KE.of (by decide) (Nat.le_of_ble_eq_true rfl) (fun Po hPo => ?_)
  refine G.locals (L' := [(0, .ref (ad 0))]) [0] rfl ?_
  refine g_aload_n (q := 0) (pc := 0) dX12_met_0 rfl rfl ?_
  refine e_callV (k2 := 0) (n2 := 0) (As := []) (rest := []) (pc := 1) (wM_0 hA) rfl (c_X12_haveMet hA ho) mlX12_170 selX12_X12_haveMet_X12_haveMet mX12_haveMet ⟨Nat.le_of_ble_eq_true rfl, Nat.le_of_ble_eq_true rfl⟩ rfl rfl (Nat.le_of_ble_eq_true rfl) dX12_met_1 (by decide) rfl rfl ?_
  refine g_if_eq_B (tgt := 11) (pc := 4) dX12_met_4 (by decide) (fun c1 => ?_) (fun c1 => ?_)
  · -- T c1
    refine g_iconst (v := nI 0) (pc := 11) dX12_met_11 (by decide) ?_
    exact g_iret (pc := 12) (by decide) (by decide) (eqI hPo (by simp [bI, *])) dX12_met_12
  · -- F c1
    refine g_iconst (v := nI 1) (pc := 7) dX12_met_7 (by decide) ?_
    refine g_goto (tgt := 12) (pc := 8) dX12_met_8 (by decide) ?_
    exact g_iret (pc := 12) (by decide) (by decide) (eqI hPo (by simp [bI, *])) dX12_met_12
def rmX12_wrongRow : Room := { frames := 2, cells := 0, slots := 0, locals := 45 }
theorem c_X12_wrongRow0 {d : Int32} (hA : aB b0 18 ad) (hs : okS kp so sz ki kf) : KE l D Z b0 yX12_wrongRow cX12_wrongRow 3 (some .int) rmX12_wrongRow [.ref (ad 0), .int d, .int (nI 0)] (wM Z ad hi th po ba en se (enc kd fg pl hr) im rd mi (nf kp) (nf so) (nf sz) el ki kf ti lo wa nu li to ot V) (some (.int (spWR kp so d (some 0)))) (wM Z ad hi th po ba en se (enc kd fg pl hr) im rd mi (nf kp) (nf so) (nf sz) el ki kf ti lo wa nu li to ot V) := by
  refine KE.of (by decide) (Nat.le_of_ble_eq_true rfl) (fun Po hPo => ?_)
  refine G.locals (L' := [(0, .ref (ad 0)), (1, .int d), (2, .int (nI 0))]) [0, 1, 2] rfl ?_
  refine g_iload_n (q := 1) (pc := 0) dX12_wrongRow_0 rfl rfl ?_
  refine e_callS (k2 := 0) (n2 := 0) (As := [.int d]) (rest := []) (pc := 1) (c_X12_isShelf hA) mlX12_152 mX12_isShelf ⟨Nat.le_of_ble_eq_true rfl, Nat.le_of_ble_eq_true rfl⟩ rfl rfl (Nat.le_of_ble_eq_true rfl) dX12_wrongRow_1 (by decide) rfl rfl ?_
  refine g_if_ne_B (tgt := 11) (pc := 4) dX12_wrongRow_4 (by decide) (fun c1 => ?_) (fun c1 => ?_)
  · -- T c1
    obtain ⟨d, hd, rfl⟩ := inR_t c1
    refine g_aload_n (q := 0) (pc := 11) dX12_wrongRow_11 rfl rfl ?_
    refine gm_get_kp (pc := 12) hA dX12_wrongRow_12 ?_
    refine g_iload_n (q := 1) (pc := 15) dX12_wrongRow_15 rfl rfl ?_
    refine gm_ld_kp (pc := 16) (j := d) (x := nI (kp d)) hA (by omega) rfl dX12_wrongRow_16 ?_
    refine g_if_ne_N (tgt := 25) (pc := 17) (by have := hs d hd; omega) dX12_wrongRow_17 (by decide) (fun c2 => ?_) (fun c2 => ?_)
    · -- T c2
      refine g_aload_n (q := 0) (pc := 25) dX12_wrongRow_25 rfl rfl ?_
      refine gm_get_kp (pc := 26) hA dX12_wrongRow_26 ?_
      refine g_iload_n (q := 1) (pc := 29) dX12_wrongRow_29 rfl rfl ?_
      refine gm_ld_kp (pc := 30) (j := d) (x := nI (kp d)) hA (by omega) rfl dX12_wrongRow_30 ?_
      refine g_iconst (v := nI 2) (pc := 31) dX12_wrongRow_31 (by decide) ?_
      refine g_icmp_ne_N (tgt := 49) (pc := 32) (by have := hs d hd; omega) (by omega) dX12_wrongRow_32 (by decide) (fun c3 => ?_) (fun c3 => ?_)
      · -- T c3
        refine g_bipush (v := (-12)) (pc := 49) dX12_wrongRow_49 (by decide) ?_
        refine g_goto (tgt := 55) (pc := 51) dX12_wrongRow_51 (by decide) ?_
        exact g_iret (pc := 55) (by decide) (by decide) (eqI hPo (by first | (rw [spWR, if_neg (by simp [*])]; done) | (rw [spWR, if_pos (by assumption), dN_N (by omega)]; simp [okSort, *]))) dX12_wrongRow_55
      · -- F c3
        refine g_iload_n (q := 2) (pc := 35) dX12_wrongRow_35 rfl rfl ?_
        refine g_if_lt (tgt := 54) (pc := 36) dX12_wrongRow_36 (by decide) (fun c0 => absurd c0 (by decide)) (fun _ => ?_)
        refine g_aload_n (q := 0) (pc := 39) dX12_wrongRow_39 rfl rfl ?_
        refine gm_get_so (pc := 40) hA dX12_wrongRow_40 ?_
        refine g_iload_n (q := 1) (pc := 43) dX12_wrongRow_43 rfl rfl ?_
        refine gm_ld_so (pc := 44) (j := d) (x := nI (so d)) hA (by omega) rfl dX12_wrongRow_44 ?_
        refine g_iload_n (q := 2) (pc := 45) dX12_wrongRow_45 rfl rfl ?_
        refine g_icmp_eq_N (tgt := 54) (pc := 46) (by have := hs d hd; omega) (by omega) dX12_wrongRow_46 (by decide) (fun c4 => ?_) (fun c4 => ?_)
        · -- T c4
          refine g_iconst (v := nI 0) (pc := 54) dX12_wrongRow_54 (by decide) ?_
          exact g_iret (pc := 55) (by decide) (by decide) (eqI hPo (by first | (rw [spWR, if_neg (by simp [*])]; done) | (rw [spWR, if_pos (by assumption), dN_N (by omega)]; simp [okSort, *]))) dX12_wrongRow_55
        · -- F c4
          refine g_bipush (v := (-12)) (pc := 49) dX12_wrongRow_49 (by decide) ?_
          refine g_goto (tgt := 55) (pc := 51) dX12_wrongRow_51 (by decide) ?_
          exact g_iret (pc := 55) (by decide) (by decide) (eqI hPo (by first | (rw [spWR, if_neg (by simp [*])]; done) | (rw [spWR, if_pos (by assumption), dN_N (by omega)]; simp [okSort, *]))) dX12_wrongRow_55
    · -- F c2
      refine g_bipush (v := (-11)) (pc := 20) dX12_wrongRow_20 (by decide) ?_
      refine g_goto (tgt := 55) (pc := 22) dX12_wrongRow_22 (by decide) ?_
      exact g_iret (pc := 55) (by decide) (by decide) (eqI hPo (by first | (rw [spWR, if_neg (by simp [*])]; done) | (rw [spWR, if_pos (by assumption), dN_N (by omega)]; simp [okSort, *]))) dX12_wrongRow_55
  · -- F c1
    refine g_iconst (v := (-1)) (pc := 7) dX12_wrongRow_7 (by decide) ?_
    refine g_goto (tgt := 55) (pc := 8) dX12_wrongRow_8 (by decide) ?_
    exact g_iret (pc := 55) (by decide) (by decide) (eqI hPo (by first | (rw [spWR, if_neg (by simp [*])]; done) | (rw [spWR, if_pos (by assumption), dN_N (by omega)]; simp [okSort, *]))) dX12_wrongRow_55
theorem c_X12_wrongRow2 {d : Int32} (hA : aB b0 18 ad) (hs : okS kp so sz ki kf) : KE l D Z b0 yX12_wrongRow cX12_wrongRow 3 (some .int) rmX12_wrongRow [.ref (ad 0), .int d, .int (nI 2)] (wM Z ad hi th po ba en se (enc kd fg pl hr) im rd mi (nf kp) (nf so) (nf sz) el ki kf ti lo wa nu li to ot V) (some (.int (spWR kp so d (some 2)))) (wM Z ad hi th po ba en se (enc kd fg pl hr) im rd mi (nf kp) (nf so) (nf sz) el ki kf ti lo wa nu li to ot V) := by
  refine KE.of (by decide) (Nat.le_of_ble_eq_true rfl) (fun Po hPo => ?_)
  refine G.locals (L' := [(0, .ref (ad 0)), (1, .int d), (2, .int (nI 2))]) [0, 1, 2] rfl ?_
  refine g_iload_n (q := 1) (pc := 0) dX12_wrongRow_0 rfl rfl ?_
  refine e_callS (k2 := 0) (n2 := 0) (As := [.int d]) (rest := []) (pc := 1) (c_X12_isShelf hA) mlX12_152 mX12_isShelf ⟨Nat.le_of_ble_eq_true rfl, Nat.le_of_ble_eq_true rfl⟩ rfl rfl (Nat.le_of_ble_eq_true rfl) dX12_wrongRow_1 (by decide) rfl rfl ?_
  refine g_if_ne_B (tgt := 11) (pc := 4) dX12_wrongRow_4 (by decide) (fun c1 => ?_) (fun c1 => ?_)
  · -- T c1
    obtain ⟨d, hd, rfl⟩ := inR_t c1
    refine g_aload_n (q := 0) (pc := 11) dX12_wrongRow_11 rfl rfl ?_
    refine gm_get_kp (pc := 12) hA dX12_wrongRow_12 ?_
    refine g_iload_n (q := 1) (pc := 15) dX12_wrongRow_15 rfl rfl ?_
    refine gm_ld_kp (pc := 16) (j := d) (x := nI (kp d)) hA (by omega) rfl dX12_wrongRow_16 ?_
    refine g_if_ne_N (tgt := 25) (pc := 17) (by have := hs d hd; omega) dX12_wrongRow_17 (by decide) (fun c2 => ?_) (fun c2 => ?_)
    · -- T c2
      refine g_aload_n (q := 0) (pc := 25) dX12_wrongRow_25 rfl rfl ?_
      refine gm_get_kp (pc := 26) hA dX12_wrongRow_26 ?_
      refine g_iload_n (q := 1) (pc := 29) dX12_wrongRow_29 rfl rfl ?_
      refine gm_ld_kp (pc := 30) (j := d) (x := nI (kp d)) hA (by omega) rfl dX12_wrongRow_30 ?_
      refine g_iconst (v := nI 2) (pc := 31) dX12_wrongRow_31 (by decide) ?_
      refine g_icmp_ne_N (tgt := 49) (pc := 32) (by have := hs d hd; omega) (by omega) dX12_wrongRow_32 (by decide) (fun c3 => ?_) (fun c3 => ?_)
      · -- T c3
        refine g_bipush (v := (-12)) (pc := 49) dX12_wrongRow_49 (by decide) ?_
        refine g_goto (tgt := 55) (pc := 51) dX12_wrongRow_51 (by decide) ?_
        exact g_iret (pc := 55) (by decide) (by decide) (eqI hPo (by first | (rw [spWR, if_neg (by simp [*])]; done) | (rw [spWR, if_pos (by assumption), dN_N (by omega)]; simp [okSort, *]))) dX12_wrongRow_55
      · -- F c3
        refine g_iload_n (q := 2) (pc := 35) dX12_wrongRow_35 rfl rfl ?_
        refine g_if_lt (tgt := 54) (pc := 36) dX12_wrongRow_36 (by decide) (fun c0 => absurd c0 (by decide)) (fun _ => ?_)
        refine g_aload_n (q := 0) (pc := 39) dX12_wrongRow_39 rfl rfl ?_
        refine gm_get_so (pc := 40) hA dX12_wrongRow_40 ?_
        refine g_iload_n (q := 1) (pc := 43) dX12_wrongRow_43 rfl rfl ?_
        refine gm_ld_so (pc := 44) (j := d) (x := nI (so d)) hA (by omega) rfl dX12_wrongRow_44 ?_
        refine g_iload_n (q := 2) (pc := 45) dX12_wrongRow_45 rfl rfl ?_
        refine g_icmp_eq_N (tgt := 54) (pc := 46) (by have := hs d hd; omega) (by omega) dX12_wrongRow_46 (by decide) (fun c4 => ?_) (fun c4 => ?_)
        · -- T c4
          refine g_iconst (v := nI 0) (pc := 54) dX12_wrongRow_54 (by decide) ?_
          exact g_iret (pc := 55) (by decide) (by decide) (eqI hPo (by first | (rw [spWR, if_neg (by simp [*])]; done) | (rw [spWR, if_pos (by assumption), dN_N (by omega)]; simp [okSort, *]))) dX12_wrongRow_55
        · -- F c4
          refine g_bipush (v := (-12)) (pc := 49) dX12_wrongRow_49 (by decide) ?_
          refine g_goto (tgt := 55) (pc := 51) dX12_wrongRow_51 (by decide) ?_
          exact g_iret (pc := 55) (by decide) (by decide) (eqI hPo (by first | (rw [spWR, if_neg (by simp [*])]; done) | (rw [spWR, if_pos (by assumption), dN_N (by omega)]; simp [okSort, *]))) dX12_wrongRow_55
    · -- F c2
      refine g_bipush (v := (-11)) (pc := 20) dX12_wrongRow_20 (by decide) ?_
      refine g_goto (tgt := 55) (pc := 22) dX12_wrongRow_22 (by decide) ?_
      exact g_iret (pc := 55) (by decide) (by decide) (eqI hPo (by first | (rw [spWR, if_neg (by simp [*])]; done) | (rw [spWR, if_pos (by assumption), dN_N (by omega)]; simp [okSort, *]))) dX12_wrongRow_55
  · -- F c1
    refine g_iconst (v := (-1)) (pc := 7) dX12_wrongRow_7 (by decide) ?_
    refine g_goto (tgt := 55) (pc := 8) dX12_wrongRow_8 (by decide) ?_
    exact g_iret (pc := 55) (by decide) (by decide) (eqI hPo (by first | (rw [spWR, if_neg (by simp [*])]; done) | (rw [spWR, if_pos (by assumption), dN_N (by omega)]; simp [okSort, *]))) dX12_wrongRow_55
theorem c_X12_wrongRowm {d : Int32} (hA : aB b0 18 ad) (hs : okS kp so sz ki kf) : KE l D Z b0 yX12_wrongRow cX12_wrongRow 3 (some .int) rmX12_wrongRow [.ref (ad 0), .int d, .int (-1)] (wM Z ad hi th po ba en se (enc kd fg pl hr) im rd mi (nf kp) (nf so) (nf sz) el ki kf ti lo wa nu li to ot V) (some (.int (spWR kp so d none))) (wM Z ad hi th po ba en se (enc kd fg pl hr) im rd mi (nf kp) (nf so) (nf sz) el ki kf ti lo wa nu li to ot V) := by
  refine KE.of (by decide) (Nat.le_of_ble_eq_true rfl) (fun Po hPo => ?_)
  refine G.locals (L' := [(0, .ref (ad 0)), (1, .int d), (2, .int (-1))]) [0, 1, 2] rfl ?_
  refine g_iload_n (q := 1) (pc := 0) dX12_wrongRow_0 rfl rfl ?_
  refine e_callS (k2 := 0) (n2 := 0) (As := [.int d]) (rest := []) (pc := 1) (c_X12_isShelf hA) mlX12_152 mX12_isShelf ⟨Nat.le_of_ble_eq_true rfl, Nat.le_of_ble_eq_true rfl⟩ rfl rfl (Nat.le_of_ble_eq_true rfl) dX12_wrongRow_1 (by decide) rfl rfl ?_
  refine g_if_ne_B (tgt := 11) (pc := 4) dX12_wrongRow_4 (by decide) (fun c1 => ?_) (fun c1 => ?_)
  · -- T c1
    obtain ⟨d, hd, rfl⟩ := inR_t c1
    refine g_aload_n (q := 0) (pc := 11) dX12_wrongRow_11 rfl rfl ?_
    refine gm_get_kp (pc := 12) hA dX12_wrongRow_12 ?_
    refine g_iload_n (q := 1) (pc := 15) dX12_wrongRow_15 rfl rfl ?_
    refine gm_ld_kp (pc := 16) (j := d) (x := nI (kp d)) hA (by omega) rfl dX12_wrongRow_16 ?_
    refine g_if_ne_N (tgt := 25) (pc := 17) (by have := hs d hd; omega) dX12_wrongRow_17 (by decide) (fun c2 => ?_) (fun c2 => ?_)
    · -- T c2
      refine g_aload_n (q := 0) (pc := 25) dX12_wrongRow_25 rfl rfl ?_
      refine gm_get_kp (pc := 26) hA dX12_wrongRow_26 ?_
      refine g_iload_n (q := 1) (pc := 29) dX12_wrongRow_29 rfl rfl ?_
      refine gm_ld_kp (pc := 30) (j := d) (x := nI (kp d)) hA (by omega) rfl dX12_wrongRow_30 ?_
      refine g_iconst (v := nI 2) (pc := 31) dX12_wrongRow_31 (by decide) ?_
      refine g_icmp_ne_N (tgt := 49) (pc := 32) (by have := hs d hd; omega) (by omega) dX12_wrongRow_32 (by decide) (fun c3 => ?_) (fun c3 => ?_)
      · -- T c3
        refine g_bipush (v := (-12)) (pc := 49) dX12_wrongRow_49 (by decide) ?_
        refine g_goto (tgt := 55) (pc := 51) dX12_wrongRow_51 (by decide) ?_
        exact g_iret (pc := 55) (by decide) (by decide) (eqI hPo (by first | (rw [spWR, if_neg (by simp [*])]; done) | (rw [spWR, if_pos (by assumption), dN_N (by omega)]; simp [okSort, *]))) dX12_wrongRow_55
      · -- F c3
        refine g_iload_n (q := 2) (pc := 35) dX12_wrongRow_35 rfl rfl ?_
        refine g_if_lt (tgt := 54) (pc := 36) dX12_wrongRow_36 (by decide) (fun _ => ?_) (fun c0 => absurd c0 (by decide))
        refine g_iconst (v := nI 0) (pc := 54) dX12_wrongRow_54 (by decide) ?_
        exact g_iret (pc := 55) (by decide) (by decide) (eqI hPo (by first | (rw [spWR, if_neg (by simp [*])]; done) | (rw [spWR, if_pos (by assumption), dN_N (by omega)]; simp [okSort, *]))) dX12_wrongRow_55
    · -- F c2
      refine g_bipush (v := (-11)) (pc := 20) dX12_wrongRow_20 (by decide) ?_
      refine g_goto (tgt := 55) (pc := 22) dX12_wrongRow_22 (by decide) ?_
      exact g_iret (pc := 55) (by decide) (by decide) (eqI hPo (by first | (rw [spWR, if_neg (by simp [*])]; done) | (rw [spWR, if_pos (by assumption), dN_N (by omega)]; simp [okSort, *]))) dX12_wrongRow_55
  · -- F c1
    refine g_iconst (v := (-1)) (pc := 7) dX12_wrongRow_7 (by decide) ?_
    refine g_goto (tgt := 55) (pc := 8) dX12_wrongRow_8 (by decide) ?_
    exact g_iret (pc := 55) (by decide) (by decide) (eqI hPo (by first | (rw [spWR, if_neg (by simp [*])]; done) | (rw [spWR, if_pos (by assumption), dN_N (by omega)]; simp [okSort, *]))) dX12_wrongRow_55
def rmX12_wrongKept : Room := { frames := 2, cells := 0, slots := 0, locals := 45 }
theorem c_X12_wrongKept {d : Int32} (hA : aB b0 18 ad) (hs : okS kp so sz ki kf) : KE l D Z b0 yX12_wrongKept cX12_wrongKept 2 (some .int) rmX12_wrongKept [.ref (ad 0), .int d] (wM Z ad hi th po ba en se (enc kd fg pl hr) im rd mi (nf kp) (nf so) (nf sz) el ki kf ti lo wa nu li to ot V) (some (.int (spWK kp d))) (wM Z ad hi th po ba en se (enc kd fg pl hr) im rd mi (nf kp) (nf so) (nf sz) el ki kf ti lo wa nu li to ot V) := by
  refine KE.of (by decide) (Nat.le_of_ble_eq_true rfl) (fun Po hPo => ?_)
  refine G.locals (L' := [(0, .ref (ad 0)), (1, .int d)]) [0, 1] rfl ?_
  refine g_iload_n (q := 1) (pc := 0) dX12_wrongKept_0 rfl rfl ?_
  refine e_callS (k2 := 0) (n2 := 0) (As := [.int d]) (rest := []) (pc := 1) (c_X12_isShelf hA) mlX12_152 mX12_isShelf ⟨Nat.le_of_ble_eq_true rfl, Nat.le_of_ble_eq_true rfl⟩ rfl rfl (Nat.le_of_ble_eq_true rfl) dX12_wrongKept_1 (by decide) rfl rfl ?_
  refine g_if_ne_B (tgt := 11) (pc := 4) dX12_wrongKept_4 (by decide) (fun c1 => ?_) (fun c1 => ?_)
  · -- T c1
    obtain ⟨d, hd, rfl⟩ := inR_t c1
    refine g_aload_n (q := 0) (pc := 11) dX12_wrongKept_11 rfl rfl ?_
    refine gm_get_kp (pc := 12) hA dX12_wrongKept_12 ?_
    refine g_iload_n (q := 1) (pc := 15) dX12_wrongKept_15 rfl rfl ?_
    refine gm_ld_kp (pc := 16) (j := d) (x := nI (kp d)) hA (by omega) rfl dX12_wrongKept_16 ?_
    refine g_if_ne_N (tgt := 25) (pc := 17) (by have := hs d hd; omega) dX12_wrongKept_17 (by decide) (fun c2 => ?_) (fun c2 => ?_)
    · -- T c2
      refine g_aload_n (q := 0) (pc := 25) dX12_wrongKept_25 rfl rfl ?_
      refine gm_get_kp (pc := 26) hA dX12_wrongKept_26 ?_
      refine g_iload_n (q := 1) (pc := 29) dX12_wrongKept_29 rfl rfl ?_
      refine gm_ld_kp (pc := 30) (j := d) (x := nI (kp d)) hA (by omega) rfl dX12_wrongKept_30 ?_
      refine g_iconst (v := nI 1) (pc := 31) dX12_wrongKept_31 (by decide) ?_
      refine g_icmp_ne_N (tgt := 39) (pc := 32) (by have := hs d hd; omega) (by omega) dX12_wrongKept_32 (by decide) (fun c3 => ?_) (fun c3 => ?_)
      · -- T c3
        refine g_bipush (v := (-12)) (pc := 39) dX12_wrongKept_39 (by decide) ?_
        exact g_iret (pc := 41) (by decide) (by decide) (eqI hPo (by first | (rw [spWK, if_neg (by simp [*])]; done) | (rw [spWK, if_pos (by assumption), dN_N (by omega)]; simp [*]))) dX12_wrongKept_41
      · -- F c3
        refine g_iconst (v := nI 0) (pc := 35) dX12_wrongKept_35 (by decide) ?_
        refine g_goto (tgt := 41) (pc := 36) dX12_wrongKept_36 (by decide) ?_
        exact g_iret (pc := 41) (by decide) (by decide) (eqI hPo (by first | (rw [spWK, if_neg (by simp [*])]; done) | (rw [spWK, if_pos (by assumption), dN_N (by omega)]; simp [*]))) dX12_wrongKept_41
    · -- F c2
      refine g_bipush (v := (-11)) (pc := 20) dX12_wrongKept_20 (by decide) ?_
      refine g_goto (tgt := 41) (pc := 22) dX12_wrongKept_22 (by decide) ?_
      exact g_iret (pc := 41) (by decide) (by decide) (eqI hPo (by first | (rw [spWK, if_neg (by simp [*])]; done) | (rw [spWK, if_pos (by assumption), dN_N (by omega)]; simp [*]))) dX12_wrongKept_41
  · -- F c1
    refine g_iconst (v := (-1)) (pc := 7) dX12_wrongKept_7 (by decide) ?_
    refine g_goto (tgt := 41) (pc := 8) dX12_wrongKept_8 (by decide) ?_
    exact g_iret (pc := 41) (by decide) (by decide) (eqI hPo (by first | (rw [spWK, if_neg (by simp [*])]; done) | (rw [spWK, if_pos (by assumption), dN_N (by omega)]; simp [*]))) dX12_wrongKept_41
theorem c_X12_wrongKept_ok {n : Nat} (hA : aB b0 18 ad) (hn : n < 8) (hk : kp n = 1) {VV V2 : HV} (q : KE l D Z b0 yX12_wrongKept cX12_wrongKept 2 (some .int) rmX12_wrongKept [.ref (ad 0), .int (nI n)] VV (some (.int (spWK kp (nI n)))) V2) : KE l D Z b0 yX12_wrongKept cX12_wrongKept 2 (some .int) rmX12_wrongKept [.ref (ad 0), .int (nI n)] VV (some (.int (nI 0))) V2 := by
  rw [spWK_ok hn hk] at q; exact q
theorem c_X12_wrongRow_ok {n : Nat} {v : Int32} {r : Option Nat} (hA : aB b0 18 ad) (hn : n < 8) (hk : kp n = 2) (hr : okSort r (so n) = true) {VV V2 : HV} (q : KE l D Z b0 yX12_wrongRow cX12_wrongRow 3 (some .int) rmX12_wrongRow [.ref (ad 0), .int (nI n), .int v] VV (some (.int (spWR kp so (nI n) r))) V2) : KE l D Z b0 yX12_wrongRow cX12_wrongRow 3 (some .int) rmX12_wrongRow [.ref (ad 0), .int (nI n), .int v] VV (some (.int (nI 0))) V2 := by
  rw [spWR_ok hn hk hr] at q; exact q
def rmX12_payBy : Room := { frames := 0, cells := 0, slots := 0, locals := 0 }
theorem c_X12_payBy {k f : Nat} (hA : aB b0 18 ad) (hk : k < 8) (hf : f < 10) : KE l D Z b0 yX12_payBy cX12_payBy 2 (some .int) rmX12_payBy [.int (nI k), .int (nI f)] (wM Z ad hi th po ba en se (enc kd fg pl hr) im rd mi (nf kp) (nf so) (nf sz) el ki kf ti lo wa nu li to ot V) (some (.int (payI k f))) (wM Z ad hi th po ba en se (enc kd fg pl hr) im rd mi (nf kp) (nf so) (nf sz) el ki kf ti lo wa nu li to ot V) := by
  refine KE.of (by decide) (Nat.le_of_ble_eq_true rfl) (fun Po hPo => ?_)
  refine G.locals (L' := [(0, .int (nI k)), (1, .int (nI f))]) [0, 1] rfl ?_
  refine g_iload_n (q := 0) (pc := 0) dX12_payBy_0 rfl rfl ?_
  by_cases k1 : k = 1
  · subst k1
    refine g_tableIn (tgt := 44) (off := 43) (pc := 1) dX12_payBy_1 (by decide) (by decide) (by decide) (by decide) ?_
    refine g_iconst (v := nI 3) (pc := 44) dX12_payBy_44 (by decide) ?_
    refine g_iload_n (q := 1) (pc := 45) dX12_payBy_45 rfl rfl ?_
    refine g_iadd_N (pc := 46) dX12_payBy_46 ?_
    exact g_iret (pc := 47) (by decide) (by decide) (eqI hPo (by first | rfl | (simp [payI, *]; done))) dX12_payBy_47
  by_cases k2 : k = 2
  · subst k2
    refine g_tableIn (tgt := 48) (off := 47) (pc := 1) dX12_payBy_1 (by decide) (by decide) (by decide) (by decide) ?_
    refine g_iconst (v := nI 2) (pc := 48) dX12_payBy_48 (by decide) ?_
    exact g_iret (pc := 49) (by decide) (by decide) (eqI hPo (by first | rfl | (simp [payI, *]; done))) dX12_payBy_49
  by_cases k3 : k = 3
  · subst k3
    refine g_tableIn (tgt := 50) (off := 49) (pc := 1) dX12_payBy_1 (by decide) (by decide) (by decide) (by decide) ?_
    refine g_iconst (v := nI 4) (pc := 50) dX12_payBy_50 (by decide) ?_
    exact g_iret (pc := 51) (by decide) (by decide) (eqI hPo (by first | rfl | (simp [payI, *]; done))) dX12_payBy_51
  by_cases k4 : k = 4
  · subst k4
    refine g_tableIn (tgt := 52) (off := 51) (pc := 1) dX12_payBy_1 (by decide) (by decide) (by decide) (by decide) ?_
    refine g_iconst (v := nI 3) (pc := 52) dX12_payBy_52 (by decide) ?_
    refine g_iload_n (q := 1) (pc := 53) dX12_payBy_53 rfl rfl ?_
    refine g_iadd_N (pc := 54) dX12_payBy_54 ?_
    refine g_iload_n (q := 1) (pc := 55) dX12_payBy_55 rfl rfl ?_
    refine g_iconst (v := nI 1) (pc := 56) dX12_payBy_56 (by decide) ?_
    refine g_iadd_N (pc := 57) dX12_payBy_57 ?_
    refine g_imul_N (pc := 58) dX12_payBy_58 ?_
    exact g_iret (pc := 59) (by decide) (by decide) (eqI hPo (by first | rfl | (simp [payI, *]; done))) dX12_payBy_59
  by_cases k5 : k = 5
  · subst k5
    refine g_tableIn (tgt := 67) (off := 66) (pc := 1) dX12_payBy_1 (by decide) (by decide) (by decide) (by decide) ?_
    refine g_iconst (v := nI 3) (pc := 67) dX12_payBy_67 (by decide) ?_
    exact g_iret (pc := 68) (by decide) (by decide) (eqI hPo (by first | rfl | (simp [payI, *]; done))) dX12_payBy_68
  by_cases k6 : k = 6
  · subst k6
    refine g_tableIn (tgt := 60) (off := 59) (pc := 1) dX12_payBy_1 (by decide) (by decide) (by decide) (by decide) ?_
    refine g_bipush (v := nI 7) (pc := 60) dX12_payBy_60 (by decide) ?_
    exact g_iret (pc := 62) (by decide) (by decide) (eqI hPo (by first | rfl | (simp [payI, *]; done))) dX12_payBy_62
  by_cases k7 : k = 7
  · subst k7
    refine g_tableIn (tgt := 63) (off := 62) (pc := 1) dX12_payBy_1 (by decide) (by decide) (by decide) (by decide) ?_
    refine g_iconst (v := nI 3) (pc := 63) dX12_payBy_63 (by decide) ?_
    refine g_iload_n (q := 1) (pc := 64) dX12_payBy_64 rfl rfl ?_
    refine g_isub (pc := 65) dX12_payBy_65 ?_
    exact g_iret (pc := 66) (by decide) (by decide) (eqI hPo (by first | rfl | (simp [payI, *]; done))) dX12_payBy_66
  refine g_tableOut (tgt := 67) (pc := 1) dX12_payBy_1 (by rw [nI_toInt (by omega)]; omega) (by decide) ?_
  refine g_iconst (v := nI 3) (pc := 67) dX12_payBy_67 (by decide) ?_
  exact g_iret (pc := 68) (by decide) (by decide) (eqI hPo (by first | rfl | (simp [payI, *]; done))) dX12_payBy_68
def rmX12_pay : Room := { frames := 3, cells := 0, slots := 0, locals := 66 }
theorem c_X12_pay_s {d k f : Nat} (hA : aB b0 18 ad) (hs : okS kp so sz ki kf) (hd : d < 8) (hk : kp d = 1) (hki : ki d = nI k) (hkf : kf d = nI f) (hk8 : k < 8) (hf10 : f < 10) : KE l D Z b0 yX12_pay cX12_pay 3 (some .int) rmX12_pay [.ref (ad 0), .int (nI d)] (wM Z ad hi th po ba en se (enc kd fg pl hr) im rd mi (nf kp) (nf so) (nf sz) el ki kf ti lo wa nu li to ot V) (some (.int (payI k f))) (wM Z ad hi th po ba en se (enc kd fg pl hr) im rd mi (nf kp) (nf so) (nf sz) el ki kf ti lo wa nu li to ot V) := by
  refine KE.of (by decide) (Nat.le_of_ble_eq_true rfl) (fun Po hPo => ?_)
  refine G.locals (L' := [(0, .ref (ad 0)), (1, .int (nI d))]) [0, 1] rfl ?_
  refine g_aload_n (q := 0) (pc := 0) dX12_pay_0 rfl rfl ?_
  refine g_iload_n (q := 1) (pc := 1) dX12_pay_1 rfl rfl ?_
  refine e_callV (k2 := 0) (n2 := 0) (As := [.int (nI d)]) (rest := []) (pc := 2) (wM_0 hA) rfl (c_X12_wrongKept_ok hA hd hk (c_X12_wrongKept hA hs)) mlX12_165 selX12_X12_wrongKept_X12_wrongKept mX12_wrongKept ⟨Nat.le_of_ble_eq_true rfl, Nat.le_of_ble_eq_true rfl⟩ rfl rfl (Nat.le_of_ble_eq_true rfl) dX12_pay_2 (by decide) rfl rfl ?_
  refine g_istore_n (lv' := [(2, .int (nI 0)), (0, .ref (ad 0)), (1, .int (nI d))]) (pc := 5) dX12_pay_5 rfl (by decide) rfl ?_
  refine g_iload_n (q := 0) (pc := 6) dX12_pay_6 rfl rfl ?_
  refine g_if_eq (tgt := 14) (pc := 7) dX12_pay_7 (by decide) (fun _ => ?_) (fun c0 => absurd c0 (by decide))
  refine g_aload_n (q := 1) (pc := 14) dX12_pay_14 rfl rfl ?_
  refine gm_get_ki (pc := 15) hA dX12_pay_15 ?_
  refine g_iload_n (q := 2) (pc := 18) dX12_pay_18 rfl rfl ?_
  refine gm_ld_ki (pc := 19) (j := d) (x := nI k) hA (by omega) hki dX12_pay_19 ?_
  refine g_aload_n (q := 1) (pc := 20) dX12_pay_20 rfl rfl ?_
  refine gm_get_kf (pc := 21) hA dX12_pay_21 ?_
  refine g_iload_n (q := 2) (pc := 24) dX12_pay_24 rfl rfl ?_
  refine gm_ld_kf (pc := 25) (j := d) (x := nI f) hA (by omega) hkf dX12_pay_25 ?_
  refine e_callS (k2 := 0) (n2 := 0) (As := [.int (nI k), .int (nI f)]) (rest := []) (pc := 26) (c_X12_payBy hA (by omega) (by omega)) mlX12_241 mX12_payBy ⟨Nat.le_of_ble_eq_true rfl, Nat.le_of_ble_eq_true rfl⟩ rfl rfl (Nat.le_of_ble_eq_true rfl) dX12_pay_26 (by decide) rfl rfl ?_
  exact g_iret (pc := 29) (by decide) (by decide) (hPo) dX12_pay_29
theorem c_X12_pay_n {d : Int32} (hA : aB b0 18 ad) (hs : okS kp so sz ki kf) (h : ¬ spWK kp d = 0) : KE l D Z b0 yX12_pay cX12_pay 3 (some .int) rmX12_pay [.ref (ad 0), .int d] (wM Z ad hi th po ba en se (enc kd fg pl hr) im rd mi (nf kp) (nf so) (nf sz) el ki kf ti lo wa nu li to ot V) (some (.int (spWK kp d))) (wM Z ad hi th po ba en se (enc kd fg pl hr) im rd mi (nf kp) (nf so) (nf sz) el ki kf ti lo wa nu li to ot V) := by
  refine KE.of (by decide) (Nat.le_of_ble_eq_true rfl) (fun Po hPo => ?_)
  refine G.locals (L' := [(0, .ref (ad 0)), (1, .int d)]) [0, 1] rfl ?_
  refine g_aload_n (q := 0) (pc := 0) dX12_pay_0 rfl rfl ?_
  refine g_iload_n (q := 1) (pc := 1) dX12_pay_1 rfl rfl ?_
  refine e_callV (k2 := 0) (n2 := 0) (As := [.int d]) (rest := []) (pc := 2) (wM_0 hA) rfl (c_X12_wrongKept hA hs) mlX12_165 selX12_X12_wrongKept_X12_wrongKept mX12_wrongKept ⟨Nat.le_of_ble_eq_true rfl, Nat.le_of_ble_eq_true rfl⟩ rfl rfl (Nat.le_of_ble_eq_true rfl) dX12_pay_2 (by decide) rfl rfl ?_
  refine g_istore_n (lv' := [(2, .int (spWK kp d)), (0, .ref (ad 0)), (1, .int d)]) (pc := 5) dX12_pay_5 rfl (by decide) rfl ?_
  refine g_iload_n (q := 0) (pc := 6) dX12_pay_6 rfl rfl ?_
  refine g_if_eq (tgt := 14) (pc := 7) dX12_pay_7 (by decide) (fun c1 => ?_) (fun c1 => ?_)
  · -- T c1
    exact absurd c1 h
  · -- F c1
    refine g_iload_n (q := 0) (pc := 10) dX12_pay_10 rfl rfl ?_
    refine g_goto (tgt := 29) (pc := 11) dX12_pay_11 (by decide) ?_
    exact g_iret (pc := 29) (by decide) (by decide) (hPo) dX12_pay_29
def rmX12_toss : Room := { frames := 3, cells := 0, slots := 0, locals := 66 }
theorem c_X12_toss_s {d k f : Nat} (hA : aB b0 18 ad) (hs : okS kp so sz ki kf) (hd : d < 8) (hk : kp d = 1) (hki : ki d = nI k) (hkf : kf d = nI f) (hk8 : k < 8) (hf10 : f < 10) : KE l D Z b0 yX12_toss cX12_toss 5 (some .int) rmX12_toss [.ref (ad 0), .int (nI d)] (wM Z ad hi th po ba en se (enc kd fg pl hr) im rd mi (nf kp) (nf so) (nf sz) el ki kf ti lo wa nu li to ot V) (some (.int (tossI k f))) (wM Z ad hi th po ba en se (enc kd fg pl hr) im rd mi (nf kp) (nf so) (nf sz) el ki kf ti lo wa nu li to ot V) := by
  refine KE.of (by decide) (Nat.le_of_ble_eq_true rfl) (fun Po hPo => ?_)
  refine G.locals (L' := [(0, .ref (ad 0)), (1, .int (nI d))]) [0, 1] rfl ?_
  refine g_aload_n (q := 0) (pc := 0) dX12_toss_0 rfl rfl ?_
  refine g_iload_n (q := 1) (pc := 1) dX12_toss_1 rfl rfl ?_
  refine e_callV (k2 := 0) (n2 := 0) (As := [.int (nI d)]) (rest := []) (pc := 2) (wM_0 hA) rfl (c_X12_wrongKept_ok hA hd hk (c_X12_wrongKept hA hs)) mlX12_165 selX12_X12_wrongKept_X12_wrongKept mX12_wrongKept ⟨Nat.le_of_ble_eq_true rfl, Nat.le_of_ble_eq_true rfl⟩ rfl rfl (Nat.le_of_ble_eq_true rfl) dX12_toss_2 (by decide) rfl rfl ?_
  refine g_istore_n (lv' := [(2, .int (nI 0)), (0, .ref (ad 0)), (1, .int (nI d))]) (pc := 5) dX12_toss_5 rfl (by decide) rfl ?_
  refine g_iload_n (q := 0) (pc := 6) dX12_toss_6 rfl rfl ?_
  refine g_if_eq (tgt := 12) (pc := 7) dX12_toss_7 (by decide) (fun _ => ?_) (fun c0 => absurd c0 (by decide))
  refine g_aload_n (q := 1) (pc := 12) dX12_toss_12 rfl rfl ?_
  refine gm_get_ki (pc := 13) hA dX12_toss_13 ?_
  refine g_iload_n (q := 2) (pc := 16) dX12_toss_16 rfl rfl ?_
  refine gm_ld_ki (pc := 17) (j := d) (x := nI k) hA (by omega) hki dX12_toss_17 ?_
  refine g_istore_n (lv' := [(3, .int (nI k)), (2, .int (nI 0)), (0, .ref (ad 0)), (1, .int (nI d))]) (pc := 18) dX12_toss_18 rfl (by decide) rfl ?_
  refine g_aload_n (q := 2) (pc := 19) dX12_toss_19 rfl rfl ?_
  refine gm_get_kf (pc := 20) hA dX12_toss_20 ?_
  refine g_iload_n (q := 3) (pc := 23) dX12_toss_23 rfl rfl ?_
  refine gm_ld_kf (pc := 24) (j := d) (x := nI f) hA (by omega) hkf dX12_toss_24 ?_
  refine g_istore (lv' := [(4, .int (nI f)), (3, .int (nI k)), (2, .int (nI 0)), (0, .ref (ad 0)), (1, .int (nI d))]) (pc := 25) dX12_toss_25 (by decide) rfl ?_
  refine g_iload_n (q := 1) (pc := 27) dX12_toss_27 rfl rfl ?_
  refine g_bipush (v := nI 7) (pc := 28) dX12_toss_28 (by decide) ?_
  refine g_icmp_eq_N (tgt := 38) (pc := 30) (by omega) (by omega) dX12_toss_30 (by decide) (fun c1 => ?_) (fun c1 => ?_)
  · -- T c1
    refine g_bipush (v := (-15)) (pc := 38) dX12_toss_38 (by decide) ?_
    refine g_goto (tgt := 76) (pc := 40) dX12_toss_40 (by decide) ?_
    exact g_iret (pc := 76) (by decide) (by decide) (eqI hPo (by simp [tossI, *] <;> (try omega))) dX12_toss_76
  · -- F c1
    refine g_iload (q := 0) (pc := 33) dX12_toss_33 rfl ?_
    refine g_if_ne_N (tgt := 43) (pc := 35) (by omega) dX12_toss_35 (by decide) (fun c2 => ?_) (fun c2 => ?_)
    · -- T c2
      refine g_iload_n (q := 1) (pc := 43) dX12_toss_43 rfl rfl ?_
      refine g_iconst (v := nI 3) (pc := 44) dX12_toss_44 (by decide) ?_
      refine g_icmp_ne_N (tgt := 56) (pc := 45) (by omega) (by omega) dX12_toss_45 (by decide) (fun c3 => ?_) (fun c3 => ?_)
      · -- T c3
        refine g_iload_n (q := 1) (pc := 56) dX12_toss_56 rfl rfl ?_
        refine g_iconst (v := nI 4) (pc := 57) dX12_toss_57 (by decide) ?_
        refine g_icmp_ne_N (tgt := 74) (pc := 58) (by omega) (by omega) dX12_toss_58 (by decide) (fun c4 => ?_) (fun c4 => ?_)
        · -- T c4
          refine g_iload (q := 0) (pc := 74) dX12_toss_74 rfl ?_
          exact g_iret (pc := 76) (by decide) (by decide) (eqI hPo (by simp [tossI, *] <;> (try omega))) dX12_toss_76
        · -- F c4
          refine g_sipush (v := nI 200) (pc := 61) dX12_toss_61 (by decide) ?_
          refine g_iload_n (q := 1) (pc := 64) dX12_toss_64 rfl rfl ?_
          refine g_iload (q := 0) (pc := 65) dX12_toss_65 rfl ?_
          refine e_callS (k2 := 0) (n2 := 0) (As := [.int (nI k), .int (nI f)]) (rest := [.int (nI 200)]) (pc := 67) (c_X12_payBy hA (by omega) (by omega)) mlX12_241 mX12_payBy ⟨Nat.le_of_ble_eq_true rfl, Nat.le_of_ble_eq_true rfl⟩ rfl rfl (Nat.le_of_ble_eq_true rfl) dX12_toss_67 (by decide) rfl rfl ?_
          refine g_iadd (pc := 70) dX12_toss_70 ?_
          refine g_goto (tgt := 76) (pc := 71) dX12_toss_71 (by decide) ?_
          exact g_iret (pc := 76) (by decide) (by decide) (eqI hPo (by simp [tossI, *] <;> (try omega))) dX12_toss_76
      · -- F c3
        refine g_bipush (v := nI 100) (pc := 48) dX12_toss_48 (by decide) ?_
        refine g_iload (q := 0) (pc := 50) dX12_toss_50 rfl ?_
        refine g_iadd_N (pc := 52) dX12_toss_52 ?_
        refine g_goto (tgt := 76) (pc := 53) dX12_toss_53 (by decide) ?_
        exact g_iret (pc := 76) (by decide) (by decide) (eqI hPo (by simp [tossI, *] <;> (try omega))) dX12_toss_76
    · -- F c2
      refine g_bipush (v := (-15)) (pc := 38) dX12_toss_38 (by decide) ?_
      refine g_goto (tgt := 76) (pc := 40) dX12_toss_40 (by decide) ?_
      exact g_iret (pc := 76) (by decide) (by decide) (eqI hPo (by simp [tossI, *] <;> (try omega))) dX12_toss_76
theorem c_X12_toss_n {d : Int32} (hA : aB b0 18 ad) (hs : okS kp so sz ki kf) (h : ¬ spWK kp d = 0) : KE l D Z b0 yX12_toss cX12_toss 5 (some .int) rmX12_toss [.ref (ad 0), .int d] (wM Z ad hi th po ba en se (enc kd fg pl hr) im rd mi (nf kp) (nf so) (nf sz) el ki kf ti lo wa nu li to ot V) (some (.int (spWK kp d))) (wM Z ad hi th po ba en se (enc kd fg pl hr) im rd mi (nf kp) (nf so) (nf sz) el ki kf ti lo wa nu li to ot V) := by
  refine KE.of (by decide) (Nat.le_of_ble_eq_true rfl) (fun Po hPo => ?_)
  refine G.locals (L' := [(0, .ref (ad 0)), (1, .int d)]) [0, 1] rfl ?_
  refine g_aload_n (q := 0) (pc := 0) dX12_toss_0 rfl rfl ?_
  refine g_iload_n (q := 1) (pc := 1) dX12_toss_1 rfl rfl ?_
  refine e_callV (k2 := 0) (n2 := 0) (As := [.int d]) (rest := []) (pc := 2) (wM_0 hA) rfl (c_X12_wrongKept hA hs) mlX12_165 selX12_X12_wrongKept_X12_wrongKept mX12_wrongKept ⟨Nat.le_of_ble_eq_true rfl, Nat.le_of_ble_eq_true rfl⟩ rfl rfl (Nat.le_of_ble_eq_true rfl) dX12_toss_2 (by decide) rfl rfl ?_
  refine g_istore_n (lv' := [(2, .int (spWK kp d)), (0, .ref (ad 0)), (1, .int d)]) (pc := 5) dX12_toss_5 rfl (by decide) rfl ?_
  refine g_iload_n (q := 0) (pc := 6) dX12_toss_6 rfl rfl ?_
  refine g_if_eq (tgt := 12) (pc := 7) dX12_toss_7 (by decide) (fun c1 => ?_) (fun c1 => ?_)
  · -- T c1
    exact absurd c1 h
  · -- F c1
    refine g_iload_n (q := 0) (pc := 10) dX12_toss_10 rfl rfl ?_
    exact g_iret (pc := 11) (by decide) (by decide) (hPo) dX12_toss_11
def rmX12_lay : Room := { frames := 3, cells := 0, slots := 0, locals := 66 }
theorem c_X12_lay_s {d c k f : Nat} (hA : aB b0 18 ad) (hs : okS kp so sz ki kf) (hd : d < 8) (hk : kp d = 1) (hki : ki d = nI k) (hkf : kf d = nI f) (hk8 : k < 8) (hf10 : f < 10) (hc : c < 20) : KE l D Z b0 yX12_lay cX12_lay 5 (some .int) rmX12_lay [.ref (ad 0), .int (nI d), .int (nI c)] (wM Z ad hi th po ba en se (enc kd fg pl hr) im rd mi (nf kp) (nf so) (nf sz) el ki kf ti lo wa nu li to ot V) (some (.int (nI (kd c)))) (wM Z ad hi th po ba en se (enc (updN kd c k) (updN fg c f) pl hr) im rd mi (nf kp) (nf so) (nf sz) el ki kf ti lo wa nu li to ot V) := by
  refine KE.of (by decide) (Nat.le_of_ble_eq_true rfl) (fun Po hPo => ?_)
  refine G.locals (L' := [(0, .ref (ad 0)), (1, .int (nI d)), (2, .int (nI c))]) [0, 1, 2] rfl ?_
  refine g_iload_n (q := 2) (pc := 0) dX12_lay_0 rfl rfl ?_
  refine e_callS (k2 := 0) (n2 := 0) (As := [.int (nI c)]) (rest := []) (pc := 1) (c_X12_isCellN hA (by omega) (c_X12_isCell hA)) mlX12_143 mX12_isCell ⟨Nat.le_of_ble_eq_true rfl, Nat.le_of_ble_eq_true rfl⟩ rfl rfl (Nat.le_of_ble_eq_true rfl) dX12_lay_1 (by decide) rfl rfl ?_
  refine g_if_ne_B (tgt := 11) (pc := 4) dX12_lay_4 (by decide) (fun c1 => ?_) (fun c1 => ?_)
  · -- T c1
    have c1 := of_decide_eq_true c1
    refine g_aload_n (q := 0) (pc := 11) dX12_lay_11 rfl rfl ?_
    refine g_iload_n (q := 1) (pc := 12) dX12_lay_12 rfl rfl ?_
    refine e_callV (k2 := 0) (n2 := 0) (As := [.int (nI d)]) (rest := []) (pc := 13) (wM_0 hA) rfl (c_X12_wrongKept_ok hA hd hk (c_X12_wrongKept hA hs)) mlX12_165 selX12_X12_wrongKept_X12_wrongKept mX12_wrongKept ⟨Nat.le_of_ble_eq_true rfl, Nat.le_of_ble_eq_true rfl⟩ rfl rfl (Nat.le_of_ble_eq_true rfl) dX12_lay_13 (by decide) rfl rfl ?_
    refine g_istore_n (lv' := [(3, .int (nI 0)), (0, .ref (ad 0)), (1, .int (nI d)), (2, .int (nI c))]) (pc := 16) dX12_lay_16 rfl (by decide) rfl ?_
    refine g_iload_n (q := 0) (pc := 17) dX12_lay_17 rfl rfl ?_
    refine g_if_eq (tgt := 23) (pc := 18) dX12_lay_18 (by decide) (fun _ => ?_) (fun c0 => absurd c0 (by decide))
    refine g_aload_n (q := 1) (pc := 23) dX12_lay_23 rfl rfl ?_
    refine g_iload_n (q := 3) (pc := 24) dX12_lay_24 rfl rfl ?_
    refine e_callV (k2 := 0) (n2 := 0) (As := [.int (nI c)]) (rest := []) (pc := 25) (wM_0 hA) rfl (c_X12_kind hA hc) mlX12_77 selX12_X12_kind_X12_kind mX12_kind ⟨Nat.le_of_ble_eq_true rfl, Nat.le_of_ble_eq_true rfl⟩ rfl rfl (Nat.le_of_ble_eq_true rfl) dX12_lay_25 (by decide) rfl rfl ?_
    refine g_istore (lv' := [(4, .int (nI (kd c))), (3, .int (nI 0)), (0, .ref (ad 0)), (1, .int (nI d)), (2, .int (nI c))]) (pc := 28) dX12_lay_28 (by decide) rfl ?_
    refine g_aload_n (q := 2) (pc := 30) dX12_lay_30 rfl rfl ?_
    refine g_iload_n (q := 4) (pc := 31) dX12_lay_31 rfl rfl ?_
    refine g_aload_n (q := 2) (pc := 32) dX12_lay_32 rfl rfl ?_
    refine gm_get_ki (pc := 33) hA dX12_lay_33 ?_
    refine g_iload_n (q := 3) (pc := 36) dX12_lay_36 rfl rfl ?_
    refine gm_ld_ki (pc := 37) (j := d) (x := nI k) hA (by omega) hki dX12_lay_37 ?_
    refine g_aload_n (q := 2) (pc := 38) dX12_lay_38 rfl rfl ?_
    refine gm_get_kf (pc := 39) hA dX12_lay_39 ?_
    refine g_iload_n (q := 3) (pc := 42) dX12_lay_42 rfl rfl ?_
    refine gm_ld_kf (pc := 43) (j := d) (x := nI f) hA (by omega) hkf dX12_lay_43 ?_
    refine e_callVv (k2 := 0) (n2 := 0) (As := [.int (nI c), .int (nI k), .int (nI f)]) (rest := []) (pc := 44) (wM_0 hA) rfl (c_X12_setCell hA hc) mlX12_103 selX12_X12_setCell_X12_setCell mX12_setCell ⟨Nat.le_of_ble_eq_true rfl, Nat.le_of_ble_eq_true rfl⟩ rfl rfl (Nat.le_of_ble_eq_true rfl) dX12_lay_44 (by decide) rfl rfl ?_
    refine g_iload (q := 0) (pc := 47) dX12_lay_47 rfl ?_
    exact g_iret (pc := 49) (by decide) (by decide) (hPo) dX12_lay_49
  · -- F c1
    exact absurd (of_decide_eq_false c1) (by omega)
theorem c_X12_lay_n {d c : Int32} (hA : aB b0 18 ad) (hs : okS kp so sz ki kf) (h : ¬ spLay kp d c = 0) : KE l D Z b0 yX12_lay cX12_lay 5 (some .int) rmX12_lay [.ref (ad 0), .int d, .int c] (wM Z ad hi th po ba en se (enc kd fg pl hr) im rd mi (nf kp) (nf so) (nf sz) el ki kf ti lo wa nu li to ot V) (some (.int (spLay kp d c))) (wM Z ad hi th po ba en se (enc kd fg pl hr) im rd mi (nf kp) (nf so) (nf sz) el ki kf ti lo wa nu li to ot V) := by
  refine KE.of (by decide) (Nat.le_of_ble_eq_true rfl) (fun Po hPo => ?_)
  refine G.locals (L' := [(0, .ref (ad 0)), (1, .int d), (2, .int c)]) [0, 1, 2] rfl ?_
  refine g_iload_n (q := 2) (pc := 0) dX12_lay_0 rfl rfl ?_
  refine e_callS (k2 := 0) (n2 := 0) (As := [.int c]) (rest := []) (pc := 1) (c_X12_isCell hA) mlX12_143 mX12_isCell ⟨Nat.le_of_ble_eq_true rfl, Nat.le_of_ble_eq_true rfl⟩ rfl rfl (Nat.le_of_ble_eq_true rfl) dX12_lay_1 (by decide) rfl rfl ?_
  refine g_if_ne_B (tgt := 11) (pc := 4) dX12_lay_4 (by decide) (fun c1 => ?_) (fun c1 => ?_)
  · -- T c1
    obtain ⟨c, hc, rfl⟩ := inR_t c1
    refine g_aload_n (q := 0) (pc := 11) dX12_lay_11 rfl rfl ?_
    refine g_iload_n (q := 1) (pc := 12) dX12_lay_12 rfl rfl ?_
    refine e_callV (k2 := 0) (n2 := 0) (As := [.int d]) (rest := []) (pc := 13) (wM_0 hA) rfl (c_X12_wrongKept hA hs) mlX12_165 selX12_X12_wrongKept_X12_wrongKept mX12_wrongKept ⟨Nat.le_of_ble_eq_true rfl, Nat.le_of_ble_eq_true rfl⟩ rfl rfl (Nat.le_of_ble_eq_true rfl) dX12_lay_13 (by decide) rfl rfl ?_
    refine g_istore_n (lv' := [(3, .int (spWK kp d)), (0, .ref (ad 0)), (1, .int d), (2, .int (nI c))]) (pc := 16) dX12_lay_16 rfl (by decide) rfl ?_
    refine g_iload_n (q := 0) (pc := 17) dX12_lay_17 rfl rfl ?_
    refine g_if_eq (tgt := 23) (pc := 18) dX12_lay_18 (by decide) (fun c2 => ?_) (fun c2 => ?_)
    · -- T c2
      exact absurd (by simp [spLay, *]) h
    · -- F c2
      refine g_iload_n (q := 0) (pc := 21) dX12_lay_21 rfl rfl ?_
      exact g_iret (pc := 22) (by decide) (by decide) (eqI hPo (by simp [spLay, *])) dX12_lay_22
  · -- F c1
    refine g_iconst (v := (-1)) (pc := 7) dX12_lay_7 (by decide) ?_
    refine g_goto (tgt := 16) (pc := 8) dX12_lay_8 (by decide) ?_
    refine g_istore_n (lv' := [(3, .int (-1)), (0, .ref (ad 0)), (1, .int d), (2, .int c)]) (pc := 16) dX12_lay_16 rfl (by decide) rfl ?_
    refine g_iload_n (q := 0) (pc := 17) dX12_lay_17 rfl rfl ?_
    refine g_if_eq (tgt := 23) (pc := 18) dX12_lay_18 (by decide) (fun c0 => absurd c0 (by decide)) (fun _ => ?_)
    refine g_iload_n (q := 0) (pc := 21) dX12_lay_21 rfl rfl ?_
    exact g_iret (pc := 22) (by decide) (by decide) (eqI hPo (by simp [spLay, *])) dX12_lay_22
def rmX12_keep : Room := { frames := 2, cells := 0, slots := 0, locals := 45 }
theorem c_X12_keep_0 {d : Nat} {k f : Int32} (hA : aB b0 18 ad) (hd : d < 8) : KE l D Z b0 yX12_keep cX12_keep 5 (some .int) rmX12_keep [.ref (ad 0), .int (nI d), .int (nI 0), .int k, .int f] (wM Z ad hi th po ba en se (enc kd fg pl hr) im rd mi (nf kp) (nf so) (nf sz) el ki kf ti lo wa nu li to ot V) (some (.int (nI 0))) (wM Z ad hi th po ba en se (enc kd fg pl hr) im rd mi (nf (updN kp d 0)) (nf so) (nf sz) el (upd ki d k) (upd kf d f) ti lo wa nu li to ot V) := by
  refine KE.of (by decide) (Nat.le_of_ble_eq_true rfl) (fun Po hPo => ?_)
  refine G.locals (L' := [(0, .ref (ad 0)), (1, .int (nI d)), (2, .int (nI 0)), (3, .int k), (4, .int f)]) [0, 1, 2, 3, 4] rfl ?_
  refine g_iload_n (q := 1) (pc := 0) dX12_keep_0 rfl rfl ?_
  refine e_callS (k2 := 0) (n2 := 0) (As := [.int (nI d)]) (rest := []) (pc := 1) (c_X12_isShelfN hA (by omega) (c_X12_isShelf hA)) mlX12_152 mX12_isShelf ⟨Nat.le_of_ble_eq_true rfl, Nat.le_of_ble_eq_true rfl⟩ rfl rfl (Nat.le_of_ble_eq_true rfl) dX12_keep_1 (by decide) rfl rfl ?_
  refine g_if_eq_B (tgt := 47) (pc := 4) dX12_keep_4 (by decide) (fun c1 => ?_) (fun c1 => ?_)
  · -- T c1
    exact absurd (of_decide_eq_false c1) (by omega)
  · -- F c1
    have c1 := of_decide_eq_true c1
    refine g_iload_n (q := 2) (pc := 7) dX12_keep_7 rfl rfl ?_
    refine g_i2l (v := lN 0) (pc := 8) dX12_keep_8 (nI_l (by omega)) ?_
    refine g_lconst (v := lN 0) (pc := 9) dX12_keep_9 (by decide) ?_
    refine g_lconst (v := lN 1) (pc := 10) dX12_keep_10 (by decide) ?_
    refine e_callS (k2 := 0) (n2 := 0) (As := [.long (lN 0), .long (lN 0), .long (lN 1)]) (rest := []) (pc := 11) (c_X12_isInN hA (by omega) (by decide) (by decide) (c_X12_isIn hA)) mlX12_67 mX12_isIn ⟨Nat.le_of_ble_eq_true rfl, Nat.le_of_ble_eq_true rfl⟩ rfl rfl (Nat.le_of_ble_eq_true rfl) dX12_keep_11 (by decide) rfl rfl ?_
    refine g_if_eq_B (tgt := 47) (pc := 14) dX12_keep_14 (by decide) (fun c2 => ?_) (fun c2 => ?_)
    · -- T c2
      exact absurd (of_decide_eq_false c2) (by decide)
    · -- F c2
      have c2 := of_decide_eq_true c2
      refine g_iload_n (q := 2) (pc := 17) dX12_keep_17 rfl rfl ?_
      refine g_iconst (v := nI 1) (pc := 18) dX12_keep_18 (by decide) ?_
      refine g_icmp_ne_N (tgt := 49) (pc := 19) (by decide) (by decide) dX12_keep_19 (by decide) (fun _ => ?_) (fun c0 => absurd c0 (by decide))
      refine g_aload_n (q := 0) (pc := 49) dX12_keep_49 rfl rfl ?_
      refine gm_get_kp (pc := 50) hA dX12_keep_50 ?_
      refine g_iload_n (q := 1) (pc := 53) dX12_keep_53 rfl rfl ?_
      refine g_iload_n (q := 2) (pc := 54) dX12_keep_54 rfl rfl ?_
      refine gm_st_kp (pc := 55) (j := d) (f' := (nf (updN kp d 0))) hA (by omega) (upd_nf _ _ _) dX12_keep_55 ?_
      refine g_aload_n (q := 0) (pc := 56) dX12_keep_56 rfl rfl ?_
      refine gm_get_ki (pc := 57) hA dX12_keep_57 ?_
      refine g_iload_n (q := 1) (pc := 60) dX12_keep_60 rfl rfl ?_
      refine g_iload_n (q := 3) (pc := 61) dX12_keep_61 rfl rfl ?_
      refine gm_st_ki (pc := 62) (j := d) (f' := (upd ki d k)) hA (by omega) rfl dX12_keep_62 ?_
      refine g_aload_n (q := 0) (pc := 63) dX12_keep_63 rfl rfl ?_
      refine gm_get_kf (pc := 64) hA dX12_keep_64 ?_
      refine g_iload_n (q := 1) (pc := 67) dX12_keep_67 rfl rfl ?_
      refine g_iload (q := 4) (pc := 68) dX12_keep_68 rfl ?_
      refine gm_st_kf (pc := 70) (j := d) (f' := (upd kf d f)) hA (by omega) rfl dX12_keep_70 ?_
      refine g_iconst (v := nI 0) (pc := 71) dX12_keep_71 (by decide) ?_
      exact g_iret (pc := 72) (by decide) (by decide) (hPo) dX12_keep_72
theorem c_X12_keep_1 {d k f : Nat} (hA : aB b0 18 ad) (hd : d < 8) (hk8 : k < 8) (hf10 : f < 10) : KE l D Z b0 yX12_keep cX12_keep 5 (some .int) rmX12_keep [.ref (ad 0), .int (nI d), .int (nI 1), .int (nI k), .int (nI f)] (wM Z ad hi th po ba en se (enc kd fg pl hr) im rd mi (nf kp) (nf so) (nf sz) el ki kf ti lo wa nu li to ot V) (some (.int (nI 0))) (wM Z ad hi th po ba en se (enc kd fg pl hr) im rd mi (nf (updN kp d 1)) (nf so) (nf sz) el (upd ki d (nI k)) (upd kf d (nI f)) ti lo wa nu li to ot V) := by
  refine KE.of (by decide) (Nat.le_of_ble_eq_true rfl) (fun Po hPo => ?_)
  refine G.locals (L' := [(0, .ref (ad 0)), (1, .int (nI d)), (2, .int (nI 1)), (3, .int (nI k)), (4, .int (nI f))]) [0, 1, 2, 3, 4] rfl ?_
  refine g_iload_n (q := 1) (pc := 0) dX12_keep_0 rfl rfl ?_
  refine e_callS (k2 := 0) (n2 := 0) (As := [.int (nI d)]) (rest := []) (pc := 1) (c_X12_isShelfN hA (by omega) (c_X12_isShelf hA)) mlX12_152 mX12_isShelf ⟨Nat.le_of_ble_eq_true rfl, Nat.le_of_ble_eq_true rfl⟩ rfl rfl (Nat.le_of_ble_eq_true rfl) dX12_keep_1 (by decide) rfl rfl ?_
  refine g_if_eq_B (tgt := 47) (pc := 4) dX12_keep_4 (by decide) (fun c1 => ?_) (fun c1 => ?_)
  · -- T c1
    exact absurd (of_decide_eq_false c1) (by omega)
  · -- F c1
    have c1 := of_decide_eq_true c1
    refine g_iload_n (q := 2) (pc := 7) dX12_keep_7 rfl rfl ?_
    refine g_i2l (v := lN 1) (pc := 8) dX12_keep_8 (nI_l (by omega)) ?_
    refine g_lconst (v := lN 0) (pc := 9) dX12_keep_9 (by decide) ?_
    refine g_lconst (v := lN 1) (pc := 10) dX12_keep_10 (by decide) ?_
    refine e_callS (k2 := 0) (n2 := 0) (As := [.long (lN 1), .long (lN 0), .long (lN 1)]) (rest := []) (pc := 11) (c_X12_isInN hA (by omega) (by decide) (by decide) (c_X12_isIn hA)) mlX12_67 mX12_isIn ⟨Nat.le_of_ble_eq_true rfl, Nat.le_of_ble_eq_true rfl⟩ rfl rfl (Nat.le_of_ble_eq_true rfl) dX12_keep_11 (by decide) rfl rfl ?_
    refine g_if_eq_B (tgt := 47) (pc := 14) dX12_keep_14 (by decide) (fun c2 => ?_) (fun c2 => ?_)
    · -- T c2
      exact absurd (of_decide_eq_false c2) (by decide)
    · -- F c2
      have c2 := of_decide_eq_true c2
      refine g_iload_n (q := 2) (pc := 17) dX12_keep_17 rfl rfl ?_
      refine g_iconst (v := nI 1) (pc := 18) dX12_keep_18 (by decide) ?_
      refine g_icmp_ne_N (tgt := 49) (pc := 19) (by decide) (by decide) dX12_keep_19 (by decide) (fun c0 => absurd c0 (by decide)) (fun _ => ?_)
      refine g_iload_n (q := 3) (pc := 22) dX12_keep_22 rfl rfl ?_
      refine g_i2l (v := lN k) (pc := 23) dX12_keep_23 (nI_l (by omega)) ?_
      refine g_lconst (v := lN 0) (pc := 24) dX12_keep_24 (by decide) ?_
      refine g_ldc2 (v := lN 7) (pc := 25) klX12_65 dX12_keep_25 ?_
      refine e_callS (k2 := 0) (n2 := 0) (As := [.long (lN k), .long (lN 0), .long (lN 7)]) (rest := []) (pc := 28) (c_X12_isInN hA (by omega) (by decide) (by decide) (c_X12_isIn hA)) mlX12_67 mX12_isIn ⟨Nat.le_of_ble_eq_true rfl, Nat.le_of_ble_eq_true rfl⟩ rfl rfl (Nat.le_of_ble_eq_true rfl) dX12_keep_28 (by decide) rfl rfl ?_
      refine g_if_eq_B (tgt := 47) (pc := 31) dX12_keep_31 (by decide) (fun c3 => ?_) (fun c3 => ?_)
      · -- T c3
        exact absurd (of_decide_eq_false c3) (by omega)
      · -- F c3
        have c3 := of_decide_eq_true c3
        refine g_iload (q := 4) (pc := 34) dX12_keep_34 rfl ?_
        refine g_i2l (v := lN f) (pc := 36) dX12_keep_36 (nI_l (by omega)) ?_
        refine g_lconst (v := lN 0) (pc := 37) dX12_keep_37 (by decide) ?_
        refine g_ldc2 (v := lN 9) (pc := 38) klX12_190 dX12_keep_38 ?_
        refine e_callS (k2 := 0) (n2 := 0) (As := [.long (lN f), .long (lN 0), .long (lN 9)]) (rest := []) (pc := 41) (c_X12_isInN hA (by omega) (by decide) (by decide) (c_X12_isIn hA)) mlX12_67 mX12_isIn ⟨Nat.le_of_ble_eq_true rfl, Nat.le_of_ble_eq_true rfl⟩ rfl rfl (Nat.le_of_ble_eq_true rfl) dX12_keep_41 (by decide) rfl rfl ?_
        refine g_if_ne_B (tgt := 49) (pc := 44) dX12_keep_44 (by decide) (fun c4 => ?_) (fun c4 => ?_)
        · -- T c4
          have c4 := of_decide_eq_true c4
          refine g_aload_n (q := 0) (pc := 49) dX12_keep_49 rfl rfl ?_
          refine gm_get_kp (pc := 50) hA dX12_keep_50 ?_
          refine g_iload_n (q := 1) (pc := 53) dX12_keep_53 rfl rfl ?_
          refine g_iload_n (q := 2) (pc := 54) dX12_keep_54 rfl rfl ?_
          refine gm_st_kp (pc := 55) (j := d) (f' := (nf (updN kp d 1))) hA (by omega) (upd_nf _ _ _) dX12_keep_55 ?_
          refine g_aload_n (q := 0) (pc := 56) dX12_keep_56 rfl rfl ?_
          refine gm_get_ki (pc := 57) hA dX12_keep_57 ?_
          refine g_iload_n (q := 1) (pc := 60) dX12_keep_60 rfl rfl ?_
          refine g_iload_n (q := 3) (pc := 61) dX12_keep_61 rfl rfl ?_
          refine gm_st_ki (pc := 62) (j := d) (f' := (upd ki d (nI k))) hA (by omega) rfl dX12_keep_62 ?_
          refine g_aload_n (q := 0) (pc := 63) dX12_keep_63 rfl rfl ?_
          refine gm_get_kf (pc := 64) hA dX12_keep_64 ?_
          refine g_iload_n (q := 1) (pc := 67) dX12_keep_67 rfl rfl ?_
          refine g_iload (q := 4) (pc := 68) dX12_keep_68 rfl ?_
          refine gm_st_kf (pc := 70) (j := d) (f' := (upd kf d (nI f))) hA (by omega) rfl dX12_keep_70 ?_
          refine g_iconst (v := nI 0) (pc := 71) dX12_keep_71 (by decide) ?_
          exact g_iret (pc := 72) (by decide) (by decide) (hPo) dX12_keep_72
        · -- F c4
          exact absurd (of_decide_eq_false c4) (by omega)
theorem c_X12_keep_n {d what k f : Int32} (hA : aB b0 18 ad) (h : spKeep d what k f = false) : KE l D Z b0 yX12_keep cX12_keep 5 (some .int) rmX12_keep [.ref (ad 0), .int d, .int what, .int k, .int f] (wM Z ad hi th po ba en se (enc kd fg pl hr) im rd mi (nf kp) (nf so) (nf sz) el ki kf ti lo wa nu li to ot V) (some (.int (-1))) (wM Z ad hi th po ba en se (enc kd fg pl hr) im rd mi (nf kp) (nf so) (nf sz) el ki kf ti lo wa nu li to ot V) := by
  refine KE.of (by decide) (Nat.le_of_ble_eq_true rfl) (fun Po hPo => ?_)
  refine G.locals (L' := [(0, .ref (ad 0)), (1, .int d), (2, .int what), (3, .int k), (4, .int f)]) [0, 1, 2, 3, 4] rfl ?_
  refine g_iload_n (q := 1) (pc := 0) dX12_keep_0 rfl rfl ?_
  refine e_callS (k2 := 0) (n2 := 0) (As := [.int d]) (rest := []) (pc := 1) (c_X12_isShelf hA) mlX12_152 mX12_isShelf ⟨Nat.le_of_ble_eq_true rfl, Nat.le_of_ble_eq_true rfl⟩ rfl rfl (Nat.le_of_ble_eq_true rfl) dX12_keep_1 (by decide) rfl rfl ?_
  refine g_if_eq_B (tgt := 47) (pc := 4) dX12_keep_4 (by decide) (fun c1 => ?_) (fun c1 => ?_)
  · -- T c1
    refine g_iconst (v := (-1)) (pc := 47) dX12_keep_47 (by decide) ?_
    exact g_iret (pc := 48) (by decide) (by decide) (hPo) dX12_keep_48
  · -- F c1
    obtain ⟨d, hd, rfl⟩ := inR_t c1
    refine g_iload_n (q := 2) (pc := 7) dX12_keep_7 rfl rfl ?_
    refine g_i2l (v := (what).toInt64) (pc := 8) dX12_keep_8 rfl ?_
    refine g_lconst (v := lN 0) (pc := 9) dX12_keep_9 (by decide) ?_
    refine g_lconst (v := lN 1) (pc := 10) dX12_keep_10 (by decide) ?_
    refine e_callS (k2 := 0) (n2 := 0) (As := [.long ((what).toInt64), .long (lN 0), .long (lN 1)]) (rest := []) (pc := 11) (c_X12_isInR 2 rfl hA (by decide) (c_X12_isIn hA)) mlX12_67 mX12_isIn ⟨Nat.le_of_ble_eq_true rfl, Nat.le_of_ble_eq_true rfl⟩ rfl rfl (Nat.le_of_ble_eq_true rfl) dX12_keep_11 (by decide) rfl rfl ?_
    refine g_if_eq_B (tgt := 47) (pc := 14) dX12_keep_14 (by decide) (fun c2 => ?_) (fun c2 => ?_)
    · -- T c2
      refine g_iconst (v := (-1)) (pc := 47) dX12_keep_47 (by decide) ?_
      exact g_iret (pc := 48) (by decide) (by decide) (hPo) dX12_keep_48
    · -- F c2
      obtain ⟨what, hwhat, rfl⟩ := inR_t c2
      refine g_iload_n (q := 2) (pc := 17) dX12_keep_17 rfl rfl ?_
      refine g_iconst (v := nI 1) (pc := 18) dX12_keep_18 (by decide) ?_
      refine g_icmp_ne_N (tgt := 49) (pc := 19) (by omega) (by omega) dX12_keep_19 (by decide) (fun c3 => ?_) (fun c3 => ?_)
      · -- T c3
        exact absurd h (by simp [spKeep, dN_N (show what < 2147483648 by omega), *])
      · -- F c3
        refine g_iload_n (q := 3) (pc := 22) dX12_keep_22 rfl rfl ?_
        refine g_i2l (v := (k).toInt64) (pc := 23) dX12_keep_23 rfl ?_
        refine g_lconst (v := lN 0) (pc := 24) dX12_keep_24 (by decide) ?_
        refine g_ldc2 (v := lN 7) (pc := 25) klX12_65 dX12_keep_25 ?_
        refine e_callS (k2 := 0) (n2 := 0) (As := [.long ((k).toInt64), .long (lN 0), .long (lN 7)]) (rest := []) (pc := 28) (c_X12_isInR 8 rfl hA (by decide) (c_X12_isIn hA)) mlX12_67 mX12_isIn ⟨Nat.le_of_ble_eq_true rfl, Nat.le_of_ble_eq_true rfl⟩ rfl rfl (Nat.le_of_ble_eq_true rfl) dX12_keep_28 (by decide) rfl rfl ?_
        refine g_if_eq_B (tgt := 47) (pc := 31) dX12_keep_31 (by decide) (fun c4 => ?_) (fun c4 => ?_)
        · -- T c4
          refine g_iconst (v := (-1)) (pc := 47) dX12_keep_47 (by decide) ?_
          exact g_iret (pc := 48) (by decide) (by decide) (hPo) dX12_keep_48
        · -- F c4
          obtain ⟨k, hk, rfl⟩ := inR_t c4
          refine g_iload (q := 4) (pc := 34) dX12_keep_34 rfl ?_
          refine g_i2l (v := (f).toInt64) (pc := 36) dX12_keep_36 rfl ?_
          refine g_lconst (v := lN 0) (pc := 37) dX12_keep_37 (by decide) ?_
          refine g_ldc2 (v := lN 9) (pc := 38) klX12_190 dX12_keep_38 ?_
          refine e_callS (k2 := 0) (n2 := 0) (As := [.long ((f).toInt64), .long (lN 0), .long (lN 9)]) (rest := []) (pc := 41) (c_X12_isInR 10 rfl hA (by decide) (c_X12_isIn hA)) mlX12_67 mX12_isIn ⟨Nat.le_of_ble_eq_true rfl, Nat.le_of_ble_eq_true rfl⟩ rfl rfl (Nat.le_of_ble_eq_true rfl) dX12_keep_41 (by decide) rfl rfl ?_
          refine g_if_ne_B (tgt := 49) (pc := 44) dX12_keep_44 (by decide) (fun c5 => ?_) (fun c5 => ?_)
          · -- T c5
            obtain rfl : what = 1 := (by omega)
            exact absurd h (by simp [spKeep, *])
          · -- F c5
            refine g_iconst (v := (-1)) (pc := 47) dX12_keep_47 (by decide) ?_
            exact g_iret (pc := 48) (by decide) (by decide) (hPo) dX12_keep_48
end MS
