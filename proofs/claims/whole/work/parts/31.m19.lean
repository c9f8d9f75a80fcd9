section MS
variable {l : Launch} {D : va_G} {Z : Nat → ClassId} {b0 : Nat} {V : HV}
theorem inR_1 {x : Int32} {n : Nat} (hn : n < 2147483648) (h1 : ¬ x < 0) (h2 : ¬ nI n ≤ x) : nI 1 = bI (inR x n) := by
  rw [Int32.lt_iff_toInt_lt] at h1; rw [Int32.le_iff_toInt_le, nI_toInt (by omega)] at h2
  have : inR x n = true := decide_eq_true ⟨by have : (0 : Int32).toInt = 0 := by decide
                                              omega, by omega⟩
  rw [this]; rfl
theorem inR_0a {x : Int32} {n : Nat} (h1 : x < 0) : nI 0 = bI (inR x n) := by
  rw [Int32.lt_iff_toInt_lt] at h1
  have h0 : (0 : Int32).toInt = 0 := by decide
  have : inR x n = false := decide_eq_false (by omega)
  rw [this]; rfl
theorem inR_0b {x : Int32} {n : Nat} (hn : n < 2147483648) (h2 : nI n ≤ x) : nI 0 = bI (inR x n) := by
  rw [Int32.le_iff_toInt_le, nI_toInt (by omega)] at h2
  have : inR x n = false := decide_eq_false (by omega)
  rw [this]; rfl
def nbI (c s : Nat) : Int32 := match nbo c s with
  | none => (-1)
  | some t => nI t
theorem nbI_n {c s : Nat} (h : nbo c s = none) : nbI c s = (-1) := by unfold nbI; rw [h]
theorem nbI_s {c s t : Nat} (h : nbo c s = some t) : nbI c s = nI t := by unfold nbI; rw [h]
theorem nbI_eq {c s b : Nat} (hc : c < 20) (hb : b < 20) : nbI c s = nI b ↔ nbo c s = some b := by
  cases h : nbo c s with
  | none => rw [nbI_n h]; exact ⟨fun q => absurd (congrArg Int32.toInt q) (by rw [nI_toInt (by omega), show (-1 : Int32).toInt = -1 from by decide]; intro q; omega), fun q => by cases q⟩
  | some t => rw [nbI_s h]; have := nbo_lt hc h; exact ⟨fun q => by rw [nI_inj (by omega) (by omega) q], fun q => by cases q; rfl⟩
theorem nI_m1 {n : Nat} (h : n < 2147483648) : ¬ nI n = (-1) := fun q => by
  have := congrArg Int32.toInt q
  rw [nI_toInt (by omega), show (-1 : Int32).toInt = -1 from by decide] at this; omega
def rmX11_isBelow : Room := { frames := 0, cells := 0, slots := 0, locals := 0 }
set_option maxHeartbeats 8000000 in
theorem c_X11_isBelow {x : Int32} {n : Nat} (hn : n < 2147483648) : KE l D Z b0 yX11_isBelow cX11_isBelow 2 (some .boolean) rmX11_isBelow [.int x, .int (nI n)] (V) (some (.int (bI (inR x n)))) (V) := by
  refine KE.of (by decide) (Nat.le_of_ble_eq_true rfl) (fun Po hPo => ?_)
  refine G.locals (L' := [(0, .int x), (1, .int (nI n))]) [0, 1] rfl ?_
  refine g_iload_n (q := 0) (pc := 0) dX11_isBelow_0 rfl rfl ?_
  refine g_if_lt (tgt := 13) (pc := 1) dX11_isBelow_1 (by decide) (fun c1 => ?_) (fun c1 => ?_)
  · -- T c1
    refine g_iconst (v := nI 0) (pc := 13) dX11_isBelow_13 (by decide) ?_
    refine g_top (x := nI 0) (y := bI (inR x n)) (by first | exact inR_1 hn (by assumption) (by assumption) | exact inR_0a (by assumption) | exact inR_0b hn (by assumption)) ?_
    exact g_zret (pc := 14) (nar_bI _) (by decide) (by decide) (hPo) dX11_isBelow_14
  · -- F c1
    refine g_iload_n (q := 0) (pc := 4) dX11_isBelow_4 rfl rfl ?_
    refine g_iload_n (q := 1) (pc := 5) dX11_isBelow_5 rfl rfl ?_
    refine g_icmp_ge (tgt := 13) (pc := 6) dX11_isBelow_6 (by decide) (fun c2 => ?_) (fun c2 => ?_)
    · -- T c2
      refine g_iconst (v := nI 0) (pc := 13) dX11_isBelow_13 (by decide) ?_
      refine g_top (x := nI 0) (y := bI (inR x n)) (by first | exact inR_1 hn (by assumption) (by assumption) | exact inR_0a (by assumption) | exact inR_0b hn (by assumption)) ?_
      exact g_zret (pc := 14) (nar_bI _) (by decide) (by decide) (hPo) dX11_isBelow_14
    · -- F c2
      refine g_iconst (v := nI 1) (pc := 9) dX11_isBelow_9 (by decide) ?_
      refine g_goto (tgt := 14) (pc := 10) dX11_isBelow_10 (by decide) ?_
      refine g_top (x := nI 1) (y := bI (inR x n)) (by first | exact inR_1 hn (by assumption) (by assumption) | exact inR_0a (by assumption) | exact inR_0b hn (by assumption)) ?_
      exact g_zret (pc := 14) (nar_bI _) (by decide) (by decide) (hPo) dX11_isBelow_14
theorem c_X11_isBelowN {j n : Nat} (hn : n < 2147483648) (hj : j < 2147483648) : KE l D Z b0 yX11_isBelow cX11_isBelow 2 (some .boolean) rmX11_isBelow [.int (nI j), .int (nI n)] V (some (.int (bI (decide (j < n))))) V := by
  have h := c_X11_isBelow (l := l) (D := D) (Z := Z) (b0 := b0) (V := V) (x := nI j) hn
  rw [inR_N hj] at h; exact h
def rmX11_neighbour : Room := { frames := 0, cells := 0, slots := 0, locals := 0 }
set_option maxHeartbeats 8000000 in
theorem c_X11_neighbour {c s1 : Nat} (hc : c < 20) (hs : s1 < 4) : KE l D Z b0 yX11_neighbour cX11_neighbour 4 (some .int) rmX11_neighbour [.int (nI c), .int (nI s1)] (V) (some (.int (nbI c s1))) (V) := by
  refine KE.of (by decide) (Nat.le_of_ble_eq_true rfl) (fun Po hPo => ?_)
  refine G.locals (L' := [(0, .int (nI c)), (1, .int (nI s1))]) [0, 1] rfl ?_
  refine g_iload_n (q := 0) (pc := 0) dX11_neighbour_0 rfl rfl ?_
  refine g_iconst (v := nI 5) (pc := 1) dX11_neighbour_1 (by decide) ?_
  refine g_irem_N (pc := 2) (by omega) (by decide) (by decide) dX11_neighbour_2 ?_
  refine g_istore_n (lv' := [(2, .int (nI (c % 5))), (0, .int (nI c)), (1, .int (nI s1))]) (pc := 3) dX11_neighbour_3 rfl (by decide) rfl ?_
  refine g_iload_n (q := 1) (pc := 4) dX11_neighbour_4 rfl rfl ?_
  refine g_iconst (v := nI 5) (pc := 5) dX11_neighbour_5 (by decide) ?_
  refine g_idiv_N (pc := 6) (by omega) (by decide) (by decide) dX11_neighbour_6 ?_
  refine g_istore_n (lv' := [(3, .int (nI (c / 5))), (2, .int (nI (c % 5))), (0, .int (nI c)), (1, .int (nI s1))]) (pc := 7) dX11_neighbour_7 rfl (by decide) rfl ?_
  refine g_iload_n (q := 3) (pc := 8) dX11_neighbour_8 rfl rfl ?_
  by_cases k1 : s1 = 0
  · subst k1
    refine g_tableIn (tgt := 40) (off := 31) (pc := 9) dX11_neighbour_9 (by decide) (by decide) (by decide) (by decide) ?_
    refine g_iload_n (q := 0) (pc := 40) dX11_neighbour_40 rfl rfl ?_
    refine g_if_le_N (tgt := 50) (pc := 41) (by omega) dX11_neighbour_41 (by decide) (fun c2 => ?_) (fun c2 => ?_)
    · -- T c2
      refine g_iconst (v := (-1)) (pc := 50) dX11_neighbour_50 (by decide) ?_
      exact g_iret (pc := 51) (by decide) (by decide) (eqI hPo (nbI_n (by simp [nbo, *] <;> omega))) dX11_neighbour_51
    · -- F c2
      refine g_iload_n (q := 2) (pc := 44) dX11_neighbour_44 rfl rfl ?_
      refine g_iconst (v := nI 5) (pc := 45) dX11_neighbour_45 (by decide) ?_
      refine g_isub_N (pc := 46) (by omega) dX11_neighbour_46 ?_
      refine g_goto (tgt := 51) (pc := 47) dX11_neighbour_47 (by decide) ?_
      exact g_iret (pc := 51) (by decide) (by decide) (eqI hPo (nbI_s (t := c - 5) (by simp [nbo, *] <;> omega))) dX11_neighbour_51
  by_cases k3 : s1 = 1
  · subst k3
    refine g_tableIn (tgt := 52) (off := 43) (pc := 9) dX11_neighbour_9 (by decide) (by decide) (by decide) (by decide) ?_
    refine g_iload_n (q := 1) (pc := 52) dX11_neighbour_52 rfl rfl ?_
    refine g_iconst (v := nI 4) (pc := 53) dX11_neighbour_53 (by decide) ?_
    refine g_icmp_ge_N (tgt := 63) (pc := 54) (by omega) (by omega) dX11_neighbour_54 (by decide) (fun c4 => ?_) (fun c4 => ?_)
    · -- T c4
      refine g_iconst (v := (-1)) (pc := 63) dX11_neighbour_63 (by decide) ?_
      exact g_iret (pc := 64) (by decide) (by decide) (eqI hPo (nbI_n (by simp [nbo, *] <;> omega))) dX11_neighbour_64
    · -- F c4
      refine g_iload_n (q := 2) (pc := 57) dX11_neighbour_57 rfl rfl ?_
      refine g_iconst (v := nI 1) (pc := 58) dX11_neighbour_58 (by decide) ?_
      refine g_iadd_N (pc := 59) dX11_neighbour_59 ?_
      refine g_goto (tgt := 64) (pc := 60) dX11_neighbour_60 (by decide) ?_
      exact g_iret (pc := 64) (by decide) (by decide) (eqI hPo (nbI_s (t := c + 1) (by simp [nbo, *] <;> omega))) dX11_neighbour_64
  by_cases k5 : s1 = 2
  · subst k5
    refine g_tableIn (tgt := 65) (off := 56) (pc := 9) dX11_neighbour_9 (by decide) (by decide) (by decide) (by decide) ?_
    refine g_iload_n (q := 0) (pc := 65) dX11_neighbour_65 rfl rfl ?_
    refine g_iconst (v := nI 3) (pc := 66) dX11_neighbour_66 (by decide) ?_
    refine g_icmp_ge_N (tgt := 76) (pc := 67) (by omega) (by omega) dX11_neighbour_67 (by decide) (fun c6 => ?_) (fun c6 => ?_)
    · -- T c6
      refine g_iconst (v := (-1)) (pc := 76) dX11_neighbour_76 (by decide) ?_
      exact g_iret (pc := 77) (by decide) (by decide) (eqI hPo (nbI_n (by simp [nbo, *] <;> omega))) dX11_neighbour_77
    · -- F c6
      refine g_iload_n (q := 2) (pc := 70) dX11_neighbour_70 rfl rfl ?_
      refine g_iconst (v := nI 5) (pc := 71) dX11_neighbour_71 (by decide) ?_
      refine g_iadd_N (pc := 72) dX11_neighbour_72 ?_
      refine g_goto (tgt := 77) (pc := 73) dX11_neighbour_73 (by decide) ?_
      exact g_iret (pc := 77) (by decide) (by decide) (eqI hPo (nbI_s (t := c + 5) (by simp [nbo, *] <;> omega))) dX11_neighbour_77
  by_cases k7 : s1 = 3
  · subst k7
    refine g_tableIn (tgt := 78) (off := 69) (pc := 9) dX11_neighbour_9 (by decide) (by decide) (by decide) (by decide) ?_
    refine g_iload_n (q := 1) (pc := 78) dX11_neighbour_78 rfl rfl ?_
    refine g_if_le_N (tgt := 88) (pc := 79) (by omega) dX11_neighbour_79 (by decide) (fun c8 => ?_) (fun c8 => ?_)
    · -- T c8
      refine g_iconst (v := (-1)) (pc := 88) dX11_neighbour_88 (by decide) ?_
      exact g_iret (pc := 89) (by decide) (by decide) (eqI hPo (nbI_n (by simp [nbo, *] <;> omega))) dX11_neighbour_89
    · -- F c8
      refine g_iload_n (q := 2) (pc := 82) dX11_neighbour_82 rfl rfl ?_
      refine g_iconst (v := nI 1) (pc := 83) dX11_neighbour_83 (by decide) ?_
      refine g_isub_N (pc := 84) (by omega) dX11_neighbour_84 ?_
      refine g_goto (tgt := 89) (pc := 85) dX11_neighbour_85 (by decide) ?_
      exact g_iret (pc := 89) (by decide) (by decide) (eqI hPo (nbI_s (t := c - 1) (by simp [nbo, *] <;> omega))) dX11_neighbour_89
  exfalso; omega
set_option maxHeartbeats 8000000 in
theorem c_X11_neighbour_o {c : Nat} {s1 : Int32} (hc : c < 20) (hs : inR s1 4 = false) : KE l D Z b0 yX11_neighbour cX11_neighbour 4 (some .int) rmX11_neighbour [.int (nI c), .int s1] (V) (some (.int (-1))) (V) := by
  refine KE.of (by decide) (Nat.le_of_ble_eq_true rfl) (fun Po hPo => ?_)
  refine G.locals (L' := [(0, .int (nI c)), (1, .int s1)]) [0, 1] rfl ?_
  have ho : s1.toInt < 0 ∨ 3 < s1.toInt := by have := of_decide_eq_false hs; omega
  refine g_iload_n (q := 0) (pc := 0) dX11_neighbour_0 rfl rfl ?_
  refine g_iconst (v := nI 5) (pc := 1) dX11_neighbour_1 (by decide) ?_
  refine g_irem_N (pc := 2) (by omega) (by decide) (by decide) dX11_neighbour_2 ?_
  refine g_istore_n (lv' := [(2, .int (nI (c % 5))), (0, .int (nI c)), (1, .int s1)]) (pc := 3) dX11_neighbour_3 rfl (by decide) rfl ?_
  refine g_iload_n (q := 1) (pc := 4) dX11_neighbour_4 rfl rfl ?_
  refine g_iconst (v := nI 5) (pc := 5) dX11_neighbour_5 (by decide) ?_
  refine g_idiv_N (pc := 6) (by omega) (by decide) (by decide) dX11_neighbour_6 ?_
  refine g_istore_n (lv' := [(3, .int (nI (c / 5))), (2, .int (nI (c % 5))), (0, .int (nI c)), (1, .int s1)]) (pc := 7) dX11_neighbour_7 rfl (by decide) rfl ?_
  refine g_iload_n (q := 3) (pc := 8) dX11_neighbour_8 rfl rfl ?_
  refine g_tableOut (tgt := 90) (pc := 9) dX11_neighbour_9 ho (by decide) ?_
  refine g_iconst (v := (-1)) (pc := 90) dX11_neighbour_90 (by decide) ?_
  exact g_iret (pc := 91) (by decide) (by decide) (hPo) dX11_neighbour_91
theorem c_X11_neighbour_n {c s1 t : Nat} (hc : c < 20) (hs : s1 < 4) (h : nbo c s1 = none) : KE l D Z b0 yX11_neighbour cX11_neighbour 4 (some .int) rmX11_neighbour [.int (nI c), .int (nI s1)] V (some (.int ((-1)))) V := by
  have q := c_X11_neighbour (l := l) (D := D) (Z := Z) (b0 := b0) (V := V) hc hs
  rw [nbI_n h] at q; exact q
theorem c_X11_neighbour_s {c s1 t : Nat} (hc : c < 20) (hs : s1 < 4) (h : nbo c s1 = some t) : KE l D Z b0 yX11_neighbour cX11_neighbour 4 (some .int) rmX11_neighbour [.int (nI c), .int (nI s1)] V (some (.int (nI t))) V := by
  have q := c_X11_neighbour (l := l) (D := D) (Z := Z) (b0 := b0) (V := V) hc hs
  rw [nbI_s h] at q; exact q
end MS
