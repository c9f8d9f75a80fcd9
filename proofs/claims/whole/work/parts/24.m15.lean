section MS
variable {l : Launch} {D : va_G} {Z : Nat → ClassId} {b0 : Nat} {ad : Nat → Nat} {hi th po ba en se : Int32} {s im rd mi kp so sz el ki kf ti lo wa nu li to ot : Nat → Int32} {kd fg pl : Nat → Nat} {hr : Nat → Int32} {V : HV}
def exM (c : Int32) (nn : Nat → Nat) (m : Mt) : Option Mt :=
  if c = nI 107 then (if 10 * nn 0 + nn 1 < 20 ∧ nn 2 ≤ 7 then some (updN m.1 (10 * nn 0 + nn 1) (nn 2), updN m.2.1 (10 * nn 0 + nn 1) (nn 3), m.2.2.1, m.2.2.2) else none)
  else if c = nI 103 then (if nn 0 < 2 ∧ 10 * nn 1 + nn 2 < 20 then some (m.1, m.2.1, updN m.2.2.1 (nn 0) (10 * nn 1 + nn 2), m.2.2.2) else none)
  else if nn 0 < 2 ∧ nn 1 < 4 then (match nbo (m.2.2.1 (nn 0)) (nn 1) with
    | none => none
    | some t => some (updN m.1 t 7, updN m.2.1 t 0, updN m.2.2.1 (nn 0) t, upd m.2.2.2 (nn 0) (m.2.2.2 (nn 0) + nI (toilN (m.1 t) (m.2.1 t)))))
  else none
theorem exM_k {nn : Nat → Nat} {m : Mt} (h : 10 * nn 0 + nn 1 < 20) (h2 : nn 2 ≤ 7) : exM (nI 107) nn m = some (updN m.1 (10 * nn 0 + nn 1) (nn 2), updN m.2.1 (10 * nn 0 + nn 1) (nn 3), m.2.2.1, m.2.2.2) := by
  rw [exM, if_pos rfl, if_pos ⟨h, h2⟩]
theorem exM_kn {nn : Nat → Nat} {m : Mt} (h : ¬ (10 * nn 0 + nn 1 < 20 ∧ nn 2 ≤ 7)) : exM (nI 107) nn m = none := by
  rw [exM, if_pos rfl, if_neg h]
theorem exM_g {nn : Nat → Nat} {m : Mt} (h : nn 0 < 2) (h2 : 10 * nn 1 + nn 2 < 20) : exM (nI 103) nn m = some (m.1, m.2.1, updN m.2.2.1 (nn 0) (10 * nn 1 + nn 2), m.2.2.2) := by
  rw [exM, if_neg (by decide), if_pos rfl, if_pos ⟨h, h2⟩]
theorem exM_gn {nn : Nat → Nat} {m : Mt} (h : ¬ (nn 0 < 2 ∧ 10 * nn 1 + nn 2 < 20)) : exM (nI 103) nn m = none := by
  rw [exM, if_neg (by decide), if_pos rfl, if_neg h]
theorem exM_d {nn : Nat → Nat} {m : Mt} {t : Nat} (h : nn 0 < 2) (h2 : nn 1 < 4) (h3 : nbo (m.2.2.1 (nn 0)) (nn 1) = some t) : exM (nI 100) nn m = some (updN m.1 t 7, updN m.2.1 t 0, updN m.2.2.1 (nn 0) t, upd m.2.2.2 (nn 0) (m.2.2.2 (nn 0) + nI (toilN (m.1 t) (m.2.1 t)))) := by
  rw [exM, if_neg (by decide), if_neg (by decide), if_pos ⟨h, h2⟩, h3]
theorem exM_dn {nn : Nat → Nat} {m : Mt} (h : ¬ (nn 0 < 2 ∧ nn 1 < 4)) : exM (nI 100) nn m = none := by
  rw [exM, if_neg (by decide), if_neg (by decide), if_neg h]
theorem exM_do {nn : Nat → Nat} {m : Mt} (h3 : nbo (m.2.2.1 (nn 0)) (nn 1) = none) : exM (nI 100) nn m = none := by
  rw [exM, if_neg (by decide), if_neg (by decide)]; split
  · rw [h3]
  · rfl
abbrev okMt (m : Mt) : Prop := okM m.1 m.2.1 m.2.2.1
theorem exM_ok {c : Int32} {nn : Nat → Nat} {m m2 : Mt} (h : okMt m) (hn : ∀ j, j < wdL c → nn j < 10) (hc : wdL c ≠ 0) (he : exM c nn m = some m2) : okMt m2 := by
  rcases wdL_c c with z | ⟨z, z2⟩ | ⟨z, z2⟩ | ⟨z, z2⟩
  · exact absurd z hc
  · subst z2
    by_cases q : 10 * nn 0 + nn 1 < 20 ∧ nn 2 ≤ 7
    · rw [exM_k q.1 q.2] at he
      have := Option.some.inj he; subst this
      exact okM_set h (by omega) (hn 3 (by omega))
    · rw [exM_kn q] at he; exact absurd he (by simp)
  · subst z2
    by_cases q : nn 0 < 2 ∧ 10 * nn 1 + nn 2 < 20
    · rw [exM_g q.1 q.2] at he
      have := Option.some.inj he; subst this
      exact okM_pl h q.2
    · rw [exM_gn q] at he; exact absurd he (by simp)
  · subst z2
    by_cases q : nn 0 < 2 ∧ nn 1 < 4
    · rcases q3 : nbo (m.2.2.1 (nn 0)) (nn 1) with _ | t
      · rw [exM_do q3] at he; exact absurd he (by simp)
      · rw [exM_d q.1 q.2 q3] at he
        have := Option.some.inj he; subst this
        exact okM_dig h (nbo_lt (h.2 _ q.1) q3)
    · rw [exM_dn q] at he; exact absurd he (by simp)
def rmX12_comesTold : Room := { frames := 3, cells := 0, slots := 0, locals := 65 }
set_option maxHeartbeats 8000000 in
theorem c_X12_comesTold {c : Int32} {nn : Nat → Nat} (hA : aB b0 18 ad) (ho : okM kd fg pl) (hnu : ∀ j, j < wdL c → nu j = nI (nn j) ∧ nn j < 10) (hc : c = nI 107 ∨ c = nI 103 ∨ c = nI 100) : KM l D Z b0 yX12_comesTold cX12_comesTold 3 (some .boolean) rmX12_comesTold [.ref (ad 0), .int c] (wM Z ad hi th po ba en se (enc kd fg pl hr) im rd mi kp so sz el ki kf ti lo wa nu li to ot V) (fun v V' => (v = some (.int (nI 0)) ∧ exM c nn (kd, fg, pl, hr) = none ∧ V' = wM Z ad hi th po ba en se (enc kd fg pl hr) im rd mi kp so sz el ki kf ti lo wa nu li to ot V) ∨ (∃ k2 f2 p2 h2, v = some (.int (nI 1)) ∧ exM c nn (kd, fg, pl, hr) = some (k2, f2, p2, h2) ∧ V' = wM Z ad hi th po ba en se (enc k2 f2 p2 h2) im rd mi kp so sz el ki kf ti lo wa nu li to ot V)) := by
  refine KM.ofP (by decide) (Nat.le_of_ble_eq_true rfl) (fun Po hPo => ?_)
  refine G.locals (L' := [(0, .ref (ad 0)), (1, .int c)]) [0, 1] rfl ?_
  refine g_iload_n (q := 1) (pc := 0) dX12_comesTold_0 rfl rfl ?_
  by_cases k1 : c = nI 103
  · subst k1
    refine g_lookup (tgt := 84) (off := 83) (pc := 1) dX12_comesTold_1 (by decide) (by decide) (by decide) ?_
    have n0 := (hnu 0 (by rw [wdL_g]; decide)).2
    have n1 := (hnu 1 (by rw [wdL_g]; decide)).2
    have n2 := (hnu 2 (by rw [wdL_g]; decide)).2
    refine g_bipush (v := nI 10) (pc := 84) dX12_comesTold_84 (by decide) ?_
    refine g_aload_n (q := 0) (pc := 86) dX12_comesTold_86 rfl rfl ?_
    refine gm_get_nu (pc := 87) hA dX12_comesTold_87 ?_
    refine g_iconst (v := nI 1) (pc := 90) dX12_comesTold_90 (by decide) ?_
    refine gm_ld_nu (pc := 91) (j := 1) (x := nI (nn 1)) hA (by omega) (hnu 1 (by rw [wdL_g]; decide)).1 dX12_comesTold_91 ?_
    refine g_imul_N (pc := 92) dX12_comesTold_92 ?_
    refine g_aload_n (q := 0) (pc := 93) dX12_comesTold_93 rfl rfl ?_
    refine gm_get_nu (pc := 94) hA dX12_comesTold_94 ?_
    refine g_iconst (v := nI 2) (pc := 97) dX12_comesTold_97 (by decide) ?_
    refine gm_ld_nu (pc := 98) (j := 2) (x := nI (nn 2)) hA (by omega) (hnu 2 (by rw [wdL_g]; decide)).1 dX12_comesTold_98 ?_
    refine g_iadd_N (pc := 99) dX12_comesTold_99 ?_
    refine g_istore_n (lv' := [(2, .int (nI ((10 * (nn 1)) + (nn 2)))), (0, .ref (ad 0)), (1, .int (nI 103))]) (pc := 100) dX12_comesTold_100 rfl (by decide) rfl ?_
    refine g_aload_n (q := 1) (pc := 101) dX12_comesTold_101 rfl rfl ?_
    refine gm_get_nu (pc := 102) hA dX12_comesTold_102 ?_
    refine g_iconst (v := nI 0) (pc := 105) dX12_comesTold_105 (by decide) ?_
    refine gm_ld_nu (pc := 106) (j := 0) (x := nI (nn 0)) hA (by omega) (hnu 0 (by rw [wdL_g]; decide)).1 dX12_comesTold_106 ?_
    refine e_callS (k2 := 0) (n2 := 0) (As := [.int (nI (nn 0))]) (rest := []) (pc := 107) (c_X12_isGangN hA (by omega) (c_X12_isGang hA)) mlX12_146 mX12_isGang ⟨Nat.le_of_ble_eq_true rfl, Nat.le_of_ble_eq_true rfl⟩ rfl rfl (Nat.le_of_ble_eq_true rfl) dX12_comesTold_107 (by decide) rfl rfl ?_
    refine g_if_eq_B (tgt := 120) (pc := 110) dX12_comesTold_110 (by decide) (fun c2 => ?_) (fun c2 => ?_)
    · -- T c2
      have c2 := of_decide_eq_false c2
      refine g_iconst (v := nI 0) (pc := 120) dX12_comesTold_120 (by decide) ?_
      exact g_zret (pc := 121) (by decide) (by decide) (by decide) (hPo _ _ (Or.inl ⟨rfl, exM_gn (by omega), rfl⟩)) dX12_comesTold_121
    · -- F c2
      have c2 := of_decide_eq_true c2
      refine g_iload_n (q := 0) (pc := 113) dX12_comesTold_113 rfl rfl ?_
      refine e_callS (k2 := 0) (n2 := 0) (As := [.int (nI ((10 * (nn 1)) + (nn 2)))]) (rest := []) (pc := 114) (c_X12_isCellN hA (by omega) (c_X12_isCell hA)) mlX12_143 mX12_isCell ⟨Nat.le_of_ble_eq_true rfl, Nat.le_of_ble_eq_true rfl⟩ rfl rfl (Nat.le_of_ble_eq_true rfl) dX12_comesTold_114 (by decide) rfl rfl ?_
      refine g_if_ne_B (tgt := 122) (pc := 117) dX12_comesTold_117 (by decide) (fun c3 => ?_) (fun c3 => ?_)
      · -- T c3
        have c3 := of_decide_eq_true c3
        refine g_aload_n (q := 1) (pc := 122) dX12_comesTold_122 rfl rfl ?_
        refine gm_get_s (pc := 123) hA dX12_comesTold_123 ?_
        refine g_bipush (v := nI 40) (pc := 126) dX12_comesTold_126 (by decide) ?_
        refine g_iconst (v := nI 2) (pc := 128) dX12_comesTold_128 (by decide) ?_
        refine g_aload_n (q := 1) (pc := 129) dX12_comesTold_129 rfl rfl ?_
        refine gm_get_nu (pc := 130) hA dX12_comesTold_130 ?_
        refine g_iconst (v := nI 0) (pc := 133) dX12_comesTold_133 (by decide) ?_
        refine gm_ld_nu (pc := 134) (j := 0) (x := nI (nn 0)) hA (by omega) (hnu 0 (by rw [wdL_g]; decide)).1 dX12_comesTold_134 ?_
        refine g_imul_N (pc := 135) dX12_comesTold_135 ?_
        refine g_iadd_N (pc := 136) dX12_comesTold_136 ?_
        refine g_iload_n (q := 0) (pc := 137) dX12_comesTold_137 rfl rfl ?_
        refine gm_st_s (pc := 138) (j := 40 + (2 * (nn 0))) (f' := (enc kd fg (updN pl (nn 0) ((10 * (nn 1)) + (nn 2))) hr)) hA (by omega) enc_sp dX12_comesTold_138 ?_
        refine g_iconst (v := nI 1) (pc := 139) dX12_comesTold_139 (by decide) ?_
        exact g_zret (pc := 140) (by decide) (by decide) (by decide) (hPo _ _ (Or.inr ⟨_, _, _, _, rfl, exM_g (by assumption) (by assumption), rfl⟩)) dX12_comesTold_140
      · -- F c3
        have c3 := of_decide_eq_false c3
        refine g_iconst (v := nI 0) (pc := 120) dX12_comesTold_120 (by decide) ?_
        exact g_zret (pc := 121) (by decide) (by decide) (by decide) (hPo _ _ (Or.inl ⟨rfl, exM_gn (by omega), rfl⟩)) dX12_comesTold_121
  by_cases k4 : c = nI 107
  · subst k4
    refine g_lookup (tgt := 28) (off := 27) (pc := 1) dX12_comesTold_1 (by decide) (by decide) (by decide) ?_
    have n0 := (hnu 0 (by rw [wdL_k]; decide)).2
    have n1 := (hnu 1 (by rw [wdL_k]; decide)).2
    have n2 := (hnu 2 (by rw [wdL_k]; decide)).2
    have n3 := (hnu 3 (by rw [wdL_k]; decide)).2
    refine g_bipush (v := nI 10) (pc := 28) dX12_comesTold_28 (by decide) ?_
    refine g_aload_n (q := 0) (pc := 30) dX12_comesTold_30 rfl rfl ?_
    refine gm_get_nu (pc := 31) hA dX12_comesTold_31 ?_
    refine g_iconst (v := nI 0) (pc := 34) dX12_comesTold_34 (by decide) ?_
    refine gm_ld_nu (pc := 35) (j := 0) (x := nI (nn 0)) hA (by omega) (hnu 0 (by rw [wdL_k]; decide)).1 dX12_comesTold_35 ?_
    refine g_imul_N (pc := 36) dX12_comesTold_36 ?_
    refine g_aload_n (q := 0) (pc := 37) dX12_comesTold_37 rfl rfl ?_
    refine gm_get_nu (pc := 38) hA dX12_comesTold_38 ?_
    refine g_iconst (v := nI 1) (pc := 41) dX12_comesTold_41 (by decide) ?_
    refine gm_ld_nu (pc := 42) (j := 1) (x := nI (nn 1)) hA (by omega) (hnu 1 (by rw [wdL_k]; decide)).1 dX12_comesTold_42 ?_
    refine g_iadd_N (pc := 43) dX12_comesTold_43 ?_
    refine g_istore_n (lv' := [(2, .int (nI ((10 * (nn 0)) + (nn 1)))), (0, .ref (ad 0)), (1, .int (nI 107))]) (pc := 44) dX12_comesTold_44 rfl (by decide) rfl ?_
    refine g_iload_n (q := 0) (pc := 45) dX12_comesTold_45 rfl rfl ?_
    refine e_callS (k2 := 0) (n2 := 0) (As := [.int (nI ((10 * (nn 0)) + (nn 1)))]) (rest := []) (pc := 46) (c_X12_isCellN hA (by omega) (c_X12_isCell hA)) mlX12_143 mX12_isCell ⟨Nat.le_of_ble_eq_true rfl, Nat.le_of_ble_eq_true rfl⟩ rfl rfl (Nat.le_of_ble_eq_true rfl) dX12_comesTold_46 (by decide) rfl rfl ?_
    refine g_if_eq_B (tgt := 63) (pc := 49) dX12_comesTold_49 (by decide) (fun c5 => ?_) (fun c5 => ?_)
    · -- T c5
      have c5 := of_decide_eq_false c5
      refine g_iconst (v := nI 0) (pc := 63) dX12_comesTold_63 (by decide) ?_
      exact g_zret (pc := 64) (by decide) (by decide) (by decide) (hPo _ _ (Or.inl ⟨rfl, exM_kn (by omega), rfl⟩)) dX12_comesTold_64
    · -- F c5
      have c5 := of_decide_eq_true c5
      refine g_aload_n (q := 1) (pc := 52) dX12_comesTold_52 rfl rfl ?_
      refine gm_get_nu (pc := 53) hA dX12_comesTold_53 ?_
      refine g_iconst (v := nI 2) (pc := 56) dX12_comesTold_56 (by decide) ?_
      refine gm_ld_nu (pc := 57) (j := 2) (x := nI (nn 2)) hA (by omega) (hnu 2 (by rw [wdL_k]; decide)).1 dX12_comesTold_57 ?_
      refine g_bipush (v := nI 7) (pc := 58) dX12_comesTold_58 (by decide) ?_
      refine g_icmp_le_N (tgt := 65) (pc := 60) (by omega) (by omega) dX12_comesTold_60 (by decide) (fun c6 => ?_) (fun c6 => ?_)
      · -- T c6
        refine g_aload_n (q := 1) (pc := 65) dX12_comesTold_65 rfl rfl ?_
        refine g_iload_n (q := 0) (pc := 66) dX12_comesTold_66 rfl rfl ?_
        refine g_aload_n (q := 1) (pc := 67) dX12_comesTold_67 rfl rfl ?_
        refine gm_get_nu (pc := 68) hA dX12_comesTold_68 ?_
        refine g_iconst (v := nI 2) (pc := 71) dX12_comesTold_71 (by decide) ?_
        refine gm_ld_nu (pc := 72) (j := 2) (x := nI (nn 2)) hA (by omega) (hnu 2 (by rw [wdL_k]; decide)).1 dX12_comesTold_72 ?_
        refine g_aload_n (q := 1) (pc := 73) dX12_comesTold_73 rfl rfl ?_
        refine gm_get_nu (pc := 74) hA dX12_comesTold_74 ?_
        refine g_iconst (v := nI 3) (pc := 77) dX12_comesTold_77 (by decide) ?_
        refine gm_ld_nu (pc := 78) (j := 3) (x := nI (nn 3)) hA (by omega) (hnu 3 (by rw [wdL_k]; decide)).1 dX12_comesTold_78 ?_
        refine e_callVv (k2 := 0) (n2 := 0) (As := [.int (nI ((10 * (nn 0)) + (nn 1))), .int (nI (nn 2)), .int (nI (nn 3))]) (rest := []) (pc := 79) (wM_0 hA) rfl (c_X12_setCell hA (by omega)) mlX12_103 selX12_X12_setCell_X12_setCell mX12_setCell ⟨Nat.le_of_ble_eq_true rfl, Nat.le_of_ble_eq_true rfl⟩ rfl rfl (Nat.le_of_ble_eq_true rfl) dX12_comesTold_79 (by decide) rfl rfl ?_
        refine g_iconst (v := nI 1) (pc := 82) dX12_comesTold_82 (by decide) ?_
        exact g_zret (pc := 83) (by decide) (by decide) (by decide) (hPo _ _ (Or.inr ⟨_, _, _, _, rfl, exM_k (by assumption) (by assumption), rfl⟩)) dX12_comesTold_83
      · -- F c6
        refine g_iconst (v := nI 0) (pc := 63) dX12_comesTold_63 (by decide) ?_
        exact g_zret (pc := 64) (by decide) (by decide) (by decide) (hPo _ _ (Or.inl ⟨rfl, exM_kn (by omega), rfl⟩)) dX12_comesTold_64
  refine g_lookup (tgt := 141) (off := 140) (pc := 1) dX12_comesTold_1 (by decide) (by rw [lv_osw (a := 103) (k := nI 103) k1 (by decide)]; rw [lv_osw (a := 107) (k := nI 107) k4 (by decide)]; rfl) (by decide) ?_
  obtain rfl : c = nI 100 := by rcases hc with h | h | h <;> first | exact h | exact absurd h ‹_›
  have n0 := (hnu 0 (by rw [wdL_d]; decide)).2
  have n1 := (hnu 1 (by rw [wdL_d]; decide)).2
  refine g_aload_n (q := 0) (pc := 141) dX12_comesTold_141 rfl rfl ?_
  refine gm_get_nu (pc := 142) hA dX12_comesTold_142 ?_
  refine g_iconst (v := nI 0) (pc := 145) dX12_comesTold_145 (by decide) ?_
  refine gm_ld_nu (pc := 146) (j := 0) (x := nI (nn 0)) hA (by omega) (hnu 0 (by rw [wdL_d]; decide)).1 dX12_comesTold_146 ?_
  refine e_callS (k2 := 0) (n2 := 0) (As := [.int (nI (nn 0))]) (rest := []) (pc := 147) (c_X12_isGangN hA (by omega) (c_X12_isGang hA)) mlX12_146 mX12_isGang ⟨Nat.le_of_ble_eq_true rfl, Nat.le_of_ble_eq_true rfl⟩ rfl rfl (Nat.le_of_ble_eq_true rfl) dX12_comesTold_147 (by decide) rfl rfl ?_
  refine g_if_eq_B (tgt := 186) (pc := 150) dX12_comesTold_150 (by decide) (fun c7 => ?_) (fun c7 => ?_)
  · -- T c7
    have c7 := of_decide_eq_false c7
    refine g_iconst (v := nI 0) (pc := 186) dX12_comesTold_186 (by decide) ?_
    exact g_zret (pc := 187) (by decide) (by decide) (by decide) (hPo _ _ (Or.inl ⟨rfl, exM_dn (by omega), rfl⟩)) dX12_comesTold_187
  · -- F c7
    have c7 := of_decide_eq_true c7
    refine g_aload_n (q := 0) (pc := 153) dX12_comesTold_153 rfl rfl ?_
    refine gm_get_nu (pc := 154) hA dX12_comesTold_154 ?_
    refine g_iconst (v := nI 1) (pc := 157) dX12_comesTold_157 (by decide) ?_
    refine gm_ld_nu (pc := 158) (j := 1) (x := nI (nn 1)) hA (by omega) (hnu 1 (by rw [wdL_d]; decide)).1 dX12_comesTold_158 ?_
    refine g_iconst (v := nI 4) (pc := 159) dX12_comesTold_159 (by decide) ?_
    refine g_icmp_ge_N (tgt := 186) (pc := 160) (by omega) (by omega) dX12_comesTold_160 (by decide) (fun c8 => ?_) (fun c8 => ?_)
    · -- T c8
      refine g_iconst (v := nI 0) (pc := 186) dX12_comesTold_186 (by decide) ?_
      exact g_zret (pc := 187) (by decide) (by decide) (by decide) (hPo _ _ (Or.inl ⟨rfl, exM_dn (by omega), rfl⟩)) dX12_comesTold_187
    · -- F c8
      refine g_aload_n (q := 0) (pc := 163) dX12_comesTold_163 rfl rfl ?_
      refine g_aload_n (q := 0) (pc := 164) dX12_comesTold_164 rfl rfl ?_
      refine gm_get_nu (pc := 165) hA dX12_comesTold_165 ?_
      refine g_iconst (v := nI 0) (pc := 168) dX12_comesTold_168 (by decide) ?_
      refine gm_ld_nu (pc := 169) (j := 0) (x := nI (nn 0)) hA (by omega) (hnu 0 (by rw [wdL_d]; decide)).1 dX12_comesTold_169 ?_
      refine g_aload_n (q := 0) (pc := 170) dX12_comesTold_170 rfl rfl ?_
      refine gm_get_nu (pc := 171) hA dX12_comesTold_171 ?_
      refine g_iconst (v := nI 1) (pc := 174) dX12_comesTold_174 (by decide) ?_
      refine gm_ld_nu (pc := 175) (j := 1) (x := nI (nn 1)) hA (by omega) (hnu 1 (by rw [wdL_d]; decide)).1 dX12_comesTold_175 ?_
      rcases hd176 : nbo (pl (nn 0)) (nn 1) with _ | u176
      · -- alt
        refine e_callV (k2 := 0) (n2 := 0) (As := [.int (nI (nn 0)), .int (nI (nn 1))]) (rest := []) (pc := 176) (wM_0 hA) rfl (c_X12_digs_n hA ho (by omega) (by omega) hd176) mlX12_149 selX12_X12_digs_X12_digs mX12_digs ⟨Nat.le_of_ble_eq_true rfl, Nat.le_of_ble_eq_true rfl⟩ rfl rfl (Nat.le_of_ble_eq_true rfl) dX12_comesTold_176 (by decide) rfl rfl ?_
        refine g_if_eq (tgt := 186) (pc := 179) dX12_comesTold_179 (by decide) (fun _ => ?_) (fun c0 => absurd c0 (by decide))
        refine g_iconst (v := nI 0) (pc := 186) dX12_comesTold_186 (by decide) ?_
        exact g_zret (pc := 187) (by decide) (by decide) (by decide) (hPo _ _ (Or.inl ⟨rfl, exM_do ‹_›, rfl⟩)) dX12_comesTold_187
      · -- alt
        have u176l := nbo_lt (c := pl (nn 0)) (ho.2 (nn 0) (by omega)) hd176
        refine e_callV (k2 := 0) (n2 := 0) (As := [.int (nI (nn 0)), .int (nI (nn 1))]) (rest := []) (pc := 176) (wM_0 hA) rfl (c_X12_digs_s hA ho (by omega) (by omega) hd176) mlX12_149 selX12_X12_digs_X12_digs mX12_digs ⟨Nat.le_of_ble_eq_true rfl, Nat.le_of_ble_eq_true rfl⟩ rfl rfl (Nat.le_of_ble_eq_true rfl) dX12_comesTold_176 (by decide) rfl rfl ?_
        refine g_if_eq (tgt := 186) (pc := 179) dX12_comesTold_179 (by decide) (fun c0 => absurd c0 (by decide)) (fun _ => ?_)
        refine g_iconst (v := nI 1) (pc := 182) dX12_comesTold_182 (by decide) ?_
        refine g_goto (tgt := 187) (pc := 183) dX12_comesTold_183 (by decide) ?_
        exact g_zret (pc := 187) (by decide) (by decide) (by decide) (hPo _ _ (Or.inr ⟨_, _, _, _, rfl, exM_d (by assumption) (by assumption) ‹_›, rfl⟩)) dX12_comesTold_187
end MS
