section MS
variable {l : Launch} {D : va_G} {Z : Nat → ClassId} {b0 : Nat} {ad : Nat → Nat} {hi th po ba en se : Int32} {s im rd mi el ki kf ti lo wa nu li to ot : Nat → Int32} {kd fg pl kp so sz ikd ifg ipl : Nat → Nat} {hr ihr : Nat → Int32} {V : HV}
def jd1 (m : Mt) (v0 v1 v2 : Int32) : Nat × Mt := if inR v0 2 = true then (if inR v1 4 = true then (match nbo (m.2.2.1 (dN v0)) (dN v1) with
  | none => (1, m)
  | some _ => if (digM m (dN v0) (dN v1)).2.2.2 (dN v0) = v2 then (3, digM m (dN v0) (dN v1)) else (2, digM m (dN v0) (dN v1))) else (1, m)) else (0, m)
def jF (el : Nat → Int32) (d : Nat) (m : Mt) : Nat → Mt × Int32
  | 0 => (m, (-4))
  | k + 1 => if (jF el d m k).2 < 0 then ((jd1 (jF el d m k).1 (el (100 * d + 3 * k)) (el (100 * d + (3 * k + 1))) (el (100 * d + (3 * k + 2)))).2, if (jd1 (jF el d m k).1 (el (100 * d + 3 * k)) (el (100 * d + (3 * k + 1))) (el (100 * d + (3 * k + 2)))).1 < 3 then nI (3 * k + (jd1 (jF el d m k).1 (el (100 * d + 3 * k)) (el (100 * d + (3 * k + 1))) (el (100 * d + (3 * k + 2)))).1) else (-4)) else jF el d m k
theorem jF_s {el : Nat → Int32} {d k i : Nat} {m m2 m3 : Mt} {q : Nat} (hik : i = 3 * k) (h : jF el d m k = (m2, (-4))) (hj : jd1 m2 (el (100 * d + i)) (el (100 * d + (i + 1))) (el (100 * d + (i + 2))) = (q, m3)) : jF el d m (k + 1) = (m3, if q < 3 then nI (i + q) else (-4)) := by
  subst hik
  rw [jF, h, if_pos (show ((-4) : Int32) < 0 by decide), hj]
theorem jF_st {el : Nat → Int32} {d : Nat} {m m2 : Mt} {k : Nat} {v : Int32} (h : jF el d m k = (m2, v)) (hv : ¬ v < 0) : ∀ n, k ≤ n → jF el d m n = (m2, v)
  | 0, hn => by
    have : k = 0 := by omega
    subst this; exact h
  | n + 1, hn => by
    by_cases q : k = n + 1
    · subst q; exact h
    · have h1 := jF_st h hv n (by omega)
      rw [jF, h1, if_neg hv]
def spJudgeV (el : Nat → Int32) (d : Nat) (sz : Nat) (m : Mt) : Int32 := if (jF el d m (sz / 3)).2 < 0 then (if sz % 3 = 0 then (-4) else nI (3 * (sz / 3))) else (jF el d m (sz / 3)).2
theorem jd_cases (kd fg pl : Nat → Nat) (hr : Nat → Int32) (v0 v1 v2 : Int32) : (inR v0 2 = false) ∨ (∃ g, g < 2 ∧ v0 = nI g ∧ inR v1 4 = false) ∨ (∃ g s, g < 2 ∧ s < 4 ∧ v0 = nI g ∧ v1 = nI s ∧ nbo (pl g) s = none) ∨ (∃ g s t, g < 2 ∧ s < 4 ∧ v0 = nI g ∧ v1 = nI s ∧ nbo (pl g) s = some t ∧ ¬ hr g + nI (toilN (kd t) (fg t)) = v2) ∨ (∃ g s t, g < 2 ∧ s < 4 ∧ v0 = nI g ∧ v1 = nI s ∧ nbo (pl g) s = some t ∧ hr g + nI (toilN (kd t) (fg t)) = v2) := by
  cases h0 : inR v0 2 with
  | false => exact Or.inl rfl
  | true =>
    obtain ⟨g, hg, e0⟩ := inR_t h0
    cases h1 : inR v1 4 with
    | false => exact Or.inr (Or.inl ⟨g, hg, e0, rfl⟩)
    | true =>
      obtain ⟨s, hs, e1⟩ := inR_t h1
      cases hb : nbo (pl g) s with
      | none => exact Or.inr (Or.inr (Or.inl ⟨g, s, hg, hs, e0, e1, hb⟩))
      | some t =>
        by_cases q : hr g + nI (toilN (kd t) (fg t)) = v2
        · exact Or.inr (Or.inr (Or.inr (Or.inr ⟨g, s, t, hg, hs, e0, e1, hb, q⟩)))
        · exact Or.inr (Or.inr (Or.inr (Or.inl ⟨g, s, t, hg, hs, e0, e1, hb, q⟩)))
theorem jd1_a {m : Mt} {v0 v1 v2 : Int32} (h : inR v0 2 = false) : jd1 m v0 v1 v2 = (0, m) := by unfold jd1; rw [if_neg (by rw [h]; decide)]
theorem jd1_b {m : Mt} {v0 v1 v2 : Int32} {g : Nat} (hg : g < 2) (e0 : v0 = nI g) (h : inR v1 4 = false) : jd1 m v0 v1 v2 = (1, m) := by
  subst e0; unfold jd1; rw [if_pos (inR_lt hg (by omega)), if_neg (by rw [h]; decide)]
theorem jd1_c {m : Mt} {v0 v1 v2 : Int32} {g s : Nat} (hg : g < 2) (hs : s < 4) (e0 : v0 = nI g) (e1 : v1 = nI s) (h : nbo (m.2.2.1 g) s = none) : jd1 m v0 v1 v2 = (1, m) := by
  subst e0; subst e1; unfold jd1; rw [if_pos (inR_lt hg (by omega)), if_pos (inR_lt hs (by omega)), dN_N (by omega), dN_N (by omega), h]
theorem jd1_d {m : Mt} {v0 v1 v2 : Int32} {g s t : Nat} (hg : g < 2) (hs : s < 4) (e0 : v0 = nI g) (e1 : v1 = nI s) (h : nbo (m.2.2.1 g) s = some t) (hv : ¬ m.2.2.2 g + nI (toilN (m.1 t) (m.2.1 t)) = v2) : jd1 m v0 v1 v2 = (2, (updN m.1 t 7, updN m.2.1 t 0, updN m.2.2.1 g t, upd m.2.2.2 g (m.2.2.2 g + nI (toilN (m.1 t) (m.2.1 t))))) := by
  subst e0; subst e1; unfold jd1; rw [if_pos (inR_lt hg (by omega)), if_pos (inR_lt hs (by omega)), dN_N (by omega), dN_N (by omega), h]
  simp only [digM_s h, upd_eq, if_neg hv]
theorem jd1_e {m : Mt} {v0 v1 v2 : Int32} {g s t : Nat} (hg : g < 2) (hs : s < 4) (e0 : v0 = nI g) (e1 : v1 = nI s) (h : nbo (m.2.2.1 g) s = some t) (hv : m.2.2.2 g + nI (toilN (m.1 t) (m.2.1 t)) = v2) : jd1 m v0 v1 v2 = (3, (updN m.1 t 7, updN m.2.1 t 0, updN m.2.2.1 g t, upd m.2.2.2 g (m.2.2.2 g + nI (toilN (m.1 t) (m.2.1 t))))) := by
  subst e0; subst e1; unfold jd1; rw [if_pos (inR_lt hg (by omega)), if_pos (inR_lt hs (by omega)), dN_N (by omega), dN_N (by omega), h]
  simp only [digM_s h, upd_eq, if_pos hv]
def rmX12_wrongThree : Room := { frames := 3, cells := 0, slots := 0, locals := 65 }
set_option maxHeartbeats 8000000 in
theorem c_X12_wrongThree_d {d i g s1 t : Nat} (hA : aB b0 18 ad) (ho : okM kd fg pl) (hd : d < 8) (hi2 : i + 2 < 100) (hg : g < 2) (hs1 : s1 < 4) (e0 : el (100 * d + i) = nI g) (e1 : el (100 * d + (i + 1)) = nI s1) (hb : nbo (pl g) s1 = some t) (hv : ¬ hr g + nI (toilN (kd t) (fg t)) = el (100 * d + (i + 2))) : KE l D Z b0 yX12_wrongThree cX12_wrongThree 5 (some .int) rmX12_wrongThree [.ref (ad 0), .int (nI d), .int (nI i)] (wM Z ad hi th po ba en se (enc kd fg pl hr) im rd mi (nf kp) (nf so) (nf sz) el ki kf ti lo wa nu li to ot V) (some (.int (nI (i + 2)))) (wM Z ad hi th po ba en se (enc (updN kd t 7) (updN fg t 0) (updN pl g t) (upd hr g (hr g + nI (toilN (kd t) (fg t))))) im rd mi (nf kp) (nf so) (nf sz) el ki kf ti lo wa nu li to ot V) := by
  refine KE.of (by decide) (Nat.le_of_ble_eq_true rfl) (fun Po hPo => ?_)
  refine G.locals (L' := [(0, .ref (ad 0)), (1, .int (nI d)), (2, .int (nI i))]) [0, 1, 2] rfl ?_
  refine g_aload_n (q := 0) (pc := 0) dX12_wrongThree_0 rfl rfl ?_
  refine g_iload_n (q := 1) (pc := 1) dX12_wrongThree_1 rfl rfl ?_
  refine g_iload_n (q := 2) (pc := 2) dX12_wrongThree_2 rfl rfl ?_
  refine e_callV (k2 := 0) (n2 := 0) (As := [.int (nI d), .int (nI i)]) (rest := []) (pc := 3) (wM_0 hA) rfl (c_X12_told hA hd (by omega)) mlX12_181 selX12_X12_told_X12_told mX12_told ⟨Nat.le_of_ble_eq_true rfl, Nat.le_of_ble_eq_true rfl⟩ rfl rfl (Nat.le_of_ble_eq_true rfl) dX12_wrongThree_3 (by decide) rfl rfl ?_
  rw [e0]
  refine g_istore_n (lv' := [(3, .int (nI g)), (0, .ref (ad 0)), (1, .int (nI d)), (2, .int (nI i))]) (pc := 6) dX12_wrongThree_6 rfl (by decide) rfl ?_
  refine g_aload_n (q := 1) (pc := 7) dX12_wrongThree_7 rfl rfl ?_
  refine g_iload_n (q := 2) (pc := 8) dX12_wrongThree_8 rfl rfl ?_
  refine g_iload_n (q := 3) (pc := 9) dX12_wrongThree_9 rfl rfl ?_
  refine g_iconst (v := nI 1) (pc := 10) dX12_wrongThree_10 (by decide) ?_
  refine g_iadd_N (pc := 11) dX12_wrongThree_11 ?_
  refine e_callV (k2 := 0) (n2 := 0) (As := [.int (nI d), .int (nI (i + 1))]) (rest := []) (pc := 12) (wM_0 hA) rfl (c_X12_told hA hd (by omega)) mlX12_181 selX12_X12_told_X12_told mX12_told ⟨Nat.le_of_ble_eq_true rfl, Nat.le_of_ble_eq_true rfl⟩ rfl rfl (Nat.le_of_ble_eq_true rfl) dX12_wrongThree_12 (by decide) rfl rfl ?_
  rw [e1]
  refine g_istore (lv' := [(4, .int (nI s1)), (3, .int (nI g)), (0, .ref (ad 0)), (1, .int (nI d)), (2, .int (nI i))]) (pc := 15) dX12_wrongThree_15 (by decide) rfl ?_
  refine g_iload_n (q := 1) (pc := 17) dX12_wrongThree_17 rfl rfl ?_
  refine e_callS (k2 := 0) (n2 := 0) (As := [.int (nI g)]) (rest := []) (pc := 18) (c_X12_isGangN hA (by omega) (c_X12_isGang hA)) mlX12_146 mX12_isGang ⟨Nat.le_of_ble_eq_true rfl, Nat.le_of_ble_eq_true rfl⟩ rfl rfl (Nat.le_of_ble_eq_true rfl) dX12_wrongThree_18 (by decide) rfl rfl ?_
  refine g_if_ne_B (tgt := 26) (pc := 21) dX12_wrongThree_21 (by decide) (fun c1 => ?_) (fun c1 => ?_)
  · -- T c1
    have c1 := of_decide_eq_true c1
    refine g_iload (q := 0) (pc := 26) dX12_wrongThree_26 rfl ?_
    refine g_i2l (v := lN s1) (pc := 28) dX12_wrongThree_28 (nI_l (by omega)) ?_
    refine g_lconst (v := lN 0) (pc := 29) dX12_wrongThree_29 (by decide) ?_
    refine g_ldc2 (v := lN 3) (pc := 30) klX12_168 dX12_wrongThree_30 ?_
    refine e_callS (k2 := 0) (n2 := 0) (As := [.long (lN s1), .long (lN 0), .long (lN 3)]) (rest := []) (pc := 33) (c_X12_isInN hA (by omega) (by decide) (by decide) (c_X12_isIn hA)) mlX12_67 mX12_isIn ⟨Nat.le_of_ble_eq_true rfl, Nat.le_of_ble_eq_true rfl⟩ rfl rfl (Nat.le_of_ble_eq_true rfl) dX12_wrongThree_33 (by decide) rfl rfl ?_
    refine g_if_eq_B (tgt := 49) (pc := 36) dX12_wrongThree_36 (by decide) (fun c2 => ?_) (fun c2 => ?_)
    · -- T c2
      exact absurd (of_decide_eq_false c2) (by omega)
    · -- F c2
      have c2 := of_decide_eq_true c2
      refine g_aload_n (q := 2) (pc := 39) dX12_wrongThree_39 rfl rfl ?_
      refine g_iload_n (q := 1) (pc := 40) dX12_wrongThree_40 rfl rfl ?_
      refine g_iload (q := 0) (pc := 41) dX12_wrongThree_41 rfl ?_
      refine e_callV (k2 := 0) (n2 := 0) (As := [.int (nI g), .int (nI s1)]) (rest := []) (pc := 43) (wM_0 hA) rfl (c_X12_digs_s hA ho (by omega) (by omega) hb) mlX12_149 selX12_X12_digs_X12_digs mX12_digs ⟨Nat.le_of_ble_eq_true rfl, Nat.le_of_ble_eq_true rfl⟩ rfl rfl (Nat.le_of_ble_eq_true rfl) dX12_wrongThree_43 (by decide) rfl rfl ?_
      refine g_if_ne (tgt := 53) (pc := 46) dX12_wrongThree_46 (by decide) (fun _ => ?_) (fun c0 => absurd c0 (by decide))
      refine g_aload_n (q := 2) (pc := 53) dX12_wrongThree_53 rfl rfl ?_
      refine gm_get_s (pc := 54) hA dX12_wrongThree_54 ?_
      refine g_bipush (v := nI 40) (pc := 57) dX12_wrongThree_57 (by decide) ?_
      refine g_iconst (v := nI 2) (pc := 59) dX12_wrongThree_59 (by decide) ?_
      refine g_iload_n (q := 1) (pc := 60) dX12_wrongThree_60 rfl rfl ?_
      refine g_imul_N (pc := 61) dX12_wrongThree_61 ?_
      refine g_iadd_N (pc := 62) dX12_wrongThree_62 ?_
      refine g_iconst (v := nI 1) (pc := 63) dX12_wrongThree_63 (by decide) ?_
      refine g_iadd_N (pc := 64) dX12_wrongThree_64 ?_
      refine gm_ld_s (pc := 65) (j := (40 + (2 * g)) + 1) (x := hr g + nI (toilN (kd t) (fg t))) hA (by omega) (enc_h.trans (upd_eq _ _ _)) dX12_wrongThree_65 ?_
      refine g_aload_n (q := 2) (pc := 66) dX12_wrongThree_66 rfl rfl ?_
      refine g_iload_n (q := 3) (pc := 67) dX12_wrongThree_67 rfl rfl ?_
      refine g_iload_n (q := 4) (pc := 68) dX12_wrongThree_68 rfl rfl ?_
      refine g_iconst (v := nI 2) (pc := 69) dX12_wrongThree_69 (by decide) ?_
      refine g_iadd_N (pc := 70) dX12_wrongThree_70 ?_
      refine e_callV (k2 := 0) (n2 := 0) (As := [.int (nI d), .int (nI (i + 2))]) (rest := [.int (hr g + nI (toilN (kd t) (fg t)))]) (pc := 71) (wM_0 hA) rfl (c_X12_told hA hd (by omega)) mlX12_181 selX12_X12_told_X12_told mX12_told ⟨Nat.le_of_ble_eq_true rfl, Nat.le_of_ble_eq_true rfl⟩ rfl rfl (Nat.le_of_ble_eq_true rfl) dX12_wrongThree_71 (by decide) rfl rfl ?_
      refine g_icmp_eq (tgt := 83) (pc := 74) dX12_wrongThree_74 (by decide) (fun c3 => ?_) (fun c3 => ?_)
      · -- T c3
        exact absurd c3 hv
      · -- F c3
        refine g_iload_n (q := 4) (pc := 77) dX12_wrongThree_77 rfl rfl ?_
        refine g_iconst (v := nI 2) (pc := 78) dX12_wrongThree_78 (by decide) ?_
        refine g_iadd_N (pc := 79) dX12_wrongThree_79 ?_
        refine g_goto (tgt := 85) (pc := 80) dX12_wrongThree_80 (by decide) ?_
        exact g_iret (pc := 85) (by decide) (by decide) (hPo) dX12_wrongThree_85
  · -- F c1
    exact absurd (of_decide_eq_false c1) (by omega)
set_option maxHeartbeats 8000000 in
theorem c_X12_wrongThree_e {d i g s1 t : Nat} (hA : aB b0 18 ad) (ho : okM kd fg pl) (hd : d < 8) (hi2 : i + 2 < 100) (hg : g < 2) (hs1 : s1 < 4) (e0 : el (100 * d + i) = nI g) (e1 : el (100 * d + (i + 1)) = nI s1) (hb : nbo (pl g) s1 = some t) (hv : hr g + nI (toilN (kd t) (fg t)) = el (100 * d + (i + 2))) : KE l D Z b0 yX12_wrongThree cX12_wrongThree 5 (some .int) rmX12_wrongThree [.ref (ad 0), .int (nI d), .int (nI i)] (wM Z ad hi th po ba en se (enc kd fg pl hr) im rd mi (nf kp) (nf so) (nf sz) el ki kf ti lo wa nu li to ot V) (some (.int (-4))) (wM Z ad hi th po ba en se (enc (updN kd t 7) (updN fg t 0) (updN pl g t) (upd hr g (hr g + nI (toilN (kd t) (fg t))))) im rd mi (nf kp) (nf so) (nf sz) el ki kf ti lo wa nu li to ot V) := by
  refine KE.of (by decide) (Nat.le_of_ble_eq_true rfl) (fun Po hPo => ?_)
  refine G.locals (L' := [(0, .ref (ad 0)), (1, .int (nI d)), (2, .int (nI i))]) [0, 1, 2] rfl ?_
  refine g_aload_n (q := 0) (pc := 0) dX12_wrongThree_0 rfl rfl ?_
  refine g_iload_n (q := 1) (pc := 1) dX12_wrongThree_1 rfl rfl ?_
  refine g_iload_n (q := 2) (pc := 2) dX12_wrongThree_2 rfl rfl ?_
  refine e_callV (k2 := 0) (n2 := 0) (As := [.int (nI d), .int (nI i)]) (rest := []) (pc := 3) (wM_0 hA) rfl (c_X12_told hA hd (by omega)) mlX12_181 selX12_X12_told_X12_told mX12_told ⟨Nat.le_of_ble_eq_true rfl, Nat.le_of_ble_eq_true rfl⟩ rfl rfl (Nat.le_of_ble_eq_true rfl) dX12_wrongThree_3 (by decide) rfl rfl ?_
  rw [e0]
  refine g_istore_n (lv' := [(3, .int (nI g)), (0, .ref (ad 0)), (1, .int (nI d)), (2, .int (nI i))]) (pc := 6) dX12_wrongThree_6 rfl (by decide) rfl ?_
  refine g_aload_n (q := 1) (pc := 7) dX12_wrongThree_7 rfl rfl ?_
  refine g_iload_n (q := 2) (pc := 8) dX12_wrongThree_8 rfl rfl ?_
  refine g_iload_n (q := 3) (pc := 9) dX12_wrongThree_9 rfl rfl ?_
  refine g_iconst (v := nI 1) (pc := 10) dX12_wrongThree_10 (by decide) ?_
  refine g_iadd_N (pc := 11) dX12_wrongThree_11 ?_
  refine e_callV (k2 := 0) (n2 := 0) (As := [.int (nI d), .int (nI (i + 1))]) (rest := []) (pc := 12) (wM_0 hA) rfl (c_X12_told hA hd (by omega)) mlX12_181 selX12_X12_told_X12_told mX12_told ⟨Nat.le_of_ble_eq_true rfl, Nat.le_of_ble_eq_true rfl⟩ rfl rfl (Nat.le_of_ble_eq_true rfl) dX12_wrongThree_12 (by decide) rfl rfl ?_
  rw [e1]
  refine g_istore (lv' := [(4, .int (nI s1)), (3, .int (nI g)), (0, .ref (ad 0)), (1, .int (nI d)), (2, .int (nI i))]) (pc := 15) dX12_wrongThree_15 (by decide) rfl ?_
  refine g_iload_n (q := 1) (pc := 17) dX12_wrongThree_17 rfl rfl ?_
  refine e_callS (k2 := 0) (n2 := 0) (As := [.int (nI g)]) (rest := []) (pc := 18) (c_X12_isGangN hA (by omega) (c_X12_isGang hA)) mlX12_146 mX12_isGang ⟨Nat.le_of_ble_eq_true rfl, Nat.le_of_ble_eq_true rfl⟩ rfl rfl (Nat.le_of_ble_eq_true rfl) dX12_wrongThree_18 (by decide) rfl rfl ?_
  refine g_if_ne_B (tgt := 26) (pc := 21) dX12_wrongThree_21 (by decide) (fun c1 => ?_) (fun c1 => ?_)
  · -- T c1
    have c1 := of_decide_eq_true c1
    refine g_iload (q := 0) (pc := 26) dX12_wrongThree_26 rfl ?_
    refine g_i2l (v := lN s1) (pc := 28) dX12_wrongThree_28 (nI_l (by omega)) ?_
    refine g_lconst (v := lN 0) (pc := 29) dX12_wrongThree_29 (by decide) ?_
    refine g_ldc2 (v := lN 3) (pc := 30) klX12_168 dX12_wrongThree_30 ?_
    refine e_callS (k2 := 0) (n2 := 0) (As := [.long (lN s1), .long (lN 0), .long (lN 3)]) (rest := []) (pc := 33) (c_X12_isInN hA (by omega) (by decide) (by decide) (c_X12_isIn hA)) mlX12_67 mX12_isIn ⟨Nat.le_of_ble_eq_true rfl, Nat.le_of_ble_eq_true rfl⟩ rfl rfl (Nat.le_of_ble_eq_true rfl) dX12_wrongThree_33 (by decide) rfl rfl ?_
    refine g_if_eq_B (tgt := 49) (pc := 36) dX12_wrongThree_36 (by decide) (fun c2 => ?_) (fun c2 => ?_)
    · -- T c2
      exact absurd (of_decide_eq_false c2) (by omega)
    · -- F c2
      have c2 := of_decide_eq_true c2
      refine g_aload_n (q := 2) (pc := 39) dX12_wrongThree_39 rfl rfl ?_
      refine g_iload_n (q := 1) (pc := 40) dX12_wrongThree_40 rfl rfl ?_
      refine g_iload (q := 0) (pc := 41) dX12_wrongThree_41 rfl ?_
      refine e_callV (k2 := 0) (n2 := 0) (As := [.int (nI g), .int (nI s1)]) (rest := []) (pc := 43) (wM_0 hA) rfl (c_X12_digs_s hA ho (by omega) (by omega) hb) mlX12_149 selX12_X12_digs_X12_digs mX12_digs ⟨Nat.le_of_ble_eq_true rfl, Nat.le_of_ble_eq_true rfl⟩ rfl rfl (Nat.le_of_ble_eq_true rfl) dX12_wrongThree_43 (by decide) rfl rfl ?_
      refine g_if_ne (tgt := 53) (pc := 46) dX12_wrongThree_46 (by decide) (fun _ => ?_) (fun c0 => absurd c0 (by decide))
      refine g_aload_n (q := 2) (pc := 53) dX12_wrongThree_53 rfl rfl ?_
      refine gm_get_s (pc := 54) hA dX12_wrongThree_54 ?_
      refine g_bipush (v := nI 40) (pc := 57) dX12_wrongThree_57 (by decide) ?_
      refine g_iconst (v := nI 2) (pc := 59) dX12_wrongThree_59 (by decide) ?_
      refine g_iload_n (q := 1) (pc := 60) dX12_wrongThree_60 rfl rfl ?_
      refine g_imul_N (pc := 61) dX12_wrongThree_61 ?_
      refine g_iadd_N (pc := 62) dX12_wrongThree_62 ?_
      refine g_iconst (v := nI 1) (pc := 63) dX12_wrongThree_63 (by decide) ?_
      refine g_iadd_N (pc := 64) dX12_wrongThree_64 ?_
      refine gm_ld_s (pc := 65) (j := (40 + (2 * g)) + 1) (x := hr g + nI (toilN (kd t) (fg t))) hA (by omega) (enc_h.trans (upd_eq _ _ _)) dX12_wrongThree_65 ?_
      refine g_aload_n (q := 2) (pc := 66) dX12_wrongThree_66 rfl rfl ?_
      refine g_iload_n (q := 3) (pc := 67) dX12_wrongThree_67 rfl rfl ?_
      refine g_iload_n (q := 4) (pc := 68) dX12_wrongThree_68 rfl rfl ?_
      refine g_iconst (v := nI 2) (pc := 69) dX12_wrongThree_69 (by decide) ?_
      refine g_iadd_N (pc := 70) dX12_wrongThree_70 ?_
      refine e_callV (k2 := 0) (n2 := 0) (As := [.int (nI d), .int (nI (i + 2))]) (rest := [.int (hr g + nI (toilN (kd t) (fg t)))]) (pc := 71) (wM_0 hA) rfl (c_X12_told hA hd (by omega)) mlX12_181 selX12_X12_told_X12_told mX12_told ⟨Nat.le_of_ble_eq_true rfl, Nat.le_of_ble_eq_true rfl⟩ rfl rfl (Nat.le_of_ble_eq_true rfl) dX12_wrongThree_71 (by decide) rfl rfl ?_
      refine g_icmp_eq (tgt := 83) (pc := 74) dX12_wrongThree_74 (by decide) (fun c3 => ?_) (fun c3 => ?_)
      · -- T c3
        refine g_bipush (v := (-4)) (pc := 83) dX12_wrongThree_83 (by decide) ?_
        exact g_iret (pc := 85) (by decide) (by decide) (hPo) dX12_wrongThree_85
      · -- F c3
        exact absurd hv c3
  · -- F c1
    exact absurd (of_decide_eq_false c1) (by omega)
set_option maxHeartbeats 8000000 in
theorem c_X12_wrongThree_c {d i g s1 : Nat} (hA : aB b0 18 ad) (ho : okM kd fg pl) (hd : d < 8) (hi2 : i + 2 < 100) (hg : g < 2) (hs1 : s1 < 4) (e0 : el (100 * d + i) = nI g) (e1 : el (100 * d + (i + 1)) = nI s1) (hb : nbo (pl g) s1 = none) : KE l D Z b0 yX12_wrongThree cX12_wrongThree 5 (some .int) rmX12_wrongThree [.ref (ad 0), .int (nI d), .int (nI i)] (wM Z ad hi th po ba en se (enc kd fg pl hr) im rd mi (nf kp) (nf so) (nf sz) el ki kf ti lo wa nu li to ot V) (some (.int (nI (i + 1)))) (wM Z ad hi th po ba en se (enc kd fg pl hr) im rd mi (nf kp) (nf so) (nf sz) el ki kf ti lo wa nu li to ot V) := by
  refine KE.of (by decide) (Nat.le_of_ble_eq_true rfl) (fun Po hPo => ?_)
  refine G.locals (L' := [(0, .ref (ad 0)), (1, .int (nI d)), (2, .int (nI i))]) [0, 1, 2] rfl ?_
  refine g_aload_n (q := 0) (pc := 0) dX12_wrongThree_0 rfl rfl ?_
  refine g_iload_n (q := 1) (pc := 1) dX12_wrongThree_1 rfl rfl ?_
  refine g_iload_n (q := 2) (pc := 2) dX12_wrongThree_2 rfl rfl ?_
  refine e_callV (k2 := 0) (n2 := 0) (As := [.int (nI d), .int (nI i)]) (rest := []) (pc := 3) (wM_0 hA) rfl (c_X12_told hA hd (by omega)) mlX12_181 selX12_X12_told_X12_told mX12_told ⟨Nat.le_of_ble_eq_true rfl, Nat.le_of_ble_eq_true rfl⟩ rfl rfl (Nat.le_of_ble_eq_true rfl) dX12_wrongThree_3 (by decide) rfl rfl ?_
  rw [e0]
  refine g_istore_n (lv' := [(3, .int (nI g)), (0, .ref (ad 0)), (1, .int (nI d)), (2, .int (nI i))]) (pc := 6) dX12_wrongThree_6 rfl (by decide) rfl ?_
  refine g_aload_n (q := 1) (pc := 7) dX12_wrongThree_7 rfl rfl ?_
  refine g_iload_n (q := 2) (pc := 8) dX12_wrongThree_8 rfl rfl ?_
  refine g_iload_n (q := 3) (pc := 9) dX12_wrongThree_9 rfl rfl ?_
  refine g_iconst (v := nI 1) (pc := 10) dX12_wrongThree_10 (by decide) ?_
  refine g_iadd_N (pc := 11) dX12_wrongThree_11 ?_
  refine e_callV (k2 := 0) (n2 := 0) (As := [.int (nI d), .int (nI (i + 1))]) (rest := []) (pc := 12) (wM_0 hA) rfl (c_X12_told hA hd (by omega)) mlX12_181 selX12_X12_told_X12_told mX12_told ⟨Nat.le_of_ble_eq_true rfl, Nat.le_of_ble_eq_true rfl⟩ rfl rfl (Nat.le_of_ble_eq_true rfl) dX12_wrongThree_12 (by decide) rfl rfl ?_
  rw [e1]
  refine g_istore (lv' := [(4, .int (nI s1)), (3, .int (nI g)), (0, .ref (ad 0)), (1, .int (nI d)), (2, .int (nI i))]) (pc := 15) dX12_wrongThree_15 (by decide) rfl ?_
  refine g_iload_n (q := 1) (pc := 17) dX12_wrongThree_17 rfl rfl ?_
  refine e_callS (k2 := 0) (n2 := 0) (As := [.int (nI g)]) (rest := []) (pc := 18) (c_X12_isGangN hA (by omega) (c_X12_isGang hA)) mlX12_146 mX12_isGang ⟨Nat.le_of_ble_eq_true rfl, Nat.le_of_ble_eq_true rfl⟩ rfl rfl (Nat.le_of_ble_eq_true rfl) dX12_wrongThree_18 (by decide) rfl rfl ?_
  refine g_if_ne_B (tgt := 26) (pc := 21) dX12_wrongThree_21 (by decide) (fun c1 => ?_) (fun c1 => ?_)
  · -- T c1
    have c1 := of_decide_eq_true c1
    refine g_iload (q := 0) (pc := 26) dX12_wrongThree_26 rfl ?_
    refine g_i2l (v := lN s1) (pc := 28) dX12_wrongThree_28 (nI_l (by omega)) ?_
    refine g_lconst (v := lN 0) (pc := 29) dX12_wrongThree_29 (by decide) ?_
    refine g_ldc2 (v := lN 3) (pc := 30) klX12_168 dX12_wrongThree_30 ?_
    refine e_callS (k2 := 0) (n2 := 0) (As := [.long (lN s1), .long (lN 0), .long (lN 3)]) (rest := []) (pc := 33) (c_X12_isInN hA (by omega) (by decide) (by decide) (c_X12_isIn hA)) mlX12_67 mX12_isIn ⟨Nat.le_of_ble_eq_true rfl, Nat.le_of_ble_eq_true rfl⟩ rfl rfl (Nat.le_of_ble_eq_true rfl) dX12_wrongThree_33 (by decide) rfl rfl ?_
    refine g_if_eq_B (tgt := 49) (pc := 36) dX12_wrongThree_36 (by decide) (fun c2 => ?_) (fun c2 => ?_)
    · -- T c2
      exact absurd (of_decide_eq_false c2) (by omega)
    · -- F c2
      have c2 := of_decide_eq_true c2
      refine g_aload_n (q := 2) (pc := 39) dX12_wrongThree_39 rfl rfl ?_
      refine g_iload_n (q := 1) (pc := 40) dX12_wrongThree_40 rfl rfl ?_
      refine g_iload (q := 0) (pc := 41) dX12_wrongThree_41 rfl ?_
      refine e_callV (k2 := 0) (n2 := 0) (As := [.int (nI g), .int (nI s1)]) (rest := []) (pc := 43) (wM_0 hA) rfl (c_X12_digs_n hA ho (by omega) (by omega) hb) mlX12_149 selX12_X12_digs_X12_digs mX12_digs ⟨Nat.le_of_ble_eq_true rfl, Nat.le_of_ble_eq_true rfl⟩ rfl rfl (Nat.le_of_ble_eq_true rfl) dX12_wrongThree_43 (by decide) rfl rfl ?_
      refine g_if_ne (tgt := 53) (pc := 46) dX12_wrongThree_46 (by decide) (fun c0 => absurd c0 (by decide)) (fun _ => ?_)
      refine g_iload_n (q := 4) (pc := 49) dX12_wrongThree_49 rfl rfl ?_
      refine g_iconst (v := nI 1) (pc := 50) dX12_wrongThree_50 (by decide) ?_
      refine g_iadd_N (pc := 51) dX12_wrongThree_51 ?_
      exact g_iret (pc := 52) (by decide) (by decide) (hPo) dX12_wrongThree_52
  · -- F c1
    exact absurd (of_decide_eq_false c1) (by omega)
set_option maxHeartbeats 8000000 in
theorem c_X12_wrongThree_b {d i g : Nat} (hA : aB b0 18 ad) (ho : okM kd fg pl) (hd : d < 8) (hi2 : i + 2 < 100) (hg : g < 2) (e0 : el (100 * d + i) = nI g) (hb : inR (el (100 * d + (i + 1))) 4 = false) : KE l D Z b0 yX12_wrongThree cX12_wrongThree 5 (some .int) rmX12_wrongThree [.ref (ad 0), .int (nI d), .int (nI i)] (wM Z ad hi th po ba en se (enc kd fg pl hr) im rd mi (nf kp) (nf so) (nf sz) el ki kf ti lo wa nu li to ot V) (some (.int (nI (i + 1)))) (wM Z ad hi th po ba en se (enc kd fg pl hr) im rd mi (nf kp) (nf so) (nf sz) el ki kf ti lo wa nu li to ot V) := by
  refine KE.of (by decide) (Nat.le_of_ble_eq_true rfl) (fun Po hPo => ?_)
  refine G.locals (L' := [(0, .ref (ad 0)), (1, .int (nI d)), (2, .int (nI i))]) [0, 1, 2] rfl ?_
  refine g_aload_n (q := 0) (pc := 0) dX12_wrongThree_0 rfl rfl ?_
  refine g_iload_n (q := 1) (pc := 1) dX12_wrongThree_1 rfl rfl ?_
  refine g_iload_n (q := 2) (pc := 2) dX12_wrongThree_2 rfl rfl ?_
  refine e_callV (k2 := 0) (n2 := 0) (As := [.int (nI d), .int (nI i)]) (rest := []) (pc := 3) (wM_0 hA) rfl (c_X12_told hA hd (by omega)) mlX12_181 selX12_X12_told_X12_told mX12_told ⟨Nat.le_of_ble_eq_true rfl, Nat.le_of_ble_eq_true rfl⟩ rfl rfl (Nat.le_of_ble_eq_true rfl) dX12_wrongThree_3 (by decide) rfl rfl ?_
  rw [e0]
  refine g_istore_n (lv' := [(3, .int (nI g)), (0, .ref (ad 0)), (1, .int (nI d)), (2, .int (nI i))]) (pc := 6) dX12_wrongThree_6 rfl (by decide) rfl ?_
  refine g_aload_n (q := 1) (pc := 7) dX12_wrongThree_7 rfl rfl ?_
  refine g_iload_n (q := 2) (pc := 8) dX12_wrongThree_8 rfl rfl ?_
  refine g_iload_n (q := 3) (pc := 9) dX12_wrongThree_9 rfl rfl ?_
  refine g_iconst (v := nI 1) (pc := 10) dX12_wrongThree_10 (by decide) ?_
  refine g_iadd_N (pc := 11) dX12_wrongThree_11 ?_
  refine e_callV (k2 := 0) (n2 := 0) (As := [.int (nI d), .int (nI (i + 1))]) (rest := []) (pc := 12) (wM_0 hA) rfl (c_X12_told hA hd (by omega)) mlX12_181 selX12_X12_told_X12_told mX12_told ⟨Nat.le_of_ble_eq_true rfl, Nat.le_of_ble_eq_true rfl⟩ rfl rfl (Nat.le_of_ble_eq_true rfl) dX12_wrongThree_12 (by decide) rfl rfl ?_
  refine g_istore (lv' := [(4, .int (el (100 * d + (i + 1)))), (3, .int (nI g)), (0, .ref (ad 0)), (1, .int (nI d)), (2, .int (nI i))]) (pc := 15) dX12_wrongThree_15 (by decide) rfl ?_
  refine g_iload_n (q := 1) (pc := 17) dX12_wrongThree_17 rfl rfl ?_
  refine e_callS (k2 := 0) (n2 := 0) (As := [.int (nI g)]) (rest := []) (pc := 18) (c_X12_isGangN hA (by omega) (c_X12_isGang hA)) mlX12_146 mX12_isGang ⟨Nat.le_of_ble_eq_true rfl, Nat.le_of_ble_eq_true rfl⟩ rfl rfl (Nat.le_of_ble_eq_true rfl) dX12_wrongThree_18 (by decide) rfl rfl ?_
  refine g_if_ne_B (tgt := 26) (pc := 21) dX12_wrongThree_21 (by decide) (fun c1 => ?_) (fun c1 => ?_)
  · -- T c1
    have c1 := of_decide_eq_true c1
    refine g_iload (q := 0) (pc := 26) dX12_wrongThree_26 rfl ?_
    refine g_i2l (v := (el (100 * d + (i + 1))).toInt64) (pc := 28) dX12_wrongThree_28 rfl ?_
    refine g_lconst (v := lN 0) (pc := 29) dX12_wrongThree_29 (by decide) ?_
    refine g_ldc2 (v := lN 3) (pc := 30) klX12_168 dX12_wrongThree_30 ?_
    refine e_callS (k2 := 0) (n2 := 0) (As := [.long ((el (100 * d + (i + 1))).toInt64), .long (lN 0), .long (lN 3)]) (rest := []) (pc := 33) (c_X12_isInR 4 rfl hA (by decide) (c_X12_isIn hA)) mlX12_67 mX12_isIn ⟨Nat.le_of_ble_eq_true rfl, Nat.le_of_ble_eq_true rfl⟩ rfl rfl (Nat.le_of_ble_eq_true rfl) dX12_wrongThree_33 (by decide) rfl rfl ?_
    refine g_if_eq_B (tgt := 49) (pc := 36) dX12_wrongThree_36 (by decide) (fun c2 => ?_) (fun c2 => ?_)
    · -- T c2
      refine g_iload_n (q := 4) (pc := 49) dX12_wrongThree_49 rfl rfl ?_
      refine g_iconst (v := nI 1) (pc := 50) dX12_wrongThree_50 (by decide) ?_
      refine g_iadd_N (pc := 51) dX12_wrongThree_51 ?_
      exact g_iret (pc := 52) (by decide) (by decide) (hPo) dX12_wrongThree_52
    · -- F c2
      exact absurd (c2.symm.trans hb) (by decide)
  · -- F c1
    exact absurd (of_decide_eq_false c1) (by omega)
set_option maxHeartbeats 8000000 in
theorem c_X12_wrongThree_a {d i : Nat} (hA : aB b0 18 ad) (ho : okM kd fg pl) (hd : d < 8) (hi2 : i + 2 < 100) (hb : inR (el (100 * d + i)) 2 = false) : KE l D Z b0 yX12_wrongThree cX12_wrongThree 5 (some .int) rmX12_wrongThree [.ref (ad 0), .int (nI d), .int (nI i)] (wM Z ad hi th po ba en se (enc kd fg pl hr) im rd mi (nf kp) (nf so) (nf sz) el ki kf ti lo wa nu li to ot V) (some (.int (nI i))) (wM Z ad hi th po ba en se (enc kd fg pl hr) im rd mi (nf kp) (nf so) (nf sz) el ki kf ti lo wa nu li to ot V) := by
  refine KE.of (by decide) (Nat.le_of_ble_eq_true rfl) (fun Po hPo => ?_)
  refine G.locals (L' := [(0, .ref (ad 0)), (1, .int (nI d)), (2, .int (nI i))]) [0, 1, 2] rfl ?_
  refine g_aload_n (q := 0) (pc := 0) dX12_wrongThree_0 rfl rfl ?_
  refine g_iload_n (q := 1) (pc := 1) dX12_wrongThree_1 rfl rfl ?_
  refine g_iload_n (q := 2) (pc := 2) dX12_wrongThree_2 rfl rfl ?_
  refine e_callV (k2 := 0) (n2 := 0) (As := [.int (nI d), .int (nI i)]) (rest := []) (pc := 3) (wM_0 hA) rfl (c_X12_told hA hd (by omega)) mlX12_181 selX12_X12_told_X12_told mX12_told ⟨Nat.le_of_ble_eq_true rfl, Nat.le_of_ble_eq_true rfl⟩ rfl rfl (Nat.le_of_ble_eq_true rfl) dX12_wrongThree_3 (by decide) rfl rfl ?_
  refine g_istore_n (lv' := [(3, .int (el (100 * d + i))), (0, .ref (ad 0)), (1, .int (nI d)), (2, .int (nI i))]) (pc := 6) dX12_wrongThree_6 rfl (by decide) rfl ?_
  refine g_aload_n (q := 1) (pc := 7) dX12_wrongThree_7 rfl rfl ?_
  refine g_iload_n (q := 2) (pc := 8) dX12_wrongThree_8 rfl rfl ?_
  refine g_iload_n (q := 3) (pc := 9) dX12_wrongThree_9 rfl rfl ?_
  refine g_iconst (v := nI 1) (pc := 10) dX12_wrongThree_10 (by decide) ?_
  refine g_iadd_N (pc := 11) dX12_wrongThree_11 ?_
  refine e_callV (k2 := 0) (n2 := 0) (As := [.int (nI d), .int (nI (i + 1))]) (rest := []) (pc := 12) (wM_0 hA) rfl (c_X12_told hA hd (by omega)) mlX12_181 selX12_X12_told_X12_told mX12_told ⟨Nat.le_of_ble_eq_true rfl, Nat.le_of_ble_eq_true rfl⟩ rfl rfl (Nat.le_of_ble_eq_true rfl) dX12_wrongThree_12 (by decide) rfl rfl ?_
  refine g_istore (lv' := [(4, .int (el (100 * d + (i + 1)))), (3, .int (el (100 * d + i))), (0, .ref (ad 0)), (1, .int (nI d)), (2, .int (nI i))]) (pc := 15) dX12_wrongThree_15 (by decide) rfl ?_
  refine g_iload_n (q := 1) (pc := 17) dX12_wrongThree_17 rfl rfl ?_
  refine e_callS (k2 := 0) (n2 := 0) (As := [.int (el (100 * d + i))]) (rest := []) (pc := 18) (c_X12_isGang hA) mlX12_146 mX12_isGang ⟨Nat.le_of_ble_eq_true rfl, Nat.le_of_ble_eq_true rfl⟩ rfl rfl (Nat.le_of_ble_eq_true rfl) dX12_wrongThree_18 (by decide) rfl rfl ?_
  refine g_if_ne_B (tgt := 26) (pc := 21) dX12_wrongThree_21 (by decide) (fun c1 => ?_) (fun c1 => ?_)
  · -- T c1
    exact absurd (c1.symm.trans hb) (by decide)
  · -- F c1
    refine g_iload_n (q := 4) (pc := 24) dX12_wrongThree_24 rfl rfl ?_
    exact g_iret (pc := 25) (by decide) (by decide) (hPo) dX12_wrongThree_25
def rmX12_judge : Room := { frames := 4, cells := 0, slots := 0, locals := 89 }
set_option maxHeartbeats 8000000 in
theorem c_X12_judge_s {d : Nat} (hA : aB b0 18 ad) (ho : okM kd fg pl) (hs : okS kp so sz ki kf) (hd : d < 8) (hk : kp d = 2) : KM l D Z b0 yX12_judge cX12_judge 5 (some .int) rmX12_judge [.ref (ad 0), .int (nI d)] (wM Z ad hi th po ba en se (enc kd fg pl hr) im rd mi (nf kp) (nf so) (nf sz) el ki kf ti lo wa nu li to ot V) (fun v V' => v = some (.int (spJudgeV el d (sz d) (kd, fg, pl, hr))) ∧ MX Z ad hi (enc kd fg pl hr) im (nf kp) (nf so) (nf sz) el ki kf V V') := by
  refine KM.ofP (by decide) (Nat.le_of_ble_eq_true rfl) (fun Po hPo => ?_)
  refine G.locals (L' := [(0, .ref (ad 0)), (1, .int (nI d))]) [0, 1] rfl ?_
  refine g_aload_n (q := 0) (pc := 0) dX12_judge_0 rfl rfl ?_
  refine g_iload_n (q := 1) (pc := 1) dX12_judge_1 rfl rfl ?_
  refine g_iconst (v := (-1)) (pc := 2) dX12_judge_2 (by decide) ?_
  refine e_callV (k2 := 0) (n2 := 0) (As := [.int (nI d), .int (-1)]) (rest := []) (pc := 3) (wM_0 hA) rfl (c_X12_wrongRow_ok (r := none) hA hd hk rfl (c_X12_wrongRowm hA hs)) mlX12_155 selX12_X12_wrongRow_X12_wrongRow mX12_wrongRow ⟨Nat.le_of_ble_eq_true rfl, Nat.le_of_ble_eq_true rfl⟩ rfl rfl (Nat.le_of_ble_eq_true rfl) dX12_judge_3 (by decide) rfl rfl ?_
  refine g_istore_n (lv' := [(2, .int (nI 0)), (0, .ref (ad 0)), (1, .int (nI d))]) (pc := 6) dX12_judge_6 rfl (by decide) rfl ?_
  refine g_iload_n (q := 0) (pc := 7) dX12_judge_7 rfl rfl ?_
  refine g_if_eq (tgt := 13) (pc := 8) dX12_judge_8 (by decide) (fun _ => ?_) (fun c0 => absurd c0 (by decide))
  refine g_aload_n (q := 1) (pc := 13) dX12_judge_13 rfl rfl ?_
  refine e_callVv (k2 := 0) (n2 := 0) (As := []) (rest := []) (pc := 14) (wM_0 hA) rfl (c_X12_begins hA) mlX12_192 selX12_X12_begins_X12_begins mX12_begins ⟨Nat.le_of_ble_eq_true rfl, Nat.le_of_ble_eq_true rfl⟩ rfl rfl (Nat.le_of_ble_eq_true rfl) dX12_judge_14 (by decide) rfl rfl ?_
  refine g_bipush (v := (-4)) (pc := 17) dX12_judge_17 (by decide) ?_
  refine g_istore_n (lv' := [(3, .int (-4)), (2, .int (nI 0)), (0, .ref (ad 0)), (1, .int (nI d))]) (pc := 19) dX12_judge_19 rfl (by decide) rfl ?_
  refine g_iconst (v := nI 0) (pc := 20) dX12_judge_20 (by decide) ?_
  refine g_istore (lv' := [(4, .int (nI 0)), (3, .int (-4)), (2, .int (nI 0)), (0, .ref (ad 0)), (1, .int (nI d))]) (pc := 21) dX12_judge_21 (by decide) rfl ?_
  have lp23 : ∀ (d23 : Nat) (i : Nat) (k : Nat) (fnd : Int32) (kd2 : Nat → Nat) (fg2 : Nat → Nat) (pl2 : Nat → Nat) (hr2 : Nat → Int32), k + d23 = 101 → (i = 3 * k) → (3 * k ≤ sz d) → (jF el d (kd, fg, pl, hr) k = ((kd2, fg2, pl2, hr2), fnd)) → (okM kd2 fg2 pl2) → (fnd = (-4) ∨ 0 ≤ fnd) → G l D Z b0 rmX12_judge RX12 cX12_judge 5 (gE (some .int) "judge") (gT D b0 Po rmX12_judge.cells rmX12_judge.slots) (wM Z ad hi th po ba en se (enc kd2 fg2 pl2 hr2) im rd (enc kd fg pl hr) (nf kp) (nf so) (nf sz) el ki kf ti lo wa nu li to ot V) [(4, .int (nI i)), (3, .int fnd), (0, .ref (ad 0)), (1, .int (nI d))] 0 0 23 [] := by
    intro d23
    induction d23 with
    | zero =>
      intro i k fnd kd2 fg2 pl2 hr2 hd23 hik hkn hj ho2 hfn
      have := (hs d hd).2.2.1; omega
    | succ d23 ih23 =>
      intro i k fnd kd2 fg2 pl2 hr2 hd23 hik hkn hj ho2 hfn
      refine g_iload (q := 0) (pc := 23) dX12_judge_23 rfl ?_
      refine g_iconst (v := nI 2) (pc := 25) dX12_judge_25 (by decide) ?_
      refine g_iadd_N (pc := 26) dX12_judge_26 ?_
      refine g_aload_n (q := 2) (pc := 27) dX12_judge_27 rfl rfl ?_
      refine gm_get_sz (pc := 28) hA dX12_judge_28 ?_
      refine g_iload_n (q := 3) (pc := 31) dX12_judge_31 rfl rfl ?_
      refine gm_ld_sz (pc := 32) (j := d) (x := nI (sz d)) hA hd rfl dX12_judge_32 ?_
      refine g_icmp_ge_N (tgt := 54) (pc := 33) (by have := (hs d hd).2.2.1; omega) (by have := (hs d hd).2.2.1; omega) dX12_judge_33 (by decide) (fun c1 => ?_) (fun c1 => ?_)
      · -- T c1
        refine g_aload_n (q := 2) (pc := 54) dX12_judge_54 rfl rfl ?_
        refine e_callVv (k2 := 0) (n2 := 0) (As := []) (rest := []) (pc := 55) (wM_0 hA) rfl (c_X12_ends hA) mlX12_195 selX12_X12_ends_X12_ends mX12_ends ⟨Nat.le_of_ble_eq_true rfl, Nat.le_of_ble_eq_true rfl⟩ rfl rfl (Nat.le_of_ble_eq_true rfl) dX12_judge_55 (by decide) rfl rfl ?_
        refine g_iload_n (q := 1) (pc := 58) dX12_judge_58 rfl rfl ?_
        refine g_if_ge (tgt := 73) (pc := 59) dX12_judge_59 (by decide) (fun c2 => ?_) (fun c2 => ?_)
        · -- T c2
          have hge := c2
          refine g_iload_n (q := 1) (pc := 73) dX12_judge_73 rfl rfl ?_
          refine g_goto (tgt := 79) (pc := 74) dX12_judge_74 (by decide) ?_
          exact g_iret (pc := 79) (by decide) (by decide) (gI hPo (by rw [spJudgeV, jF_st hj (by rw [Int32.not_lt]; exact hge) (sz d / 3) (by omega), if_neg (by rw [Int32.not_lt]; exact hge)]) mxk) dX12_judge_79
        · -- F c2
          obtain rfl : fnd = (-4) := hfn.resolve_right c2
          obtain rfl : k = sz d / 3 := (by omega)
          refine g_aload_n (q := 2) (pc := 62) dX12_judge_62 rfl rfl ?_
          refine gm_get_sz (pc := 63) hA dX12_judge_63 ?_
          refine g_iload_n (q := 3) (pc := 66) dX12_judge_66 rfl rfl ?_
          refine gm_ld_sz (pc := 67) (j := d) (x := nI (sz d)) hA hd rfl dX12_judge_67 ?_
          refine g_iconst (v := nI 3) (pc := 68) dX12_judge_68 (by decide) ?_
          refine g_irem_N (pc := 69) (by have := (hs d hd).2.2.1; omega) (by decide) (by decide) dX12_judge_69 ?_
          refine g_if_ne_N (tgt := 77) (pc := 70) (by have := (hs d hd).2.2.1; omega) dX12_judge_70 (by decide) (fun c3 => ?_) (fun c3 => ?_)
          · -- T c3
            refine g_iload (q := 0) (pc := 77) dX12_judge_77 rfl ?_
            exact g_iret (pc := 79) (by decide) (by decide) (gI hPo (by rw [spJudgeV, hj, if_pos (show ((-4) : Int32) < 0 by decide), if_neg (by assumption), hik]) mxk) dX12_judge_79
          · -- F c3
            refine g_iload_n (q := 1) (pc := 73) dX12_judge_73 rfl rfl ?_
            refine g_goto (tgt := 79) (pc := 74) dX12_judge_74 (by decide) ?_
            exact g_iret (pc := 79) (by decide) (by decide) (gI hPo (by rw [spJudgeV, hj, if_pos (show ((-4) : Int32) < 0 by decide), if_pos (by assumption)]) mxk) dX12_judge_79
      · -- F c1
        refine g_iload_n (q := 1) (pc := 36) dX12_judge_36 rfl rfl ?_
        refine g_if_ge (tgt := 54) (pc := 37) dX12_judge_37 (by decide) (fun c4 => ?_) (fun c4 => ?_)
        · -- T c4
          have hfge := c4
          refine g_aload_n (q := 2) (pc := 54) dX12_judge_54 rfl rfl ?_
          refine e_callVv (k2 := 0) (n2 := 0) (As := []) (rest := []) (pc := 55) (wM_0 hA) rfl (c_X12_ends hA) mlX12_195 selX12_X12_ends_X12_ends mX12_ends ⟨Nat.le_of_ble_eq_true rfl, Nat.le_of_ble_eq_true rfl⟩ rfl rfl (Nat.le_of_ble_eq_true rfl) dX12_judge_55 (by decide) rfl rfl ?_
          refine g_iload_n (q := 1) (pc := 58) dX12_judge_58 rfl rfl ?_
          refine g_if_ge (tgt := 73) (pc := 59) dX12_judge_59 (by decide) (fun c5 => ?_) (fun c5 => ?_)
          · -- T c5
            have hge := c5
            refine g_iload_n (q := 1) (pc := 73) dX12_judge_73 rfl rfl ?_
            refine g_goto (tgt := 79) (pc := 74) dX12_judge_74 (by decide) ?_
            exact g_iret (pc := 79) (by decide) (by decide) (gI hPo (by rw [spJudgeV, jF_st hj (by rw [Int32.not_lt]; exact hge) (sz d / 3) (by omega), if_neg (by rw [Int32.not_lt]; exact hge)]) mxk) dX12_judge_79
          · -- F c5
            exact absurd hfge c5
        · -- F c4
          obtain rfl : fnd = (-4) := hfn.resolve_right c4
          refine g_aload_n (q := 2) (pc := 40) dX12_judge_40 rfl rfl ?_
          refine g_iload_n (q := 3) (pc := 41) dX12_judge_41 rfl rfl ?_
          refine g_iload (q := 0) (pc := 42) dX12_judge_42 rfl ?_
          rcases jd_cases kd2 fg2 pl2 hr2 (el (100 * d + i)) (el (100 * d + (i + 1))) (el (100 * d + (i + 2))) with ha | ⟨g, hg, e0, hb⟩ | ⟨g, s1, hg, hs1, e0, e1, hb⟩ | ⟨g, s1, t, hg, hs1, e0, e1, hb, hv⟩ | ⟨g, s1, t, hg, hs1, e0, e1, hb, hv⟩
          · -- alt
            refine e_callV (k2 := 0) (n2 := 0) (As := [.int (nI d), .int (nI i)]) (rest := []) (pc := 44) (wM_0 hA) rfl (c_X12_wrongThree_a hA ho2 hd (by have := (hs d hd).2.2.1; omega) ha) mlX12_232 selX12_X12_wrongThree_X12_wrongThree mX12_wrongThree ⟨Nat.le_of_ble_eq_true rfl, Nat.le_of_ble_eq_true rfl⟩ rfl rfl (Nat.le_of_ble_eq_true rfl) dX12_judge_44 (by decide) rfl rfl ?_
            have hjn := (jF_s hik hj (jd1_a ha)).trans (by rw [if_pos (by decide)])
            have hon := ho2
            refine g_istore_n (lv' := [(3, .int (nI i)), (4, .int (nI i)), (0, .ref (ad 0)), (1, .int (nI d))]) (pc := 47) dX12_judge_47 rfl (by decide) rfl ?_
            refine g_iinc (q := 1) (lv' := [(4, .int (nI (i + 3))), (3, .int (nI i)), (0, .ref (ad 0)), (1, .int (nI d))]) (pc := 48) dX12_judge_48 rfl (nI_inc _ _) (by decide) rfl ?_
            refine g_goto (tgt := 23) (pc := 51) dX12_judge_51 (by decide) ?_
            refine G.locals (L' := [(4, .int (nI (i + 3))), (3, .int (nI i)), (0, .ref (ad 0)), (1, .int (nI d))]) [0, 1, 2, 3] rfl ?_
            exact ih23 (i + 3) (k + 1) (nI i) kd2 fg2 pl2 hr2 (by omega) (by omega) (by omega) hjn hon (Or.inr (nI_0le (by omega)))
          · -- alt
            refine e_callV (k2 := 0) (n2 := 0) (As := [.int (nI d), .int (nI i)]) (rest := []) (pc := 44) (wM_0 hA) rfl (c_X12_wrongThree_b hA ho2 hd (by have := (hs d hd).2.2.1; omega) hg e0 hb) mlX12_232 selX12_X12_wrongThree_X12_wrongThree mX12_wrongThree ⟨Nat.le_of_ble_eq_true rfl, Nat.le_of_ble_eq_true rfl⟩ rfl rfl (Nat.le_of_ble_eq_true rfl) dX12_judge_44 (by decide) rfl rfl ?_
            have hjn := (jF_s hik hj (jd1_b hg e0 hb)).trans (by rw [if_pos (by decide)])
            have hon := ho2
            refine g_istore_n (lv' := [(3, .int (nI (i + 1))), (4, .int (nI i)), (0, .ref (ad 0)), (1, .int (nI d))]) (pc := 47) dX12_judge_47 rfl (by decide) rfl ?_
            refine g_iinc (q := 1) (lv' := [(4, .int (nI (i + 3))), (3, .int (nI (i + 1))), (0, .ref (ad 0)), (1, .int (nI d))]) (pc := 48) dX12_judge_48 rfl (nI_inc _ _) (by decide) rfl ?_
            refine g_goto (tgt := 23) (pc := 51) dX12_judge_51 (by decide) ?_
            refine G.locals (L' := [(4, .int (nI (i + 3))), (3, .int (nI (i + 1))), (0, .ref (ad 0)), (1, .int (nI d))]) [0, 1, 2, 3] rfl ?_
            exact ih23 (i + 3) (k + 1) (nI (i + 1)) kd2 fg2 pl2 hr2 (by omega) (by omega) (by omega) hjn hon (Or.inr (nI_0le (by omega)))
          · -- alt
            refine e_callV (k2 := 0) (n2 := 0) (As := [.int (nI d), .int (nI i)]) (rest := []) (pc := 44) (wM_0 hA) rfl (c_X12_wrongThree_c hA ho2 hd (by have := (hs d hd).2.2.1; omega) hg hs1 e0 e1 hb) mlX12_232 selX12_X12_wrongThree_X12_wrongThree mX12_wrongThree ⟨Nat.le_of_ble_eq_true rfl, Nat.le_of_ble_eq_true rfl⟩ rfl rfl (Nat.le_of_ble_eq_true rfl) dX12_judge_44 (by decide) rfl rfl ?_
            have hjn := (jF_s hik hj (jd1_c hg hs1 e0 e1 hb)).trans (by rw [if_pos (by decide)])
            have hon := ho2
            refine g_istore_n (lv' := [(3, .int (nI (i + 1))), (4, .int (nI i)), (0, .ref (ad 0)), (1, .int (nI d))]) (pc := 47) dX12_judge_47 rfl (by decide) rfl ?_
            refine g_iinc (q := 1) (lv' := [(4, .int (nI (i + 3))), (3, .int (nI (i + 1))), (0, .ref (ad 0)), (1, .int (nI d))]) (pc := 48) dX12_judge_48 rfl (nI_inc _ _) (by decide) rfl ?_
            refine g_goto (tgt := 23) (pc := 51) dX12_judge_51 (by decide) ?_
            refine G.locals (L' := [(4, .int (nI (i + 3))), (3, .int (nI (i + 1))), (0, .ref (ad 0)), (1, .int (nI d))]) [0, 1, 2, 3] rfl ?_
            exact ih23 (i + 3) (k + 1) (nI (i + 1)) kd2 fg2 pl2 hr2 (by omega) (by omega) (by omega) hjn hon (Or.inr (nI_0le (by omega)))
          · -- alt
            refine e_callV (k2 := 0) (n2 := 0) (As := [.int (nI d), .int (nI i)]) (rest := []) (pc := 44) (wM_0 hA) rfl (c_X12_wrongThree_d hA ho2 hd (by have := (hs d hd).2.2.1; omega) hg hs1 e0 e1 hb hv) mlX12_232 selX12_X12_wrongThree_X12_wrongThree mX12_wrongThree ⟨Nat.le_of_ble_eq_true rfl, Nat.le_of_ble_eq_true rfl⟩ rfl rfl (Nat.le_of_ble_eq_true rfl) dX12_judge_44 (by decide) rfl rfl ?_
            have hjn := (jF_s hik hj (jd1_d hg hs1 e0 e1 hb hv)).trans (by rw [if_pos (by decide)])
            have hon := okM_dig (g := g) ho2 (nbo_lt (ho2.2 g hg) hb)
            refine g_istore_n (lv' := [(3, .int (nI (i + 2))), (4, .int (nI i)), (0, .ref (ad 0)), (1, .int (nI d))]) (pc := 47) dX12_judge_47 rfl (by decide) rfl ?_
            refine g_iinc (q := 1) (lv' := [(4, .int (nI (i + 3))), (3, .int (nI (i + 2))), (0, .ref (ad 0)), (1, .int (nI d))]) (pc := 48) dX12_judge_48 rfl (nI_inc _ _) (by decide) rfl ?_
            refine g_goto (tgt := 23) (pc := 51) dX12_judge_51 (by decide) ?_
            refine G.locals (L' := [(4, .int (nI (i + 3))), (3, .int (nI (i + 2))), (0, .ref (ad 0)), (1, .int (nI d))]) [0, 1, 2, 3] rfl ?_
            exact ih23 (i + 3) (k + 1) (nI (i + 2)) (updN kd2 t 7) (updN fg2 t 0) (updN pl2 g t) (upd hr2 g (hr2 g + nI (toilN (kd2 t) (fg2 t)))) (by omega) (by omega) (by omega) hjn hon (Or.inr (nI_0le (by omega)))
          · -- alt
            refine e_callV (k2 := 0) (n2 := 0) (As := [.int (nI d), .int (nI i)]) (rest := []) (pc := 44) (wM_0 hA) rfl (c_X12_wrongThree_e hA ho2 hd (by have := (hs d hd).2.2.1; omega) hg hs1 e0 e1 hb hv) mlX12_232 selX12_X12_wrongThree_X12_wrongThree mX12_wrongThree ⟨Nat.le_of_ble_eq_true rfl, Nat.le_of_ble_eq_true rfl⟩ rfl rfl (Nat.le_of_ble_eq_true rfl) dX12_judge_44 (by decide) rfl rfl ?_
            have hjn := (jF_s hik hj (jd1_e hg hs1 e0 e1 hb hv)).trans (by rw [if_neg (by decide)])
            have hon := okM_dig (g := g) ho2 (nbo_lt (ho2.2 g hg) hb)
            refine g_istore_n (lv' := [(3, .int (-4)), (4, .int (nI i)), (0, .ref (ad 0)), (1, .int (nI d))]) (pc := 47) dX12_judge_47 rfl (by decide) rfl ?_
            refine g_iinc (q := 1) (lv' := [(4, .int (nI (i + 3))), (3, .int (-4)), (0, .ref (ad 0)), (1, .int (nI d))]) (pc := 48) dX12_judge_48 rfl (nI_inc _ _) (by decide) rfl ?_
            refine g_goto (tgt := 23) (pc := 51) dX12_judge_51 (by decide) ?_
            refine G.locals (L' := [(4, .int (nI (i + 3))), (3, .int (-4)), (0, .ref (ad 0)), (1, .int (nI d))]) [0, 1, 2, 3] rfl ?_
            exact ih23 (i + 3) (k + 1) (-4) (updN kd2 t 7) (updN fg2 t 0) (updN pl2 g t) (upd hr2 g (hr2 g + nI (toilN (kd2 t) (fg2 t)))) (by omega) (by omega) (by omega) hjn hon (Or.inl rfl)
  refine G.locals (L' := [(4, .int (nI 0)), (3, .int (-4)), (0, .ref (ad 0)), (1, .int (nI d))]) [0, 1, 3, 4] rfl ?_
  exact lp23 101 0 0 (-4) kd fg pl hr (by omega) rfl (by omega) rfl ho (Or.inl rfl)
set_option maxHeartbeats 8000000 in
theorem c_X12_judge_n {d : Int32} (hA : aB b0 18 ad) (hs : okS kp so sz ki kf) (h : ¬ spWR kp so d none = 0) : KE l D Z b0 yX12_judge cX12_judge 5 (some .int) rmX12_judge [.ref (ad 0), .int d] (wM Z ad hi th po ba en se (enc kd fg pl hr) im rd mi (nf kp) (nf so) (nf sz) el ki kf ti lo wa nu li to ot V) (some (.int (spWR kp so d none))) (wM Z ad hi th po ba en se (enc kd fg pl hr) im rd mi (nf kp) (nf so) (nf sz) el ki kf ti lo wa nu li to ot V) := by
  refine KE.of (by decide) (Nat.le_of_ble_eq_true rfl) (fun Po hPo => ?_)
  refine G.locals (L' := [(0, .ref (ad 0)), (1, .int d)]) [0, 1] rfl ?_
  refine g_aload_n (q := 0) (pc := 0) dX12_judge_0 rfl rfl ?_
  refine g_iload_n (q := 1) (pc := 1) dX12_judge_1 rfl rfl ?_
  refine g_iconst (v := (-1)) (pc := 2) dX12_judge_2 (by decide) ?_
  refine e_callV (k2 := 0) (n2 := 0) (As := [.int d, .int (-1)]) (rest := []) (pc := 3) (wM_0 hA) rfl (c_X12_wrongRowm hA hs) mlX12_155 selX12_X12_wrongRow_X12_wrongRow mX12_wrongRow ⟨Nat.le_of_ble_eq_true rfl, Nat.le_of_ble_eq_true rfl⟩ rfl rfl (Nat.le_of_ble_eq_true rfl) dX12_judge_3 (by decide) rfl rfl ?_
  refine g_istore_n (lv' := [(2, .int (spWR kp so d none)), (0, .ref (ad 0)), (1, .int d)]) (pc := 6) dX12_judge_6 rfl (by decide) rfl ?_
  refine g_iload_n (q := 0) (pc := 7) dX12_judge_7 rfl rfl ?_
  refine g_if_eq (tgt := 13) (pc := 8) dX12_judge_8 (by decide) (fun c1 => ?_) (fun c1 => ?_)
  · -- T c1
    exact absurd c1 h
  · -- F c1
    refine g_iload_n (q := 0) (pc := 11) dX12_judge_11 rfl rfl ?_
    exact g_iret (pc := 12) (by decide) (by decide) (hPo) dX12_judge_12
end MS
