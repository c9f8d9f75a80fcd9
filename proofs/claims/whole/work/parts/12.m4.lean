section MS
variable {l : Launch} {D : va_G} {Z : Nat → ClassId} {b0 : Nat} {ad : Nat → Nat} {hi th po ba en se : Int32} {s im rd mi el ki kf ti lo wa nu li to ot : Nat → Int32} {kd fg pl kp so sz ikd ifg ipl T L : Nat → Nat} {hr ihr : Nat → Int32} {V : HV}
def iniT (a v : Nat) : Nat := if v = a then 0 else 1000000
def nobet (w1 w2 T L : Nat → Nat) (u s : Nat) : Prop := ∀ v, nbo u s = some v → T u < 1000000 → ¬ bett w1 w2 T L u v
def FM (w1 w2 : Nat → Nat) (a m0 c : Nat) (T L : Nat → Nat) (b : Bool) : Prop := JF w1 w2 a T L ∧ muTL T L ≤ m0 ∧ (b = true → muTL T L < m0) ∧ (b = false → ∀ u, u < c → ∀ s, s < 4 → nobet w1 w2 T L u s)
def FI (w1 w2 : Nat → Nat) (a m0 c s1 : Nat) (T L : Nat → Nat) (b : Bool) : Prop := JF w1 w2 a T L ∧ muTL T L ≤ m0 ∧ (b = true → muTL T L < m0) ∧ (b = false → (∀ u, u < c → ∀ s, s < 4 → nobet w1 w2 T L u s) ∧ ∀ s, s < s1 → nobet w1 w2 T L c s)
theorem FM.start {w1 w2 : Nat → Nat} {a : Nat} {T L : Nat → Nat} (h : JF w1 w2 a T L) : FM w1 w2 a (muTL T L) 0 T L false := ⟨h, Nat.le_refl _, fun q => absurd q (by decide), fun _ u hu => absurd hu (Nat.not_lt_zero _)⟩
theorem FM.inn {w1 w2 : Nat → Nat} {a m0 c : Nat} {T L : Nat → Nat} {b : Bool} (h : FM w1 w2 a m0 c T L b) : FI w1 w2 a m0 c 0 T L b := ⟨h.1, h.2.1, h.2.2.1, fun q => ⟨h.2.2.2 q, fun s hs => absurd hs (Nat.not_lt_zero _)⟩⟩
theorem FI.out {w1 w2 : Nat → Nat} {a m0 c s1 : Nat} {T L : Nat → Nat} {b : Bool} (h : FI w1 w2 a m0 c s1 T L b) (hs1 : 4 ≤ s1) : FM w1 w2 a m0 (c + 1) T L b := ⟨h.1, h.2.1, h.2.2.1, fun q u hu s hs => by
  by_cases z : u = c
  · subst z; exact (h.2.2.2 q).2 s (by omega)
  · exact (h.2.2.2 q).1 u (by omega) s hs⟩
theorem FI.nxt {w1 w2 : Nat → Nat} {a m0 c s1 : Nat} {T L : Nat → Nat} {b : Bool} (h : FI w1 w2 a m0 c s1 T L b) (hn : nobet w1 w2 T L c s1) : FI w1 w2 a m0 c (s1 + 1) T L b := ⟨h.1, h.2.1, h.2.2.1, fun q => ⟨(h.2.2.2 q).1, fun s hs => by
  by_cases z : s = s1
  · subst z; exact hn
  · exact (h.2.2.2 q).2 s (by omega)⟩⟩
theorem FI.none {w1 w2 : Nat → Nat} {a m0 c s1 : Nat} {T L : Nat → Nat} {b : Bool} (h : FI w1 w2 a m0 c s1 T L b) (hn : nbo c s1 = none) : FI w1 w2 a m0 c (s1 + 1) T L b := h.nxt (fun v hv => by rw [hn] at hv; cases hv)
theorem FI.far {w1 w2 : Nat → Nat} {a m0 c s1 : Nat} {T L : Nat → Nat} {b : Bool} (h : FI w1 w2 a m0 c s1 T L b) (hn : 1000000 ≤ T c) : FI w1 w2 a m0 c (s1 + 1) T L b := h.nxt (fun v _ hv => absurd hv (by omega))
theorem FI.not {w1 w2 : Nat → Nat} {a m0 c s1 v : Nat} {T L : Nat → Nat} {b : Bool} (h : FI w1 w2 a m0 c s1 T L b) (hv : nbo c s1 = some v) (hn : ¬ bett w1 w2 T L c v) : FI w1 w2 a m0 c (s1 + 1) T L b := h.nxt (fun v' hv' _ => by rw [hv] at hv'; cases hv'; exact hn)
theorem FI.yes {w1 w2 : Nat → Nat} {a m0 c s1 v : Nat} {T L : Nat → Nat} {b : Bool} (hw : ∀ c, c < 20 → 1 ≤ w1 c ∧ w1 c ≤ 26 ∧ w2 c ≤ 14) (ha : a < 20) (hc : c < 20) (hs : s1 < 4) (h : FI w1 w2 a m0 c s1 T L b) (hv : nbo c s1 = some v) (hM : T c < 1000000) (hb : bett w1 w2 T L c v) : FI w1 w2 a m0 c (s1 + 1) (updN T v (T c + w1 v)) (updN L v (L c + w2 v)) true := by
  have h1 := h.1.step hw ha hc hs hv hM hb
  have h2 := h.2.1
  exact ⟨h1.1, by omega, fun _ => by omega, fun q => absurd q (by decide)⟩
theorem fmeas {b b2 : Bool} {m m2 d : Nat} (hb : b = true) (hd : 2 * m + 1 < d + 1 ∨ (b = false ∧ 2 * m < d + 1)) (h1 : m2 ≤ m) (h2 : b2 = true → m2 < m) : 2 * m2 + 1 < d ∨ (b2 = false ∧ 2 * m2 < d) := by
  rcases hd with hd | ⟨q, -⟩
  · cases b2 with
    | true => left; have := h2 rfl; omega
    | false => right; exact ⟨rfl, by omega⟩
  · rw [hb] at q; cases q
theorem FM.fin {w1 w2 : Nat → Nat} {a m0 c : Nat} {T L : Nat → Nat} {b : Bool} (h : FM w1 w2 a m0 c T L b) (hc : 20 ≤ c) : b = false → ∀ u, u < 20 → ∀ s, s < 4 → nobet w1 w2 T L u s := fun q u hu => h.2.2.2 q u (by omega)
theorem stepF {f : Nat → Int32} {g : Nat → Nat} {i : Nat} (h : ∀ j, j < i → f j = nf g j) : ∀ j, j < i + 1 → upd f i (nI (g i)) j = nf g j := fun j hj => by
  by_cases z : j = i
  · subst z; exact upd_eq _ _ _
  · rw [upd_ne z]; exact h j (by omega)
theorem JF.fin {kd fg pl : Nat → Nat} (ho : okM kd fg pl) {a : Nat} (ha : a < 20) {T L : Nat → Nat} (h : JF (sw kd fg) (lw kd fg) a T L) (hF : ∀ u, u < 20 → ∀ s, s < 4 → nobet (sw kd fg) (lw kd fg) T L u s) : SolK (sw kd fg) (lw kd fg) a T L := h.sol (wK ho) ha (fun u hu s hs v hb hT => hF u hu s hs v hb hT)
theorem JF.ini {kd fg : Nat → Nat} {a : Nat} (ha : a < 20) : JF (sw kd fg) (lw kd fg) a (iniT a) (iniT a) := JF.init ha (fun _ _ => rfl) (fun _ _ => rfl)
def rmX12_isBetter : Room := { frames := 2, cells := 0, slots := 0, locals := 42 }
set_option maxHeartbeats 8000000 in
theorem c_X12_isBetter_y {c v : Nat} (hA : aB b0 18 ad) (ho : okM kd fg pl) (hc : c < 20) (hv : v < 20) (hT : T c ≤ 494) (hL : L c ≤ 6916) (hTv : T v ≤ 1000000) (hLv : L v ≤ 1000000) (h : T c + slowN (kd v) (fg v) < T v ∨ (T c + slowN (kd v) (fg v) = T v ∧ L c + lossN (kd v) (fg v) < L v)) : KE l D Z b0 yX12_isBetter cX12_isBetter 5 (some .boolean) rmX12_isBetter [.ref (ad 0), .int (nI c), .int (nI v)] (wM Z ad hi th po ba en se (enc kd fg pl hr) im rd mi (nf kp) (nf so) (nf sz) el ki kf (nf T) (nf L) wa nu li to ot V) (some (.int (nI 1))) (wM Z ad hi th po ba en se (enc kd fg pl hr) im rd mi (nf kp) (nf so) (nf sz) el ki kf (nf (updN T v (T c + slowN (kd v) (fg v)))) (nf (updN L v (L c + lossN (kd v) (fg v)))) wa nu li to ot V) := by
  refine KE.of (by decide) (Nat.le_of_ble_eq_true rfl) (fun Po hPo => ?_)
  refine G.locals (L' := [(0, .ref (ad 0)), (1, .int (nI c)), (2, .int (nI v))]) [0, 1, 2] rfl ?_
  refine g_aload_n (q := 0) (pc := 0) dX12_isBetter_0 rfl rfl ?_
  refine gm_get_ti (pc := 1) hA dX12_isBetter_1 ?_
  refine g_iload_n (q := 1) (pc := 4) dX12_isBetter_4 rfl rfl ?_
  refine gm_ld_ti (pc := 5) (j := c) (x := nI (T c)) hA (by omega) rfl dX12_isBetter_5 ?_
  refine g_aload_n (q := 0) (pc := 6) dX12_isBetter_6 rfl rfl ?_
  refine g_iload_n (q := 2) (pc := 7) dX12_isBetter_7 rfl rfl ?_
  refine e_callV (k2 := 0) (n2 := 0) (As := [.int (nI v)]) (rest := [.int (nI (T c))]) (pc := 8) (wM_0 hA) rfl (c_X12_slow hA ho hv) mlX12_107 selX12_X12_slow_X12_slow mX12_slow ⟨Nat.le_of_ble_eq_true rfl, Nat.le_of_ble_eq_true rfl⟩ rfl rfl (Nat.le_of_ble_eq_true rfl) dX12_isBetter_8 (by decide) rfl rfl ?_
  refine g_iadd_N (pc := 11) dX12_isBetter_11 ?_
  refine g_istore_n (lv' := [(3, .int (nI ((T c) + (slowN (kd v) (fg v))))), (0, .ref (ad 0)), (1, .int (nI c)), (2, .int (nI v))]) (pc := 12) dX12_isBetter_12 rfl (by decide) rfl ?_
  refine g_aload_n (q := 1) (pc := 13) dX12_isBetter_13 rfl rfl ?_
  refine gm_get_lo (pc := 14) hA dX12_isBetter_14 ?_
  refine g_iload_n (q := 2) (pc := 17) dX12_isBetter_17 rfl rfl ?_
  refine gm_ld_lo (pc := 18) (j := c) (x := nI (L c)) hA (by omega) rfl dX12_isBetter_18 ?_
  refine g_aload_n (q := 1) (pc := 19) dX12_isBetter_19 rfl rfl ?_
  refine g_iload_n (q := 3) (pc := 20) dX12_isBetter_20 rfl rfl ?_
  refine e_callV (k2 := 0) (n2 := 0) (As := [.int (nI v)]) (rest := [.int (nI (L c))]) (pc := 21) (wM_0 hA) rfl (c_X12_loss hA ho hv) mlX12_110 selX12_X12_loss_X12_loss mX12_loss ⟨Nat.le_of_ble_eq_true rfl, Nat.le_of_ble_eq_true rfl⟩ rfl rfl (Nat.le_of_ble_eq_true rfl) dX12_isBetter_21 (by decide) rfl rfl ?_
  refine g_iadd_N (pc := 24) dX12_isBetter_24 ?_
  refine g_istore (lv' := [(4, .int (nI ((L c) + (lossN (kd v) (fg v))))), (3, .int (nI ((T c) + (slowN (kd v) (fg v))))), (0, .ref (ad 0)), (1, .int (nI c)), (2, .int (nI v))]) (pc := 25) dX12_isBetter_25 (by decide) rfl ?_
  refine g_iload_n (q := 1) (pc := 27) dX12_isBetter_27 rfl rfl ?_
  refine g_aload_n (q := 2) (pc := 28) dX12_isBetter_28 rfl rfl ?_
  refine gm_get_ti (pc := 29) hA dX12_isBetter_29 ?_
  refine g_iload_n (q := 4) (pc := 32) dX12_isBetter_32 rfl rfl ?_
  refine gm_ld_ti (pc := 33) (j := v) (x := nI (T v)) hA (by omega) rfl dX12_isBetter_33 ?_
  refine g_icmp_gt_N (tgt := 58) (pc := 34) (by have h1 := slowN_le (k := kd v) (ho.1 v hv).2; have h2 := lossN_le (k := kd v) (ho.1 v hv).2; omega) (by omega) dX12_isBetter_34 (by decide) (fun c1 => ?_) (fun c1 => ?_)
  · -- T c1
    exfalso; omega
  · -- F c1
    refine g_iload_n (q := 1) (pc := 37) dX12_isBetter_37 rfl rfl ?_
    refine g_aload_n (q := 2) (pc := 38) dX12_isBetter_38 rfl rfl ?_
    refine gm_get_ti (pc := 39) hA dX12_isBetter_39 ?_
    refine g_iload_n (q := 4) (pc := 42) dX12_isBetter_42 rfl rfl ?_
    refine gm_ld_ti (pc := 43) (j := v) (x := nI (T v)) hA (by omega) rfl dX12_isBetter_43 ?_
    refine g_icmp_ne_N (tgt := 60) (pc := 44) (by have h1 := slowN_le (k := kd v) (ho.1 v hv).2; have h2 := lossN_le (k := kd v) (ho.1 v hv).2; omega) (by omega) dX12_isBetter_44 (by decide) (fun c2 => ?_) (fun c2 => ?_)
    · -- T c2
      refine g_aload_n (q := 2) (pc := 60) dX12_isBetter_60 rfl rfl ?_
      refine gm_get_ti (pc := 61) hA dX12_isBetter_61 ?_
      refine g_iload_n (q := 4) (pc := 64) dX12_isBetter_64 rfl rfl ?_
      refine g_iload_n (q := 1) (pc := 65) dX12_isBetter_65 rfl rfl ?_
      refine gm_st_ti (pc := 66) (j := v) (f' := (nf (updN T v ((T c) + (slowN (kd v) (fg v)))))) hA (by omega) (upd_nf _ _ _) dX12_isBetter_66 ?_
      refine g_aload_n (q := 2) (pc := 67) dX12_isBetter_67 rfl rfl ?_
      refine gm_get_lo (pc := 68) hA dX12_isBetter_68 ?_
      refine g_iload_n (q := 4) (pc := 71) dX12_isBetter_71 rfl rfl ?_
      refine g_iload (q := 0) (pc := 72) dX12_isBetter_72 rfl ?_
      refine gm_st_lo (pc := 74) (j := v) (f' := (nf (updN L v ((L c) + (lossN (kd v) (fg v)))))) hA (by omega) (upd_nf _ _ _) dX12_isBetter_74 ?_
      refine g_iconst (v := nI 1) (pc := 75) dX12_isBetter_75 (by decide) ?_
      exact g_zret (pc := 76) (by decide) (by decide) (by decide) (hPo) dX12_isBetter_76
    · -- F c2
      refine g_iload (q := 0) (pc := 47) dX12_isBetter_47 rfl ?_
      refine g_aload_n (q := 2) (pc := 49) dX12_isBetter_49 rfl rfl ?_
      refine gm_get_lo (pc := 50) hA dX12_isBetter_50 ?_
      refine g_iload_n (q := 4) (pc := 53) dX12_isBetter_53 rfl rfl ?_
      refine gm_ld_lo (pc := 54) (j := v) (x := nI (L v)) hA (by omega) rfl dX12_isBetter_54 ?_
      refine g_icmp_lt_N (tgt := 60) (pc := 55) (by have h1 := slowN_le (k := kd v) (ho.1 v hv).2; have h2 := lossN_le (k := kd v) (ho.1 v hv).2; omega) (by omega) dX12_isBetter_55 (by decide) (fun c3 => ?_) (fun c3 => ?_)
      · -- T c3
        refine g_aload_n (q := 2) (pc := 60) dX12_isBetter_60 rfl rfl ?_
        refine gm_get_ti (pc := 61) hA dX12_isBetter_61 ?_
        refine g_iload_n (q := 4) (pc := 64) dX12_isBetter_64 rfl rfl ?_
        refine g_iload_n (q := 1) (pc := 65) dX12_isBetter_65 rfl rfl ?_
        refine gm_st_ti (pc := 66) (j := v) (f' := (nf (updN T v ((T c) + (slowN (kd v) (fg v)))))) hA (by omega) (upd_nf _ _ _) dX12_isBetter_66 ?_
        refine g_aload_n (q := 2) (pc := 67) dX12_isBetter_67 rfl rfl ?_
        refine gm_get_lo (pc := 68) hA dX12_isBetter_68 ?_
        refine g_iload_n (q := 4) (pc := 71) dX12_isBetter_71 rfl rfl ?_
        refine g_iload (q := 0) (pc := 72) dX12_isBetter_72 rfl ?_
        refine gm_st_lo (pc := 74) (j := v) (f' := (nf (updN L v ((L c) + (lossN (kd v) (fg v)))))) hA (by omega) (upd_nf _ _ _) dX12_isBetter_74 ?_
        refine g_iconst (v := nI 1) (pc := 75) dX12_isBetter_75 (by decide) ?_
        exact g_zret (pc := 76) (by decide) (by decide) (by decide) (hPo) dX12_isBetter_76
      · -- F c3
        exfalso; omega
set_option maxHeartbeats 8000000 in
theorem c_X12_isBetter_n {c v : Nat} (hA : aB b0 18 ad) (ho : okM kd fg pl) (hc : c < 20) (hv : v < 20) (hT : T c ≤ 494) (hL : L c ≤ 6916) (hTv : T v ≤ 1000000) (hLv : L v ≤ 1000000) (h : ¬ (T c + slowN (kd v) (fg v) < T v ∨ (T c + slowN (kd v) (fg v) = T v ∧ L c + lossN (kd v) (fg v) < L v))) : KE l D Z b0 yX12_isBetter cX12_isBetter 5 (some .boolean) rmX12_isBetter [.ref (ad 0), .int (nI c), .int (nI v)] (wM Z ad hi th po ba en se (enc kd fg pl hr) im rd mi (nf kp) (nf so) (nf sz) el ki kf (nf T) (nf L) wa nu li to ot V) (some (.int (nI 0))) (wM Z ad hi th po ba en se (enc kd fg pl hr) im rd mi (nf kp) (nf so) (nf sz) el ki kf (nf T) (nf L) wa nu li to ot V) := by
  refine KE.of (by decide) (Nat.le_of_ble_eq_true rfl) (fun Po hPo => ?_)
  refine G.locals (L' := [(0, .ref (ad 0)), (1, .int (nI c)), (2, .int (nI v))]) [0, 1, 2] rfl ?_
  refine g_aload_n (q := 0) (pc := 0) dX12_isBetter_0 rfl rfl ?_
  refine gm_get_ti (pc := 1) hA dX12_isBetter_1 ?_
  refine g_iload_n (q := 1) (pc := 4) dX12_isBetter_4 rfl rfl ?_
  refine gm_ld_ti (pc := 5) (j := c) (x := nI (T c)) hA (by omega) rfl dX12_isBetter_5 ?_
  refine g_aload_n (q := 0) (pc := 6) dX12_isBetter_6 rfl rfl ?_
  refine g_iload_n (q := 2) (pc := 7) dX12_isBetter_7 rfl rfl ?_
  refine e_callV (k2 := 0) (n2 := 0) (As := [.int (nI v)]) (rest := [.int (nI (T c))]) (pc := 8) (wM_0 hA) rfl (c_X12_slow hA ho hv) mlX12_107 selX12_X12_slow_X12_slow mX12_slow ⟨Nat.le_of_ble_eq_true rfl, Nat.le_of_ble_eq_true rfl⟩ rfl rfl (Nat.le_of_ble_eq_true rfl) dX12_isBetter_8 (by decide) rfl rfl ?_
  refine g_iadd_N (pc := 11) dX12_isBetter_11 ?_
  refine g_istore_n (lv' := [(3, .int (nI ((T c) + (slowN (kd v) (fg v))))), (0, .ref (ad 0)), (1, .int (nI c)), (2, .int (nI v))]) (pc := 12) dX12_isBetter_12 rfl (by decide) rfl ?_
  refine g_aload_n (q := 1) (pc := 13) dX12_isBetter_13 rfl rfl ?_
  refine gm_get_lo (pc := 14) hA dX12_isBetter_14 ?_
  refine g_iload_n (q := 2) (pc := 17) dX12_isBetter_17 rfl rfl ?_
  refine gm_ld_lo (pc := 18) (j := c) (x := nI (L c)) hA (by omega) rfl dX12_isBetter_18 ?_
  refine g_aload_n (q := 1) (pc := 19) dX12_isBetter_19 rfl rfl ?_
  refine g_iload_n (q := 3) (pc := 20) dX12_isBetter_20 rfl rfl ?_
  refine e_callV (k2 := 0) (n2 := 0) (As := [.int (nI v)]) (rest := [.int (nI (L c))]) (pc := 21) (wM_0 hA) rfl (c_X12_loss hA ho hv) mlX12_110 selX12_X12_loss_X12_loss mX12_loss ⟨Nat.le_of_ble_eq_true rfl, Nat.le_of_ble_eq_true rfl⟩ rfl rfl (Nat.le_of_ble_eq_true rfl) dX12_isBetter_21 (by decide) rfl rfl ?_
  refine g_iadd_N (pc := 24) dX12_isBetter_24 ?_
  refine g_istore (lv' := [(4, .int (nI ((L c) + (lossN (kd v) (fg v))))), (3, .int (nI ((T c) + (slowN (kd v) (fg v))))), (0, .ref (ad 0)), (1, .int (nI c)), (2, .int (nI v))]) (pc := 25) dX12_isBetter_25 (by decide) rfl ?_
  refine g_iload_n (q := 1) (pc := 27) dX12_isBetter_27 rfl rfl ?_
  refine g_aload_n (q := 2) (pc := 28) dX12_isBetter_28 rfl rfl ?_
  refine gm_get_ti (pc := 29) hA dX12_isBetter_29 ?_
  refine g_iload_n (q := 4) (pc := 32) dX12_isBetter_32 rfl rfl ?_
  refine gm_ld_ti (pc := 33) (j := v) (x := nI (T v)) hA (by omega) rfl dX12_isBetter_33 ?_
  refine g_icmp_gt_N (tgt := 58) (pc := 34) (by have h1 := slowN_le (k := kd v) (ho.1 v hv).2; have h2 := lossN_le (k := kd v) (ho.1 v hv).2; omega) (by omega) dX12_isBetter_34 (by decide) (fun c1 => ?_) (fun c1 => ?_)
  · -- T c1
    refine g_iconst (v := nI 0) (pc := 58) dX12_isBetter_58 (by decide) ?_
    exact g_zret (pc := 59) (by decide) (by decide) (by decide) (hPo) dX12_isBetter_59
  · -- F c1
    refine g_iload_n (q := 1) (pc := 37) dX12_isBetter_37 rfl rfl ?_
    refine g_aload_n (q := 2) (pc := 38) dX12_isBetter_38 rfl rfl ?_
    refine gm_get_ti (pc := 39) hA dX12_isBetter_39 ?_
    refine g_iload_n (q := 4) (pc := 42) dX12_isBetter_42 rfl rfl ?_
    refine gm_ld_ti (pc := 43) (j := v) (x := nI (T v)) hA (by omega) rfl dX12_isBetter_43 ?_
    refine g_icmp_ne_N (tgt := 60) (pc := 44) (by have h1 := slowN_le (k := kd v) (ho.1 v hv).2; have h2 := lossN_le (k := kd v) (ho.1 v hv).2; omega) (by omega) dX12_isBetter_44 (by decide) (fun c2 => ?_) (fun c2 => ?_)
    · -- T c2
      exfalso; omega
    · -- F c2
      refine g_iload (q := 0) (pc := 47) dX12_isBetter_47 rfl ?_
      refine g_aload_n (q := 2) (pc := 49) dX12_isBetter_49 rfl rfl ?_
      refine gm_get_lo (pc := 50) hA dX12_isBetter_50 ?_
      refine g_iload_n (q := 4) (pc := 53) dX12_isBetter_53 rfl rfl ?_
      refine gm_ld_lo (pc := 54) (j := v) (x := nI (L v)) hA (by omega) rfl dX12_isBetter_54 ?_
      refine g_icmp_lt_N (tgt := 60) (pc := 55) (by have h1 := slowN_le (k := kd v) (ho.1 v hv).2; have h2 := lossN_le (k := kd v) (ho.1 v hv).2; omega) (by omega) dX12_isBetter_55 (by decide) (fun c3 => ?_) (fun c3 => ?_)
      · -- T c3
        exfalso; omega
      · -- F c3
        refine g_iconst (v := nI 0) (pc := 58) dX12_isBetter_58 (by decide) ?_
        exact g_zret (pc := 59) (by decide) (by decide) (by decide) (hPo) dX12_isBetter_59
def rmX12_finds : Room := { frames := 3, cells := 0, slots := 0, locals := 66 }
set_option maxHeartbeats 8000000 in
theorem c_X12_finds {a : Nat} (hA : aB b0 18 ad) (ho : okM kd fg pl) (ha : a < 20) : KE l D Z b0 yX12_finds cX12_finds 6 none rmX12_finds [.ref (ad 0), .int (nI a)] (wM Z ad hi th po ba en se (enc kd fg pl hr) im rd mi (nf kp) (nf so) (nf sz) el ki kf ti lo wa nu li to ot V) none (wM Z ad hi th po ba en se (enc kd fg pl hr) im rd mi (nf kp) (nf so) (nf sz) el ki kf (nf (dT kd fg a)) (nf (dL kd fg a)) wa nu li to ot V) := by
  refine KE.of (by decide) (Nat.le_of_ble_eq_true rfl) (fun Po hPo => ?_)
  refine G.locals (L' := [(0, .ref (ad 0)), (1, .int (nI a))]) [0, 1] rfl ?_
  refine g_iconst (v := nI 0) (pc := 0) dX12_finds_0 (by decide) ?_
  refine g_istore_n (lv' := [(2, .int (nI 0)), (0, .ref (ad 0)), (1, .int (nI a))]) (pc := 1) dX12_finds_1 rfl (by decide) rfl ?_
  have lp2 : ∀ (d2 : Nat) (i : Nat) (f : Nat → Int32) (g : Nat → Int32), i + d2 = 21 → (i ≤ 20) → (∀ j, j < i → f j = nf (iniT a) j) → (∀ j, j < i → g j = nf (iniT a) j) → G l D Z b0 rmX12_finds RX12 cX12_finds 6 (gE none "finds") (gT D b0 Po rmX12_finds.cells rmX12_finds.slots) (wM Z ad hi th po ba en se (enc kd fg pl hr) im rd mi (nf kp) (nf so) (nf sz) el ki kf f g wa nu li to ot V) [(2, .int (nI i)), (0, .ref (ad 0)), (1, .int (nI a))] 0 0 2 [] := by
    intro d2
    induction d2 with
    | zero =>
      intro i f g hd2 hiN h1 h2
      exact absurd hd2 (by omega)
    | succ d2 ih2 =>
      intro i f g hd2 hiN h1 h2
      refine g_iload_n (q := 0) (pc := 2) dX12_finds_2 rfl rfl ?_
      refine g_bipush (v := nI 20) (pc := 3) dX12_finds_3 (by decide) ?_
      refine g_icmp_ge_N (tgt := 48) (pc := 5) (by omega) (by omega) dX12_finds_5 (by decide) (fun c1 => ?_) (fun c1 => ?_)
      · -- T c1
        obtain rfl : i = 20 := (by omega)
        refine gm_eq_ti (f' := nf (iniT a)) hA h1 ?_
        refine gm_eq_lo (f' := nf (iniT a)) hA h2 ?_
        refine g_iconst (v := nI 1) (pc := 48) dX12_finds_48 (by decide) ?_
        refine g_istore_n (lv' := [(2, .int (nI 1)), (0, .ref (ad 0)), (1, .int (nI a))]) (pc := 49) dX12_finds_49 rfl (by decide) rfl ?_
        have lp50 : ∀ (d50 : Nat) (b : Bool) (T : Nat → Nat) (L : Nat → Nat), (2 * muTL T L + 1 < d50 ∨ (b = false ∧ 2 * muTL T L < d50)) → (JF (sw kd fg) (lw kd fg) a T L) → (b = false → ∀ u, u < 20 → ∀ s, s < 4 → nobet (sw kd fg) (lw kd fg) T L u s) → G l D Z b0 rmX12_finds RX12 cX12_finds 6 (gE none "finds") (gT D b0 Po rmX12_finds.cells rmX12_finds.slots) (wM Z ad hi th po ba en se (enc kd fg pl hr) im rd mi (nf kp) (nf so) (nf sz) el ki kf (nf T) (nf L) wa nu li to ot V) [(2, .int (bI b)), (0, .ref (ad 0)), (1, .int (nI a))] 0 0 50 [] := by
          intro d50
          induction d50 with
          | zero =>
            intro b T L hd50 hJ hF
            rcases hd50 with h | ⟨_, h⟩ <;> omega
          | succ d50 ih50 =>
            intro b T L hd50 hJ hF
            refine g_iload_n (q := 0) (pc := 50) dX12_finds_50 rfl rfl ?_
            refine g_if_eq_B (tgt := 124) (pc := 51) dX12_finds_51 (by decide) (fun c2 => ?_) (fun c2 => ?_)
            · -- T c2
              have hS := JF.fin ho ha hJ (hF c2)
              refine gm_eq_ti (f' := nf (dT kd fg a)) hA (fun j hj => congrArg nI (hS.d hj).1) ?_
              refine gm_eq_lo (f' := nf (dL kd fg a)) hA (fun j hj => congrArg nI (hS.d hj).2) ?_
              exact g_vret (pc := 124) (by decide) (by decide) (hPo) dX12_finds_124
            · -- F c2
              have hb50 := c2
              refine g_iconst (v := nI 0) (pc := 54) dX12_finds_54 (by decide) ?_
              refine g_istore_n (lv' := [(2, .int (nI 0)), (0, .ref (ad 0)), (1, .int (nI a))]) (pc := 55) dX12_finds_55 rfl (by decide) rfl ?_
              refine g_iconst (v := nI 0) (pc := 56) dX12_finds_56 (by decide) ?_
              refine g_istore_n (lv' := [(3, .int (nI 0)), (2, .int (nI 0)), (0, .ref (ad 0)), (1, .int (nI a))]) (pc := 57) dX12_finds_57 rfl (by decide) rfl ?_
              have lp58 : ∀ (d58 : Nat) (c : Nat) (b2 : Bool) (T2 : Nat → Nat) (L2 : Nat → Nat), c + d58 = 21 → (c ≤ 20) → (FM (sw kd fg) (lw kd fg) a (muTL T L) c T2 L2 b2) → G l D Z b0 rmX12_finds RX12 cX12_finds 6 (gE none "finds") (gT D b0 Po rmX12_finds.cells rmX12_finds.slots) (wM Z ad hi th po ba en se (enc kd fg pl hr) im rd mi (nf kp) (nf so) (nf sz) el ki kf (nf T2) (nf L2) wa nu li to ot V) [(3, .int (nI c)), (2, .int (bI b2)), (0, .ref (ad 0)), (1, .int (nI a))] 0 0 58 [] := by
                intro d58
                induction d58 with
                | zero =>
                  intro c b2 T2 L2 hd58 hc h58
                  exact absurd hd58 (by omega)
                | succ d58 ih58 =>
                  intro c b2 T2 L2 hd58 hc h58
                  refine g_iload_n (q := 0) (pc := 58) dX12_finds_58 rfl rfl ?_
                  refine g_bipush (v := nI 20) (pc := 59) dX12_finds_59 (by decide) ?_
                  refine g_icmp_ge_N (tgt := 121) (pc := 61) (by omega) (by omega) dX12_finds_61 (by decide) (fun c3 => ?_) (fun c3 => ?_)
                  · -- T c3
                    refine g_goto (tgt := 50) (pc := 121) dX12_finds_121 (by decide) ?_
                    refine G.locals (L' := [(2, .int (bI b2)), (0, .ref (ad 0)), (1, .int (nI a))]) [1, 2, 3] rfl ?_
                    exact ih50 b2 T2 L2 (fmeas hb50 hd50 h58.2.1 h58.2.2.1) h58.1 (h58.fin (by omega))
                  · -- F c3
                    refine g_iconst (v := nI 0) (pc := 64) dX12_finds_64 (by decide) ?_
                    refine g_istore (lv' := [(4, .int (nI 0)), (3, .int (nI c)), (2, .int (bI b2)), (0, .ref (ad 0)), (1, .int (nI a))]) (pc := 65) dX12_finds_65 (by decide) rfl ?_
                    have lp67 : ∀ (d67 : Nat) (s1 : Nat) (b3 : Bool) (T3 : Nat → Nat) (L3 : Nat → Nat), s1 + d67 = 5 → (s1 ≤ 4) → (FI (sw kd fg) (lw kd fg) a (muTL T L) c s1 T3 L3 b3) → G l D Z b0 rmX12_finds RX12 cX12_finds 6 (gE none "finds") (gT D b0 Po rmX12_finds.cells rmX12_finds.slots) (wM Z ad hi th po ba en se (enc kd fg pl hr) im rd mi (nf kp) (nf so) (nf sz) el ki kf (nf T3) (nf L3) wa nu li to ot V) [(4, .int (nI s1)), (3, .int (nI c)), (2, .int (bI b3)), (0, .ref (ad 0)), (1, .int (nI a))] 0 0 67 [] := by
                      intro d67
                      induction d67 with
                      | zero =>
                        intro s1 b3 T3 L3 hd67 hs1 h67
                        exact absurd hd67 (by omega)
                      | succ d67 ih67 =>
                        intro s1 b3 T3 L3 hd67 hs1 h67
                        refine g_iload (q := 0) (pc := 67) dX12_finds_67 rfl ?_
                        refine g_iconst (v := nI 4) (pc := 69) dX12_finds_69 (by decide) ?_
                        refine g_icmp_ge_N (tgt := 115) (pc := 70) (by omega) (by omega) dX12_finds_70 (by decide) (fun c4 => ?_) (fun c4 => ?_)
                        · -- T c4
                          refine g_iinc (q := 1) (lv' := [(3, .int (nI (c + 1))), (4, .int (nI s1)), (2, .int (bI b3)), (0, .ref (ad 0)), (1, .int (nI a))]) (pc := 115) dX12_finds_115 rfl (nI_inc _ _) (by decide) rfl ?_
                          refine g_goto (tgt := 58) (pc := 118) dX12_finds_118 (by decide) ?_
                          refine G.locals (L' := [(3, .int (nI (c + 1))), (2, .int (bI b3)), (0, .ref (ad 0)), (1, .int (nI a))]) [0, 2, 3, 4] rfl ?_
                          exact ih58 (c + 1) b3 T3 L3 (by omega) (by omega) (h67.out (by omega))
                        · -- F c4
                          refine g_iload_n (q := 1) (pc := 73) dX12_finds_73 rfl rfl ?_
                          refine g_iload (q := 0) (pc := 74) dX12_finds_74 rfl ?_
                          rcases hn76 : nbo c s1 with _ | t76
                          · -- alt
                            refine e_callS (k2 := 0) (n2 := 0) (As := [.int (nI c), .int (nI s1)]) (rest := []) (pc := 76) (c_X12_beside_n hA (by omega) (by omega) hn76 (c_X12_beside hA (by omega) (by omega))) mlX12_97 mX12_beside ⟨Nat.le_of_ble_eq_true rfl, Nat.le_of_ble_eq_true rfl⟩ rfl rfl (Nat.le_of_ble_eq_true rfl) dX12_finds_76 (by decide) rfl rfl ?_
                            refine g_istore (lv' := [(5, .int (-4)), (4, .int (nI s1)), (3, .int (nI c)), (2, .int (bI b3)), (0, .ref (ad 0)), (1, .int (nI a))]) (pc := 79) dX12_finds_79 (by decide) rfl ?_
                            refine g_iload (q := 0) (pc := 81) dX12_finds_81 rfl ?_
                            refine g_if_lt (tgt := 109) (pc := 83) dX12_finds_83 (by decide) (fun _ => ?_) (fun c0 => absurd c0 (by decide))
                            refine g_iinc (q := 1) (lv' := [(4, .int (nI (s1 + 1))), (5, .int (-4)), (3, .int (nI c)), (2, .int (bI b3)), (0, .ref (ad 0)), (1, .int (nI a))]) (pc := 109) dX12_finds_109 rfl (nI_inc _ _) (by decide) rfl ?_
                            refine g_goto (tgt := 67) (pc := 112) dX12_finds_112 (by decide) ?_
                            refine G.locals (L' := [(4, .int (nI (s1 + 1))), (3, .int (nI c)), (2, .int (bI b3)), (0, .ref (ad 0)), (1, .int (nI a))]) [0, 2, 3, 4, 5] rfl ?_
                            exact ih67 (s1 + 1) b3 T3 L3 (by omega) (by omega) (h67.none hn76)
                          · -- alt
                            have t76l := nbo_lt (c := c) (by omega) hn76
                            refine e_callS (k2 := 0) (n2 := 0) (As := [.int (nI c), .int (nI s1)]) (rest := []) (pc := 76) (c_X12_beside_s hA (by omega) (by omega) hn76 (c_X12_beside hA (by omega) (by omega))) mlX12_97 mX12_beside ⟨Nat.le_of_ble_eq_true rfl, Nat.le_of_ble_eq_true rfl⟩ rfl rfl (Nat.le_of_ble_eq_true rfl) dX12_finds_76 (by decide) rfl rfl ?_
                            refine g_istore (lv' := [(5, .int (nI t76)), (4, .int (nI s1)), (3, .int (nI c)), (2, .int (bI b3)), (0, .ref (ad 0)), (1, .int (nI a))]) (pc := 79) dX12_finds_79 (by decide) rfl ?_
                            refine g_iload (q := 0) (pc := 81) dX12_finds_81 rfl ?_
                            refine g_if_lt_N (tgt := 109) (pc := 83) (by omega) dX12_finds_83 (by decide) ?_
                            refine g_aload_n (q := 4) (pc := 86) dX12_finds_86 rfl rfl ?_
                            refine gm_get_ti (pc := 87) hA dX12_finds_87 ?_
                            refine g_iload_n (q := 2) (pc := 90) dX12_finds_90 rfl rfl ?_
                            refine gm_ld_ti (pc := 91) (j := c) (x := nI (T3 c)) hA (by omega) rfl dX12_finds_91 ?_
                            refine g_ldc (v := nI 1000000) (pc := 92) ctX12_113 dX12_finds_92 ?_
                            refine g_icmp_ge_N (tgt := 109) (pc := 94) (by have := (h67.1.b (v := c) (by omega)).1; omega) (by omega) dX12_finds_94 (by decide) (fun c5 => ?_) (fun c5 => ?_)
                            · -- T c5
                              refine g_iinc (q := 1) (lv' := [(4, .int (nI (s1 + 1))), (5, .int (nI t76)), (3, .int (nI c)), (2, .int (bI b3)), (0, .ref (ad 0)), (1, .int (nI a))]) (pc := 109) dX12_finds_109 rfl (nI_inc _ _) (by decide) rfl ?_
                              refine g_goto (tgt := 67) (pc := 112) dX12_finds_112 (by decide) ?_
                              refine G.locals (L' := [(4, .int (nI (s1 + 1))), (3, .int (nI c)), (2, .int (bI b3)), (0, .ref (ad 0)), (1, .int (nI a))]) [0, 2, 3, 4, 5] rfl ?_
                              exact ih67 (s1 + 1) b3 T3 L3 (by omega) (by omega) (h67.far (by omega))
                            · -- F c5
                              refine g_aload_n (q := 4) (pc := 97) dX12_finds_97 rfl rfl ?_
                              refine g_iload_n (q := 2) (pc := 98) dX12_finds_98 rfl rfl ?_
                              refine g_iload (q := 0) (pc := 99) dX12_finds_99 rfl ?_
                              by_cases hbt : T3 c + slowN (kd t76) (fg t76) < T3 t76 ∨ (T3 c + slowN (kd t76) (fg t76) = T3 t76 ∧ L3 c + lossN (kd t76) (fg t76) < L3 t76)
                              · -- alt
                                refine e_callV (k2 := 0) (n2 := 0) (As := [.int (nI c), .int (nI t76)]) (rest := []) (pc := 101) (wM_0 hA) rfl (c_X12_isBetter_y hA ho (by omega) t76l (h67.1.b (by omega) |>.2.2 (by omega) |>.1) (h67.1.b (by omega) |>.2.2 (by omega) |>.2) (h67.1.b t76l).1 (h67.1.b t76l).2.1 hbt) mlX12_114 selX12_X12_isBetter_X12_isBetter mX12_isBetter ⟨Nat.le_of_ble_eq_true rfl, Nat.le_of_ble_eq_true rfl⟩ rfl rfl (Nat.le_of_ble_eq_true rfl) dX12_finds_101 (by decide) rfl rfl ?_
                                refine g_if_eq (tgt := 109) (pc := 104) dX12_finds_104 (by decide) (fun c0 => absurd c0 (by decide)) (fun _ => ?_)
                                refine g_iconst (v := nI 1) (pc := 107) dX12_finds_107 (by decide) ?_
                                refine g_istore_n (lv' := [(2, .int (nI 1)), (5, .int (nI t76)), (4, .int (nI s1)), (3, .int (nI c)), (0, .ref (ad 0)), (1, .int (nI a))]) (pc := 108) dX12_finds_108 rfl (by decide) rfl ?_
                                refine g_iinc (q := 2) (lv' := [(4, .int (nI (s1 + 1))), (2, .int (nI 1)), (5, .int (nI t76)), (3, .int (nI c)), (0, .ref (ad 0)), (1, .int (nI a))]) (pc := 109) dX12_finds_109 rfl (nI_inc _ _) (by decide) rfl ?_
                                refine g_goto (tgt := 67) (pc := 112) dX12_finds_112 (by decide) ?_
                                refine G.locals (L' := [(4, .int (nI (s1 + 1))), (3, .int (nI c)), (2, .int (nI 1)), (0, .ref (ad 0)), (1, .int (nI a))]) [0, 3, 1, 4, 5] rfl ?_
                                exact ih67 (s1 + 1) true (updN T3 t76 (T3 c + slowN (kd t76) (fg t76))) (updN L3 t76 (L3 c + lossN (kd t76) (fg t76))) (by omega) (by omega) (h67.yes (wK ho) ha (by omega) (by omega) hn76 (by omega) hbt)
                              · -- alt
                                refine e_callV (k2 := 0) (n2 := 0) (As := [.int (nI c), .int (nI t76)]) (rest := []) (pc := 101) (wM_0 hA) rfl (c_X12_isBetter_n hA ho (by omega) t76l (h67.1.b (by omega) |>.2.2 (by omega) |>.1) (h67.1.b (by omega) |>.2.2 (by omega) |>.2) (h67.1.b t76l).1 (h67.1.b t76l).2.1 hbt) mlX12_114 selX12_X12_isBetter_X12_isBetter mX12_isBetter ⟨Nat.le_of_ble_eq_true rfl, Nat.le_of_ble_eq_true rfl⟩ rfl rfl (Nat.le_of_ble_eq_true rfl) dX12_finds_101 (by decide) rfl rfl ?_
                                refine g_if_eq (tgt := 109) (pc := 104) dX12_finds_104 (by decide) (fun _ => ?_) (fun c0 => absurd c0 (by decide))
                                refine g_iinc (q := 1) (lv' := [(4, .int (nI (s1 + 1))), (5, .int (nI t76)), (3, .int (nI c)), (2, .int (bI b3)), (0, .ref (ad 0)), (1, .int (nI a))]) (pc := 109) dX12_finds_109 rfl (nI_inc _ _) (by decide) rfl ?_
                                refine g_goto (tgt := 67) (pc := 112) dX12_finds_112 (by decide) ?_
                                refine G.locals (L' := [(4, .int (nI (s1 + 1))), (3, .int (nI c)), (2, .int (bI b3)), (0, .ref (ad 0)), (1, .int (nI a))]) [0, 2, 3, 4, 5] rfl ?_
                                exact ih67 (s1 + 1) b3 T3 L3 (by omega) (by omega) (h67.not hn76 hbt)
                    refine G.locals (L' := [(4, .int (nI 0)), (3, .int (nI c)), (2, .int (bI b2)), (0, .ref (ad 0)), (1, .int (nI a))]) [0, 1, 2, 3, 4] rfl ?_
                    exact lp67 5 0 b2 T2 L2 (by omega) (by decide) h58.inn
              refine G.locals (L' := [(3, .int (nI 0)), (2, .int (nI 0)), (0, .ref (ad 0)), (1, .int (nI a))]) [0, 1, 2, 3] rfl ?_
              exact lp58 21 0 false T L (by omega) (by decide) (FM.start hJ)
        refine G.locals (L' := [(2, .int (nI 1)), (0, .ref (ad 0)), (1, .int (nI a))]) [0, 1, 2] rfl ?_
        exact lp50 (2 * muTL (iniT a) (iniT a) + 2) true (iniT a) (iniT a) (Or.inl (by omega)) (JF.ini ha) (fun h => absurd h (by decide))
      · -- F c1
        refine g_aload_n (q := 1) (pc := 8) dX12_finds_8 rfl rfl ?_
        refine gm_get_ti (pc := 9) hA dX12_finds_9 ?_
        refine g_iload_n (q := 0) (pc := 12) dX12_finds_12 rfl rfl ?_
        refine g_iload_n (q := 0) (pc := 13) dX12_finds_13 rfl rfl ?_
        refine g_iload_n (q := 2) (pc := 14) dX12_finds_14 rfl rfl ?_
        refine g_icmp_ne_N (tgt := 22) (pc := 15) (by omega) (by omega) dX12_finds_15 (by decide) (fun c6 => ?_) (fun c6 => ?_)
        · -- T c6
          refine g_ldc (v := nI 1000000) (pc := 22) ctX12_113 dX12_finds_22 ?_
          refine g_top (x := nI 1000000) (y := nI (iniT a i)) (by first | (exfalso; omega) | (congr 1; simp [iniT, *]; done)) ?_
          refine gm_st_ti (pc := 24) (j := i) (f' := (upd f i (nI (iniT a i)))) hA (by omega) rfl dX12_finds_24 ?_
          refine g_aload_n (q := 1) (pc := 25) dX12_finds_25 rfl rfl ?_
          refine gm_get_lo (pc := 26) hA dX12_finds_26 ?_
          refine g_iload_n (q := 0) (pc := 29) dX12_finds_29 rfl rfl ?_
          refine g_iload_n (q := 0) (pc := 30) dX12_finds_30 rfl rfl ?_
          refine g_iload_n (q := 2) (pc := 31) dX12_finds_31 rfl rfl ?_
          refine g_icmp_ne_N (tgt := 39) (pc := 32) (by omega) (by omega) dX12_finds_32 (by decide) (fun c7 => ?_) (fun c7 => ?_)
          · -- T c7
            refine g_ldc (v := nI 1000000) (pc := 39) ctX12_113 dX12_finds_39 ?_
            refine g_top (x := nI 1000000) (y := nI (iniT a i)) (by first | (exfalso; omega) | (congr 1; simp [iniT, *]; done)) ?_
            refine gm_st_lo (pc := 41) (j := i) (f' := (upd g i (nI (iniT a i)))) hA (by omega) rfl dX12_finds_41 ?_
            refine g_iinc (q := 0) (lv' := [(2, .int (nI (i + 1))), (0, .ref (ad 0)), (1, .int (nI a))]) (pc := 42) dX12_finds_42 rfl (nI_inc _ _) (by decide) rfl ?_
            refine g_goto (tgt := 2) (pc := 45) dX12_finds_45 (by decide) ?_
            refine G.locals (L' := [(2, .int (nI (i + 1))), (0, .ref (ad 0)), (1, .int (nI a))]) [0, 1, 2] rfl ?_
            exact ih2 (i + 1) (upd f i (nI (iniT a i))) (upd g i (nI (iniT a i))) (by omega) (by omega) (stepF h1) (stepF h2)
          · -- F c7
            refine g_iconst (v := nI 0) (pc := 35) dX12_finds_35 (by decide) ?_
            refine g_goto (tgt := 41) (pc := 36) dX12_finds_36 (by decide) ?_
            refine g_top (x := nI 0) (y := nI (iniT a i)) (by first | (exfalso; omega) | (congr 1; simp [iniT, *]; done)) ?_
            refine gm_st_lo (pc := 41) (j := i) (f' := (upd g i (nI (iniT a i)))) hA (by omega) rfl dX12_finds_41 ?_
            refine g_iinc (q := 0) (lv' := [(2, .int (nI (i + 1))), (0, .ref (ad 0)), (1, .int (nI a))]) (pc := 42) dX12_finds_42 rfl (nI_inc _ _) (by decide) rfl ?_
            refine g_goto (tgt := 2) (pc := 45) dX12_finds_45 (by decide) ?_
            refine G.locals (L' := [(2, .int (nI (i + 1))), (0, .ref (ad 0)), (1, .int (nI a))]) [0, 1, 2] rfl ?_
            exact ih2 (i + 1) (upd f i (nI (iniT a i))) (upd g i (nI (iniT a i))) (by omega) (by omega) (stepF h1) (stepF h2)
        · -- F c6
          refine g_iconst (v := nI 0) (pc := 18) dX12_finds_18 (by decide) ?_
          refine g_goto (tgt := 24) (pc := 19) dX12_finds_19 (by decide) ?_
          refine g_top (x := nI 0) (y := nI (iniT a i)) (by first | (exfalso; omega) | (congr 1; simp [iniT, *]; done)) ?_
          refine gm_st_ti (pc := 24) (j := i) (f' := (upd f i (nI (iniT a i)))) hA (by omega) rfl dX12_finds_24 ?_
          refine g_aload_n (q := 1) (pc := 25) dX12_finds_25 rfl rfl ?_
          refine gm_get_lo (pc := 26) hA dX12_finds_26 ?_
          refine g_iload_n (q := 0) (pc := 29) dX12_finds_29 rfl rfl ?_
          refine g_iload_n (q := 0) (pc := 30) dX12_finds_30 rfl rfl ?_
          refine g_iload_n (q := 2) (pc := 31) dX12_finds_31 rfl rfl ?_
          refine g_icmp_ne_N (tgt := 39) (pc := 32) (by omega) (by omega) dX12_finds_32 (by decide) (fun c8 => ?_) (fun c8 => ?_)
          · -- T c8
            refine g_ldc (v := nI 1000000) (pc := 39) ctX12_113 dX12_finds_39 ?_
            refine g_top (x := nI 1000000) (y := nI (iniT a i)) (by first | (exfalso; omega) | (congr 1; simp [iniT, *]; done)) ?_
            refine gm_st_lo (pc := 41) (j := i) (f' := (upd g i (nI (iniT a i)))) hA (by omega) rfl dX12_finds_41 ?_
            refine g_iinc (q := 0) (lv' := [(2, .int (nI (i + 1))), (0, .ref (ad 0)), (1, .int (nI a))]) (pc := 42) dX12_finds_42 rfl (nI_inc _ _) (by decide) rfl ?_
            refine g_goto (tgt := 2) (pc := 45) dX12_finds_45 (by decide) ?_
            refine G.locals (L' := [(2, .int (nI (i + 1))), (0, .ref (ad 0)), (1, .int (nI a))]) [0, 1, 2] rfl ?_
            exact ih2 (i + 1) (upd f i (nI (iniT a i))) (upd g i (nI (iniT a i))) (by omega) (by omega) (stepF h1) (stepF h2)
          · -- F c8
            refine g_iconst (v := nI 0) (pc := 35) dX12_finds_35 (by decide) ?_
            refine g_goto (tgt := 41) (pc := 36) dX12_finds_36 (by decide) ?_
            refine g_top (x := nI 0) (y := nI (iniT a i)) (by first | (exfalso; omega) | (congr 1; simp [iniT, *]; done)) ?_
            refine gm_st_lo (pc := 41) (j := i) (f' := (upd g i (nI (iniT a i)))) hA (by omega) rfl dX12_finds_41 ?_
            refine g_iinc (q := 0) (lv' := [(2, .int (nI (i + 1))), (0, .ref (ad 0)), (1, .int (nI a))]) (pc := 42) dX12_finds_42 rfl (nI_inc _ _) (by decide) rfl ?_
            refine g_goto (tgt := 2) (pc := 45) dX12_finds_45 (by decide) ?_
            refine G.locals (L' := [(2, .int (nI (i + 1))), (0, .ref (ad 0)), (1, .int (nI a))]) [0, 1, 2] rfl ?_
            exact ih2 (i + 1) (upd f i (nI (iniT a i))) (upd g i (nI (iniT a i))) (by omega) (by omega) (stepF h1) (stepF h2)
  refine G.locals (L' := [(2, .int (nI 0)), (0, .ref (ad 0)), (1, .int (nI a))]) [0, 1, 2] rfl ?_
  exact lp2 21 0 ti lo (by omega) (by decide) (fun j hj => absurd hj (Nat.not_lt_zero _)) (fun j hj => absurd hj (Nat.not_lt_zero _))
def rmX12_timeOf : Room := { frames := 4, cells := 0, slots := 0, locals := 91 }
set_option maxHeartbeats 8000000 in
theorem c_X12_timeOf {a c : Nat} (hA : aB b0 18 ad) (ho : okM kd fg pl) (ha : a < 20) (hc : c < 20) : KE l D Z b0 yX12_timeOf cX12_timeOf 3 (some .int) rmX12_timeOf [.ref (ad 0), .int (nI a), .int (nI c)] (wM Z ad hi th po ba en se (enc kd fg pl hr) im rd mi (nf kp) (nf so) (nf sz) el ki kf ti lo wa nu li to ot V) (some (.int (nI (dT kd fg a c)))) (wM Z ad hi th po ba en se (enc kd fg pl hr) im rd mi (nf kp) (nf so) (nf sz) el ki kf (nf (dT kd fg a)) (nf (dL kd fg a)) wa nu li to ot V) := by
  refine KE.of (by decide) (Nat.le_of_ble_eq_true rfl) (fun Po hPo => ?_)
  refine G.locals (L' := [(0, .ref (ad 0)), (1, .int (nI a)), (2, .int (nI c))]) [0, 1, 2] rfl ?_
  refine g_aload_n (q := 0) (pc := 0) dX12_timeOf_0 rfl rfl ?_
  refine g_iload_n (q := 1) (pc := 1) dX12_timeOf_1 rfl rfl ?_
  refine e_callVv (k2 := 0) (n2 := 0) (As := [.int (nI a)]) (rest := []) (pc := 2) (wM_0 hA) rfl (c_X12_finds hA ho (by omega)) mlX12_118 selX12_X12_finds_X12_finds mX12_finds ⟨Nat.le_of_ble_eq_true rfl, Nat.le_of_ble_eq_true rfl⟩ rfl rfl (Nat.le_of_ble_eq_true rfl) dX12_timeOf_2 (by decide) rfl rfl ?_
  refine g_aload_n (q := 0) (pc := 5) dX12_timeOf_5 rfl rfl ?_
  refine gm_get_ti (pc := 6) hA dX12_timeOf_6 ?_
  refine g_iload_n (q := 2) (pc := 9) dX12_timeOf_9 rfl rfl ?_
  refine gm_ld_ti (pc := 10) (j := c) (x := nI ((dT kd fg a) c)) hA (by omega) rfl dX12_timeOf_10 ?_
  exact g_iret (pc := 11) (by decide) (by decide) (hPo) dX12_timeOf_11
end MS
