section MS
variable {l : Launch} {D : va_G} {Z : Nat → ClassId} {b0 : Nat} {ad : Nat → Nat} {hi th po ba en se : Int32} {s im rd mi el ki kf ti lo wa nu li to ot : Nat → Int32} {kd fg pl kp so sz ikd ifg ipl : Nat → Nat} {hr ihr : Nat → Int32} {V : HV}
theorem updN_updN (f : Nat → Nat) (c x y : Nat) : updN (updN f c x) c y = updN f c y := by
  funext j; unfold updN; by_cases h : j = c <;> simp [h]
noncomputable def rkS (kd fg : Nat → Nat) (c f a b : Nat) (t : Int32) : Nat → Int32
  | 0 => nI 0
  | k + 1 => rkS kd fg c f a b t k ||| (if nI (dT (updN kd c k) (updN fg c f) a b) = t then nI 1 <<< (nI k &&& 31) else nI 0)
noncomputable def spRocks (kd fg : Nat → Nat) (c f a b t : Int32) : Int32 := if inR c 20 = true then (if inR f 10 = true then (if inR a 20 = true then (if inR b 20 = true then rkS kd fg (dN c) (dN f) (dN a) (dN b) t 8 else (-1)) else (-1)) else (-1)) else (-1)
/-- when the i-th told knock was, by the times T -/
def hk (el : Nat → Int32) (d : Nat) (T : Nat → Nat) (i : Nat) : Int64 := (el (100 * d + (i + 1))).toInt64 - lN (T (dN (el (100 * d + i))))
def frB (el : Nat → Int32) (d : Nat) (T : Nat → Nat) : Nat → Bool
  | 0 => true
  | j + 1 => frB el d T j && decide (hk el d T (2 * (j + 1)) = hk el d T 0)
theorem lg_eq0 {x y : Int64} : lg_cmp x y = 0 ↔ x = y := by
  unfold lg_cmp
  by_cases h1 : x > y
  · rw [if_pos h1]; exact ⟨fun h => absurd h (by decide), fun h => absurd h1 (by rw [h]; exact Int64.lt_irrefl)⟩
  · rw [if_neg h1]
    by_cases h2 : x = y
    · rw [if_pos h2]; exact ⟨fun _ => h2, fun _ => rfl⟩
    · rw [if_neg h2]; exact ⟨fun h => absurd h (by decide), fun h => absurd h h2⟩
def cellsAt (el : Nat → Int32) (d st n : Nat) : Prop := ∀ i, i < n → i % st = 0 → inR (el (100 * d + i)) 20 = true
theorem cellsAt_get {el : Nat → Int32} {d st n : Nat} (h : cellsAt el d st n) {i : Nat} (hi : i < n) (hst : i % st = 0) : ∃ u, u < 20 ∧ el (100 * d + i) = nI u ∧ dN (el (100 * d + i)) = u := by
  obtain ⟨u, hu, e⟩ := inR_t (h i hi hst)
  exact ⟨u, hu, e, by rw [e, dN_N (by omega)]⟩
theorem frB_f {el : Nat → Int32} {d : Nat} {T : Nat → Nat} {j : Nat} (h : ¬ hk el d T (2 * (j + 1)) = hk el d T 0) : ∀ n, j < n → frB el d T n = false
  | 0, hn => absurd hn (by omega)
  | n + 1, hn => by
    show (frB el d T n && _) = false
    by_cases q : j = n
    · subst q; rw [decide_eq_false h, Bool.and_false]
    · rw [frB_f h n (by omega), Bool.false_and]
theorem frB_s {el : Nat → Int32} {d : Nat} {T : Nat → Nat} {j : Nat} (h0 : frB el d T j = true) (h : hk el d T (2 * (j + 1)) = hk el d T 0) : frB el d T (j + 1) = true := by
  show (frB el d T j && _) = true
  rw [h0, decide_eq_true h]; rfl
theorem hk_e {el : Nat → Int32} {d : Nat} {T : Nat → Nat} {i u : Nat} (h : dN (el (100 * d + i)) = u) : hk el d T i = (el (100 * d + (i + 1))).toInt64 - lN (T u) := by unfold hk; rw [h]
def rmX12_rocks : Room := { frames := 5, cells := 0, slots := 0, locals := 113 }
set_option maxHeartbeats 8000000 in
theorem c_X12_rocks {c f a b t : Int32} (hA : aB b0 18 ad) (ho : okM kd fg pl) : KM l D Z b0 yX12_rocks cX12_rocks 8 (some .int) rmX12_rocks [.ref (ad 0), .int c, .int f, .int a, .int b, .int t] (wM Z ad hi th po ba en se (enc kd fg pl hr) im rd mi (nf kp) (nf so) (nf sz) el ki kf ti lo wa nu li to ot V) (fun v V' => v = some (.int (spRocks kd fg c f a b t)) ∧ MX Z ad hi (enc kd fg pl hr) im (nf kp) (nf so) (nf sz) el ki kf V V') := by
  refine KM.ofP (by decide) (Nat.le_of_ble_eq_true rfl) (fun Po hPo => ?_)
  refine G.locals (L' := [(0, .ref (ad 0)), (1, .int c), (2, .int f), (3, .int a), (4, .int b), (5, .int t)]) [0, 1, 2, 3, 4, 5] rfl ?_
  refine g_iload_n (q := 1) (pc := 0) dX12_rocks_0 rfl rfl ?_
  refine e_callS (k2 := 0) (n2 := 0) (As := [.int c]) (rest := []) (pc := 1) (c_X12_isCell hA) mlX12_143 mX12_isCell ⟨Nat.le_of_ble_eq_true rfl, Nat.le_of_ble_eq_true rfl⟩ rfl rfl (Nat.le_of_ble_eq_true rfl) dX12_rocks_1 (by decide) rfl rfl ?_
  refine g_if_eq_B (tgt := 34) (pc := 4) dX12_rocks_4 (by decide) (fun c1 => ?_) (fun c1 => ?_)
  · -- T c1
    refine g_iconst (v := (-1)) (pc := 34) dX12_rocks_34 (by decide) ?_
    exact g_iret (pc := 35) (by decide) (by decide) (gI hPo (by rw [spRocks, if_neg (by simp [*])]) mxk) dX12_rocks_35
  · -- F c1
    obtain ⟨c, hc, rfl⟩ := inR_t c1
    refine g_iload_n (q := 2) (pc := 7) dX12_rocks_7 rfl rfl ?_
    refine g_i2l (v := (f).toInt64) (pc := 8) dX12_rocks_8 rfl ?_
    refine g_lconst (v := lN 0) (pc := 9) dX12_rocks_9 (by decide) ?_
    refine g_ldc2 (v := lN 9) (pc := 10) klX12_190 dX12_rocks_10 ?_
    refine e_callS (k2 := 0) (n2 := 0) (As := [.long ((f).toInt64), .long (lN 0), .long (lN 9)]) (rest := []) (pc := 13) (c_X12_isInR 10 rfl hA (by decide) (c_X12_isIn hA)) mlX12_67 mX12_isIn ⟨Nat.le_of_ble_eq_true rfl, Nat.le_of_ble_eq_true rfl⟩ rfl rfl (Nat.le_of_ble_eq_true rfl) dX12_rocks_13 (by decide) rfl rfl ?_
    refine g_if_eq_B (tgt := 34) (pc := 16) dX12_rocks_16 (by decide) (fun c2 => ?_) (fun c2 => ?_)
    · -- T c2
      refine g_iconst (v := (-1)) (pc := 34) dX12_rocks_34 (by decide) ?_
      exact g_iret (pc := 35) (by decide) (by decide) (gI hPo (by rw [spRocks, if_pos (by assumption), if_neg (by simp [*])]) mxk) dX12_rocks_35
    · -- F c2
      obtain ⟨f, hf, rfl⟩ := inR_t c2
      refine g_iload_n (q := 3) (pc := 19) dX12_rocks_19 rfl rfl ?_
      refine e_callS (k2 := 0) (n2 := 0) (As := [.int a]) (rest := []) (pc := 20) (c_X12_isCell hA) mlX12_143 mX12_isCell ⟨Nat.le_of_ble_eq_true rfl, Nat.le_of_ble_eq_true rfl⟩ rfl rfl (Nat.le_of_ble_eq_true rfl) dX12_rocks_20 (by decide) rfl rfl ?_
      refine g_if_eq_B (tgt := 34) (pc := 23) dX12_rocks_23 (by decide) (fun c3 => ?_) (fun c3 => ?_)
      · -- T c3
        refine g_iconst (v := (-1)) (pc := 34) dX12_rocks_34 (by decide) ?_
        exact g_iret (pc := 35) (by decide) (by decide) (gI hPo (by rw [spRocks, if_pos (by assumption), if_pos (by assumption), if_neg (by simp [*])]) mxk) dX12_rocks_35
      · -- F c3
        obtain ⟨a, ha, rfl⟩ := inR_t c3
        refine g_iload (q := 4) (pc := 26) dX12_rocks_26 rfl ?_
        refine e_callS (k2 := 0) (n2 := 0) (As := [.int b]) (rest := []) (pc := 28) (c_X12_isCell hA) mlX12_143 mX12_isCell ⟨Nat.le_of_ble_eq_true rfl, Nat.le_of_ble_eq_true rfl⟩ rfl rfl (Nat.le_of_ble_eq_true rfl) dX12_rocks_28 (by decide) rfl rfl ?_
        refine g_if_ne_B (tgt := 36) (pc := 31) dX12_rocks_31 (by decide) (fun c4 => ?_) (fun c4 => ?_)
        · -- T c4
          obtain ⟨b, hb, rfl⟩ := inR_t c4
          refine g_aload_n (q := 0) (pc := 36) dX12_rocks_36 rfl rfl ?_
          refine e_callVv (k2 := 0) (n2 := 0) (As := []) (rest := []) (pc := 37) (wM_0 hA) rfl (c_X12_begins hA) mlX12_192 selX12_X12_begins_X12_begins mX12_begins ⟨Nat.le_of_ble_eq_true rfl, Nat.le_of_ble_eq_true rfl⟩ rfl rfl (Nat.le_of_ble_eq_true rfl) dX12_rocks_37 (by decide) rfl rfl ?_
          refine g_iconst (v := nI 0) (pc := 40) dX12_rocks_40 (by decide) ?_
          refine g_istore (lv' := [(6, .int (nI 0)), (0, .ref (ad 0)), (1, .int (nI c)), (2, .int (nI f)), (3, .int (nI a)), (4, .int (nI b)), (5, .int t)]) (pc := 41) dX12_rocks_41 (by decide) rfl ?_
          refine g_iconst (v := nI 0) (pc := 43) dX12_rocks_43 (by decide) ?_
          refine g_istore (lv' := [(7, .int (nI 0)), (6, .int (nI 0)), (0, .ref (ad 0)), (1, .int (nI c)), (2, .int (nI f)), (3, .int (nI a)), (4, .int (nI b)), (5, .int t)]) (pc := 44) dX12_rocks_44 (by decide) rfl ?_
          have lp46 : ∀ (d46 : Nat) (i : Nat) (kd2 : Nat → Nat) (fg2 : Nat → Nat) (f1 : Nat → Int32) (g1 : Nat → Int32), i + d46 = 9 → (i ≤ 8) → (∀ x, updN kd2 c x = updN kd c x) → (∀ x, updN fg2 c x = updN fg c x) → G l D Z b0 rmX12_rocks RX12 cX12_rocks 8 (gE (some .int) "rocks") (gT D b0 Po rmX12_rocks.cells rmX12_rocks.slots) (wM Z ad hi th po ba en se (enc kd2 fg2 pl hr) im rd (enc kd fg pl hr) (nf kp) (nf so) (nf sz) el ki kf f1 g1 wa nu li to ot V) [(7, .int (nI i)), (6, .int (rkS kd fg c f a b t i)), (0, .ref (ad 0)), (1, .int (nI c)), (2, .int (nI f)), (3, .int (nI a)), (4, .int (nI b)), (5, .int t)] 0 0 46 [] := by
            intro d46
            induction d46 with
            | zero =>
              intro i kd2 fg2 f1 g1 hd46 hiN hq1 hq2
              exact absurd hd46 (by omega)
            | succ d46 ih46 =>
              intro i kd2 fg2 f1 g1 hd46 hiN hq1 hq2
              refine g_iload (q := 0) (pc := 46) dX12_rocks_46 rfl ?_
              refine g_bipush (v := nI 8) (pc := 48) dX12_rocks_48 (by decide) ?_
              refine g_icmp_ge_N (tgt := 92) (pc := 50) (by omega) (by omega) dX12_rocks_50 (by decide) (fun c5 => ?_) (fun c5 => ?_)
              · -- T c5
                refine g_aload_n (q := 2) (pc := 92) dX12_rocks_92 rfl rfl ?_
                refine e_callVv (k2 := 0) (n2 := 0) (As := []) (rest := []) (pc := 93) (wM_0 hA) rfl (c_X12_ends hA) mlX12_195 selX12_X12_ends_X12_ends mX12_ends ⟨Nat.le_of_ble_eq_true rfl, Nat.le_of_ble_eq_true rfl⟩ rfl rfl (Nat.le_of_ble_eq_true rfl) dX12_rocks_93 (by decide) rfl rfl ?_
                refine g_iload (q := 1) (pc := 96) dX12_rocks_96 rfl ?_
                exact g_iret (pc := 98) (by decide) (by decide) (gI hPo (by obtain rfl : i = 8 := (by omega); rw [spRocks, if_pos (by assumption), if_pos (by assumption), if_pos (by assumption), if_pos (by assumption), dN_N (by omega), dN_N (by omega), dN_N (by omega), dN_N (by omega)]) mxk) dX12_rocks_98
              · -- F c5
                refine g_aload_n (q := 2) (pc := 53) dX12_rocks_53 rfl rfl ?_
                refine g_iload_n (q := 3) (pc := 54) dX12_rocks_54 rfl rfl ?_
                refine g_iload (q := 0) (pc := 55) dX12_rocks_55 rfl ?_
                refine g_iload_n (q := 4) (pc := 57) dX12_rocks_57 rfl rfl ?_
                refine e_callVv (k2 := 0) (n2 := 0) (As := [.int (nI c), .int (nI i), .int (nI f)]) (rest := []) (pc := 58) (wM_0 hA) rfl (c_X12_setCell hA (by omega)) mlX12_103 selX12_X12_setCell_X12_setCell mX12_setCell ⟨Nat.le_of_ble_eq_true rfl, Nat.le_of_ble_eq_true rfl⟩ rfl rfl (Nat.le_of_ble_eq_true rfl) dX12_rocks_58 (by decide) rfl rfl ?_
                rw [hq1 i, hq2 f]
                refine g_iload (q := 1) (pc := 61) dX12_rocks_61 rfl ?_
                refine g_aload_n (q := 2) (pc := 63) dX12_rocks_63 rfl rfl ?_
                refine g_iload_n (q := 5) (pc := 64) dX12_rocks_64 rfl rfl ?_
                refine g_iload (q := 6) (pc := 65) dX12_rocks_65 rfl ?_
                refine e_callV (k2 := 0) (n2 := 0) (As := [.int (nI a), .int (nI b)]) (rest := [.int (rkS kd fg c f a b t i)]) (pc := 67) (wM_0 hA) rfl (c_X12_timeOf hA (okM_set ho (by omega) (by omega)) (by omega) (by omega)) mlX12_173 selX12_X12_timeOf_X12_timeOf mX12_timeOf ⟨Nat.le_of_ble_eq_true rfl, Nat.le_of_ble_eq_true rfl⟩ rfl rfl (Nat.le_of_ble_eq_true rfl) dX12_rocks_67 (by decide) rfl rfl ?_
                refine g_iload (q := 7) (pc := 70) dX12_rocks_70 rfl ?_
                refine g_icmp_ne (tgt := 82) (pc := 72) dX12_rocks_72 (by decide) (fun c6 => ?_) (fun c6 => ?_)
                · -- T c6
                  refine g_iconst (v := nI 0) (pc := 82) dX12_rocks_82 (by decide) ?_
                  refine g_ior (pc := 83) dX12_rocks_83 ?_
                  refine g_top (x := (rkS kd fg c f a b t i) ||| (nI 0)) (y := rkS kd fg c f a b t (i + 1)) (by rw [rkS, if_neg (by assumption)]) ?_
                  refine g_istore (lv' := [(6, .int (rkS kd fg c f a b t (i + 1))), (7, .int (nI i)), (0, .ref (ad 0)), (1, .int (nI c)), (2, .int (nI f)), (3, .int (nI a)), (4, .int (nI b)), (5, .int t)]) (pc := 84) dX12_rocks_84 (by decide) rfl ?_
                  refine g_iinc (q := 1) (lv' := [(7, .int (nI (i + 1))), (6, .int (rkS kd fg c f a b t (i + 1))), (0, .ref (ad 0)), (1, .int (nI c)), (2, .int (nI f)), (3, .int (nI a)), (4, .int (nI b)), (5, .int t)]) (pc := 86) dX12_rocks_86 rfl (nI_inc _ _) (by decide) rfl ?_
                  refine g_goto (tgt := 46) (pc := 89) dX12_rocks_89 (by decide) ?_
                  refine G.locals (L' := [(7, .int (nI (i + 1))), (6, .int (rkS kd fg c f a b t (i + 1))), (0, .ref (ad 0)), (1, .int (nI c)), (2, .int (nI f)), (3, .int (nI a)), (4, .int (nI b)), (5, .int t)]) [0, 1, 2, 3, 4, 5, 6, 7] rfl ?_
                  exact ih46 (i + 1) (updN kd c i) (updN fg c f) (nf (dT (updN kd c i) (updN fg c f) a)) (nf (dL (updN kd c i) (updN fg c f) a)) (by omega) (by omega) (fun _ => updN_updN _ _ _ _) (fun _ => updN_updN _ _ _ _)
                · -- F c6
                  refine g_iconst (v := nI 1) (pc := 75) dX12_rocks_75 (by decide) ?_
                  refine g_iload (q := 0) (pc := 76) dX12_rocks_76 rfl ?_
                  refine g_ishl (pc := 78) dX12_rocks_78 ?_
                  refine g_goto (tgt := 83) (pc := 79) dX12_rocks_79 (by decide) ?_
                  refine g_ior (pc := 83) dX12_rocks_83 ?_
                  refine g_top (x := (rkS kd fg c f a b t i) ||| ((nI 1) <<< ((nI i) &&& 31))) (y := rkS kd fg c f a b t (i + 1)) (by rw [rkS, if_pos (by assumption)]) ?_
                  refine g_istore (lv' := [(6, .int (rkS kd fg c f a b t (i + 1))), (7, .int (nI i)), (0, .ref (ad 0)), (1, .int (nI c)), (2, .int (nI f)), (3, .int (nI a)), (4, .int (nI b)), (5, .int t)]) (pc := 84) dX12_rocks_84 (by decide) rfl ?_
                  refine g_iinc (q := 1) (lv' := [(7, .int (nI (i + 1))), (6, .int (rkS kd fg c f a b t (i + 1))), (0, .ref (ad 0)), (1, .int (nI c)), (2, .int (nI f)), (3, .int (nI a)), (4, .int (nI b)), (5, .int t)]) (pc := 86) dX12_rocks_86 rfl (nI_inc _ _) (by decide) rfl ?_
                  refine g_goto (tgt := 46) (pc := 89) dX12_rocks_89 (by decide) ?_
                  refine G.locals (L' := [(7, .int (nI (i + 1))), (6, .int (rkS kd fg c f a b t (i + 1))), (0, .ref (ad 0)), (1, .int (nI c)), (2, .int (nI f)), (3, .int (nI a)), (4, .int (nI b)), (5, .int t)]) [0, 1, 2, 3, 4, 5, 6, 7] rfl ?_
                  exact ih46 (i + 1) (updN kd c i) (updN fg c f) (nf (dT (updN kd c i) (updN fg c f) a)) (nf (dL (updN kd c i) (updN fg c f) a)) (by omega) (by omega) (fun _ => updN_updN _ _ _ _) (fun _ => updN_updN _ _ _ _)
          refine G.locals (L' := [(7, .int (nI 0)), (6, .int (nI 0)), (0, .ref (ad 0)), (1, .int (nI c)), (2, .int (nI f)), (3, .int (nI a)), (4, .int (nI b)), (5, .int t)]) [0, 1, 2, 3, 4, 5, 6, 7] rfl ?_
          exact lp46 9 0 kd fg ti lo (by omega) (by decide) (fun _ => rfl) (fun _ => rfl)
        · -- F c4
          refine g_iconst (v := (-1)) (pc := 34) dX12_rocks_34 (by decide) ?_
          exact g_iret (pc := 35) (by decide) (by decide) (gI hPo (by rw [spRocks, if_pos (by assumption), if_pos (by assumption), if_pos (by assumption), if_neg (by simp [*])]) mxk) dX12_rocks_35
def rmX12_told : Room := { frames := 0, cells := 0, slots := 0, locals := 0 }
set_option maxHeartbeats 8000000 in
theorem c_X12_told {d i : Nat} (hA : aB b0 18 ad) (hd : d < 8) (hi1 : i < 100) : KE l D Z b0 yX12_told cX12_told 3 (some .int) rmX12_told [.ref (ad 0), .int (nI d), .int (nI i)] (wM Z ad hi th po ba en se (enc kd fg pl hr) im rd mi (nf kp) (nf so) (nf sz) el ki kf ti lo wa nu li to ot V) (some (.int (el (100 * d + i)))) (wM Z ad hi th po ba en se (enc kd fg pl hr) im rd mi (nf kp) (nf so) (nf sz) el ki kf ti lo wa nu li to ot V) := by
  refine KE.of (by decide) (Nat.le_of_ble_eq_true rfl) (fun Po hPo => ?_)
  refine G.locals (L' := [(0, .ref (ad 0)), (1, .int (nI d)), (2, .int (nI i))]) [0, 1, 2] rfl ?_
  refine g_aload_n (q := 0) (pc := 0) dX12_told_0 rfl rfl ?_
  refine gm_get_el (pc := 1) hA dX12_told_1 ?_
  refine g_bipush (v := nI 100) (pc := 4) dX12_told_4 (by decide) ?_
  refine g_iload_n (q := 1) (pc := 6) dX12_told_6 rfl rfl ?_
  refine g_imul_N (pc := 7) dX12_told_7 ?_
  refine g_iload_n (q := 2) (pc := 8) dX12_told_8 rfl rfl ?_
  refine g_iadd_N (pc := 9) dX12_told_9 ?_
  refine gm_ld_el (pc := 10) (j := (100 * d) + i) (x := el ((100 * d) + i)) hA (by omega) rfl dX12_told_10 ?_
  exact g_iret (pc := 11) (by decide) (by decide) (hPo) dX12_told_11
def rmX12_isFrom : Room := { frames := 4, cells := 0, slots := 0, locals := 91 }
set_option maxHeartbeats 8000000 in
theorem c_X12_isFrom {d a : Nat} (hA : aB b0 18 ad) (ho : okM kd fg pl) (hs : okS kp so sz ki kf) (hd : d < 8) (hev : sz d % 2 = 0) (hcl : cellsAt el d 2 (sz d)) (ha : a < 20) : KE l D Z b0 yX12_isFrom cX12_isFrom 4 (some .boolean) rmX12_isFrom [.ref (ad 0), .int (nI d), .int (nI a)] (wM Z ad hi th po ba en se (enc kd fg pl hr) im rd mi (nf kp) (nf so) (nf sz) el ki kf ti lo wa nu li to ot V) (some (.int (bI (frB el d (dT kd fg a) (sz d / 2 - 1))))) (wM Z ad hi th po ba en se (enc kd fg pl hr) im rd mi (nf kp) (nf so) (nf sz) el ki kf (nf (dT kd fg a)) (nf (dL kd fg a)) wa nu li to ot V) := by
  refine KE.of (by decide) (Nat.le_of_ble_eq_true rfl) (fun Po hPo => ?_)
  refine G.locals (L' := [(0, .ref (ad 0)), (1, .int (nI d)), (2, .int (nI a))]) [0, 1, 2] rfl ?_
  refine g_aload_n (q := 0) (pc := 0) dX12_isFrom_0 rfl rfl ?_
  refine g_iload_n (q := 2) (pc := 1) dX12_isFrom_1 rfl rfl ?_
  refine e_callVv (k2 := 0) (n2 := 0) (As := [.int (nI a)]) (rest := []) (pc := 2) (wM_0 hA) rfl (c_X12_finds hA ho (by omega)) mlX12_118 selX12_X12_finds_X12_finds mX12_finds ⟨Nat.le_of_ble_eq_true rfl, Nat.le_of_ble_eq_true rfl⟩ rfl rfl (Nat.le_of_ble_eq_true rfl) dX12_isFrom_2 (by decide) rfl rfl ?_
  refine g_iconst (v := nI 2) (pc := 5) dX12_isFrom_5 (by decide) ?_
  refine g_istore_n (lv' := [(3, .int (nI 2)), (0, .ref (ad 0)), (1, .int (nI d)), (2, .int (nI a))]) (pc := 6) dX12_isFrom_6 rfl (by decide) rfl ?_
  have lp7 : ∀ (d7 : Nat) (i : Nat) (j : Nat), j + d7 = sz d + 1 → (i = 2 * (j + 1)) → (j = 0 ∨ 2 * j < sz d) → (frB el d (dT kd fg a) j = true) → G l D Z b0 rmX12_isFrom RX12 cX12_isFrom 4 (gE (some .boolean) "isFrom") (gT D b0 Po rmX12_isFrom.cells rmX12_isFrom.slots) (wM Z ad hi th po ba en se (enc kd fg pl hr) im rd mi (nf kp) (nf so) (nf sz) el ki kf (nf (dT kd fg a)) (nf (dL kd fg a)) wa nu li to ot V) [(3, .int (nI i)), (0, .ref (ad 0)), (1, .int (nI d)), (2, .int (nI a))] 0 0 7 [] := by
    intro d7
    induction d7 with
    | zero =>
      intro i j hd7 hji hjN hj
      omega
    | succ d7 ih7 =>
      intro i j hd7 hji hjN hj
      refine g_iload_n (q := 0) (pc := 7) dX12_isFrom_7 rfl rfl ?_
      refine g_aload_n (q := 1) (pc := 8) dX12_isFrom_8 rfl rfl ?_
      refine gm_get_sz (pc := 9) hA dX12_isFrom_9 ?_
      refine g_iload_n (q := 2) (pc := 12) dX12_isFrom_12 rfl rfl ?_
      refine gm_ld_sz (pc := 13) (j := d) (x := nI (sz d)) hA hd rfl dX12_isFrom_13 ?_
      refine g_icmp_ge_N (tgt := 71) (pc := 14) (by have := (hs d hd).2.2.1; omega) (by have := (hs d hd).2.2.1; omega) dX12_isFrom_14 (by decide) (fun c1 => ?_) (fun c1 => ?_)
      · -- T c1
        refine g_iconst (v := nI 1) (pc := 71) dX12_isFrom_71 (by decide) ?_
        exact g_zret (pc := 72) (by decide) (by decide) (by decide) (eqI hPo (by have hj9 : j = sz d / 2 - 1 := (by omega); rw [← hj9, hj]; rfl)) dX12_isFrom_72
      · -- F c1
        refine g_aload_n (q := 1) (pc := 17) dX12_isFrom_17 rfl rfl ?_
        refine g_iload_n (q := 2) (pc := 18) dX12_isFrom_18 rfl rfl ?_
        refine g_iload_n (q := 0) (pc := 19) dX12_isFrom_19 rfl rfl ?_
        refine g_iconst (v := nI 1) (pc := 20) dX12_isFrom_20 (by decide) ?_
        refine g_iadd_N (pc := 21) dX12_isFrom_21 ?_
        refine e_callV (k2 := 0) (n2 := 0) (As := [.int (nI d), .int (nI (i + 1))]) (rest := []) (pc := 22) (wM_0 hA) rfl (c_X12_told hA hd (by have := (hs d hd).2.2.1; omega)) mlX12_181 selX12_X12_told_X12_told mX12_told ⟨Nat.le_of_ble_eq_true rfl, Nat.le_of_ble_eq_true rfl⟩ rfl rfl (Nat.le_of_ble_eq_true rfl) dX12_isFrom_22 (by decide) rfl rfl ?_
        refine g_i2l (v := (el (100 * d + (i + 1))).toInt64) (pc := 25) dX12_isFrom_25 rfl ?_
        refine g_aload_n (q := 1) (pc := 26) dX12_isFrom_26 rfl rfl ?_
        refine gm_get_ti (pc := 27) hA dX12_isFrom_27 ?_
        refine g_aload_n (q := 1) (pc := 30) dX12_isFrom_30 rfl rfl ?_
        refine g_iload_n (q := 2) (pc := 31) dX12_isFrom_31 rfl rfl ?_
        refine g_iload_n (q := 0) (pc := 32) dX12_isFrom_32 rfl rfl ?_
        refine e_callV (k2 := 0) (n2 := 0) (As := [.int (nI d), .int (nI i)]) (rest := [.ref (ad 11), .long ((el (100 * d + (i + 1))).toInt64)]) (pc := 33) (wM_0 hA) rfl (c_X12_told hA hd (by have := (hs d hd).2.2.1; omega)) mlX12_181 selX12_X12_told_X12_told mX12_told ⟨Nat.le_of_ble_eq_true rfl, Nat.le_of_ble_eq_true rfl⟩ rfl rfl (Nat.le_of_ble_eq_true rfl) dX12_isFrom_33 (by decide) rfl rfl ?_
        obtain ⟨u, hu, eu, fu⟩ := cellsAt_get hcl (i := i) (by omega) (by omega)
        rw [eu]
        refine gm_ld_ti (pc := 36) (j := u) (x := nI ((dT kd fg a) u)) hA hu rfl dX12_isFrom_36 ?_
        refine g_i2l (v := lN ((dT kd fg a) u)) (pc := 37) dX12_isFrom_37 (nI_l (by have := (dT_b ho ha hu).1; omega)) ?_
        refine g_lsub (pc := 38) dX12_isFrom_38 ?_
        refine g_aload_n (q := 1) (pc := 39) dX12_isFrom_39 rfl rfl ?_
        refine g_iload_n (q := 2) (pc := 40) dX12_isFrom_40 rfl rfl ?_
        refine g_iconst (v := nI 1) (pc := 41) dX12_isFrom_41 (by decide) ?_
        refine e_callV (k2 := 0) (n2 := 0) (As := [.int (nI d), .int (nI 1)]) (rest := [.long (((el (100 * d + (i + 1))).toInt64) - (lN ((dT kd fg a) u)))]) (pc := 42) (wM_0 hA) rfl (c_X12_told hA hd (by have := (hs d hd).2.2.1; omega)) mlX12_181 selX12_X12_told_X12_told mX12_told ⟨Nat.le_of_ble_eq_true rfl, Nat.le_of_ble_eq_true rfl⟩ rfl rfl (Nat.le_of_ble_eq_true rfl) dX12_isFrom_42 (by decide) rfl rfl ?_
        refine g_i2l (v := (el (100 * d + 1)).toInt64) (pc := 45) dX12_isFrom_45 rfl ?_
        refine g_aload_n (q := 1) (pc := 46) dX12_isFrom_46 rfl rfl ?_
        refine gm_get_ti (pc := 47) hA dX12_isFrom_47 ?_
        refine g_aload_n (q := 1) (pc := 50) dX12_isFrom_50 rfl rfl ?_
        refine g_iload_n (q := 2) (pc := 51) dX12_isFrom_51 rfl rfl ?_
        refine g_iconst (v := nI 0) (pc := 52) dX12_isFrom_52 (by decide) ?_
        refine e_callV (k2 := 0) (n2 := 0) (As := [.int (nI d), .int (nI 0)]) (rest := [.ref (ad 11), .long ((el (100 * d + 1)).toInt64), .long (((el (100 * d + (i + 1))).toInt64) - (lN ((dT kd fg a) u)))]) (pc := 53) (wM_0 hA) rfl (c_X12_told hA hd (by have := (hs d hd).2.2.1; omega)) mlX12_181 selX12_X12_told_X12_told mX12_told ⟨Nat.le_of_ble_eq_true rfl, Nat.le_of_ble_eq_true rfl⟩ rfl rfl (Nat.le_of_ble_eq_true rfl) dX12_isFrom_53 (by decide) rfl rfl ?_
        obtain ⟨z, hz, ez, fz⟩ := cellsAt_get hcl (i := 0) (by omega) (by omega)
        rw [ez]
        refine gm_ld_ti (pc := 56) (j := z) (x := nI ((dT kd fg a) z)) hA hz rfl dX12_isFrom_56 ?_
        refine g_i2l (v := lN ((dT kd fg a) z)) (pc := 57) dX12_isFrom_57 (nI_l (by have := (dT_b ho ha hz).1; omega)) ?_
        refine g_lsub (pc := 58) dX12_isFrom_58 ?_
        refine g_lcmp (pc := 59) dX12_isFrom_59 ?_
        refine g_if_eq (tgt := 65) (pc := 60) dX12_isFrom_60 (by decide) (fun c2 => ?_) (fun c2 => ?_)
        · -- T c2
          have hkk : hk el d (dT kd fg a) (2 * (j + 1)) = hk el d (dT kd fg a) 0 := by rw [← hji, hk_e fu, hk_e fz]; exact lg_eq0.mp c2
          refine g_iinc (q := 0) (lv' := [(3, .int (nI (i + 2))), (0, .ref (ad 0)), (1, .int (nI d)), (2, .int (nI a))]) (pc := 65) dX12_isFrom_65 rfl (nI_inc _ _) (by decide) rfl ?_
          refine g_goto (tgt := 7) (pc := 68) dX12_isFrom_68 (by decide) ?_
          refine G.locals (L' := [(3, .int (nI (i + 2))), (0, .ref (ad 0)), (1, .int (nI d)), (2, .int (nI a))]) [0, 1, 2, 3] rfl ?_
          exact ih7 (i + 2) (j + 1) (by omega) (by omega) (by omega) (frB_s hj hkk)
        · -- F c2
          have hkn : ¬ hk el d (dT kd fg a) (2 * (j + 1)) = hk el d (dT kd fg a) 0 := by rw [← hji, hk_e fu, hk_e fz]; exact fun q => c2 (lg_eq0.mpr q)
          refine g_iconst (v := nI 0) (pc := 63) dX12_isFrom_63 (by decide) ?_
          exact g_zret (pc := 64) (by decide) (by decide) (by decide) (eqI hPo (by rw [frB_f hkn _ (by omega)]; rfl)) dX12_isFrom_64
  refine G.locals (L' := [(3, .int (nI 2)), (0, .ref (ad 0)), (1, .int (nI d)), (2, .int (nI a))]) [0, 1, 2, 3] rfl ?_
  exact lp7 (sz d + 1) 2 0 (by omega) rfl (Or.inl rfl) rfl
def frF (B : Nat → Bool) : Nat → Int32
  | 0 => (-4)
  | k + 1 => if B k = true then (if frF B k < 0 then nI k else frF B k) else frF B k
def cntB (B : Nat → Bool) (k : Nat) : Nat := sumN (fun c => if B c = true then 1 else 0) k
theorem cntB_t {B : Nat → Bool} {k : Nat} (h : B k = true) : cntB B (k + 1) = cntB B k + 1 := by
  show sumN _ k + (if B k = true then 1 else 0) = _
  rw [if_pos h]; rfl
theorem cntB_f {B : Nat → Bool} {k : Nat} (h : B k = false) : cntB B (k + 1) = cntB B k := by
  show sumN _ k + (if B k = true then 1 else 0) = _
  rw [if_neg (by rw [h]; decide)]; rfl
theorem frF_f {B : Nat → Bool} {k : Nat} (h : B k = false) : frF B (k + 1) = frF B k := if_neg (by rw [h]; decide)
noncomputable def frP (kd fg sz : Nat → Nat) (el : Nat → Int32) (d c : Nat) : Bool := frB el d (dT kd fg c) (sz d / 2 - 1)
noncomputable def spFromV (kd fg sz : Nat → Nat) (el : Nat → Int32) (d what : Nat) : Int32 := if what = 0 then nI (cntB (frP kd fg sz el d) 20) else frF (frP kd fg sz el d) 20
def cellsB (el : Nat → Int32) (d st : Nat) : Nat → Bool
  | 0 => true
  | i + 1 => cellsB el d st i && (decide (¬ i % st = 0) || inR (el (100 * d + i)) 20)
theorem cellsB_at {el : Nat → Int32} {d st : Nat} : ∀ {n : Nat}, cellsB el d st n = true → cellsAt el d st n
  | 0, _, i, hi, _ => absurd hi (Nat.not_lt_zero _)
  | n + 1, h, i, hi, hst => by
    have h' : (cellsB el d st n && (decide (¬ n % st = 0) || inR (el (100 * d + n)) 20)) = true := h
    rw [Bool.and_eq_true] at h'
    by_cases q : i = n
    · subst q
      have h2 := h'.2
      rw [Bool.or_eq_true] at h2
      rcases h2 with h2 | h2
      · exact absurd hst (of_decide_eq_true h2)
      · exact h2
    · exact cellsB_at h'.1 i (by omega) hst
theorem cellsB_of {el : Nat → Int32} {d st : Nat} : ∀ {n : Nat}, cellsAt el d st n → cellsB el d st n = true
  | 0, _ => rfl
  | n + 1, h => by
    show (cellsB el d st n && (decide (¬ n % st = 0) || inR (el (100 * d + n)) 20)) = true
    rw [cellsB_of (n := n) (fun i hi hst => h i (by omega) hst), Bool.true_and, Bool.or_eq_true]
    by_cases q : n % st = 0
    · exact Or.inr (h n (by omega) q)
    · exact Or.inl (decide_eq_true q)
theorem cellsB_f {el : Nat → Int32} {d st i n : Nat} (hi : i < n) (hst : i % st = 0) (h : inR (el (100 * d + i)) 20 = false) : cellsB el d st n = false := by
  cases q : cellsB el d st n with
  | false => rfl
  | true => have := cellsB_at q i hi hst; rw [h] at this; cases this
def spFromG (kp so sz : Nat → Nat) (el : Nat → Int32) (d what : Int32) : Int32 := if inR d 8 = true then (if inR what 2 = true then (if spWR kp so d (some 2) = 0 then (if sz (dN d) % 2 = 0 then (if cellsB el (dN d) 2 (sz (dN d)) = true then nI 0 else (-13)) else (-13)) else spWR kp so d (some 2)) else (-1)) else (-1)
def rmX12_from : Room := { frames := 5, cells := 0, slots := 0, locals := 114 }
set_option maxHeartbeats 8000000 in
theorem c_X12_from_s {d what : Nat} (hA : aB b0 18 ad) (ho : okM kd fg pl) (hs : okS kp so sz ki kf) (hd : d < 8) (hk : kp d = 2) (hr9 : okSort (some 2) (so d) = true) (hev : sz d % 2 = 0) (hcl : cellsAt el d 2 (sz d)) (hw : what < 2) : KM l D Z b0 yX12_from cX12_from 7 (some .int) rmX12_from [.ref (ad 0), .int (nI d), .int (nI what)] (wM Z ad hi th po ba en se (enc kd fg pl hr) im rd mi (nf kp) (nf so) (nf sz) el ki kf ti lo wa nu li to ot V) (fun v V' => v = some (.int (spFromV kd fg sz el d what)) ∧ MX Z ad hi (enc kd fg pl hr) im (nf kp) (nf so) (nf sz) el ki kf V V') := by
  refine KM.ofP (by decide) (Nat.le_of_ble_eq_true rfl) (fun Po hPo => ?_)
  refine G.locals (L' := [(0, .ref (ad 0)), (1, .int (nI d)), (2, .int (nI what))]) [0, 1, 2] rfl ?_
  refine g_iload_n (q := 1) (pc := 0) dX12_from_0 rfl rfl ?_
  refine e_callS (k2 := 0) (n2 := 0) (As := [.int (nI d)]) (rest := []) (pc := 1) (c_X12_isShelfN hA (by have := (hs d hd).2.2.1; omega) (c_X12_isShelf hA)) mlX12_152 mX12_isShelf ⟨Nat.le_of_ble_eq_true rfl, Nat.le_of_ble_eq_true rfl⟩ rfl rfl (Nat.le_of_ble_eq_true rfl) dX12_from_1 (by decide) rfl rfl ?_
  refine g_if_eq_B (tgt := 17) (pc := 4) dX12_from_4 (by decide) (fun c1 => ?_) (fun c1 => ?_)
  · -- T c1
    exact absurd (of_decide_eq_false c1) (by omega)
  · -- F c1
    have c1 := of_decide_eq_true c1
    refine g_iload_n (q := 2) (pc := 7) dX12_from_7 rfl rfl ?_
    refine g_i2l (v := lN what) (pc := 8) dX12_from_8 (nI_l (by have := (hs d hd).2.2.1; omega)) ?_
    refine g_lconst (v := lN 0) (pc := 9) dX12_from_9 (by decide) ?_
    refine g_lconst (v := lN 1) (pc := 10) dX12_from_10 (by decide) ?_
    refine e_callS (k2 := 0) (n2 := 0) (As := [.long (lN what), .long (lN 0), .long (lN 1)]) (rest := []) (pc := 11) (c_X12_isInN hA (by have := (hs d hd).2.2.1; omega) (by decide) (by decide) (c_X12_isIn hA)) mlX12_67 mX12_isIn ⟨Nat.le_of_ble_eq_true rfl, Nat.le_of_ble_eq_true rfl⟩ rfl rfl (Nat.le_of_ble_eq_true rfl) dX12_from_11 (by decide) rfl rfl ?_
    refine g_if_ne_B (tgt := 21) (pc := 14) dX12_from_14 (by decide) (fun c2 => ?_) (fun c2 => ?_)
    · -- T c2
      have c2 := of_decide_eq_true c2
      refine g_aload_n (q := 0) (pc := 21) dX12_from_21 rfl rfl ?_
      refine g_iload_n (q := 1) (pc := 22) dX12_from_22 rfl rfl ?_
      refine g_iconst (v := nI 2) (pc := 23) dX12_from_23 (by decide) ?_
      refine e_callV (k2 := 0) (n2 := 0) (As := [.int (nI d), .int (nI 2)]) (rest := []) (pc := 24) (wM_0 hA) rfl (c_X12_wrongRow_ok (r := (some 2)) hA hd hk hr9 (c_X12_wrongRow2 hA hs)) mlX12_155 selX12_X12_wrongRow_X12_wrongRow mX12_wrongRow ⟨Nat.le_of_ble_eq_true rfl, Nat.le_of_ble_eq_true rfl⟩ rfl rfl (Nat.le_of_ble_eq_true rfl) dX12_from_24 (by decide) rfl rfl ?_
      refine g_istore_n (lv' := [(3, .int (nI 0)), (0, .ref (ad 0)), (1, .int (nI d)), (2, .int (nI what))]) (pc := 27) dX12_from_27 rfl (by decide) rfl ?_
      refine g_iload_n (q := 0) (pc := 28) dX12_from_28 rfl rfl ?_
      refine g_if_ne (tgt := 46) (pc := 29) dX12_from_29 (by decide) (fun c0 => absurd c0 (by decide)) (fun _ => ?_)
      refine g_aload_n (q := 1) (pc := 32) dX12_from_32 rfl rfl ?_
      refine gm_get_sz (pc := 33) hA dX12_from_33 ?_
      refine g_iload_n (q := 2) (pc := 36) dX12_from_36 rfl rfl ?_
      refine gm_ld_sz (pc := 37) (j := d) (x := nI (sz d)) hA hd rfl dX12_from_37 ?_
      refine g_iconst (v := nI 2) (pc := 38) dX12_from_38 (by decide) ?_
      refine g_irem_N (pc := 39) (by have := (hs d hd).2.2.1; omega) (by decide) (by decide) dX12_from_39 ?_
      refine g_if_eq_N (tgt := 46) (pc := 40) (by have := (hs d hd).2.2.1; omega) dX12_from_40 (by decide) (fun c3 => ?_) (fun c3 => ?_)
      · -- T c3
        refine g_iconst (v := nI 0) (pc := 46) dX12_from_46 (by decide) ?_
        refine g_istore (lv' := [(4, .int (nI 0)), (3, .int (nI 0)), (0, .ref (ad 0)), (1, .int (nI d)), (2, .int (nI what))]) (pc := 47) dX12_from_47 (by decide) rfl ?_
        have lp49 : ∀ (d49 : Nat) (i : Nat), sz d + 3 ≤ i + d49 → (i % 2 = 0 ∧ i ≤ sz d + 1) → G l D Z b0 rmX12_from RX12 cX12_from 7 (gE (some .int) "from") (gT D b0 Po rmX12_from.cells rmX12_from.slots) (wM Z ad hi th po ba en se (enc kd fg pl hr) im rd mi (nf kp) (nf so) (nf sz) el ki kf ti lo wa nu li to ot V) [(4, .int (nI i)), (3, .int (nI 0)), (0, .ref (ad 0)), (1, .int (nI d)), (2, .int (nI what))] 0 0 49 [] := by
          intro d49
          induction d49 with
          | zero =>
            intro i hd49 hiN
            omega
          | succ d49 ih49 =>
            intro i hd49 hiN
            refine g_iload_n (q := 1) (pc := 49) dX12_from_49 rfl rfl ?_
            refine g_if_ne (tgt := 90) (pc := 50) dX12_from_50 (by decide) (fun c0 => absurd c0 (by decide)) (fun _ => ?_)
            refine g_iload (q := 0) (pc := 53) dX12_from_53 rfl ?_
            refine g_aload_n (q := 2) (pc := 55) dX12_from_55 rfl rfl ?_
            refine gm_get_sz (pc := 56) hA dX12_from_56 ?_
            refine g_iload_n (q := 3) (pc := 59) dX12_from_59 rfl rfl ?_
            refine gm_ld_sz (pc := 60) (j := d) (x := nI (sz d)) hA hd rfl dX12_from_60 ?_
            refine g_icmp_ge_N (tgt := 90) (pc := 61) (by have := (hs d hd).2.2.1; omega) (by have := (hs d hd).2.2.1; omega) dX12_from_61 (by decide) (fun c4 => ?_) (fun c4 => ?_)
            · -- T c4
              refine g_iload_n (q := 1) (pc := 90) dX12_from_90 rfl rfl ?_
              refine g_if_eq (tgt := 96) (pc := 91) dX12_from_91 (by decide) (fun _ => ?_) (fun c0 => absurd c0 (by decide))
              refine g_iconst (v := nI 0) (pc := 96) dX12_from_96 (by decide) ?_
              refine g_istore (lv' := [(4, .int (nI 0)), (3, .int (nI 0)), (0, .ref (ad 0)), (1, .int (nI d)), (2, .int (nI what))]) (pc := 97) dX12_from_97 (by decide) rfl ?_
              refine g_bipush (v := (-4)) (pc := 99) dX12_from_99 (by decide) ?_
              refine g_istore (lv' := [(5, .int (-4)), (4, .int (nI 0)), (3, .int (nI 0)), (0, .ref (ad 0)), (1, .int (nI d)), (2, .int (nI what))]) (pc := 101) dX12_from_101 (by decide) rfl ?_
              refine g_iconst (v := nI 0) (pc := 103) dX12_from_103 (by decide) ?_
              refine g_istore (lv' := [(6, .int (nI 0)), (5, .int (-4)), (4, .int (nI 0)), (3, .int (nI 0)), (0, .ref (ad 0)), (1, .int (nI d)), (2, .int (nI what))]) (pc := 104) dX12_from_104 (by decide) rfl ?_
              have lp106 : ∀ (d106 : Nat) (c : Nat) (f1 : Nat → Int32) (g1 : Nat → Int32), c + d106 = 21 → (c ≤ 20) → G l D Z b0 rmX12_from RX12 cX12_from 7 (gE (some .int) "from") (gT D b0 Po rmX12_from.cells rmX12_from.slots) (wM Z ad hi th po ba en se (enc kd fg pl hr) im rd mi (nf kp) (nf so) (nf sz) el ki kf f1 g1 wa nu li to ot V) [(6, .int (nI c)), (5, .int (frF (frP kd fg sz el d) c)), (4, .int (nI (cntB (frP kd fg sz el d) c))), (0, .ref (ad 0)), (1, .int (nI d)), (2, .int (nI what))] 0 0 106 [] := by
                intro d106
                induction d106 with
                | zero =>
                  intro c f1 g1 hd106 hcN
                  exact absurd hd106 (by omega)
                | succ d106 ih106 =>
                  intro c f1 g1 hd106 hcN
                  refine g_iload (q := 0) (pc := 106) dX12_from_106 rfl ?_
                  refine g_bipush (v := nI 20) (pc := 108) dX12_from_108 (by decide) ?_
                  refine g_icmp_ge_N (tgt := 149) (pc := 110) (by have := (hs d hd).2.2.1; omega) (by have := (hs d hd).2.2.1; omega) dX12_from_110 (by decide) (fun c5 => ?_) (fun c5 => ?_)
                  · -- T c5
                    refine g_iload_n (q := 5) (pc := 149) dX12_from_149 rfl rfl ?_
                    refine g_if_ne_N (tgt := 158) (pc := 150) (by omega) dX12_from_150 (by decide) (fun c6 => ?_) (fun c6 => ?_)
                    · -- T c6
                      refine g_iload (q := 1) (pc := 158) dX12_from_158 rfl ?_
                      exact g_iret (pc := 160) (by decide) (by decide) (gI hPo (by obtain rfl : c = 20 := (by omega); unfold spFromV; rw [if_neg (by assumption)]) mxk) dX12_from_160
                    · -- F c6
                      refine g_iload (q := 2) (pc := 153) dX12_from_153 rfl ?_
                      refine g_goto (tgt := 160) (pc := 155) dX12_from_155 (by decide) ?_
                      exact g_iret (pc := 160) (by decide) (by decide) (gI hPo (by obtain rfl : c = 20 := (by omega); unfold spFromV; rw [if_pos (by assumption)]) mxk) dX12_from_160
                  · -- F c5
                    refine g_aload_n (q := 3) (pc := 113) dX12_from_113 rfl rfl ?_
                    refine g_iload_n (q := 4) (pc := 114) dX12_from_114 rfl rfl ?_
                    refine g_iload (q := 0) (pc := 115) dX12_from_115 rfl ?_
                    refine e_callV (k2 := 0) (n2 := 0) (As := [.int (nI d), .int (nI c)]) (rest := []) (pc := 117) (wM_0 hA) rfl (c_X12_isFrom hA ho hs hd hev hcl (by omega)) mlX12_184 selX12_X12_isFrom_X12_isFrom mX12_isFrom ⟨Nat.le_of_ble_eq_true rfl, Nat.le_of_ble_eq_true rfl⟩ rfl rfl (Nat.le_of_ble_eq_true rfl) dX12_from_117 (by decide) rfl rfl ?_
                    refine g_if_ne_B (tgt := 126) (pc := 120) dX12_from_120 (by decide) (fun c7 => ?_) (fun c7 => ?_)
                    · -- T c7
                      have hB : frP kd fg sz el d c = true := c7
                      refine g_iinc (q := 2) (lv' := [(4, .int (nI ((cntB (frP kd fg sz el d) c) + 1))), (6, .int (nI c)), (5, .int (frF (frP kd fg sz el d) c)), (0, .ref (ad 0)), (1, .int (nI d)), (2, .int (nI what))]) (pc := 126) dX12_from_126 rfl (nI_inc _ _) (by decide) rfl ?_
                      refine g_iload (q := 2) (pc := 129) dX12_from_129 rfl ?_
                      refine g_if_ge (tgt := 139) (pc := 131) dX12_from_131 (by decide) (fun c8 => ?_) (fun c8 => ?_)
                      · -- T c8
                        refine g_iload (q := 2) (pc := 139) dX12_from_139 rfl ?_
                        refine g_top (x := frF (frP kd fg sz el d) c) (y := frF (frP kd fg sz el d) (c + 1)) (by rw [frF, if_pos hB, if_neg (by rw [Int32.not_lt]; assumption)]) ?_
                        refine g_istore (lv' := [(5, .int (frF (frP kd fg sz el d) (c + 1))), (4, .int (nI ((cntB (frP kd fg sz el d) c) + 1))), (6, .int (nI c)), (0, .ref (ad 0)), (1, .int (nI d)), (2, .int (nI what))]) (pc := 141) dX12_from_141 (by decide) rfl ?_
                        rw [← cntB_t hB]
                        refine g_iinc (q := 2) (lv' := [(6, .int (nI (c + 1))), (5, .int (frF (frP kd fg sz el d) (c + 1))), (4, .int (nI (cntB (frP kd fg sz el d) (c + 1)))), (0, .ref (ad 0)), (1, .int (nI d)), (2, .int (nI what))]) (pc := 143) dX12_from_143 rfl (nI_inc _ _) (by decide) rfl ?_
                        refine g_goto (tgt := 106) (pc := 146) dX12_from_146 (by decide) ?_
                        refine G.locals (L' := [(6, .int (nI (c + 1))), (5, .int (frF (frP kd fg sz el d) (c + 1))), (4, .int (nI (cntB (frP kd fg sz el d) (c + 1)))), (0, .ref (ad 0)), (1, .int (nI d)), (2, .int (nI what))]) [0, 1, 2, 3, 4, 5] rfl ?_
                        exact ih106 (c + 1) (nf (dT kd fg c)) (nf (dL kd fg c)) (by omega) (by omega)
                      · -- F c8
                        refine g_iload (q := 1) (pc := 134) dX12_from_134 rfl ?_
                        refine g_goto (tgt := 141) (pc := 136) dX12_from_136 (by decide) ?_
                        refine g_top (x := nI c) (y := frF (frP kd fg sz el d) (c + 1)) (by rw [frF, if_pos hB, if_pos (Int32.not_le.mp (by assumption))]) ?_
                        refine g_istore (lv' := [(5, .int (frF (frP kd fg sz el d) (c + 1))), (4, .int (nI ((cntB (frP kd fg sz el d) c) + 1))), (6, .int (nI c)), (0, .ref (ad 0)), (1, .int (nI d)), (2, .int (nI what))]) (pc := 141) dX12_from_141 (by decide) rfl ?_
                        rw [← cntB_t hB]
                        refine g_iinc (q := 2) (lv' := [(6, .int (nI (c + 1))), (5, .int (frF (frP kd fg sz el d) (c + 1))), (4, .int (nI (cntB (frP kd fg sz el d) (c + 1)))), (0, .ref (ad 0)), (1, .int (nI d)), (2, .int (nI what))]) (pc := 143) dX12_from_143 rfl (nI_inc _ _) (by decide) rfl ?_
                        refine g_goto (tgt := 106) (pc := 146) dX12_from_146 (by decide) ?_
                        refine G.locals (L' := [(6, .int (nI (c + 1))), (5, .int (frF (frP kd fg sz el d) (c + 1))), (4, .int (nI (cntB (frP kd fg sz el d) (c + 1)))), (0, .ref (ad 0)), (1, .int (nI d)), (2, .int (nI what))]) [0, 1, 2, 3, 4, 5] rfl ?_
                        exact ih106 (c + 1) (nf (dT kd fg c)) (nf (dL kd fg c)) (by omega) (by omega)
                    · -- F c7
                      have hB : frP kd fg sz el d c = false := c7
                      refine g_goto (tgt := 143) (pc := 123) dX12_from_123 (by decide) ?_
                      rw [← cntB_f hB, ← frF_f hB]
                      refine g_iinc (q := 0) (lv' := [(6, .int (nI (c + 1))), (5, .int (frF (frP kd fg sz el d) (c + 1))), (4, .int (nI (cntB (frP kd fg sz el d) (c + 1)))), (0, .ref (ad 0)), (1, .int (nI d)), (2, .int (nI what))]) (pc := 143) dX12_from_143 rfl (nI_inc _ _) (by decide) rfl ?_
                      refine g_goto (tgt := 106) (pc := 146) dX12_from_146 (by decide) ?_
                      refine G.locals (L' := [(6, .int (nI (c + 1))), (5, .int (frF (frP kd fg sz el d) (c + 1))), (4, .int (nI (cntB (frP kd fg sz el d) (c + 1)))), (0, .ref (ad 0)), (1, .int (nI d)), (2, .int (nI what))]) [0, 1, 2, 3, 4, 5] rfl ?_
                      exact ih106 (c + 1) (nf (dT kd fg c)) (nf (dL kd fg c)) (by omega) (by omega)
              refine G.locals (L' := [(6, .int (nI 0)), (5, .int (-4)), (4, .int (nI 0)), (0, .ref (ad 0)), (1, .int (nI d)), (2, .int (nI what))]) [0, 1, 2, 4, 5, 6] rfl ?_
              exact lp106 21 0 ti lo (by omega) (by decide)
            · -- F c4
              refine g_aload_n (q := 2) (pc := 64) dX12_from_64 rfl rfl ?_
              refine g_iload_n (q := 3) (pc := 65) dX12_from_65 rfl rfl ?_
              refine g_iload (q := 0) (pc := 66) dX12_from_66 rfl ?_
              refine e_callV (k2 := 0) (n2 := 0) (As := [.int (nI d), .int (nI i)]) (rest := []) (pc := 68) (wM_0 hA) rfl (c_X12_told hA hd (by have := (hs d hd).2.2.1; omega)) mlX12_181 selX12_X12_told_X12_told mX12_told ⟨Nat.le_of_ble_eq_true rfl, Nat.le_of_ble_eq_true rfl⟩ rfl rfl (Nat.le_of_ble_eq_true rfl) dX12_from_68 (by decide) rfl rfl ?_
              obtain ⟨u, hu, eu, fu⟩ := cellsAt_get hcl (i := i) (by omega) (by omega)
              rw [eu]
              refine e_callS (k2 := 0) (n2 := 0) (As := [.int (nI u)]) (rest := []) (pc := 71) (c_X12_isCellN hA (by omega) (c_X12_isCell hA)) mlX12_143 mX12_isCell ⟨Nat.le_of_ble_eq_true rfl, Nat.le_of_ble_eq_true rfl⟩ rfl rfl (Nat.le_of_ble_eq_true rfl) dX12_from_71 (by decide) rfl rfl ?_
              refine g_if_eq_B (tgt := 81) (pc := 74) dX12_from_74 (by decide) (fun c9 => ?_) (fun c9 => ?_)
              · -- T c9
                exact absurd (of_decide_eq_false c9) (by omega)
              · -- F c9
                have c9 := of_decide_eq_true c9
                refine g_iconst (v := nI 0) (pc := 77) dX12_from_77 (by decide) ?_
                refine g_goto (tgt := 83) (pc := 78) dX12_from_78 (by decide) ?_
                refine g_istore_n (lv' := [(3, .int (nI 0)), (4, .int (nI i)), (0, .ref (ad 0)), (1, .int (nI d)), (2, .int (nI what))]) (pc := 83) dX12_from_83 rfl (by decide) rfl ?_
                refine g_iinc (q := 1) (lv' := [(4, .int (nI (i + 2))), (3, .int (nI 0)), (0, .ref (ad 0)), (1, .int (nI d)), (2, .int (nI what))]) (pc := 84) dX12_from_84 rfl (nI_inc _ _) (by decide) rfl ?_
                refine g_goto (tgt := 49) (pc := 87) dX12_from_87 (by decide) ?_
                refine G.locals (L' := [(4, .int (nI (i + 2))), (3, .int (nI 0)), (0, .ref (ad 0)), (1, .int (nI d)), (2, .int (nI what))]) [0, 1, 2, 3, 4] rfl ?_
                exact ih49 (i + 2) (by omega) (by omega)
        refine G.locals (L' := [(4, .int (nI 0)), (3, .int (nI 0)), (0, .ref (ad 0)), (1, .int (nI d)), (2, .int (nI what))]) [0, 1, 2, 3, 4] rfl ?_
        exact lp49 (sz d + 3) 0 (by omega) (by omega)
      · -- F c3
        exact absurd hev c3
    · -- F c2
      exact absurd (of_decide_eq_false c2) (by omega)
end MS
