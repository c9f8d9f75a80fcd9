section MS
variable {l : Launch} {D : va_G} {Z : Nat → ClassId} {b0 : Nat} {ad : Nat → Nat} {hi th po ba en se : Int32} {s im rd mi kp so sz el ki kf ti lo wa nu li to ot : Nat → Int32} {kd fg pl : Nat → Nat} {hr : Nat → Int32} {V : HV}
theorem lg_lt0 {x y : Int64} : lg_cmp x y < 0 ↔ x < y := by
  unfold lg_cmp
  by_cases h1 : x > y
  · rw [if_pos h1]; exact ⟨fun h => absurd h (by decide), fun h => absurd (Int64.lt_trans h h1) (Int64.lt_irrefl)⟩
  · rw [if_neg h1]
    by_cases h2 : x = y
    · rw [if_pos h2]; exact ⟨fun h => absurd h (by decide), fun h => absurd (h2 ▸ h) (Int64.lt_irrefl)⟩
    · rw [if_neg h2]; exact ⟨fun _ => by rw [Int64.lt_iff_toInt_lt]; have h3 : ¬ y < x := h1; rw [Int64.lt_iff_toInt_lt] at h3; have h4 : ¬ x.toInt = y.toInt := fun q => h2 (Int64.toInt_inj.mp q); omega, fun _ => by decide⟩
theorem lg_gt0 {x y : Int64} : 0 < lg_cmp x y ↔ y < x := by
  unfold lg_cmp
  by_cases h1 : x > y
  · rw [if_pos h1]; exact ⟨fun _ => h1, fun _ => by decide⟩
  · rw [if_neg h1]
    by_cases h2 : x = y
    · rw [if_pos h2]; exact ⟨fun h => absurd h (by decide), fun h => absurd h h1⟩
    · rw [if_neg h2]; exact ⟨fun h => absurd h (by decide), fun h => absurd h h1⟩
theorem inL (v : Int32) (n : Nat) (h : n < 2147483648) : (decide (lN 0 ≤ v.toInt64) && decide (v.toInt64 ≤ lN n)) = inR v (n + 1) := by
  rw [← Bool.decide_and]; unfold inR
  refine decide_eq_decide.mpr ?_
  rw [Int64.le_iff_toInt_le, Int64.le_iff_toInt_le, lN_toInt (by omega), lN_toInt (by omega), Int32.toInt_toInt64]; omega
def inB (x : Int32) (lo hi : Nat) : Bool := decide (lo ≤ x.toInt ∧ x.toInt ≤ hi)
theorem inB_t {x : Int32} {lo hi : Nat} (h : inB x lo hi = true) : ∃ j, lo ≤ j ∧ j ≤ hi ∧ x = nI j := by
  have h1 := of_decide_eq_true h
  refine ⟨x.toInt.toNat, by omega, by omega, Int32.toInt_inj.mp ?_⟩
  have h2 := Int32.toInt_lt x
  rw [nI_toInt (by omega)]; omega
theorem inB_N {j lo hi : Nat} (h : j < 2147483648) : inB (nI j) lo hi = decide (lo ≤ j ∧ j ≤ hi) := by
  unfold inB; rw [nI_toInt (by omega)]
  exact decide_eq_decide.mpr (by omega)
theorem inLB (v : Int32) (lo hi : Nat) (h1 : lo < 2147483648) (h : hi < 2147483648) : (decide (lN lo ≤ v.toInt64) && decide (v.toInt64 ≤ lN hi)) = inB v lo hi := by
  rw [← Bool.decide_and]; unfold inB
  refine decide_eq_decide.mpr ?_
  rw [Int64.le_iff_toInt_le, Int64.le_iff_toInt_le, lN_toInt (by omega), lN_toInt (by omega), Int32.toInt_toInt64]
theorem inLN (v lo hi : Nat) (h0 : v < 2147483648) (h1 : lo < 2147483648) (h : hi < 2147483648) : (decide (lN lo ≤ lN v) && decide (lN v ≤ lN hi)) = decide (lo ≤ v ∧ v ≤ hi) := by
  rw [← Bool.decide_and]
  refine decide_eq_decide.mpr ?_
  rw [lN_le (by omega) (by omega), lN_le (by omega) (by omega)]
theorem bs_n {c s : Nat} (h : nbo c s = none) : bs c s = (-4) := by unfold bs; rw [h]
theorem bs_s {c s t : Nat} (h : nbo c s = some t) : bs c s = nI t := by unfold bs; rw [h]
theorem bs_eq {c s b : Nat} (hc : c < 20) (hb : b < 20) : bs c s = nI b ↔ nbo c s = some b := by
  cases h : nbo c s with
  | none => rw [bs_n h]; exact ⟨fun q => absurd (congrArg Int32.toInt q) (by rw [nI_toInt (by omega), show (-4 : Int32).toInt = -4 from by decide]; intro q; omega), fun q => by cases q⟩
  | some t => rw [bs_s h]; have := nbo_lt hc h; exact ⟨fun q => by rw [nI_inj (by omega) (by omega) q], fun q => by cases q; rfl⟩
def mB (a b : Nat) : Nat → Bool
  | 0 => decide (a = b)
  | i + 1 => mB a b i || decide (nbo a i = some b)
theorem isIn_t {x a b : Int64} (h1 : ¬ lg_cmp x a < 0) (h2 : ¬ 0 < lg_cmp x b) : bI (decide (a ≤ x) && decide (x ≤ b)) = nI 1 := by
  rw [lg_lt0, Int64.not_lt] at h1; rw [lg_gt0, Int64.not_lt] at h2
  rw [decide_eq_true h1, decide_eq_true h2]; rfl
theorem isIn_f1 {x a b : Int64} (h1 : lg_cmp x a < 0) : bI (decide (a ≤ x) && decide (x ≤ b)) = nI 0 := by
  rw [lg_lt0] at h1; rw [decide_eq_false (Int64.not_le.mpr h1)]; rfl
theorem isIn_f2 {x a b : Int64} (h1 : 0 < lg_cmp x b) : bI (decide (a ≤ x) && decide (x ≤ b)) = nI 0 := by
  rw [lg_gt0] at h1; rw [decide_eq_false (Int64.not_le.mpr h1), Bool.and_false]; rfl
def rmX12_isIn : Room := { frames := 0, cells := 0, slots := 0, locals := 0 }
theorem c_X12_isIn {x a b : Int64} (hA : aB b0 18 ad)  : KE l D Z b0 yX12_isIn cX12_isIn 6 (some .boolean) rmX12_isIn [.long x, .long a, .long b] (wM Z ad hi th po ba en se (enc kd fg pl hr) im rd mi kp so sz el ki kf ti lo wa nu li to ot V) (some (.int (bI (decide (a ≤ x) && decide (x ≤ b))))) (wM Z ad hi th po ba en se (enc kd fg pl hr) im rd mi kp so sz el ki kf ti lo wa nu li to ot V) := by
  refine KE.of (by decide) (Nat.le_of_ble_eq_true rfl) (fun Po hPo => ?_)
  refine G.locals (L' := [(0, .long x), (2, .long a), (4, .long b)]) [0, 1, 2] rfl ?_
  refine g_lload_n (q := 0) (pc := 0) dX12_isIn_0 rfl rfl ?_
  refine g_lload_n (q := 1) (pc := 1) dX12_isIn_1 rfl rfl ?_
  refine g_lcmp (pc := 2) dX12_isIn_2 ?_
  refine g_if_lt (tgt := 17) (pc := 3) dX12_isIn_3 (by decide) (fun c1 => ?_) (fun c1 => ?_)
  · -- T c1
    refine g_iconst (v := nI 0) (pc := 17) dX12_isIn_17 (by decide) ?_
    exact g_zret (pc := 18) (by decide) (by decide) (by decide) (eqI hPo (by first | exact isIn_t (by assumption) (by assumption) | exact isIn_f1 (by assumption) | exact isIn_f2 (by assumption))) dX12_isIn_18
  · -- F c1
    refine g_lload_n (q := 0) (pc := 6) dX12_isIn_6 rfl rfl ?_
    refine g_lload (q := 2) (pc := 7) dX12_isIn_7 rfl ?_
    refine g_lcmp (pc := 9) dX12_isIn_9 ?_
    refine g_if_gt (tgt := 17) (pc := 10) dX12_isIn_10 (by decide) (fun c2 => ?_) (fun c2 => ?_)
    · -- T c2
      refine g_iconst (v := nI 0) (pc := 17) dX12_isIn_17 (by decide) ?_
      exact g_zret (pc := 18) (by decide) (by decide) (by decide) (eqI hPo (by first | exact isIn_t (by assumption) (by assumption) | exact isIn_f1 (by assumption) | exact isIn_f2 (by assumption))) dX12_isIn_18
    · -- F c2
      refine g_iconst (v := nI 1) (pc := 13) dX12_isIn_13 (by decide) ?_
      refine g_goto (tgt := 18) (pc := 14) dX12_isIn_14 (by decide) ?_
      exact g_zret (pc := 18) (by decide) (by decide) (by decide) (eqI hPo (by first | exact isIn_t (by assumption) (by assumption) | exact isIn_f1 (by assumption) | exact isIn_f2 (by assumption))) dX12_isIn_18
theorem c_X12_isInR {v : Int32} {n : Nat} (m : Nat) (hm : n + 1 = m) (hA : aB b0 18 ad) (hn : n < 2147483648) {VV : HV} (h : KE l D Z b0 yX12_isIn cX12_isIn 6 (some .boolean) rmX12_isIn [.long v.toInt64, .long (lN 0), .long (lN n)] VV (some (.int (bI (decide (lN 0 ≤ v.toInt64) && decide (v.toInt64 ≤ lN n))))) VV) : KE l D Z b0 yX12_isIn cX12_isIn 6 (some .boolean) rmX12_isIn [.long v.toInt64, .long (lN 0), .long (lN n)] VV (some (.int (bI (inR v m)))) VV := by
  subst hm; rw [inL v n hn] at h; exact h
theorem c_X12_isInB {v : Int32} {lo n : Nat} (hA : aB b0 18 ad) (hlo : lo < 2147483648) (hn : n < 2147483648) {VV : HV} (h : KE l D Z b0 yX12_isIn cX12_isIn 6 (some .boolean) rmX12_isIn [.long v.toInt64, .long (lN lo), .long (lN n)] VV (some (.int (bI (decide (lN lo ≤ v.toInt64) && decide (v.toInt64 ≤ lN n))))) VV) : KE l D Z b0 yX12_isIn cX12_isIn 6 (some .boolean) rmX12_isIn [.long v.toInt64, .long (lN lo), .long (lN n)] VV (some (.int (bI (inB v lo n)))) VV := by
  rw [inLB v lo n hlo hn] at h; exact h
theorem c_X12_isInN {v lo n : Nat} (hA : aB b0 18 ad) (hv : v < 2147483648) (hlo : lo < 2147483648) (hn : n < 2147483648) {VV : HV} (h : KE l D Z b0 yX12_isIn cX12_isIn 6 (some .boolean) rmX12_isIn [.long (lN v), .long (lN lo), .long (lN n)] VV (some (.int (bI (decide (lN lo ≤ lN v) && decide (lN v ≤ lN n))))) VV) : KE l D Z b0 yX12_isIn cX12_isIn 6 (some .boolean) rmX12_isIn [.long (lN v), .long (lN lo), .long (lN n)] VV (some (.int (bI (decide (lo ≤ v ∧ v ≤ n))))) VV := by
  rw [inLN v lo n hv hlo hn] at h; exact h
def rmX12_isShelf : Room := { frames := 1, cells := 0, slots := 0, locals := 25 }
theorem c_X12_isShelf {v : Int32} (hA : aB b0 18 ad)  : KE l D Z b0 yX12_isShelf cX12_isShelf 1 (some .boolean) rmX12_isShelf [.int v] (wM Z ad hi th po ba en se (enc kd fg pl hr) im rd mi kp so sz el ki kf ti lo wa nu li to ot V) (some (.int (bI (inR v 8)))) (wM Z ad hi th po ba en se (enc kd fg pl hr) im rd mi kp so sz el ki kf ti lo wa nu li to ot V) := by
  refine KE.of (by decide) (Nat.le_of_ble_eq_true rfl) (fun Po hPo => ?_)
  refine G.locals (L' := [(0, .int v)]) [0] rfl ?_
  refine g_iload_n (q := 0) (pc := 0) dX12_isShelf_0 rfl rfl ?_
  refine g_i2l (v := (v).toInt64) (pc := 1) dX12_isShelf_1 rfl ?_
  refine g_lconst (v := lN 0) (pc := 2) dX12_isShelf_2 (by decide) ?_
  refine g_ldc2 (v := lN 7) (pc := 3) klX12_65 dX12_isShelf_3 ?_
  refine e_callS (k2 := 0) (n2 := 0) (As := [.long ((v).toInt64), .long (lN 0), .long (lN 7)]) (rest := []) (pc := 6) (c_X12_isInR 8 rfl hA (by decide) (c_X12_isIn hA)) mlX12_67 mX12_isIn ⟨Nat.le_of_ble_eq_true rfl, Nat.le_of_ble_eq_true rfl⟩ rfl rfl (Nat.le_of_ble_eq_true rfl) dX12_isShelf_6 (by decide) rfl rfl ?_
  exact g_zret (pc := 9) (nar_bI _) (by decide) (by decide) (hPo) dX12_isShelf_9
theorem c_X12_isShelfN {j : Nat} (hA : aB b0 18 ad) (hj : j < 2147483648) {VV : HV} (h : KE l D Z b0 yX12_isShelf cX12_isShelf 1 (some .boolean) rmX12_isShelf [.int (nI j)] VV (some (.int (bI (inR (nI j) 8)))) VV) : KE l D Z b0 yX12_isShelf cX12_isShelf 1 (some .boolean) rmX12_isShelf [.int (nI j)] VV (some (.int (bI (decide (j < 8))))) VV := by
  rw [inR_N hj] at h; exact h
def rmX12_isCell : Room := { frames := 1, cells := 0, slots := 0, locals := 25 }
theorem c_X12_isCell {v : Int32} (hA : aB b0 18 ad)  : KE l D Z b0 yX12_isCell cX12_isCell 1 (some .boolean) rmX12_isCell [.int v] (wM Z ad hi th po ba en se (enc kd fg pl hr) im rd mi kp so sz el ki kf ti lo wa nu li to ot V) (some (.int (bI (inR v 20)))) (wM Z ad hi th po ba en se (enc kd fg pl hr) im rd mi kp so sz el ki kf ti lo wa nu li to ot V) := by
  refine KE.of (by decide) (Nat.le_of_ble_eq_true rfl) (fun Po hPo => ?_)
  refine G.locals (L' := [(0, .int v)]) [0] rfl ?_
  refine g_iload_n (q := 0) (pc := 0) dX12_isCell_0 rfl rfl ?_
  refine g_i2l (v := (v).toInt64) (pc := 1) dX12_isCell_1 rfl ?_
  refine g_lconst (v := lN 0) (pc := 2) dX12_isCell_2 (by decide) ?_
  refine g_ldc2 (v := lN 19) (pc := 3) klX12_71 dX12_isCell_3 ?_
  refine e_callS (k2 := 0) (n2 := 0) (As := [.long ((v).toInt64), .long (lN 0), .long (lN 19)]) (rest := []) (pc := 6) (c_X12_isInR 20 rfl hA (by decide) (c_X12_isIn hA)) mlX12_67 mX12_isIn ⟨Nat.le_of_ble_eq_true rfl, Nat.le_of_ble_eq_true rfl⟩ rfl rfl (Nat.le_of_ble_eq_true rfl) dX12_isCell_6 (by decide) rfl rfl ?_
  exact g_zret (pc := 9) (nar_bI _) (by decide) (by decide) (hPo) dX12_isCell_9
theorem c_X12_isCellN {j : Nat} (hA : aB b0 18 ad) (hj : j < 2147483648) {VV : HV} (h : KE l D Z b0 yX12_isCell cX12_isCell 1 (some .boolean) rmX12_isCell [.int (nI j)] VV (some (.int (bI (inR (nI j) 20)))) VV) : KE l D Z b0 yX12_isCell cX12_isCell 1 (some .boolean) rmX12_isCell [.int (nI j)] VV (some (.int (bI (decide (j < 20))))) VV := by
  rw [inR_N hj] at h; exact h
def rmX12_isGang : Room := { frames := 1, cells := 0, slots := 0, locals := 25 }
theorem c_X12_isGang {v : Int32} (hA : aB b0 18 ad)  : KE l D Z b0 yX12_isGang cX12_isGang 1 (some .boolean) rmX12_isGang [.int v] (wM Z ad hi th po ba en se (enc kd fg pl hr) im rd mi kp so sz el ki kf ti lo wa nu li to ot V) (some (.int (bI (inR v 2)))) (wM Z ad hi th po ba en se (enc kd fg pl hr) im rd mi kp so sz el ki kf ti lo wa nu li to ot V) := by
  refine KE.of (by decide) (Nat.le_of_ble_eq_true rfl) (fun Po hPo => ?_)
  refine G.locals (L' := [(0, .int v)]) [0] rfl ?_
  refine g_iload_n (q := 0) (pc := 0) dX12_isGang_0 rfl rfl ?_
  refine g_i2l (v := (v).toInt64) (pc := 1) dX12_isGang_1 rfl ?_
  refine g_lconst (v := lN 0) (pc := 2) dX12_isGang_2 (by decide) ?_
  refine g_lconst (v := lN 1) (pc := 3) dX12_isGang_3 (by decide) ?_
  refine e_callS (k2 := 0) (n2 := 0) (As := [.long ((v).toInt64), .long (lN 0), .long (lN 1)]) (rest := []) (pc := 4) (c_X12_isInR 2 rfl hA (by decide) (c_X12_isIn hA)) mlX12_67 mX12_isIn ⟨Nat.le_of_ble_eq_true rfl, Nat.le_of_ble_eq_true rfl⟩ rfl rfl (Nat.le_of_ble_eq_true rfl) dX12_isGang_4 (by decide) rfl rfl ?_
  exact g_zret (pc := 7) (nar_bI _) (by decide) (by decide) (hPo) dX12_isGang_7
theorem c_X12_isGangN {j : Nat} (hA : aB b0 18 ad) (hj : j < 2147483648) {VV : HV} (h : KE l D Z b0 yX12_isGang cX12_isGang 1 (some .boolean) rmX12_isGang [.int (nI j)] VV (some (.int (bI (inR (nI j) 2)))) VV) : KE l D Z b0 yX12_isGang cX12_isGang 1 (some .boolean) rmX12_isGang [.int (nI j)] VV (some (.int (bI (decide (j < 2))))) VV := by
  rw [inR_N hj] at h; exact h
def rmX12_lays : Room := { frames := 0, cells := 0, slots := 0, locals := 0 }
theorem c_X12_lays {a b : Nat} {f g : Nat → Int32} (hab : a ≠ b) (ha : V a = some (vI Z 0 44 f)) (hb : V b = some (vI Z 0 44 g)) (hb0 : b0 ≤ b) : KE l D Z b0 yX12_lays cX12_lays 3 none rmX12_lays [.ref a, .ref b] V none (upv V b (vI Z 0 44 f)) := by
  refine KE.of (by decide) (Nat.le_of_ble_eq_true rfl) (fun Po hPo => ?_)
  refine G.locals (L' := [(0, .ref a), (1, .ref b)]) [0, 1] rfl ?_
  have lp : ∀ (d i : Nat) (h : Nat → Int32), i + d = 45 → i ≤ 44 → (∀ j, j < i → h j = f j) → G l D Z b0 rmX12_lays RX12 cX12_lays 3 (gE none "lays") (gT D b0 Po rmX12_lays.cells rmX12_lays.slots) (upv V b (vI Z 0 44 h)) [(2, .int (nI i)), (0, .ref a), (1, .ref b)] 0 0 2 [] := by
    intro d
    induction d with
    | zero => intro i h hd hi _; exact absurd hd (by omega)
    | succ d ih =>
      intro i h hd hi hh
      refine g_iload_n (q := 0) (pc := 2) dX12_lays_2 rfl rfl ?_
      refine g_bipush (v := nI 44) (pc := 3) dX12_lays_3 (by decide) ?_
      refine g_icmp_ge_N (tgt := 20) (pc := 5) (by omega) (by decide) dX12_lays_5 (by decide) (fun c1 => ?_) (fun c1 => ?_)
      · refine G.arr (g := f) (upv_eq _ _ _) (fun j hj => hh j (by omega)) (upv_upv _ _ _ _) ?_
        exact g_vret (pc := 20) (by decide) (by decide) hPo dX12_lays_20
      · refine g_aload_n (q := 2) (pc := 8) dX12_lays_8 rfl rfl ?_
        refine g_iload_n (q := 0) (pc := 9) dX12_lays_9 rfl rfl ?_
        refine g_aload_n (q := 1) (pc := 10) dX12_lays_10 rfl rfl ?_
        refine g_iload_n (q := 0) (pc := 11) dX12_lays_11 rfl rfl ?_
        refine g_iald_N (pc := 12) (x := f i) ((upv_ne hab).trans ha) c1 (by decide) rfl dX12_lays_12 ?_
        refine g_iast_N (pc := 13) (upv_eq _ _ _) c1 (by decide) hb0 rfl (upv_upv _ _ _ _) dX12_lays_13 ?_
        refine g_iinc (q := 0) (lv' := [(2, .int (nI (i + 1))), (0, .ref a), (1, .ref b)]) (pc := 14) dX12_lays_14 rfl (nI_inc _ _) (by decide) rfl ?_
        refine g_goto (tgt := 2) (pc := 17) dX12_lays_17 (by decide) ?_
        exact ih (i + 1) (upd h i (f i)) (by omega) (by omega) (fun j hj => by
          by_cases q : j = i
          · subst q; exact upd_eq _ _ _
          · rw [upd_ne q]; exact hh j (by omega))
  refine g_iconst (v := nI 0) (pc := 0) dX12_lays_0 (by decide) ?_
  refine g_istore_n (lv' := [(2, .int (nI 0)), (0, .ref a), (1, .ref b)]) (pc := 1) dX12_lays_1 rfl (by decide) rfl ?_
  refine G.veq (V' := upv V b (vI Z 0 44 g)) (by funext q; by_cases h : q = b; (subst h; rw [upv_eq]; exact hb); (rw [upv_ne h])) ?_
  exact lp 45 0 g rfl (by decide) (fun j hj => absurd hj (Nat.not_lt_zero _))
theorem c_X12_lays_s_im (hA : aB b0 18 ad) : KE l D Z b0 yX12_lays cX12_lays 3 none rmX12_lays [.ref (ad 1), .ref (ad 2)] (wM Z ad hi th po ba en se s im rd mi kp so sz el ki kf ti lo wa nu li to ot V) none (wM Z ad hi th po ba en se s s rd mi kp so sz el ki kf ti lo wa nu li to ot V) := by
  have h := c_X12_lays (l := l) (D := D) (V := wM Z ad hi th po ba en se s im rd mi kp so sz el ki kf ti lo wa nu li to ot V) (a := ad 1) (b := ad 2) (fun q => absurd (hA.1 1 (by decide) 2 (by decide) q) (by decide)) (wM_s hA) (wM_im hA) (hA.2 2 (by decide))
  rw [wMs_im hA] at h; exact h
theorem c_X12_lays_s_rd (hA : aB b0 18 ad) : KE l D Z b0 yX12_lays cX12_lays 3 none rmX12_lays [.ref (ad 1), .ref (ad 3)] (wM Z ad hi th po ba en se s im rd mi kp so sz el ki kf ti lo wa nu li to ot V) none (wM Z ad hi th po ba en se s im s mi kp so sz el ki kf ti lo wa nu li to ot V) := by
  have h := c_X12_lays (l := l) (D := D) (V := wM Z ad hi th po ba en se s im rd mi kp so sz el ki kf ti lo wa nu li to ot V) (a := ad 1) (b := ad 3) (fun q => absurd (hA.1 1 (by decide) 3 (by decide) q) (by decide)) (wM_s hA) (wM_rd hA) (hA.2 3 (by decide))
  rw [wMs_rd hA] at h; exact h
theorem c_X12_lays_s_mi (hA : aB b0 18 ad) : KE l D Z b0 yX12_lays cX12_lays 3 none rmX12_lays [.ref (ad 1), .ref (ad 4)] (wM Z ad hi th po ba en se s im rd mi kp so sz el ki kf ti lo wa nu li to ot V) none (wM Z ad hi th po ba en se s im rd s kp so sz el ki kf ti lo wa nu li to ot V) := by
  have h := c_X12_lays (l := l) (D := D) (V := wM Z ad hi th po ba en se s im rd mi kp so sz el ki kf ti lo wa nu li to ot V) (a := ad 1) (b := ad 4) (fun q => absurd (hA.1 1 (by decide) 4 (by decide) q) (by decide)) (wM_s hA) (wM_mi hA) (hA.2 4 (by decide))
  rw [wMs_mi hA] at h; exact h
theorem c_X12_lays_im_s (hA : aB b0 18 ad) : KE l D Z b0 yX12_lays cX12_lays 3 none rmX12_lays [.ref (ad 2), .ref (ad 1)] (wM Z ad hi th po ba en se s im rd mi kp so sz el ki kf ti lo wa nu li to ot V) none (wM Z ad hi th po ba en se im im rd mi kp so sz el ki kf ti lo wa nu li to ot V) := by
  have h := c_X12_lays (l := l) (D := D) (V := wM Z ad hi th po ba en se s im rd mi kp so sz el ki kf ti lo wa nu li to ot V) (a := ad 2) (b := ad 1) (fun q => absurd (hA.1 2 (by decide) 1 (by decide) q) (by decide)) (wM_im hA) (wM_s hA) (hA.2 1 (by decide))
  rw [wMs_s hA] at h; exact h
theorem c_X12_lays_rd_s (hA : aB b0 18 ad) : KE l D Z b0 yX12_lays cX12_lays 3 none rmX12_lays [.ref (ad 3), .ref (ad 1)] (wM Z ad hi th po ba en se s im rd mi kp so sz el ki kf ti lo wa nu li to ot V) none (wM Z ad hi th po ba en se rd im rd mi kp so sz el ki kf ti lo wa nu li to ot V) := by
  have h := c_X12_lays (l := l) (D := D) (V := wM Z ad hi th po ba en se s im rd mi kp so sz el ki kf ti lo wa nu li to ot V) (a := ad 3) (b := ad 1) (fun q => absurd (hA.1 3 (by decide) 1 (by decide) q) (by decide)) (wM_rd hA) (wM_s hA) (hA.2 1 (by decide))
  rw [wMs_s hA] at h; exact h
theorem c_X12_lays_mi_s (hA : aB b0 18 ad) : KE l D Z b0 yX12_lays cX12_lays 3 none rmX12_lays [.ref (ad 4), .ref (ad 1)] (wM Z ad hi th po ba en se s im rd mi kp so sz el ki kf ti lo wa nu li to ot V) none (wM Z ad hi th po ba en se mi im rd mi kp so sz el ki kf ti lo wa nu li to ot V) := by
  have h := c_X12_lays (l := l) (D := D) (V := wM Z ad hi th po ba en se s im rd mi kp so sz el ki kf ti lo wa nu li to ot V) (a := ad 4) (b := ad 1) (fun q => absurd (hA.1 4 (by decide) 1 (by decide) q) (by decide)) (wM_mi hA) (wM_s hA) (hA.2 1 (by decide))
  rw [wMs_s hA] at h; exact h
def rmX12_begins : Room := { frames := 1, cells := 0, slots := 0, locals := 22 }
theorem c_X12_begins  (hA : aB b0 18 ad)  : KE l D Z b0 yX12_begins cX12_begins 1 none rmX12_begins [.ref (ad 0)] (wM Z ad hi th po ba en se s im rd mi kp so sz el ki kf ti lo wa nu li to ot V) none (wM Z ad hi th po ba en se s im rd s kp so sz el ki kf ti lo wa nu li to ot V) := by
  refine KE.of (by decide) (Nat.le_of_ble_eq_true rfl) (fun Po hPo => ?_)
  refine G.locals (L' := [(0, .ref (ad 0))]) [0] rfl ?_
  refine g_aload_n (q := 0) (pc := 0) dX12_begins_0 rfl rfl ?_
  refine gm_get_s (pc := 1) hA dX12_begins_1 ?_
  refine g_aload_n (q := 0) (pc := 4) dX12_begins_4 rfl rfl ?_
  refine gm_get_mi (pc := 5) hA dX12_begins_5 ?_
  refine e_callSv (k2 := 0) (n2 := 0) (As := [.ref (ad 1), .ref (ad 4)]) (rest := []) (pc := 8) (c_X12_lays_s_mi hA) mlX12_73 mX12_lays ⟨Nat.le_of_ble_eq_true rfl, Nat.le_of_ble_eq_true rfl⟩ rfl rfl (Nat.le_of_ble_eq_true rfl) dX12_begins_8 (by decide) rfl rfl ?_
  exact g_vret (pc := 11) (by decide) (by decide) (hPo) dX12_begins_11
def rmX12_ends : Room := { frames := 1, cells := 0, slots := 0, locals := 22 }
theorem c_X12_ends  (hA : aB b0 18 ad)  : KE l D Z b0 yX12_ends cX12_ends 1 none rmX12_ends [.ref (ad 0)] (wM Z ad hi th po ba en se s im rd mi kp so sz el ki kf ti lo wa nu li to ot V) none (wM Z ad hi th po ba en se mi im rd mi kp so sz el ki kf ti lo wa nu li to ot V) := by
  refine KE.of (by decide) (Nat.le_of_ble_eq_true rfl) (fun Po hPo => ?_)
  refine G.locals (L' := [(0, .ref (ad 0))]) [0] rfl ?_
  refine g_aload_n (q := 0) (pc := 0) dX12_ends_0 rfl rfl ?_
  refine gm_get_mi (pc := 1) hA dX12_ends_1 ?_
  refine g_aload_n (q := 0) (pc := 4) dX12_ends_4 rfl rfl ?_
  refine gm_get_s (pc := 5) hA dX12_ends_5 ?_
  refine e_callSv (k2 := 0) (n2 := 0) (As := [.ref (ad 4), .ref (ad 1)]) (rest := []) (pc := 8) (c_X12_lays_mi_s hA) mlX12_73 mX12_lays ⟨Nat.le_of_ble_eq_true rfl, Nat.le_of_ble_eq_true rfl⟩ rfl rfl (Nat.le_of_ble_eq_true rfl) dX12_ends_8 (by decide) rfl rfl ?_
  exact g_vret (pc := 11) (by decide) (by decide) (hPo) dX12_ends_11
def rmX12_kind : Room := { frames := 0, cells := 0, slots := 0, locals := 0 }
theorem c_X12_kind {c : Nat} (hA : aB b0 18 ad) (hc : c < 20) : KE l D Z b0 yX12_kind cX12_kind 2 (some .int) rmX12_kind [.ref (ad 0), .int (nI c)] (wM Z ad hi th po ba en se (enc kd fg pl hr) im rd mi kp so sz el ki kf ti lo wa nu li to ot V) (some (.int (nI (kd c)))) (wM Z ad hi th po ba en se (enc kd fg pl hr) im rd mi kp so sz el ki kf ti lo wa nu li to ot V) := by
  refine KE.of (by decide) (Nat.le_of_ble_eq_true rfl) (fun Po hPo => ?_)
  refine G.locals (L' := [(0, .ref (ad 0)), (1, .int (nI c))]) [0, 1] rfl ?_
  refine g_aload_n (q := 0) (pc := 0) dX12_kind_0 rfl rfl ?_
  refine gm_get_s (pc := 1) hA dX12_kind_1 ?_
  refine g_iconst (v := nI 2) (pc := 4) dX12_kind_4 (by decide) ?_
  refine g_iload_n (q := 1) (pc := 5) dX12_kind_5 rfl rfl ?_
  refine g_imul_N (pc := 6) dX12_kind_6 ?_
  refine gm_ld_s (pc := 7) (j := 2 * c) (x := nI (kd c)) hA (by omega) (enc_k (by omega)) dX12_kind_7 ?_
  exact g_iret (pc := 8) (by decide) (by decide) (hPo) dX12_kind_8
def rmX12_figure : Room := { frames := 0, cells := 0, slots := 0, locals := 0 }
theorem c_X12_figure {c : Nat} (hA : aB b0 18 ad) (hc : c < 20) : KE l D Z b0 yX12_figure cX12_figure 2 (some .int) rmX12_figure [.ref (ad 0), .int (nI c)] (wM Z ad hi th po ba en se (enc kd fg pl hr) im rd mi kp so sz el ki kf ti lo wa nu li to ot V) (some (.int (nI (fg c)))) (wM Z ad hi th po ba en se (enc kd fg pl hr) im rd mi kp so sz el ki kf ti lo wa nu li to ot V) := by
  refine KE.of (by decide) (Nat.le_of_ble_eq_true rfl) (fun Po hPo => ?_)
  refine G.locals (L' := [(0, .ref (ad 0)), (1, .int (nI c))]) [0, 1] rfl ?_
  refine g_aload_n (q := 0) (pc := 0) dX12_figure_0 rfl rfl ?_
  refine gm_get_s (pc := 1) hA dX12_figure_1 ?_
  refine g_iconst (v := nI 2) (pc := 4) dX12_figure_4 (by decide) ?_
  refine g_iload_n (q := 1) (pc := 5) dX12_figure_5 rfl rfl ?_
  refine g_imul_N (pc := 6) dX12_figure_6 ?_
  refine g_iconst (v := nI 1) (pc := 7) dX12_figure_7 (by decide) ?_
  refine g_iadd_N (pc := 8) dX12_figure_8 ?_
  refine gm_ld_s (pc := 9) (j := (2 * c) + 1) (x := nI (fg c)) hA (by omega) (enc_f (by omega)) dX12_figure_9 ?_
  exact g_iret (pc := 10) (by decide) (by decide) (hPo) dX12_figure_10
def rmX12_setCell : Room := { frames := 0, cells := 0, slots := 0, locals := 0 }
theorem c_X12_setCell {c k f : Nat} (hA : aB b0 18 ad) (hc : c < 20) : KE l D Z b0 yX12_setCell cX12_setCell 4 none rmX12_setCell [.ref (ad 0), .int (nI c), .int (nI k), .int (nI f)] (wM Z ad hi th po ba en se (enc kd fg pl hr) im rd mi kp so sz el ki kf ti lo wa nu li to ot V) none (wM Z ad hi th po ba en se (enc (updN kd c k) (updN fg c f) pl hr) im rd mi kp so sz el ki kf ti lo wa nu li to ot V) := by
  refine KE.of (by decide) (Nat.le_of_ble_eq_true rfl) (fun Po hPo => ?_)
  refine G.locals (L' := [(0, .ref (ad 0)), (1, .int (nI c)), (2, .int (nI k)), (3, .int (nI f))]) [0, 1, 2, 3] rfl ?_
  refine g_aload_n (q := 0) (pc := 0) dX12_setCell_0 rfl rfl ?_
  refine gm_get_s (pc := 1) hA dX12_setCell_1 ?_
  refine g_iconst (v := nI 2) (pc := 4) dX12_setCell_4 (by decide) ?_
  refine g_iload_n (q := 1) (pc := 5) dX12_setCell_5 rfl rfl ?_
  refine g_imul_N (pc := 6) dX12_setCell_6 ?_
  refine g_iload_n (q := 2) (pc := 7) dX12_setCell_7 rfl rfl ?_
  refine gm_st_s (pc := 8) (j := 2 * c) (f' := (enc (updN kd c k) fg pl hr)) hA (by omega) (enc_sk (by omega)) dX12_setCell_8 ?_
  refine g_aload_n (q := 0) (pc := 9) dX12_setCell_9 rfl rfl ?_
  refine gm_get_s (pc := 10) hA dX12_setCell_10 ?_
  refine g_iconst (v := nI 2) (pc := 13) dX12_setCell_13 (by decide) ?_
  refine g_iload_n (q := 1) (pc := 14) dX12_setCell_14 rfl rfl ?_
  refine g_imul_N (pc := 15) dX12_setCell_15 ?_
  refine g_iconst (v := nI 1) (pc := 16) dX12_setCell_16 (by decide) ?_
  refine g_iadd_N (pc := 17) dX12_setCell_17 ?_
  refine g_iload_n (q := 3) (pc := 18) dX12_setCell_18 rfl rfl ?_
  refine gm_st_s (pc := 19) (j := (2 * c) + 1) (f' := (enc (updN kd c k) (updN fg c f) pl hr)) hA (by omega) (enc_sf (by omega)) dX12_setCell_19 ?_
  exact g_vret (pc := 20) (by decide) (by decide) (hPo) dX12_setCell_20
def rmX12_gangCell : Room := { frames := 0, cells := 0, slots := 0, locals := 0 }
theorem c_X12_gangCell {g : Nat} (hA : aB b0 18 ad) (hg : g < 2) : KE l D Z b0 yX12_gangCell cX12_gangCell 2 (some .int) rmX12_gangCell [.ref (ad 0), .int (nI g)] (wM Z ad hi th po ba en se (enc kd fg pl hr) im rd mi kp so sz el ki kf ti lo wa nu li to ot V) (some (.int (nI (pl g)))) (wM Z ad hi th po ba en se (enc kd fg pl hr) im rd mi kp so sz el ki kf ti lo wa nu li to ot V) := by
  refine KE.of (by decide) (Nat.le_of_ble_eq_true rfl) (fun Po hPo => ?_)
  refine G.locals (L' := [(0, .ref (ad 0)), (1, .int (nI g))]) [0, 1] rfl ?_
  refine g_aload_n (q := 0) (pc := 0) dX12_gangCell_0 rfl rfl ?_
  refine gm_get_s (pc := 1) hA dX12_gangCell_1 ?_
  refine g_bipush (v := nI 40) (pc := 4) dX12_gangCell_4 (by decide) ?_
  refine g_iconst (v := nI 2) (pc := 6) dX12_gangCell_6 (by decide) ?_
  refine g_iload_n (q := 1) (pc := 7) dX12_gangCell_7 rfl rfl ?_
  refine g_imul_N (pc := 8) dX12_gangCell_8 ?_
  refine g_iadd_N (pc := 9) dX12_gangCell_9 ?_
  refine gm_ld_s (pc := 10) (j := 40 + (2 * g)) (x := nI (pl g)) hA (by omega) enc_p dX12_gangCell_10 ?_
  exact g_iret (pc := 11) (by decide) (by decide) (hPo) dX12_gangCell_11
def rmX12_slowBy : Room := { frames := 0, cells := 0, slots := 0, locals := 0 }
theorem c_X12_slowBy {k f : Nat} (hA : aB b0 18 ad) (hk : k < 8) (hf : f < 10) : KE l D Z b0 yX12_slowBy cX12_slowBy 2 (some .int) rmX12_slowBy [.int (nI k), .int (nI f)] (wM Z ad hi th po ba en se (enc kd fg pl hr) im rd mi kp so sz el ki kf ti lo wa nu li to ot V) (some (.int (nI (slowN k f)))) (wM Z ad hi th po ba en se (enc kd fg pl hr) im rd mi kp so sz el ki kf ti lo wa nu li to ot V) := by
  refine KE.of (by decide) (Nat.le_of_ble_eq_true rfl) (fun Po hPo => ?_)
  refine G.locals (L' := [(0, .int (nI k)), (1, .int (nI f))]) [0, 1] rfl ?_
  refine g_iload_n (q := 0) (pc := 0) dX12_slowBy_0 rfl rfl ?_
  by_cases k1 : k = 1
  · subst k1
    refine g_tableIn (tgt := 44) (off := 43) (pc := 1) dX12_slowBy_1 (by decide) (by decide) (by decide) (by decide) ?_
    refine g_iconst (v := nI 2) (pc := 44) dX12_slowBy_44 (by decide) ?_
    exact g_iret (pc := 45) (by decide) (by decide) (eqI hPo (by first | rfl | (congr 1; simp [slowN, *]; done) | (congr 1; simp [slowN, *]; omega))) dX12_slowBy_45
  by_cases k2 : k = 2
  · subst k2
    refine g_tableIn (tgt := 46) (off := 45) (pc := 1) dX12_slowBy_1 (by decide) (by decide) (by decide) (by decide) ?_
    refine g_iconst (v := nI 4) (pc := 46) dX12_slowBy_46 (by decide) ?_
    refine g_iload_n (q := 1) (pc := 47) dX12_slowBy_47 rfl rfl ?_
    refine g_iadd_N (pc := 48) dX12_slowBy_48 ?_
    exact g_iret (pc := 49) (by decide) (by decide) (eqI hPo (by first | rfl | (congr 1; simp [slowN, *]; done) | (congr 1; simp [slowN, *]; omega))) dX12_slowBy_49
  by_cases k3 : k = 3
  · subst k3
    refine g_tableIn (tgt := 50) (off := 49) (pc := 1) dX12_slowBy_1 (by decide) (by decide) (by decide) (by decide) ?_
    refine g_iconst (v := nI 4) (pc := 50) dX12_slowBy_50 (by decide) ?_
    refine g_iload_n (q := 1) (pc := 51) dX12_slowBy_51 rfl rfl ?_
    refine g_iadd_N (pc := 52) dX12_slowBy_52 ?_
    refine g_iconst (v := nI 2) (pc := 53) dX12_slowBy_53 (by decide) ?_
    refine g_idiv_N (pc := 54) (by omega) (by decide) (by decide) dX12_slowBy_54 ?_
    exact g_iret (pc := 55) (by decide) (by decide) (eqI hPo (by first | rfl | (congr 1; simp [slowN, *]; done) | (congr 1; simp [slowN, *]; omega))) dX12_slowBy_55
  by_cases k4 : k = 4
  · subst k4
    refine g_tableIn (tgt := 56) (off := 55) (pc := 1) dX12_slowBy_1 (by decide) (by decide) (by decide) (by decide) ?_
    refine g_iconst (v := nI 3) (pc := 56) dX12_slowBy_56 (by decide) ?_
    exact g_iret (pc := 57) (by decide) (by decide) (eqI hPo (by first | rfl | (congr 1; simp [slowN, *]; done) | (congr 1; simp [slowN, *]; omega))) dX12_slowBy_57
  by_cases k5 : k = 5
  · subst k5
    refine g_tableIn (tgt := 58) (off := 57) (pc := 1) dX12_slowBy_1 (by decide) (by decide) (by decide) (by decide) ?_
    refine g_iconst (v := nI 1) (pc := 58) dX12_slowBy_58 (by decide) ?_
    exact g_iret (pc := 59) (by decide) (by decide) (eqI hPo (by first | rfl | (congr 1; simp [slowN, *]; done) | (congr 1; simp [slowN, *]; omega))) dX12_slowBy_59
  by_cases k6 : k = 6
  · subst k6
    refine g_tableIn (tgt := 60) (off := 59) (pc := 1) dX12_slowBy_1 (by decide) (by decide) (by decide) (by decide) ?_
    refine g_bipush (v := nI 8) (pc := 60) dX12_slowBy_60 (by decide) ?_
    refine g_iconst (v := nI 2) (pc := 62) dX12_slowBy_62 (by decide) ?_
    refine g_iload_n (q := 1) (pc := 63) dX12_slowBy_63 rfl rfl ?_
    refine g_imul_N (pc := 64) dX12_slowBy_64 ?_
    refine g_iadd_N (pc := 65) dX12_slowBy_65 ?_
    exact g_iret (pc := 66) (by decide) (by decide) (eqI hPo (by first | rfl | (congr 1; simp [slowN, *]; done) | (congr 1; simp [slowN, *]; omega))) dX12_slowBy_66
  by_cases k7 : k = 7
  · subst k7
    refine g_tableIn (tgt := 58) (off := 57) (pc := 1) dX12_slowBy_1 (by decide) (by decide) (by decide) (by decide) ?_
    refine g_iconst (v := nI 1) (pc := 58) dX12_slowBy_58 (by decide) ?_
    exact g_iret (pc := 59) (by decide) (by decide) (eqI hPo (by first | rfl | (congr 1; simp [slowN, *]; done) | (congr 1; simp [slowN, *]; omega))) dX12_slowBy_59
  refine g_tableOut (tgt := 67) (pc := 1) dX12_slowBy_1 (by rw [nI_toInt (by omega)]; omega) (by decide) ?_
  refine g_iconst (v := nI 4) (pc := 67) dX12_slowBy_67 (by decide) ?_
  exact g_iret (pc := 68) (by decide) (by decide) (eqI hPo (by first | rfl | (congr 1; simp [slowN, *]; done) | (congr 1; simp [slowN, *]; omega))) dX12_slowBy_68
def rmX12_lossBy : Room := { frames := 0, cells := 0, slots := 0, locals := 0 }
theorem c_X12_lossBy {k f : Nat} (hA : aB b0 18 ad) (hk : k < 8) (hf : f < 10) : KE l D Z b0 yX12_lossBy cX12_lossBy 2 (some .int) rmX12_lossBy [.int (nI k), .int (nI f)] (wM Z ad hi th po ba en se (enc kd fg pl hr) im rd mi kp so sz el ki kf ti lo wa nu li to ot V) (some (.int (nI (lossN k f)))) (wM Z ad hi th po ba en se (enc kd fg pl hr) im rd mi kp so sz el ki kf ti lo wa nu li to ot V) := by
  refine KE.of (by decide) (Nat.le_of_ble_eq_true rfl) (fun Po hPo => ?_)
  refine G.locals (L' := [(0, .int (nI k)), (1, .int (nI f))]) [0, 1] rfl ?_
  refine g_iload_n (q := 0) (pc := 0) dX12_lossBy_0 rfl rfl ?_
  by_cases k1 : k = 1
  · subst k1
    refine g_tableIn (tgt := 44) (off := 43) (pc := 1) dX12_lossBy_1 (by decide) (by decide) (by decide) (by decide) ?_
    refine g_iconst (v := nI 1) (pc := 44) dX12_lossBy_44 (by decide) ?_
    exact g_iret (pc := 45) (by decide) (by decide) (eqI hPo (by first | rfl | (congr 1; simp [lossN, *]; done) | (congr 1; simp [lossN, *]; omega))) dX12_lossBy_45
  by_cases k2 : k = 2
  · subst k2
    refine g_tableIn (tgt := 46) (off := 45) (pc := 1) dX12_lossBy_1 (by decide) (by decide) (by decide) (by decide) ?_
    refine g_iconst (v := nI 5) (pc := 46) dX12_lossBy_46 (by decide) ?_
    exact g_iret (pc := 47) (by decide) (by decide) (eqI hPo (by first | rfl | (congr 1; simp [lossN, *]; done) | (congr 1; simp [lossN, *]; omega))) dX12_lossBy_47
  by_cases k3 : k = 3
  · subst k3
    refine g_tableIn (tgt := 48) (off := 47) (pc := 1) dX12_lossBy_1 (by decide) (by decide) (by decide) (by decide) ?_
    refine g_iload_n (q := 1) (pc := 48) dX12_lossBy_48 rfl rfl ?_
    refine g_iconst (v := nI 5) (pc := 49) dX12_lossBy_49 (by decide) ?_
    refine g_icmp_le_N (tgt := 57) (pc := 50) (by omega) (by omega) dX12_lossBy_50 (by decide) (fun c4 => ?_) (fun c4 => ?_)
    · -- T c4
      refine g_iconst (v := nI 5) (pc := 57) dX12_lossBy_57 (by decide) ?_
      refine g_iload_n (q := 1) (pc := 58) dX12_lossBy_58 rfl rfl ?_
      refine g_isub_N (pc := 59) (by omega) dX12_lossBy_59 ?_
      exact g_iret (pc := 60) (by decide) (by decide) (eqI hPo (by first | rfl | (congr 1; simp [lossN, *]; done) | (congr 1; simp [lossN, *]; omega))) dX12_lossBy_60
    · -- F c4
      refine g_iconst (v := nI 0) (pc := 53) dX12_lossBy_53 (by decide) ?_
      refine g_goto (tgt := 60) (pc := 54) dX12_lossBy_54 (by decide) ?_
      exact g_iret (pc := 60) (by decide) (by decide) (eqI hPo (by first | rfl | (congr 1; simp [lossN, *]; done) | (congr 1; simp [lossN, *]; omega))) dX12_lossBy_60
  by_cases k5 : k = 4
  · subst k5
    refine g_tableIn (tgt := 61) (off := 60) (pc := 1) dX12_lossBy_1 (by decide) (by decide) (by decide) (by decide) ?_
    refine g_iconst (v := nI 0) (pc := 61) dX12_lossBy_61 (by decide) ?_
    exact g_iret (pc := 62) (by decide) (by decide) (eqI hPo (by first | rfl | (congr 1; simp [lossN, *]; done) | (congr 1; simp [lossN, *]; omega))) dX12_lossBy_62
  by_cases k6 : k = 5
  · subst k6
    refine g_tableIn (tgt := 67) (off := 66) (pc := 1) dX12_lossBy_1 (by decide) (by decide) (by decide) (by decide) ?_
    refine g_iconst (v := nI 2) (pc := 67) dX12_lossBy_67 (by decide) ?_
    exact g_iret (pc := 68) (by decide) (by decide) (eqI hPo (by first | rfl | (congr 1; simp [lossN, *]; done) | (congr 1; simp [lossN, *]; omega))) dX12_lossBy_68
  by_cases k7 : k = 6
  · subst k7
    refine g_tableIn (tgt := 63) (off := 62) (pc := 1) dX12_lossBy_1 (by decide) (by decide) (by decide) (by decide) ?_
    refine g_iconst (v := nI 5) (pc := 63) dX12_lossBy_63 (by decide) ?_
    refine g_iload_n (q := 1) (pc := 64) dX12_lossBy_64 rfl rfl ?_
    refine g_iadd_N (pc := 65) dX12_lossBy_65 ?_
    exact g_iret (pc := 66) (by decide) (by decide) (eqI hPo (by first | rfl | (congr 1; simp [lossN, *]; done) | (congr 1; simp [lossN, *]; omega))) dX12_lossBy_66
  by_cases k8 : k = 7
  · subst k8
    refine g_tableIn (tgt := 44) (off := 43) (pc := 1) dX12_lossBy_1 (by decide) (by decide) (by decide) (by decide) ?_
    refine g_iconst (v := nI 1) (pc := 44) dX12_lossBy_44 (by decide) ?_
    exact g_iret (pc := 45) (by decide) (by decide) (eqI hPo (by first | rfl | (congr 1; simp [lossN, *]; done) | (congr 1; simp [lossN, *]; omega))) dX12_lossBy_45
  refine g_tableOut (tgt := 67) (pc := 1) dX12_lossBy_1 (by rw [nI_toInt (by omega)]; omega) (by decide) ?_
  refine g_iconst (v := nI 2) (pc := 67) dX12_lossBy_67 (by decide) ?_
  exact g_iret (pc := 68) (by decide) (by decide) (eqI hPo (by first | rfl | (congr 1; simp [lossN, *]; done) | (congr 1; simp [lossN, *]; omega))) dX12_lossBy_68
def rmX12_toilBy : Room := { frames := 0, cells := 0, slots := 0, locals := 0 }
theorem c_X12_toilBy {k f : Nat} (hA : aB b0 18 ad) (hk : k < 8) (hf : f < 10) : KE l D Z b0 yX12_toilBy cX12_toilBy 2 (some .int) rmX12_toilBy [.int (nI k), .int (nI f)] (wM Z ad hi th po ba en se (enc kd fg pl hr) im rd mi kp so sz el ki kf ti lo wa nu li to ot V) (some (.int (nI (toilN k f)))) (wM Z ad hi th po ba en se (enc kd fg pl hr) im rd mi kp so sz el ki kf ti lo wa nu li to ot V) := by
  refine KE.of (by decide) (Nat.le_of_ble_eq_true rfl) (fun Po hPo => ?_)
  refine G.locals (L' := [(0, .int (nI k)), (1, .int (nI f))]) [0, 1] rfl ?_
  refine g_iload_n (q := 0) (pc := 0) dX12_toilBy_0 rfl rfl ?_
  by_cases k1 : k = 1
  · subst k1
    refine g_tableIn (tgt := 44) (off := 43) (pc := 1) dX12_toilBy_1 (by decide) (by decide) (by decide) (by decide) ?_
    refine g_bipush (v := nI 10) (pc := 44) dX12_toilBy_44 (by decide) ?_
    exact g_iret (pc := 46) (by decide) (by decide) (eqI hPo (by first | rfl | (congr 1; simp [toilN, *]; done) | (congr 1; simp [toilN, *]; omega))) dX12_toilBy_46
  by_cases k2 : k = 2
  · subst k2
    refine g_tableIn (tgt := 47) (off := 46) (pc := 1) dX12_toilBy_1 (by decide) (by decide) (by decide) (by decide) ?_
    refine g_iconst (v := nI 3) (pc := 47) dX12_toilBy_47 (by decide) ?_
    exact g_iret (pc := 48) (by decide) (by decide) (eqI hPo (by first | rfl | (congr 1; simp [toilN, *]; done) | (congr 1; simp [toilN, *]; omega))) dX12_toilBy_48
  by_cases k3 : k = 3
  · subst k3
    refine g_tableIn (tgt := 49) (off := 48) (pc := 1) dX12_toilBy_1 (by decide) (by decide) (by decide) (by decide) ?_
    refine g_iconst (v := nI 3) (pc := 49) dX12_toilBy_49 (by decide) ?_
    refine g_iload_n (q := 1) (pc := 50) dX12_toilBy_50 rfl rfl ?_
    refine g_iconst (v := nI 1) (pc := 51) dX12_toilBy_51 (by decide) ?_
    refine g_iadd_N (pc := 52) dX12_toilBy_52 ?_
    refine g_imul_N (pc := 53) dX12_toilBy_53 ?_
    exact g_iret (pc := 54) (by decide) (by decide) (eqI hPo (by first | rfl | (congr 1; simp [toilN, *]; done) | (congr 1; simp [toilN, *]; omega))) dX12_toilBy_54
  by_cases k4 : k = 4
  · subst k4
    refine g_tableIn (tgt := 55) (off := 54) (pc := 1) dX12_toilBy_1 (by decide) (by decide) (by decide) (by decide) ?_
    refine g_bipush (v := nI 10) (pc := 55) dX12_toilBy_55 (by decide) ?_
    refine g_iload_n (q := 1) (pc := 57) dX12_toilBy_57 rfl rfl ?_
    refine g_iadd_N (pc := 58) dX12_toilBy_58 ?_
    exact g_iret (pc := 59) (by decide) (by decide) (eqI hPo (by first | rfl | (congr 1; simp [toilN, *]; done) | (congr 1; simp [toilN, *]; omega))) dX12_toilBy_59
  by_cases k5 : k = 5
  · subst k5
    refine g_tableIn (tgt := 60) (off := 59) (pc := 1) dX12_toilBy_1 (by decide) (by decide) (by decide) (by decide) ?_
    refine g_iconst (v := nI 1) (pc := 60) dX12_toilBy_60 (by decide) ?_
    exact g_iret (pc := 61) (by decide) (by decide) (eqI hPo (by first | rfl | (congr 1; simp [toilN, *]; done) | (congr 1; simp [toilN, *]; omega))) dX12_toilBy_61
  by_cases k6 : k = 6
  · subst k6
    refine g_tableIn (tgt := 62) (off := 61) (pc := 1) dX12_toilBy_1 (by decide) (by decide) (by decide) (by decide) ?_
    refine g_bipush (v := nI 7) (pc := 62) dX12_toilBy_62 (by decide) ?_
    exact g_iret (pc := 64) (by decide) (by decide) (eqI hPo (by first | rfl | (congr 1; simp [toilN, *]; done) | (congr 1; simp [toilN, *]; omega))) dX12_toilBy_64
  by_cases k7 : k = 7
  · subst k7
    refine g_tableIn (tgt := 65) (off := 64) (pc := 1) dX12_toilBy_1 (by decide) (by decide) (by decide) (by decide) ?_
    refine g_iconst (v := nI 0) (pc := 65) dX12_toilBy_65 (by decide) ?_
    exact g_iret (pc := 66) (by decide) (by decide) (eqI hPo (by first | rfl | (congr 1; simp [toilN, *]; done) | (congr 1; simp [toilN, *]; omega))) dX12_toilBy_66
  refine g_tableOut (tgt := 67) (pc := 1) dX12_toilBy_1 (by rw [nI_toInt (by omega)]; omega) (by decide) ?_
  refine g_iconst (v := nI 5) (pc := 67) dX12_toilBy_67 (by decide) ?_
  exact g_iret (pc := 68) (by decide) (by decide) (eqI hPo (by first | rfl | (congr 1; simp [toilN, *]; done) | (congr 1; simp [toilN, *]; omega))) dX12_toilBy_68
def rmX12_slow : Room := { frames := 1, cells := 0, slots := 0, locals := 21 }
theorem c_X12_slow {c : Nat} (hA : aB b0 18 ad) (ho : okM kd fg pl) (hc : c < 20) : KE l D Z b0 yX12_slow cX12_slow 2 (some .int) rmX12_slow [.ref (ad 0), .int (nI c)] (wM Z ad hi th po ba en se (enc kd fg pl hr) im rd mi kp so sz el ki kf ti lo wa nu li to ot V) (some (.int (nI (slowN (kd c) (fg c))))) (wM Z ad hi th po ba en se (enc kd fg pl hr) im rd mi kp so sz el ki kf ti lo wa nu li to ot V) := by
  refine KE.of (by decide) (Nat.le_of_ble_eq_true rfl) (fun Po hPo => ?_)
  refine G.locals (L' := [(0, .ref (ad 0)), (1, .int (nI c))]) [0, 1] rfl ?_
  refine g_aload_n (q := 0) (pc := 0) dX12_slow_0 rfl rfl ?_
  refine g_iload_n (q := 1) (pc := 1) dX12_slow_1 rfl rfl ?_
  refine e_callV (k2 := 0) (n2 := 0) (As := [.int (nI c)]) (rest := []) (pc := 2) (wM_0 hA) rfl (c_X12_kind hA (by omega)) mlX12_77 selX12_X12_kind_X12_kind mX12_kind ⟨Nat.le_of_ble_eq_true rfl, Nat.le_of_ble_eq_true rfl⟩ rfl rfl (Nat.le_of_ble_eq_true rfl) dX12_slow_2 (by decide) rfl rfl ?_
  refine g_aload_n (q := 0) (pc := 5) dX12_slow_5 rfl rfl ?_
  refine g_iload_n (q := 1) (pc := 6) dX12_slow_6 rfl rfl ?_
  refine e_callV (k2 := 0) (n2 := 0) (As := [.int (nI c)]) (rest := [.int (nI (kd c))]) (pc := 7) (wM_0 hA) rfl (c_X12_figure hA (by omega)) mlX12_81 selX12_X12_figure_X12_figure mX12_figure ⟨Nat.le_of_ble_eq_true rfl, Nat.le_of_ble_eq_true rfl⟩ rfl rfl (Nat.le_of_ble_eq_true rfl) dX12_slow_7 (by decide) rfl rfl ?_
  refine e_callS (k2 := 0) (n2 := 0) (As := [.int (nI (kd c)), .int (nI (fg c))]) (rest := []) (pc := 10) (c_X12_slowBy hA (ho.1 c hc).1 (ho.1 c hc).2) mlX12_84 mX12_slowBy ⟨Nat.le_of_ble_eq_true rfl, Nat.le_of_ble_eq_true rfl⟩ rfl rfl (Nat.le_of_ble_eq_true rfl) dX12_slow_10 (by decide) rfl rfl ?_
  exact g_iret (pc := 13) (by decide) (by decide) (hPo) dX12_slow_13
def rmX12_loss : Room := { frames := 1, cells := 0, slots := 0, locals := 21 }
theorem c_X12_loss {c : Nat} (hA : aB b0 18 ad) (ho : okM kd fg pl) (hc : c < 20) : KE l D Z b0 yX12_loss cX12_loss 2 (some .int) rmX12_loss [.ref (ad 0), .int (nI c)] (wM Z ad hi th po ba en se (enc kd fg pl hr) im rd mi kp so sz el ki kf ti lo wa nu li to ot V) (some (.int (nI (lossN (kd c) (fg c))))) (wM Z ad hi th po ba en se (enc kd fg pl hr) im rd mi kp so sz el ki kf ti lo wa nu li to ot V) := by
  refine KE.of (by decide) (Nat.le_of_ble_eq_true rfl) (fun Po hPo => ?_)
  refine G.locals (L' := [(0, .ref (ad 0)), (1, .int (nI c))]) [0, 1] rfl ?_
  refine g_aload_n (q := 0) (pc := 0) dX12_loss_0 rfl rfl ?_
  refine g_iload_n (q := 1) (pc := 1) dX12_loss_1 rfl rfl ?_
  refine e_callV (k2 := 0) (n2 := 0) (As := [.int (nI c)]) (rest := []) (pc := 2) (wM_0 hA) rfl (c_X12_kind hA (by omega)) mlX12_77 selX12_X12_kind_X12_kind mX12_kind ⟨Nat.le_of_ble_eq_true rfl, Nat.le_of_ble_eq_true rfl⟩ rfl rfl (Nat.le_of_ble_eq_true rfl) dX12_loss_2 (by decide) rfl rfl ?_
  refine g_aload_n (q := 0) (pc := 5) dX12_loss_5 rfl rfl ?_
  refine g_iload_n (q := 1) (pc := 6) dX12_loss_6 rfl rfl ?_
  refine e_callV (k2 := 0) (n2 := 0) (As := [.int (nI c)]) (rest := [.int (nI (kd c))]) (pc := 7) (wM_0 hA) rfl (c_X12_figure hA (by omega)) mlX12_81 selX12_X12_figure_X12_figure mX12_figure ⟨Nat.le_of_ble_eq_true rfl, Nat.le_of_ble_eq_true rfl⟩ rfl rfl (Nat.le_of_ble_eq_true rfl) dX12_loss_7 (by decide) rfl rfl ?_
  refine e_callS (k2 := 0) (n2 := 0) (As := [.int (nI (kd c)), .int (nI (fg c))]) (rest := []) (pc := 10) (c_X12_lossBy hA (ho.1 c hc).1 (ho.1 c hc).2) mlX12_88 mX12_lossBy ⟨Nat.le_of_ble_eq_true rfl, Nat.le_of_ble_eq_true rfl⟩ rfl rfl (Nat.le_of_ble_eq_true rfl) dX12_loss_10 (by decide) rfl rfl ?_
  exact g_iret (pc := 13) (by decide) (by decide) (hPo) dX12_loss_13
def rmX12_toil : Room := { frames := 1, cells := 0, slots := 0, locals := 21 }
theorem c_X12_toil {c : Nat} (hA : aB b0 18 ad) (ho : okM kd fg pl) (hc : c < 20) : KE l D Z b0 yX12_toil cX12_toil 2 (some .int) rmX12_toil [.ref (ad 0), .int (nI c)] (wM Z ad hi th po ba en se (enc kd fg pl hr) im rd mi kp so sz el ki kf ti lo wa nu li to ot V) (some (.int (nI (toilN (kd c) (fg c))))) (wM Z ad hi th po ba en se (enc kd fg pl hr) im rd mi kp so sz el ki kf ti lo wa nu li to ot V) := by
  refine KE.of (by decide) (Nat.le_of_ble_eq_true rfl) (fun Po hPo => ?_)
  refine G.locals (L' := [(0, .ref (ad 0)), (1, .int (nI c))]) [0, 1] rfl ?_
  refine g_aload_n (q := 0) (pc := 0) dX12_toil_0 rfl rfl ?_
  refine g_iload_n (q := 1) (pc := 1) dX12_toil_1 rfl rfl ?_
  refine e_callV (k2 := 0) (n2 := 0) (As := [.int (nI c)]) (rest := []) (pc := 2) (wM_0 hA) rfl (c_X12_kind hA (by omega)) mlX12_77 selX12_X12_kind_X12_kind mX12_kind ⟨Nat.le_of_ble_eq_true rfl, Nat.le_of_ble_eq_true rfl⟩ rfl rfl (Nat.le_of_ble_eq_true rfl) dX12_toil_2 (by decide) rfl rfl ?_
  refine g_aload_n (q := 0) (pc := 5) dX12_toil_5 rfl rfl ?_
  refine g_iload_n (q := 1) (pc := 6) dX12_toil_6 rfl rfl ?_
  refine e_callV (k2 := 0) (n2 := 0) (As := [.int (nI c)]) (rest := [.int (nI (kd c))]) (pc := 7) (wM_0 hA) rfl (c_X12_figure hA (by omega)) mlX12_81 selX12_X12_figure_X12_figure mX12_figure ⟨Nat.le_of_ble_eq_true rfl, Nat.le_of_ble_eq_true rfl⟩ rfl rfl (Nat.le_of_ble_eq_true rfl) dX12_toil_7 (by decide) rfl rfl ?_
  refine e_callS (k2 := 0) (n2 := 0) (As := [.int (nI (kd c)), .int (nI (fg c))]) (rest := []) (pc := 10) (c_X12_toilBy hA (ho.1 c hc).1 (ho.1 c hc).2) mlX12_91 mX12_toilBy ⟨Nat.le_of_ble_eq_true rfl, Nat.le_of_ble_eq_true rfl⟩ rfl rfl (Nat.le_of_ble_eq_true rfl) dX12_toil_10 (by decide) rfl rfl ?_
  exact g_iret (pc := 13) (by decide) (by decide) (hPo) dX12_toil_13
def rmX12_beside : Room := { frames := 0, cells := 0, slots := 0, locals := 0 }
theorem c_X12_beside {c s1 : Nat} (hA : aB b0 18 ad) (hc : c < 20) (hs : s1 < 4) : KE l D Z b0 yX12_beside cX12_beside 2 (some .int) rmX12_beside [.int (nI c), .int (nI s1)] (wM Z ad hi th po ba en se (enc kd fg pl hr) im rd mi kp so sz el ki kf ti lo wa nu li to ot V) (some (.int (bs c s1))) (wM Z ad hi th po ba en se (enc kd fg pl hr) im rd mi kp so sz el ki kf ti lo wa nu li to ot V) := by
  refine KE.of (by decide) (Nat.le_of_ble_eq_true rfl) (fun Po hPo => ?_)
  refine G.locals (L' := [(0, .int (nI c)), (1, .int (nI s1))]) [0, 1] rfl ?_
  refine g_iload_n (q := 1) (pc := 0) dX12_beside_0 rfl rfl ?_
  by_cases k1 : s1 = 0
  · subst k1
    refine g_tableIn (tgt := 28) (off := 27) (pc := 1) dX12_beside_1 (by decide) (by decide) (by decide) (by decide) ?_
    refine g_iload_n (q := 0) (pc := 28) dX12_beside_28 rfl rfl ?_
    refine g_iconst (v := nI 5) (pc := 29) dX12_beside_29 (by decide) ?_
    refine g_icmp_lt_N (tgt := 39) (pc := 30) (by omega) (by omega) dX12_beside_30 (by decide) (fun c2 => ?_) (fun c2 => ?_)
    · -- T c2
      refine g_bipush (v := (-4)) (pc := 39) dX12_beside_39 (by decide) ?_
      exact g_iret (pc := 41) (by decide) (by decide) (eqI hPo (bs_n (by simp [nbo, *] <;> omega))) dX12_beside_41
    · -- F c2
      refine g_iload_n (q := 0) (pc := 33) dX12_beside_33 rfl rfl ?_
      refine g_iconst (v := nI 5) (pc := 34) dX12_beside_34 (by decide) ?_
      refine g_isub_N (pc := 35) (by omega) dX12_beside_35 ?_
      refine g_goto (tgt := 41) (pc := 36) dX12_beside_36 (by decide) ?_
      exact g_iret (pc := 41) (by decide) (by decide) (eqI hPo (bs_s (t := c - 5) (by simp [nbo, *] <;> omega))) dX12_beside_41
  by_cases k3 : s1 = 1
  · subst k3
    refine g_tableIn (tgt := 42) (off := 41) (pc := 1) dX12_beside_1 (by decide) (by decide) (by decide) (by decide) ?_
    refine g_iload_n (q := 0) (pc := 42) dX12_beside_42 rfl rfl ?_
    refine g_iconst (v := nI 5) (pc := 43) dX12_beside_43 (by decide) ?_
    refine g_irem_N (pc := 44) (by omega) (by decide) (by decide) dX12_beside_44 ?_
    refine g_iconst (v := nI 4) (pc := 45) dX12_beside_45 (by decide) ?_
    refine g_icmp_ge_N (tgt := 55) (pc := 46) (by omega) (by omega) dX12_beside_46 (by decide) (fun c4 => ?_) (fun c4 => ?_)
    · -- T c4
      refine g_bipush (v := (-4)) (pc := 55) dX12_beside_55 (by decide) ?_
      exact g_iret (pc := 57) (by decide) (by decide) (eqI hPo (bs_n (by simp [nbo, *] <;> omega))) dX12_beside_57
    · -- F c4
      refine g_iload_n (q := 0) (pc := 49) dX12_beside_49 rfl rfl ?_
      refine g_iconst (v := nI 1) (pc := 50) dX12_beside_50 (by decide) ?_
      refine g_iadd_N (pc := 51) dX12_beside_51 ?_
      refine g_goto (tgt := 57) (pc := 52) dX12_beside_52 (by decide) ?_
      exact g_iret (pc := 57) (by decide) (by decide) (eqI hPo (bs_s (t := c + 1) (by simp [nbo, *] <;> omega))) dX12_beside_57
  by_cases k5 : s1 = 2
  · subst k5
    refine g_tableIn (tgt := 58) (off := 57) (pc := 1) dX12_beside_1 (by decide) (by decide) (by decide) (by decide) ?_
    refine g_iload_n (q := 0) (pc := 58) dX12_beside_58 rfl rfl ?_
    refine g_bipush (v := nI 15) (pc := 59) dX12_beside_59 (by decide) ?_
    refine g_icmp_ge_N (tgt := 70) (pc := 61) (by omega) (by omega) dX12_beside_61 (by decide) (fun c6 => ?_) (fun c6 => ?_)
    · -- T c6
      refine g_bipush (v := (-4)) (pc := 70) dX12_beside_70 (by decide) ?_
      exact g_iret (pc := 72) (by decide) (by decide) (eqI hPo (bs_n (by simp [nbo, *] <;> omega))) dX12_beside_72
    · -- F c6
      refine g_iload_n (q := 0) (pc := 64) dX12_beside_64 rfl rfl ?_
      refine g_iconst (v := nI 5) (pc := 65) dX12_beside_65 (by decide) ?_
      refine g_iadd_N (pc := 66) dX12_beside_66 ?_
      refine g_goto (tgt := 72) (pc := 67) dX12_beside_67 (by decide) ?_
      exact g_iret (pc := 72) (by decide) (by decide) (eqI hPo (bs_s (t := c + 5) (by simp [nbo, *] <;> omega))) dX12_beside_72
  refine g_tableOut (tgt := 73) (pc := 1) dX12_beside_1 (by rw [nI_toInt (by omega)]; omega) (by decide) ?_
  refine g_iload_n (q := 0) (pc := 73) dX12_beside_73 rfl rfl ?_
  refine g_iconst (v := nI 5) (pc := 74) dX12_beside_74 (by decide) ?_
  refine g_irem_N (pc := 75) (by omega) (by decide) (by decide) dX12_beside_75 ?_
  refine g_if_le_N (tgt := 85) (pc := 76) (by omega) dX12_beside_76 (by decide) (fun c7 => ?_) (fun c7 => ?_)
  · -- T c7
    refine g_bipush (v := (-4)) (pc := 85) dX12_beside_85 (by decide) ?_
    exact g_iret (pc := 87) (by decide) (by decide) (eqI hPo (bs_n (by simp [nbo, *] <;> omega))) dX12_beside_87
  · -- F c7
    refine g_iload_n (q := 0) (pc := 79) dX12_beside_79 rfl rfl ?_
    refine g_iconst (v := nI 1) (pc := 80) dX12_beside_80 (by decide) ?_
    refine g_isub_N (pc := 81) (by omega) dX12_beside_81 ?_
    refine g_goto (tgt := 87) (pc := 82) dX12_beside_82 (by decide) ?_
    exact g_iret (pc := 87) (by decide) (by decide) (eqI hPo (bs_s (t := c - 1) (by simp [nbo, *] <;> omega))) dX12_beside_87
theorem c_X12_beside_n {c s1 : Nat} (hA : aB b0 18 ad) (hc : c < 20) (hs : s1 < 4) (h : nbo c s1 = none) {V : HV} (q : KE l D Z b0 yX12_beside cX12_beside 2 (some .int) rmX12_beside [.int (nI c), .int (nI s1)] V (some (.int (bs c s1))) V) : KE l D Z b0 yX12_beside cX12_beside 2 (some .int) rmX12_beside [.int (nI c), .int (nI s1)] V (some (.int (-4))) V := by
  rw [bs_n h] at q; exact q
theorem c_X12_beside_s {c s1 t : Nat} (hA : aB b0 18 ad) (hc : c < 20) (hs : s1 < 4) (h : nbo c s1 = some t) {V : HV} (q : KE l D Z b0 yX12_beside cX12_beside 2 (some .int) rmX12_beside [.int (nI c), .int (nI s1)] V (some (.int (bs c s1))) V) : KE l D Z b0 yX12_beside cX12_beside 2 (some .int) rmX12_beside [.int (nI c), .int (nI s1)] V (some (.int (nI t))) V := by
  rw [bs_s h] at q; exact q
theorem okM_pl {kd fg pl : Nat → Nat} {g t : Nat} (h : okM kd fg pl) (ht : t < 20) : okM kd fg (updN pl g t) := ⟨h.1, fun j hj => by
  unfold updN; split
  · exact ht
  · exact h.2 j hj⟩
theorem okM_set {kd fg pl : Nat → Nat} {c k f : Nat} (h : okM kd fg pl) (hk : k < 8) (hf : f < 10) : okM (updN kd c k) (updN fg c f) pl := ⟨fun j hj => by
  have := h.1 j hj
  constructor
  · unfold updN; split <;> omega
  · unfold updN; split <;> omega, h.2⟩
def rmX12_digs : Room := { frames := 2, cells := 0, slots := 0, locals := 42 }
theorem c_X12_digs_s {g s1 t : Nat} (hA : aB b0 18 ad) (ho : okM kd fg pl) (hg : g < 2) (hs : s1 < 4) (h : nbo (pl g) s1 = some t) : KE l D Z b0 yX12_digs cX12_digs 4 (some .boolean) rmX12_digs [.ref (ad 0), .int (nI g), .int (nI s1)] (wM Z ad hi th po ba en se (enc kd fg pl hr) im rd mi kp so sz el ki kf ti lo wa nu li to ot V) (some (.int (nI 1))) (wM Z ad hi th po ba en se (enc (updN kd t 7) (updN fg t 0) (updN pl g t) (upd hr g (hr g + nI (toilN (kd t) (fg t))))) im rd mi kp so sz el ki kf ti lo wa nu li to ot V) := by
  refine KE.of (by decide) (Nat.le_of_ble_eq_true rfl) (fun Po hPo => ?_)
  refine G.locals (L' := [(0, .ref (ad 0)), (1, .int (nI g)), (2, .int (nI s1))]) [0, 1, 2] rfl ?_
  refine g_aload_n (q := 0) (pc := 0) dX12_digs_0 rfl rfl ?_
  refine g_iload_n (q := 1) (pc := 1) dX12_digs_1 rfl rfl ?_
  refine e_callV (k2 := 0) (n2 := 0) (As := [.int (nI g)]) (rest := []) (pc := 2) (wM_0 hA) rfl (c_X12_gangCell hA (by omega)) mlX12_94 selX12_X12_gangCell_X12_gangCell mX12_gangCell ⟨Nat.le_of_ble_eq_true rfl, Nat.le_of_ble_eq_true rfl⟩ rfl rfl (Nat.le_of_ble_eq_true rfl) dX12_digs_2 (by decide) rfl rfl ?_
  refine g_iload_n (q := 2) (pc := 5) dX12_digs_5 rfl rfl ?_
  have tl := nbo_lt (c := (pl g)) (ho.2 g hg) h
  refine e_callS (k2 := 0) (n2 := 0) (As := [.int (nI (pl g)), .int (nI s1)]) (rest := []) (pc := 6) (c_X12_beside_s hA (ho.2 g hg) (by omega) h (c_X12_beside hA (ho.2 g hg) (by omega))) mlX12_97 mX12_beside ⟨Nat.le_of_ble_eq_true rfl, Nat.le_of_ble_eq_true rfl⟩ rfl rfl (Nat.le_of_ble_eq_true rfl) dX12_digs_6 (by decide) rfl rfl ?_
  refine g_istore_n (lv' := [(3, .int (nI t)), (0, .ref (ad 0)), (1, .int (nI g)), (2, .int (nI s1))]) (pc := 9) dX12_digs_9 rfl (by decide) rfl ?_
  refine g_iload_n (q := 0) (pc := 10) dX12_digs_10 rfl rfl ?_
  refine g_if_ge_N (tgt := 16) (pc := 11) (by omega) dX12_digs_11 (by decide) ?_
  refine g_aload_n (q := 1) (pc := 16) dX12_digs_16 rfl rfl ?_
  refine gm_get_s (pc := 17) hA dX12_digs_17 ?_
  refine g_bipush (v := nI 40) (pc := 20) dX12_digs_20 (by decide) ?_
  refine g_iconst (v := nI 2) (pc := 22) dX12_digs_22 (by decide) ?_
  refine g_iload_n (q := 2) (pc := 23) dX12_digs_23 rfl rfl ?_
  refine g_imul_N (pc := 24) dX12_digs_24 ?_
  refine g_iadd_N (pc := 25) dX12_digs_25 ?_
  refine g_iload_n (q := 0) (pc := 26) dX12_digs_26 rfl rfl ?_
  refine gm_st_s (pc := 27) (j := 40 + (2 * g)) (f' := (enc kd fg (updN pl g t) hr)) hA (by omega) enc_sp dX12_digs_27 ?_
  refine g_aload_n (q := 1) (pc := 28) dX12_digs_28 rfl rfl ?_
  refine gm_get_s (pc := 29) hA dX12_digs_29 ?_
  refine g_bipush (v := nI 40) (pc := 32) dX12_digs_32 (by decide) ?_
  refine g_iconst (v := nI 2) (pc := 34) dX12_digs_34 (by decide) ?_
  refine g_iload_n (q := 2) (pc := 35) dX12_digs_35 rfl rfl ?_
  refine g_imul_N (pc := 36) dX12_digs_36 ?_
  refine g_iadd_N (pc := 37) dX12_digs_37 ?_
  refine g_iconst (v := nI 1) (pc := 38) dX12_digs_38 (by decide) ?_
  refine g_iadd_N (pc := 39) dX12_digs_39 ?_
  refine g_dup2_11 (pc := 40) dX12_digs_40 rfl rfl ?_
  refine gm_ld_s (pc := 41) (j := (40 + (2 * g)) + 1) (x := hr g) hA (by omega) enc_h dX12_digs_41 ?_
  refine g_aload_n (q := 1) (pc := 42) dX12_digs_42 rfl rfl ?_
  refine g_iload_n (q := 0) (pc := 43) dX12_digs_43 rfl rfl ?_
  refine e_callV (k2 := 0) (n2 := 0) (As := [.int (nI t)]) (rest := [.int (hr g), .int (nI ((40 + (2 * g)) + 1)), .ref (ad 1)]) (pc := 44) (wM_0 hA) rfl (c_X12_toil hA (okM_pl ho tl) (by omega)) mlX12_100 selX12_X12_toil_X12_toil mX12_toil ⟨Nat.le_of_ble_eq_true rfl, Nat.le_of_ble_eq_true rfl⟩ rfl rfl (Nat.le_of_ble_eq_true rfl) dX12_digs_44 (by decide) rfl rfl ?_
  refine g_iadd (pc := 47) dX12_digs_47 ?_
  refine gm_st_s (pc := 48) (j := (40 + (2 * g)) + 1) (f' := (enc kd fg (updN pl g t) (upd hr g ((hr g) + (nI (toilN (kd t) (fg t))))))) hA (by omega) enc_sh dX12_digs_48 ?_
  refine g_aload_n (q := 1) (pc := 49) dX12_digs_49 rfl rfl ?_
  refine g_iload_n (q := 0) (pc := 50) dX12_digs_50 rfl rfl ?_
  refine g_bipush (v := nI 7) (pc := 51) dX12_digs_51 (by decide) ?_
  refine g_iconst (v := nI 0) (pc := 53) dX12_digs_53 (by decide) ?_
  refine e_callVv (k2 := 0) (n2 := 0) (As := [.int (nI t), .int (nI 7), .int (nI 0)]) (rest := []) (pc := 54) (wM_0 hA) rfl (c_X12_setCell hA (by omega)) mlX12_103 selX12_X12_setCell_X12_setCell mX12_setCell ⟨Nat.le_of_ble_eq_true rfl, Nat.le_of_ble_eq_true rfl⟩ rfl rfl (Nat.le_of_ble_eq_true rfl) dX12_digs_54 (by decide) rfl rfl ?_
  refine g_iconst (v := nI 1) (pc := 57) dX12_digs_57 (by decide) ?_
  exact g_zret (pc := 58) (by decide) (by decide) (by decide) (hPo) dX12_digs_58
theorem c_X12_digs_n {g s1 : Nat} (hA : aB b0 18 ad) (ho : okM kd fg pl) (hg : g < 2) (hs : s1 < 4) (h : nbo (pl g) s1 = none) : KE l D Z b0 yX12_digs cX12_digs 4 (some .boolean) rmX12_digs [.ref (ad 0), .int (nI g), .int (nI s1)] (wM Z ad hi th po ba en se (enc kd fg pl hr) im rd mi kp so sz el ki kf ti lo wa nu li to ot V) (some (.int (nI 0))) (wM Z ad hi th po ba en se (enc kd fg pl hr) im rd mi kp so sz el ki kf ti lo wa nu li to ot V) := by
  refine KE.of (by decide) (Nat.le_of_ble_eq_true rfl) (fun Po hPo => ?_)
  refine G.locals (L' := [(0, .ref (ad 0)), (1, .int (nI g)), (2, .int (nI s1))]) [0, 1, 2] rfl ?_
  refine g_aload_n (q := 0) (pc := 0) dX12_digs_0 rfl rfl ?_
  refine g_iload_n (q := 1) (pc := 1) dX12_digs_1 rfl rfl ?_
  refine e_callV (k2 := 0) (n2 := 0) (As := [.int (nI g)]) (rest := []) (pc := 2) (wM_0 hA) rfl (c_X12_gangCell hA (by omega)) mlX12_94 selX12_X12_gangCell_X12_gangCell mX12_gangCell ⟨Nat.le_of_ble_eq_true rfl, Nat.le_of_ble_eq_true rfl⟩ rfl rfl (Nat.le_of_ble_eq_true rfl) dX12_digs_2 (by decide) rfl rfl ?_
  refine g_iload_n (q := 2) (pc := 5) dX12_digs_5 rfl rfl ?_
  refine e_callS (k2 := 0) (n2 := 0) (As := [.int (nI (pl g)), .int (nI s1)]) (rest := []) (pc := 6) (c_X12_beside_n hA (ho.2 g hg) (by omega) h (c_X12_beside hA (ho.2 g hg) (by omega))) mlX12_97 mX12_beside ⟨Nat.le_of_ble_eq_true rfl, Nat.le_of_ble_eq_true rfl⟩ rfl rfl (Nat.le_of_ble_eq_true rfl) dX12_digs_6 (by decide) rfl rfl ?_
  refine g_istore_n (lv' := [(3, .int (-4)), (0, .ref (ad 0)), (1, .int (nI g)), (2, .int (nI s1))]) (pc := 9) dX12_digs_9 rfl (by decide) rfl ?_
  refine g_iload_n (q := 0) (pc := 10) dX12_digs_10 rfl rfl ?_
  refine g_if_ge (tgt := 16) (pc := 11) dX12_digs_11 (by decide) (fun c0 => absurd c0 (by decide)) (fun _ => ?_)
  refine g_iconst (v := nI 0) (pc := 14) dX12_digs_14 (by decide) ?_
  exact g_zret (pc := 15) (by decide) (by decide) (by decide) (hPo) dX12_digs_15
theorem mB0_t {a b : Nat} (h : a = b) : nI 1 = bI (mB a b 0) := by simp [mB, bI, h]
theorem mB0_f {a b : Nat} (h : ¬ a = b) : nI 0 = bI (mB a b 0) := by simp [mB, bI, h]
theorem mB_1 {a b i : Nat} (h : mB a b i = true) : nI 1 = bI (mB a b (i + 1)) := by simp [mB, bI, h]
theorem mB_2 {a b i : Nat} (ha : a < 20) (hb : b < 20) (h : bs a i = nI b) : nI 1 = bI (mB a b (i + 1)) := by simp [mB, bI, (bs_eq ha hb).mp h]
theorem mB_3 {a b i : Nat} (ha : a < 20) (hb : b < 20) (h1 : mB a b i = false) (h : ¬ bs a i = nI b) : nI 0 = bI (mB a b (i + 1)) := by
  have : ¬ nbo a i = some b := fun q => h ((bs_eq ha hb).mpr q)
  simp [mB, bI, h1, this]
/-- whether two gangs have met -/
def metB (a b : Nat) : Bool := mB a b 4
def rmX12_haveMet : Room := { frames := 1, cells := 0, slots := 0, locals := 21 }
theorem c_X12_haveMet  (hA : aB b0 18 ad) (ho : okM kd fg pl) : KE l D Z b0 yX12_haveMet cX12_haveMet 5 (some .boolean) rmX12_haveMet [.ref (ad 0)] (wM Z ad hi th po ba en se (enc kd fg pl hr) im rd mi kp so sz el ki kf ti lo wa nu li to ot V) (some (.int (bI (metB (pl 0) (pl 1))))) (wM Z ad hi th po ba en se (enc kd fg pl hr) im rd mi kp so sz el ki kf ti lo wa nu li to ot V) := by
  refine KE.of (by decide) (Nat.le_of_ble_eq_true rfl) (fun Po hPo => ?_)
  refine G.locals (L' := [(0, .ref (ad 0))]) [0] rfl ?_
  refine g_aload_n (q := 0) (pc := 0) dX12_haveMet_0 rfl rfl ?_
  refine g_iconst (v := nI 0) (pc := 1) dX12_haveMet_1 (by decide) ?_
  refine e_callV (k2 := 0) (n2 := 0) (As := [.int (nI 0)]) (rest := []) (pc := 2) (wM_0 hA) rfl (c_X12_gangCell hA (by omega)) mlX12_94 selX12_X12_gangCell_X12_gangCell mX12_gangCell ⟨Nat.le_of_ble_eq_true rfl, Nat.le_of_ble_eq_true rfl⟩ rfl rfl (Nat.le_of_ble_eq_true rfl) dX12_haveMet_2 (by decide) rfl rfl ?_
  refine g_istore_n (lv' := [(1, .int (nI (pl 0))), (0, .ref (ad 0))]) (pc := 5) dX12_haveMet_5 rfl (by decide) rfl ?_
  refine g_aload_n (q := 1) (pc := 6) dX12_haveMet_6 rfl rfl ?_
  refine g_iconst (v := nI 1) (pc := 7) dX12_haveMet_7 (by decide) ?_
  refine e_callV (k2 := 0) (n2 := 0) (As := [.int (nI 1)]) (rest := []) (pc := 8) (wM_0 hA) rfl (c_X12_gangCell hA (by omega)) mlX12_94 selX12_X12_gangCell_X12_gangCell mX12_gangCell ⟨Nat.le_of_ble_eq_true rfl, Nat.le_of_ble_eq_true rfl⟩ rfl rfl (Nat.le_of_ble_eq_true rfl) dX12_haveMet_8 (by decide) rfl rfl ?_
  refine g_istore_n (lv' := [(2, .int (nI (pl 1))), (1, .int (nI (pl 0))), (0, .ref (ad 0))]) (pc := 11) dX12_haveMet_11 rfl (by decide) rfl ?_
  refine g_iload_n (q := 1) (pc := 12) dX12_haveMet_12 rfl rfl ?_
  refine g_iload_n (q := 0) (pc := 13) dX12_haveMet_13 rfl rfl ?_
  refine g_icmp_ne_N (tgt := 21) (pc := 14) (by have := ho.2 0 (by decide); omega) (by have := ho.2 1 (by decide); omega) dX12_haveMet_14 (by decide) (fun c1 => ?_) (fun c1 => ?_)
  · -- T c1
    refine g_iconst (v := nI 0) (pc := 21) dX12_haveMet_21 (by decide) ?_
    refine g_top (x := nI 0) (y := bI (mB (pl 0) (pl 1) 0)) (by first | exact mB0_t (by assumption) | exact mB0_f (by assumption)) ?_
    refine g_istore_n (lv' := [(3, .int (bI (mB (pl 0) (pl 1) 0))), (2, .int (nI (pl 1))), (1, .int (nI (pl 0))), (0, .ref (ad 0))]) (pc := 22) dX12_haveMet_22 rfl (by decide) rfl ?_
    refine g_iconst (v := nI 0) (pc := 23) dX12_haveMet_23 (by decide) ?_
    refine g_istore (lv' := [(4, .int (nI 0)), (3, .int (bI (mB (pl 0) (pl 1) 0))), (2, .int (nI (pl 1))), (1, .int (nI (pl 0))), (0, .ref (ad 0))]) (pc := 24) dX12_haveMet_24 (by decide) rfl ?_
    have lp26 : ∀ (d26 : Nat) (i : Nat), i + d26 = 5 → (i ≤ 4) → G l D Z b0 rmX12_haveMet RX12 cX12_haveMet 5 (gE (some .boolean) "haveMet") (gT D b0 Po rmX12_haveMet.cells rmX12_haveMet.slots) (wM Z ad hi th po ba en se (enc kd fg pl hr) im rd mi kp so sz el ki kf ti lo wa nu li to ot V) [(4, .int (nI i)), (3, .int (bI (mB (pl 0) (pl 1) i))), (0, .ref (ad 0)), (1, .int (nI (pl 0))), (2, .int (nI (pl 1)))] 0 0 26 [] := by
      intro d26
      induction d26 with
      | zero =>
        intro i hd26 hi
        exact absurd hd26 (by omega)
      | succ d26 ih26 =>
        intro i hd26 hi
        refine g_iload (q := 0) (pc := 26) dX12_haveMet_26 rfl ?_
        refine g_iconst (v := nI 4) (pc := 28) dX12_haveMet_28 (by decide) ?_
        refine g_icmp_ge_N (tgt := 58) (pc := 29) (by omega) (by omega) dX12_haveMet_29 (by decide) (fun c2 => ?_) (fun c2 => ?_)
        · -- T c2
          refine g_iload_n (q := 1) (pc := 58) dX12_haveMet_58 rfl rfl ?_
          exact g_zret (pc := 59) (nar_bI _) (by decide) (by decide) (by obtain rfl : i = 4 := (by omega); exact hPo) dX12_haveMet_59
        · -- F c2
          refine g_iload_n (q := 1) (pc := 32) dX12_haveMet_32 rfl rfl ?_
          refine g_if_ne_B (tgt := 46) (pc := 33) dX12_haveMet_33 (by decide) (fun c3 => ?_) (fun c3 => ?_)
          · -- T c3
            refine g_iconst (v := nI 1) (pc := 46) dX12_haveMet_46 (by decide) ?_
            refine g_goto (tgt := 51) (pc := 47) dX12_haveMet_47 (by decide) ?_
            refine g_top (x := nI 1) (y := bI (mB (pl 0) (pl 1) (i + 1))) (by first | exact mB_1 (by assumption) | exact mB_2 (ho.2 0 (by decide)) (ho.2 1 (by decide)) (by assumption) | exact mB_3 (ho.2 0 (by decide)) (ho.2 1 (by decide)) (by assumption) (by assumption)) ?_
            refine g_istore_n (lv' := [(3, .int (bI (mB (pl 0) (pl 1) (i + 1)))), (4, .int (nI i)), (0, .ref (ad 0)), (1, .int (nI (pl 0))), (2, .int (nI (pl 1)))]) (pc := 51) dX12_haveMet_51 rfl (by decide) rfl ?_
            refine g_iinc (q := 1) (lv' := [(4, .int (nI (i + 1))), (3, .int (bI (mB (pl 0) (pl 1) (i + 1)))), (0, .ref (ad 0)), (1, .int (nI (pl 0))), (2, .int (nI (pl 1)))]) (pc := 52) dX12_haveMet_52 rfl (nI_inc _ _) (by decide) rfl ?_
            refine g_goto (tgt := 26) (pc := 55) dX12_haveMet_55 (by decide) ?_
            refine G.locals (L' := [(4, .int (nI (i + 1))), (3, .int (bI (mB (pl 0) (pl 1) (i + 1)))), (0, .ref (ad 0)), (1, .int (nI (pl 0))), (2, .int (nI (pl 1)))]) [0, 1, 2, 3, 4] rfl ?_
            exact ih26 (i + 1) (by omega) (by omega)
          · -- F c3
            refine g_iload_n (q := 3) (pc := 36) dX12_haveMet_36 rfl rfl ?_
            refine g_iload (q := 0) (pc := 37) dX12_haveMet_37 rfl ?_
            refine e_callS (k2 := 0) (n2 := 0) (As := [.int (nI (pl 0)), .int (nI i)]) (rest := []) (pc := 39) (c_X12_beside hA (ho.2 0 (by decide)) (by omega)) mlX12_97 mX12_beside ⟨Nat.le_of_ble_eq_true rfl, Nat.le_of_ble_eq_true rfl⟩ rfl rfl (Nat.le_of_ble_eq_true rfl) dX12_haveMet_39 (by decide) rfl rfl ?_
            refine g_iload_n (q := 4) (pc := 42) dX12_haveMet_42 rfl rfl ?_
            refine g_icmp_ne (tgt := 50) (pc := 43) dX12_haveMet_43 (by decide) (fun c4 => ?_) (fun c4 => ?_)
            · -- T c4
              refine g_iconst (v := nI 0) (pc := 50) dX12_haveMet_50 (by decide) ?_
              refine g_top (x := nI 0) (y := bI (mB (pl 0) (pl 1) (i + 1))) (by first | exact mB_1 (by assumption) | exact mB_2 (ho.2 0 (by decide)) (ho.2 1 (by decide)) (by assumption) | exact mB_3 (ho.2 0 (by decide)) (ho.2 1 (by decide)) (by assumption) (by assumption)) ?_
              refine g_istore_n (lv' := [(3, .int (bI (mB (pl 0) (pl 1) (i + 1)))), (4, .int (nI i)), (0, .ref (ad 0)), (1, .int (nI (pl 0))), (2, .int (nI (pl 1)))]) (pc := 51) dX12_haveMet_51 rfl (by decide) rfl ?_
              refine g_iinc (q := 1) (lv' := [(4, .int (nI (i + 1))), (3, .int (bI (mB (pl 0) (pl 1) (i + 1)))), (0, .ref (ad 0)), (1, .int (nI (pl 0))), (2, .int (nI (pl 1)))]) (pc := 52) dX12_haveMet_52 rfl (nI_inc _ _) (by decide) rfl ?_
              refine g_goto (tgt := 26) (pc := 55) dX12_haveMet_55 (by decide) ?_
              refine G.locals (L' := [(4, .int (nI (i + 1))), (3, .int (bI (mB (pl 0) (pl 1) (i + 1)))), (0, .ref (ad 0)), (1, .int (nI (pl 0))), (2, .int (nI (pl 1)))]) [0, 1, 2, 3, 4] rfl ?_
              exact ih26 (i + 1) (by omega) (by omega)
            · -- F c4
              refine g_iconst (v := nI 1) (pc := 46) dX12_haveMet_46 (by decide) ?_
              refine g_goto (tgt := 51) (pc := 47) dX12_haveMet_47 (by decide) ?_
              refine g_top (x := nI 1) (y := bI (mB (pl 0) (pl 1) (i + 1))) (by first | exact mB_1 (by assumption) | exact mB_2 (ho.2 0 (by decide)) (ho.2 1 (by decide)) (by assumption) | exact mB_3 (ho.2 0 (by decide)) (ho.2 1 (by decide)) (by assumption) (by assumption)) ?_
              refine g_istore_n (lv' := [(3, .int (bI (mB (pl 0) (pl 1) (i + 1)))), (4, .int (nI i)), (0, .ref (ad 0)), (1, .int (nI (pl 0))), (2, .int (nI (pl 1)))]) (pc := 51) dX12_haveMet_51 rfl (by decide) rfl ?_
              refine g_iinc (q := 1) (lv' := [(4, .int (nI (i + 1))), (3, .int (bI (mB (pl 0) (pl 1) (i + 1)))), (0, .ref (ad 0)), (1, .int (nI (pl 0))), (2, .int (nI (pl 1)))]) (pc := 52) dX12_haveMet_52 rfl (nI_inc _ _) (by decide) rfl ?_
              refine g_goto (tgt := 26) (pc := 55) dX12_haveMet_55 (by decide) ?_
              refine G.locals (L' := [(4, .int (nI (i + 1))), (3, .int (bI (mB (pl 0) (pl 1) (i + 1)))), (0, .ref (ad 0)), (1, .int (nI (pl 0))), (2, .int (nI (pl 1)))]) [0, 1, 2, 3, 4] rfl ?_
              exact ih26 (i + 1) (by omega) (by omega)
    refine G.locals (L' := [(4, .int (nI 0)), (3, .int (bI (mB (pl 0) (pl 1) 0))), (0, .ref (ad 0)), (1, .int (nI (pl 0))), (2, .int (nI (pl 1)))]) [0, 1, 4, 3, 2] rfl ?_
    exact lp26 5 0 (by omega) (by decide)
  · -- F c1
    refine g_iconst (v := nI 1) (pc := 17) dX12_haveMet_17 (by decide) ?_
    refine g_goto (tgt := 22) (pc := 18) dX12_haveMet_18 (by decide) ?_
    refine g_top (x := nI 1) (y := bI (mB (pl 0) (pl 1) 0)) (by first | exact mB0_t (by assumption) | exact mB0_f (by assumption)) ?_
    refine g_istore_n (lv' := [(3, .int (bI (mB (pl 0) (pl 1) 0))), (2, .int (nI (pl 1))), (1, .int (nI (pl 0))), (0, .ref (ad 0))]) (pc := 22) dX12_haveMet_22 rfl (by decide) rfl ?_
    refine g_iconst (v := nI 0) (pc := 23) dX12_haveMet_23 (by decide) ?_
    refine g_istore (lv' := [(4, .int (nI 0)), (3, .int (bI (mB (pl 0) (pl 1) 0))), (2, .int (nI (pl 1))), (1, .int (nI (pl 0))), (0, .ref (ad 0))]) (pc := 24) dX12_haveMet_24 (by decide) rfl ?_
    have lp26 : ∀ (d26 : Nat) (i : Nat), i + d26 = 5 → (i ≤ 4) → G l D Z b0 rmX12_haveMet RX12 cX12_haveMet 5 (gE (some .boolean) "haveMet") (gT D b0 Po rmX12_haveMet.cells rmX12_haveMet.slots) (wM Z ad hi th po ba en se (enc kd fg pl hr) im rd mi kp so sz el ki kf ti lo wa nu li to ot V) [(4, .int (nI i)), (3, .int (bI (mB (pl 0) (pl 1) i))), (0, .ref (ad 0)), (1, .int (nI (pl 0))), (2, .int (nI (pl 1)))] 0 0 26 [] := by
      intro d26
      induction d26 with
      | zero =>
        intro i hd26 hi
        exact absurd hd26 (by omega)
      | succ d26 ih26 =>
        intro i hd26 hi
        refine g_iload (q := 0) (pc := 26) dX12_haveMet_26 rfl ?_
        refine g_iconst (v := nI 4) (pc := 28) dX12_haveMet_28 (by decide) ?_
        refine g_icmp_ge_N (tgt := 58) (pc := 29) (by omega) (by omega) dX12_haveMet_29 (by decide) (fun c5 => ?_) (fun c5 => ?_)
        · -- T c5
          refine g_iload_n (q := 1) (pc := 58) dX12_haveMet_58 rfl rfl ?_
          exact g_zret (pc := 59) (nar_bI _) (by decide) (by decide) (by obtain rfl : i = 4 := (by omega); exact hPo) dX12_haveMet_59
        · -- F c5
          refine g_iload_n (q := 1) (pc := 32) dX12_haveMet_32 rfl rfl ?_
          refine g_if_ne_B (tgt := 46) (pc := 33) dX12_haveMet_33 (by decide) (fun c6 => ?_) (fun c6 => ?_)
          · -- T c6
            refine g_iconst (v := nI 1) (pc := 46) dX12_haveMet_46 (by decide) ?_
            refine g_goto (tgt := 51) (pc := 47) dX12_haveMet_47 (by decide) ?_
            refine g_top (x := nI 1) (y := bI (mB (pl 0) (pl 1) (i + 1))) (by first | exact mB_1 (by assumption) | exact mB_2 (ho.2 0 (by decide)) (ho.2 1 (by decide)) (by assumption) | exact mB_3 (ho.2 0 (by decide)) (ho.2 1 (by decide)) (by assumption) (by assumption)) ?_
            refine g_istore_n (lv' := [(3, .int (bI (mB (pl 0) (pl 1) (i + 1)))), (4, .int (nI i)), (0, .ref (ad 0)), (1, .int (nI (pl 0))), (2, .int (nI (pl 1)))]) (pc := 51) dX12_haveMet_51 rfl (by decide) rfl ?_
            refine g_iinc (q := 1) (lv' := [(4, .int (nI (i + 1))), (3, .int (bI (mB (pl 0) (pl 1) (i + 1)))), (0, .ref (ad 0)), (1, .int (nI (pl 0))), (2, .int (nI (pl 1)))]) (pc := 52) dX12_haveMet_52 rfl (nI_inc _ _) (by decide) rfl ?_
            refine g_goto (tgt := 26) (pc := 55) dX12_haveMet_55 (by decide) ?_
            refine G.locals (L' := [(4, .int (nI (i + 1))), (3, .int (bI (mB (pl 0) (pl 1) (i + 1)))), (0, .ref (ad 0)), (1, .int (nI (pl 0))), (2, .int (nI (pl 1)))]) [0, 1, 2, 3, 4] rfl ?_
            exact ih26 (i + 1) (by omega) (by omega)
          · -- F c6
            refine g_iload_n (q := 3) (pc := 36) dX12_haveMet_36 rfl rfl ?_
            refine g_iload (q := 0) (pc := 37) dX12_haveMet_37 rfl ?_
            refine e_callS (k2 := 0) (n2 := 0) (As := [.int (nI (pl 0)), .int (nI i)]) (rest := []) (pc := 39) (c_X12_beside hA (ho.2 0 (by decide)) (by omega)) mlX12_97 mX12_beside ⟨Nat.le_of_ble_eq_true rfl, Nat.le_of_ble_eq_true rfl⟩ rfl rfl (Nat.le_of_ble_eq_true rfl) dX12_haveMet_39 (by decide) rfl rfl ?_
            refine g_iload_n (q := 4) (pc := 42) dX12_haveMet_42 rfl rfl ?_
            refine g_icmp_ne (tgt := 50) (pc := 43) dX12_haveMet_43 (by decide) (fun c7 => ?_) (fun c7 => ?_)
            · -- T c7
              refine g_iconst (v := nI 0) (pc := 50) dX12_haveMet_50 (by decide) ?_
              refine g_top (x := nI 0) (y := bI (mB (pl 0) (pl 1) (i + 1))) (by first | exact mB_1 (by assumption) | exact mB_2 (ho.2 0 (by decide)) (ho.2 1 (by decide)) (by assumption) | exact mB_3 (ho.2 0 (by decide)) (ho.2 1 (by decide)) (by assumption) (by assumption)) ?_
              refine g_istore_n (lv' := [(3, .int (bI (mB (pl 0) (pl 1) (i + 1)))), (4, .int (nI i)), (0, .ref (ad 0)), (1, .int (nI (pl 0))), (2, .int (nI (pl 1)))]) (pc := 51) dX12_haveMet_51 rfl (by decide) rfl ?_
              refine g_iinc (q := 1) (lv' := [(4, .int (nI (i + 1))), (3, .int (bI (mB (pl 0) (pl 1) (i + 1)))), (0, .ref (ad 0)), (1, .int (nI (pl 0))), (2, .int (nI (pl 1)))]) (pc := 52) dX12_haveMet_52 rfl (nI_inc _ _) (by decide) rfl ?_
              refine g_goto (tgt := 26) (pc := 55) dX12_haveMet_55 (by decide) ?_
              refine G.locals (L' := [(4, .int (nI (i + 1))), (3, .int (bI (mB (pl 0) (pl 1) (i + 1)))), (0, .ref (ad 0)), (1, .int (nI (pl 0))), (2, .int (nI (pl 1)))]) [0, 1, 2, 3, 4] rfl ?_
              exact ih26 (i + 1) (by omega) (by omega)
            · -- F c7
              refine g_iconst (v := nI 1) (pc := 46) dX12_haveMet_46 (by decide) ?_
              refine g_goto (tgt := 51) (pc := 47) dX12_haveMet_47 (by decide) ?_
              refine g_top (x := nI 1) (y := bI (mB (pl 0) (pl 1) (i + 1))) (by first | exact mB_1 (by assumption) | exact mB_2 (ho.2 0 (by decide)) (ho.2 1 (by decide)) (by assumption) | exact mB_3 (ho.2 0 (by decide)) (ho.2 1 (by decide)) (by assumption) (by assumption)) ?_
              refine g_istore_n (lv' := [(3, .int (bI (mB (pl 0) (pl 1) (i + 1)))), (4, .int (nI i)), (0, .ref (ad 0)), (1, .int (nI (pl 0))), (2, .int (nI (pl 1)))]) (pc := 51) dX12_haveMet_51 rfl (by decide) rfl ?_
              refine g_iinc (q := 1) (lv' := [(4, .int (nI (i + 1))), (3, .int (bI (mB (pl 0) (pl 1) (i + 1)))), (0, .ref (ad 0)), (1, .int (nI (pl 0))), (2, .int (nI (pl 1)))]) (pc := 52) dX12_haveMet_52 rfl (nI_inc _ _) (by decide) rfl ?_
              refine g_goto (tgt := 26) (pc := 55) dX12_haveMet_55 (by decide) ?_
              refine G.locals (L' := [(4, .int (nI (i + 1))), (3, .int (bI (mB (pl 0) (pl 1) (i + 1)))), (0, .ref (ad 0)), (1, .int (nI (pl 0))), (2, .int (nI (pl 1)))]) [0, 1, 2, 3, 4] rfl ?_
              exact ih26 (i + 1) (by omega) (by omega)
    refine G.locals (L' := [(4, .int (nI 0)), (3, .int (bI (mB (pl 0) (pl 1) 0))), (0, .ref (ad 0)), (1, .int (nI (pl 0))), (2, .int (nI (pl 1)))]) [0, 1, 4, 3, 2] rfl ?_
    exact lp26 5 0 (by omega) (by decide)
def rmX12_thrown : Room := { frames := 0, cells := 0, slots := 0, locals := 0 }
theorem c_X12_thrown  (hA : aB b0 18 ad)  : KE l D Z b0 yX12_thrown cX12_thrown 1 (some .int) rmX12_thrown [.ref (ad 0)] (wM Z ad hi th po ba en se (enc kd fg pl hr) im rd mi kp so sz el ki kf ti lo wa nu li to ot V) (some (.int th)) (wM Z ad hi th po ba en se (enc kd fg pl hr) im rd mi kp so sz el ki kf ti lo wa nu li to ot V) := by
  refine KE.of (by decide) (Nat.le_of_ble_eq_true rfl) (fun Po hPo => ?_)
  refine G.locals (L' := [(0, .ref (ad 0))]) [0] rfl ?_
  refine g_aload_n (q := 0) (pc := 0) dX12_thrown_0 rfl rfl ?_
  refine gm_get_th (pc := 1) hA dX12_thrown_1 ?_
  exact g_iret (pc := 4) (by decide) (by decide) (hPo) dX12_thrown_4
end MS
