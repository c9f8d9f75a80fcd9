section MS
variable {l : Launch} {D : va_G} {Z : Nat → ClassId} {b0 : Nat} {cd : Nat → Nat} {ik : Int32} {ugA ugB ugC : Nat} {rA : Nat → Nat} {pA tA : Nat → Int32} {rB : Nat → Nat} {pB tB : Nat → Int32} {rC : Nat → Nat} {pC tC cX lX oX nX sX zX cY lY oY nY sY zY tm cl : Nat → Int32} {KR : Nat → Option Nat} {SO : Nat → Int32} {SZ : Nat → Nat} {EL : Nat → Nat → Int32} {V : HV} {kA fA kB fB kC fC9 : Nat → Nat}
theorem upF_upF {α : Type} (f : Nat → α) (k : Nat) (x y : α) : upF (upF f k x) k y = upF f k y := by
  funext j; unfold upF; split <;> rfl
theorem upd_upd (f : Nat → Int32) (k : Nat) (x y : Int32) : upd (upd f k x) k y = upd f k y := by
  funext j; unfold upd; split <;> rfl
/-- whether a span of a row lies in it -/
def spB (x y : Int32) (n : Nat) : Bool := decide (0 ≤ x.toInt ∧ 0 ≤ y.toInt ∧ x.toInt + y.toInt ≤ n)
theorem spB_sub {y : Int32} {n : Nat} (hn : n ≤ 100) (h : ¬ y < 0) : (nI n - y).toInt = (n : Int) - y.toInt := by
  rw [Int32.lt_iff_toInt_lt] at h
  have h0 : (0 : Int32).toInt = 0 := by decide
  have h1 := Int32.toInt_lt y
  rw [Int32.toInt_sub, nI_toInt (by omega), Int.bmod_eq_of_le_mul_two] <;> omega
theorem spB_1 {x y : Int32} {n : Nat} (hn : n ≤ 100) (h1 : ¬ x < 0) (h2 : ¬ y < 0) (h3 : ¬ nI n - y < x) : nI 1 = bI (spB x y n) := by
  have e := spB_sub hn h2
  rw [Int32.lt_iff_toInt_lt] at h1 h2 h3
  have h0 : (0 : Int32).toInt = 0 := by decide
  have : spB x y n = true := decide_eq_true (by omega)
  rw [this]; rfl
theorem spB_0a {x y : Int32} {n : Nat} (h1 : x < 0) : nI 0 = bI (spB x y n) := by
  rw [Int32.lt_iff_toInt_lt] at h1
  have h0 : (0 : Int32).toInt = 0 := by decide
  have : spB x y n = false := decide_eq_false (by omega)
  rw [this]; rfl
theorem spB_0b {x y : Int32} {n : Nat} (h1 : y < 0) : nI 0 = bI (spB x y n) := by
  rw [Int32.lt_iff_toInt_lt] at h1
  have h0 : (0 : Int32).toInt = 0 := by decide
  have : spB x y n = false := decide_eq_false (by omega)
  rw [this]; rfl
theorem spB_0c {x y : Int32} {n : Nat} (hn : n ≤ 100) (h2 : ¬ y < 0) (h3 : nI n - y < x) : nI 0 = bI (spB x y n) := by
  have e := spB_sub hn h2
  rw [Int32.lt_iff_toInt_lt] at h2 h3
  have : spB x y n = false := decide_eq_false (by omega)
  rw [this]; rfl
def zrF (f : Nat → Int32) (n : Nat) : Nat → Int32 := fun j => if j < n then nI 0 else f j
theorem zrF_0 (f : Nat → Int32) : zrF f 0 = f := by funext j; exact if_neg (Nat.not_lt_zero _)
theorem zrF_s {f h : Nat → Int32} {i : Nat} (e : ∀ j, h j = zrF f i j) : ∀ j, upd h i (nI 0) j = zrF f (i + 1) j := fun j => by
  by_cases q : j = i
  · subst q; rw [upd_eq]; exact (if_pos (Nat.lt_succ_self _)).symm
  · rw [upd_ne q, e j]; unfold zrF
    by_cases z : j < i
    · rw [if_pos z, if_pos (by omega)]
    · rw [if_neg z, if_neg (by omega)]
def rmX7_isEmpty : Room := { frames := 0, cells := 0, slots := 0, locals := 0 }
set_option maxHeartbeats 8000000 in
theorem c_X7_isEmpty_r {d a : Nat} (hA : oC b0 cd V) (hd : d < 8) (hk : KR d = some a) : KE l D Z b0 yX7_isEmpty cX7_isEmpty 1 (some .boolean) rmX7_isEmpty [.ref (cd (30 + d))] (wC Z cd ik ugA ugB ugC rA pA tA rB pB tB rC pC tC cX lX oX nX sX zX cY lY oY nY sY zY tm cl KR SO SZ EL V) (some (.int (nI 0))) (wC Z cd ik ugA ugB ugC rA pA tA rB pB tB rC pC tC cX lX oX nX sX zX cY lY oY nY sY zY tm cl KR SO SZ EL V) := by
  refine KE.of (by decide) (Nat.le_of_ble_eq_true rfl) (fun Po hPo => ?_)
  refine G.locals (L' := [(0, .ref (cd (30 + d)))]) [0] rfl ?_
  refine g_aload_n (q := 0) (pc := 0) dX7_isEmpty_0 rfl rfl ?_
  refine gc_get_S_rockR (pc := 1) (a := a) (d := d) hA (by omega) hk flX7_9 dX7_isEmpty_1 ?_
  refine g_ifnonnull (tgt := 19) (pc := 4) dX7_isEmpty_4 (by decide) ?_
  refine g_iconst (v := nI 0) (pc := 19) dX7_isEmpty_19 (by decide) ?_
  exact g_zret (pc := 20) (by decide) (by decide) (by decide) (hPo) dX7_isEmpty_20
set_option maxHeartbeats 8000000 in
theorem c_X7_isEmpty_e {d : Nat} (hA : oC b0 cd V) (hd : d < 8) (hk : KR d = none) (hs : SO d = (-1)) : KE l D Z b0 yX7_isEmpty cX7_isEmpty 1 (some .boolean) rmX7_isEmpty [.ref (cd (30 + d))] (wC Z cd ik ugA ugB ugC rA pA tA rB pB tB rC pC tC cX lX oX nX sX zX cY lY oY nY sY zY tm cl KR SO SZ EL V) (some (.int (nI 1))) (wC Z cd ik ugA ugB ugC rA pA tA rB pB tB rC pC tC cX lX oX nX sX zX cY lY oY nY sY zY tm cl KR SO SZ EL V) := by
  refine KE.of (by decide) (Nat.le_of_ble_eq_true rfl) (fun Po hPo => ?_)
  refine G.locals (L' := [(0, .ref (cd (30 + d)))]) [0] rfl ?_
  refine g_aload_n (q := 0) (pc := 0) dX7_isEmpty_0 rfl rfl ?_
  refine gc_get_S_rockN (pc := 1) (d := d) hA (by omega) hk flX7_9 dX7_isEmpty_1 ?_
  refine g_ifnonnullN (pc := 4) dX7_isEmpty_4 ?_
  refine g_aload_n (q := 0) (pc := 7) dX7_isEmpty_7 rfl rfl ?_
  refine gc_get_S_sortx (pc := 8) (x := (-1)) (d := d) hA (by omega) hs flX7_15 dX7_isEmpty_8 ?_
  refine g_iconst (v := (-1)) (pc := 11) dX7_isEmpty_11 (by decide) ?_
  refine g_icmp_ne (tgt := 19) (pc := 12) dX7_isEmpty_12 (by decide) (fun c1 => ?_) (fun c1 => ?_)
  · -- T c1
    exact absurd rfl c1
  · -- F c1
    refine g_iconst (v := nI 1) (pc := 15) dX7_isEmpty_15 (by decide) ?_
    refine g_goto (tgt := 20) (pc := 16) dX7_isEmpty_16 (by decide) ?_
    exact g_zret (pc := 20) (by decide) (by decide) (by decide) (hPo) dX7_isEmpty_20
set_option maxHeartbeats 8000000 in
theorem c_X7_isEmpty_s {d s : Nat} (hA : oC b0 cd V) (hd : d < 8) (hk : KR d = none) (hs : SO d = nI s) (h3 : s < 3) : KE l D Z b0 yX7_isEmpty cX7_isEmpty 1 (some .boolean) rmX7_isEmpty [.ref (cd (30 + d))] (wC Z cd ik ugA ugB ugC rA pA tA rB pB tB rC pC tC cX lX oX nX sX zX cY lY oY nY sY zY tm cl KR SO SZ EL V) (some (.int (nI 0))) (wC Z cd ik ugA ugB ugC rA pA tA rB pB tB rC pC tC cX lX oX nX sX zX cY lY oY nY sY zY tm cl KR SO SZ EL V) := by
  refine KE.of (by decide) (Nat.le_of_ble_eq_true rfl) (fun Po hPo => ?_)
  refine G.locals (L' := [(0, .ref (cd (30 + d)))]) [0] rfl ?_
  refine g_aload_n (q := 0) (pc := 0) dX7_isEmpty_0 rfl rfl ?_
  refine gc_get_S_rockN (pc := 1) (d := d) hA (by omega) hk flX7_9 dX7_isEmpty_1 ?_
  refine g_ifnonnullN (pc := 4) dX7_isEmpty_4 ?_
  refine g_aload_n (q := 0) (pc := 7) dX7_isEmpty_7 rfl rfl ?_
  refine gc_get_S_sortx (pc := 8) (x := nI s) (d := d) hA (by omega) hs flX7_15 dX7_isEmpty_8 ?_
  refine g_iconst (v := (-1)) (pc := 11) dX7_isEmpty_11 (by decide) ?_
  refine g_icmp_ne (tgt := 19) (pc := 12) dX7_isEmpty_12 (by decide) (fun c1 => ?_) (fun c1 => ?_)
  · -- T c1
    refine g_iconst (v := nI 0) (pc := 19) dX7_isEmpty_19 (by decide) ?_
    exact g_zret (pc := 20) (by decide) (by decide) (by decide) (hPo) dX7_isEmpty_20
  · -- F c1
    exact absurd c1 (nI_m1 (by omega))
def rmX7_clear : Room := { frames := 0, cells := 0, slots := 0, locals := 0 }
set_option maxHeartbeats 8000000 in
theorem c_X7_clear {d : Nat} (hA : oC b0 cd V) (hd : d < 8) : KE l D Z b0 yX7_clear cX7_clear 1 none rmX7_clear [.ref (cd (30 + d))] (wC Z cd ik ugA ugB ugC rA pA tA rB pB tB rC pC tC cX lX oX nX sX zX cY lY oY nY sY zY tm cl KR SO SZ EL V) none (wC Z cd ik ugA ugB ugC rA pA tA rB pB tB rC pC tC cX lX oX nX sX zX cY lY oY nY sY zY tm cl (upF KR d none) (upd SO d (-1)) (updN SZ d 0) EL V) := by
  refine KE.of (by decide) (Nat.le_of_ble_eq_true rfl) (fun Po hPo => ?_)
  refine G.locals (L' := [(0, .ref (cd (30 + d)))]) [0] rfl ?_
  refine g_aload_n (q := 0) (pc := 0) dX7_clear_0 rfl rfl ?_
  refine g_null (pc := 1) dX7_clear_1 ?_
  refine gc_put_S_rockN (pc := 2) (d := d) hA (by omega) flX7_9 dX7_clear_2 ?_
  refine g_aload_n (q := 0) (pc := 5) dX7_clear_5 rfl rfl ?_
  refine g_iconst (v := (-1)) (pc := 6) dX7_clear_6 (by decide) ?_
  refine gc_put_S_sort (pc := 7) (x := (-1)) (d := d) hA (by omega) flX7_15 dX7_clear_7 ?_
  refine g_aload_n (q := 0) (pc := 10) dX7_clear_10 rfl rfl ?_
  refine g_iconst (v := nI 0) (pc := 11) dX7_clear_11 (by decide) ?_
  refine gc_put_S_size (pc := 12) (x := 0) (d := d) hA (by omega) flX7_19 dX7_clear_12 ?_
  exact g_vret (pc := 15) (by decide) (by decide) (hPo) dX7_clear_15
def rmX7_holdRock : Room := { frames := 1, cells := 0, slots := 0, locals := 20 }
set_option maxHeartbeats 8000000 in
theorem c_X7_holdRock {d a : Nat} (hA : oC b0 cd V) (hd : d < 8) : KE l D Z b0 yX7_holdRock cX7_holdRock 2 none rmX7_holdRock [.ref (cd (30 + d)), .ref a] (wC Z cd ik ugA ugB ugC rA pA tA rB pB tB rC pC tC cX lX oX nX sX zX cY lY oY nY sY zY tm cl KR SO SZ EL V) none (wC Z cd ik ugA ugB ugC rA pA tA rB pB tB rC pC tC cX lX oX nX sX zX cY lY oY nY sY zY tm cl (upF KR d (some a)) (upd SO d (-1)) (updN SZ d 0) EL V) := by
  refine KE.of (by decide) (Nat.le_of_ble_eq_true rfl) (fun Po hPo => ?_)
  refine G.locals (L' := [(0, .ref (cd (30 + d))), (1, .ref a)]) [0, 1] rfl ?_
  refine g_aload_n (q := 0) (pc := 0) dX7_holdRock_0 rfl rfl ?_
  refine e_callVv (k2 := 0) (n2 := 0) (As := []) (rest := []) (pc := 1) (wC_sh hA (by omega)) rfl (c_X7_clear hA (by omega)) mlX7_26 selX7_X7_clear_X7_clear mX7_clear ⟨Nat.le_of_ble_eq_true rfl, Nat.le_of_ble_eq_true rfl⟩ rfl rfl (Nat.le_of_ble_eq_true rfl) dX7_holdRock_1 (by decide) rfl rfl ?_
  refine g_aload_n (q := 0) (pc := 4) dX7_holdRock_4 rfl rfl ?_
  refine g_aload_n (q := 1) (pc := 5) dX7_holdRock_5 rfl rfl ?_
  refine gc_put_S_rockR (pc := 6) (a := a) (d := d) hA (by omega) flX7_9 dX7_holdRock_6 ?_
  exact g_vret (pc := 9) (by decide) (by decide) (by rw [upF_upF]; exact hPo) dX7_holdRock_9
def rmX7_holdRow : Room := { frames := 1, cells := 0, slots := 0, locals := 20 }
set_option maxHeartbeats 8000000 in
theorem c_X7_holdRow {d n : Nat} {x : Int32} (hA : oC b0 cd V) (hd : d < 8) (hn : n ≤ 100) : KE l D Z b0 yX7_holdRow cX7_holdRow 4 none rmX7_holdRow [.ref (cd (30 + d)), .int x, .int (nI n)] (wC Z cd ik ugA ugB ugC rA pA tA rB pB tB rC pC tC cX lX oX nX sX zX cY lY oY nY sY zY tm cl KR SO SZ EL V) none (wC Z cd ik ugA ugB ugC rA pA tA rB pB tB rC pC tC cX lX oX nX sX zX cY lY oY nY sY zY tm cl (upF KR d none) (upd SO d x) (updN SZ d n) (upF EL d (zrF (EL d) n)) V) := by
  refine KE.of (by decide) (Nat.le_of_ble_eq_true rfl) (fun Po hPo => ?_)
  refine G.locals (L' := [(0, .ref (cd (30 + d))), (1, .int x), (2, .int (nI n))]) [0, 1, 2] rfl ?_
  refine g_aload_n (q := 0) (pc := 0) dX7_holdRow_0 rfl rfl ?_
  refine e_callVv (k2 := 0) (n2 := 0) (As := []) (rest := []) (pc := 1) (wC_sh hA (by omega)) rfl (c_X7_clear hA (by omega)) mlX7_26 selX7_X7_clear_X7_clear mX7_clear ⟨Nat.le_of_ble_eq_true rfl, Nat.le_of_ble_eq_true rfl⟩ rfl rfl (Nat.le_of_ble_eq_true rfl) dX7_holdRow_1 (by decide) rfl rfl ?_
  refine g_aload_n (q := 0) (pc := 4) dX7_holdRow_4 rfl rfl ?_
  refine g_iload_n (q := 1) (pc := 5) dX7_holdRow_5 rfl rfl ?_
  refine gc_put_S_sort (pc := 6) (x := x) (d := d) hA (by omega) flX7_15 dX7_holdRow_6 ?_
  refine g_aload_n (q := 0) (pc := 9) dX7_holdRow_9 rfl rfl ?_
  refine g_iload_n (q := 2) (pc := 10) dX7_holdRow_10 rfl rfl ?_
  refine gc_put_S_size (pc := 11) (x := n) (d := d) hA (by omega) flX7_19 dX7_holdRow_11 ?_
  refine g_iconst (v := nI 0) (pc := 14) dX7_holdRow_14 (by decide) ?_
  refine g_istore_n (lv' := [(3, .int (nI 0)), (0, .ref (cd (30 + d))), (1, .int x), (2, .int (nI n))]) (pc := 15) dX7_holdRow_15 rfl (by decide) rfl ?_
  refine G.veq (V' := wC Z cd ik ugA ugB ugC rA pA tA rB pB tB rC pC tC cX lX oX nX sX zX cY lY oY nY sY zY tm cl (upF KR d none) (upd (upd SO d (-1)) d x) (updN (updN SZ d 0) d n) (upF EL d (EL d)) V) (by rw [show upF EL d (EL d) = EL from by funext j; unfold upF; split; (rename_i h; rw [h]); rfl]) ?_
  have lp16 : ∀ (d16 : Nat) (i : Nat) (hh : Nat → Int32), i + d16 = n + 1 → (i ≤ n) → (∀ j, hh j = zrF (EL d) i j) → G l D Z b0 rmX7_holdRow RX7 cX7_holdRow 4 (gE none "holdRow") (gT D b0 Po rmX7_holdRow.cells rmX7_holdRow.slots) (wC Z cd ik ugA ugB ugC rA pA tA rB pB tB rC pC tC cX lX oX nX sX zX cY lY oY nY sY zY tm cl (upF KR d none) (upd (upd SO d (-1)) d x) (updN (updN SZ d 0) d n) (upF EL d hh) V) [(3, .int (nI i)), (0, .ref (cd (30 + d))), (1, .int x), (2, .int (nI n))] 0 0 16 [] := by
    intro d16
    induction d16 with
    | zero =>
      intro i hh hd16 hiN heq
      exact absurd hd16 (by omega)
    | succ d16 ih16 =>
      intro i hh hd16 hiN heq
      refine g_iload_n (q := 0) (pc := 16) dX7_holdRow_16 rfl rfl ?_
      refine g_iload_n (q := 3) (pc := 17) dX7_holdRow_17 rfl rfl ?_
      refine g_icmp_ge_N (tgt := 40) (pc := 18) (by omega) (by omega) dX7_holdRow_18 (by decide) (fun c1 => ?_) (fun c1 => ?_)
      · -- T c1
        exact g_vret (pc := 40) (by decide) (by decide) (by rw [upd_upd, updN_updN]; have e9 : hh = zrF (EL d) n := (by funext j; have := heq j; obtain rfl : i = n := (by omega); exact this); rw [e9]; exact hPo) dX7_holdRow_40
      · -- F c1
        refine g_iload_n (q := 0) (pc := 21) dX7_holdRow_21 rfl rfl ?_
        refine g_bipush (v := nI 100) (pc := 22) dX7_holdRow_22 (by decide) ?_
        refine g_icmp_ge_N (tgt := 40) (pc := 24) (by omega) (by omega) dX7_holdRow_24 (by decide) (fun c2 => ?_) (fun c2 => ?_)
        · -- T c2
          exfalso; omega
        · -- F c2
          refine g_aload_n (q := 1) (pc := 27) dX7_holdRow_27 rfl rfl ?_
          refine gc_get_S_elements (pc := 28) (d := d) hA (by omega) flX7_22 dX7_holdRow_28 ?_
          refine g_iload_n (q := 0) (pc := 31) dX7_holdRow_31 rfl rfl ?_
          refine g_iconst (v := nI 0) (pc := 32) dX7_holdRow_32 (by decide) ?_
          refine gc_st_EL (pc := 33) (d := d) (j := i) (f' := upF EL d (upd hh i (nI 0))) hA (by omega) (by omega) (by rw [upF_eq, upF_upF]) dX7_holdRow_33 ?_
          refine g_iinc (q := 0) (lv' := [(3, .int (nI (i + 1))), (0, .ref (cd (30 + d))), (1, .int x), (2, .int (nI n))]) (pc := 34) dX7_holdRow_34 rfl (nI_inc _ _) (by decide) rfl ?_
          refine g_goto (tgt := 16) (pc := 37) dX7_holdRow_37 (by decide) ?_
          refine G.locals (L' := [(3, .int (nI (i + 1))), (0, .ref (cd (30 + d))), (1, .int x), (2, .int (nI n))]) [0, 1, 2, 3] rfl ?_
          exact ih16 (i + 1) (upd hh i (nI 0)) (by omega) (by omega) (zrF_s heq)
  refine G.locals (L' := [(3, .int (nI 0)), (0, .ref (cd (30 + d))), (1, .int x), (2, .int (nI n))]) [0, 1, 2, 3] rfl ?_
  exact lp16 (n + 1) 0 (EL d) (by omega) (by omega) (fun j => by rw [zrF_0])
def rmX7_spans : Room := { frames := 0, cells := 0, slots := 0, locals := 0 }
set_option maxHeartbeats 8000000 in
theorem c_X7_spans {d : Nat} {x y : Int32} (hA : oC b0 cd V) (hd : d < 8) (hz : SZ d ≤ 100) : KE l D Z b0 yX7_spans cX7_spans 3 (some .boolean) rmX7_spans [.ref (cd (30 + d)), .int x, .int y] (wC Z cd ik ugA ugB ugC rA pA tA rB pB tB rC pC tC cX lX oX nX sX zX cY lY oY nY sY zY tm cl KR SO SZ EL V) (some (.int (bI (spB x y (SZ d))))) (wC Z cd ik ugA ugB ugC rA pA tA rB pB tB rC pC tC cX lX oX nX sX zX cY lY oY nY sY zY tm cl KR SO SZ EL V) := by
  refine KE.of (by decide) (Nat.le_of_ble_eq_true rfl) (fun Po hPo => ?_)
  refine G.locals (L' := [(0, .ref (cd (30 + d))), (1, .int x), (2, .int y)]) [0, 1, 2] rfl ?_
  refine g_iload_n (q := 1) (pc := 0) dX7_spans_0 rfl rfl ?_
  refine g_if_lt (tgt := 22) (pc := 1) dX7_spans_1 (by decide) (fun c1 => ?_) (fun c1 => ?_)
  · -- T c1
    refine g_iconst (v := nI 0) (pc := 22) dX7_spans_22 (by decide) ?_
    refine g_top (x := nI 0) (y := bI (spB x y (SZ d))) (by first | exact spB_1 hz (by assumption) (by assumption) (by assumption) | exact spB_0a (by assumption) | exact spB_0b (by assumption) | exact spB_0c hz (by assumption) (by assumption)) ?_
    exact g_zret (pc := 23) (nar_bI _) (by decide) (by decide) (hPo) dX7_spans_23
  · -- F c1
    refine g_iload_n (q := 2) (pc := 4) dX7_spans_4 rfl rfl ?_
    refine g_if_lt (tgt := 22) (pc := 5) dX7_spans_5 (by decide) (fun c2 => ?_) (fun c2 => ?_)
    · -- T c2
      refine g_iconst (v := nI 0) (pc := 22) dX7_spans_22 (by decide) ?_
      refine g_top (x := nI 0) (y := bI (spB x y (SZ d))) (by first | exact spB_1 hz (by assumption) (by assumption) (by assumption) | exact spB_0a (by assumption) | exact spB_0b (by assumption) | exact spB_0c hz (by assumption) (by assumption)) ?_
      exact g_zret (pc := 23) (nar_bI _) (by decide) (by decide) (hPo) dX7_spans_23
    · -- F c2
      refine g_iload_n (q := 1) (pc := 8) dX7_spans_8 rfl rfl ?_
      refine g_aload_n (q := 0) (pc := 9) dX7_spans_9 rfl rfl ?_
      refine gc_get_S_size (pc := 10) (d := d) hA (by omega) flX7_19 dX7_spans_10 ?_
      refine g_iload_n (q := 2) (pc := 13) dX7_spans_13 rfl rfl ?_
      refine g_isub (pc := 14) dX7_spans_14 ?_
      refine g_icmp_gt (tgt := 22) (pc := 15) dX7_spans_15 (by decide) (fun c3 => ?_) (fun c3 => ?_)
      · -- T c3
        refine g_iconst (v := nI 0) (pc := 22) dX7_spans_22 (by decide) ?_
        refine g_top (x := nI 0) (y := bI (spB x y (SZ d))) (by first | exact spB_1 hz (by assumption) (by assumption) (by assumption) | exact spB_0a (by assumption) | exact spB_0b (by assumption) | exact spB_0c hz (by assumption) (by assumption)) ?_
        exact g_zret (pc := 23) (nar_bI _) (by decide) (by decide) (hPo) dX7_spans_23
      · -- F c3
        refine g_iconst (v := nI 1) (pc := 18) dX7_spans_18 (by decide) ?_
        refine g_goto (tgt := 23) (pc := 19) dX7_spans_19 (by decide) ?_
        refine g_top (x := nI 1) (y := bI (spB x y (SZ d))) (by first | exact spB_1 hz (by assumption) (by assumption) (by assumption) | exact spB_0a (by assumption) | exact spB_0b (by assumption) | exact spB_0c hz (by assumption) (by assumption)) ?_
        exact g_zret (pc := 23) (nar_bI _) (by decide) (by decide) (hPo) dX7_spans_23
def rmX7_set : Room := { frames := 0, cells := 0, slots := 0, locals := 0 }
set_option maxHeartbeats 8000000 in
theorem c_X7_set_0 {d i : Nat} {v : Int32} (hA : oC b0 cd V) (hd : d < 8) (hi1 : i < 100) (hs : SO d = nI 0) : KE l D Z b0 yX7_set cX7_set 3 none rmX7_set [.ref (cd (30 + d)), .int (nI i), .int v] (wC Z cd ik ugA ugB ugC rA pA tA rB pB tB rC pC tC cX lX oX nX sX zX cY lY oY nY sY zY tm cl KR SO SZ EL V) none (wC Z cd ik ugA ugB ugC rA pA tA rB pB tB rC pC tC cX lX oX nX sX zX cY lY oY nY sY zY tm cl KR SO SZ (upF EL d (upd (EL d) i (narS 0 v))) V) := by
  refine KE.of (by decide) (Nat.le_of_ble_eq_true rfl) (fun Po hPo => ?_)
  refine G.locals (L' := [(0, .ref (cd (30 + d))), (1, .int (nI i)), (2, .int v)]) [0, 1, 2] rfl ?_
  refine g_aload_n (q := 0) (pc := 0) dX7_set_0 rfl rfl ?_
  refine gc_get_S_sortx (pc := 1) (x := nI 0) (d := d) hA (by omega) hs flX7_15 dX7_set_1 ?_
  refine g_if_ne (tgt := 18) (pc := 4) dX7_set_4 (by decide) (fun c0 => absurd c0 (by decide)) (fun _ => ?_)
  refine g_aload_n (q := 0) (pc := 7) dX7_set_7 rfl rfl ?_
  refine gc_get_S_elements (pc := 8) (d := d) hA (by omega) flX7_22 dX7_set_8 ?_
  refine g_iload_n (q := 1) (pc := 11) dX7_set_11 rfl rfl ?_
  refine g_iload_n (q := 2) (pc := 12) dX7_set_12 rfl rfl ?_
  refine g_i2b (v := (v).toInt8.toInt32) (pc := 13) dX7_set_13 rfl ?_
  refine gc_st_EL (pc := 14) (d := d) (j := i) (f' := upF EL d (upd (EL d) i ((v).toInt8.toInt32))) hA (by omega) (by omega) rfl dX7_set_14 ?_
  refine g_goto (tgt := 44) (pc := 15) dX7_set_15 (by decide) ?_
  exact g_vret (pc := 44) (by decide) (by decide) (hPo) dX7_set_44
set_option maxHeartbeats 8000000 in
theorem c_X7_set_1 {d i : Nat} {v : Int32} (hA : oC b0 cd V) (hd : d < 8) (hi1 : i < 100) (hs : SO d = nI 1) : KE l D Z b0 yX7_set cX7_set 3 none rmX7_set [.ref (cd (30 + d)), .int (nI i), .int v] (wC Z cd ik ugA ugB ugC rA pA tA rB pB tB rC pC tC cX lX oX nX sX zX cY lY oY nY sY zY tm cl KR SO SZ EL V) none (wC Z cd ik ugA ugB ugC rA pA tA rB pB tB rC pC tC cX lX oX nX sX zX cY lY oY nY sY zY tm cl KR SO SZ (upF EL d (upd (EL d) i (narS 1 v))) V) := by
  refine KE.of (by decide) (Nat.le_of_ble_eq_true rfl) (fun Po hPo => ?_)
  refine G.locals (L' := [(0, .ref (cd (30 + d))), (1, .int (nI i)), (2, .int v)]) [0, 1, 2] rfl ?_
  refine g_aload_n (q := 0) (pc := 0) dX7_set_0 rfl rfl ?_
  refine gc_get_S_sortx (pc := 1) (x := nI 1) (d := d) hA (by omega) hs flX7_15 dX7_set_1 ?_
  refine g_if_ne (tgt := 18) (pc := 4) dX7_set_4 (by decide) (fun _ => ?_) (fun c0 => absurd c0 (by decide))
  refine g_aload_n (q := 0) (pc := 18) dX7_set_18 rfl rfl ?_
  refine gc_get_S_sortx (pc := 19) (x := nI 1) (d := d) hA (by omega) hs flX7_15 dX7_set_19 ?_
  refine g_iconst (v := nI 1) (pc := 22) dX7_set_22 (by decide) ?_
  refine g_icmp_ne_N (tgt := 37) (pc := 23) (by decide) (by decide) dX7_set_23 (by decide) (fun c0 => absurd c0 (by decide)) (fun _ => ?_)
  refine g_aload_n (q := 0) (pc := 26) dX7_set_26 rfl rfl ?_
  refine gc_get_S_elements (pc := 27) (d := d) hA (by omega) flX7_22 dX7_set_27 ?_
  refine g_iload_n (q := 1) (pc := 30) dX7_set_30 rfl rfl ?_
  refine g_iload_n (q := 2) (pc := 31) dX7_set_31 rfl rfl ?_
  refine g_i2s (v := (v).toInt16.toInt32) (pc := 32) dX7_set_32 rfl ?_
  refine gc_st_EL (pc := 33) (d := d) (j := i) (f' := upF EL d (upd (EL d) i ((v).toInt16.toInt32))) hA (by omega) (by omega) rfl dX7_set_33 ?_
  refine g_goto (tgt := 44) (pc := 34) dX7_set_34 (by decide) ?_
  exact g_vret (pc := 44) (by decide) (by decide) (hPo) dX7_set_44
set_option maxHeartbeats 8000000 in
theorem c_X7_set_2 {d i : Nat} {v : Int32} (hA : oC b0 cd V) (hd : d < 8) (hi1 : i < 100) (hs : SO d = nI 2) : KE l D Z b0 yX7_set cX7_set 3 none rmX7_set [.ref (cd (30 + d)), .int (nI i), .int v] (wC Z cd ik ugA ugB ugC rA pA tA rB pB tB rC pC tC cX lX oX nX sX zX cY lY oY nY sY zY tm cl KR SO SZ EL V) none (wC Z cd ik ugA ugB ugC rA pA tA rB pB tB rC pC tC cX lX oX nX sX zX cY lY oY nY sY zY tm cl KR SO SZ (upF EL d (upd (EL d) i (narS 2 v))) V) := by
  refine KE.of (by decide) (Nat.le_of_ble_eq_true rfl) (fun Po hPo => ?_)
  refine G.locals (L' := [(0, .ref (cd (30 + d))), (1, .int (nI i)), (2, .int v)]) [0, 1, 2] rfl ?_
  refine g_aload_n (q := 0) (pc := 0) dX7_set_0 rfl rfl ?_
  refine gc_get_S_sortx (pc := 1) (x := nI 2) (d := d) hA (by omega) hs flX7_15 dX7_set_1 ?_
  refine g_if_ne (tgt := 18) (pc := 4) dX7_set_4 (by decide) (fun _ => ?_) (fun c0 => absurd c0 (by decide))
  refine g_aload_n (q := 0) (pc := 18) dX7_set_18 rfl rfl ?_
  refine gc_get_S_sortx (pc := 19) (x := nI 2) (d := d) hA (by omega) hs flX7_15 dX7_set_19 ?_
  refine g_iconst (v := nI 1) (pc := 22) dX7_set_22 (by decide) ?_
  refine g_icmp_ne_N (tgt := 37) (pc := 23) (by decide) (by decide) dX7_set_23 (by decide) (fun _ => ?_) (fun c0 => absurd c0 (by decide))
  refine g_aload_n (q := 0) (pc := 37) dX7_set_37 rfl rfl ?_
  refine gc_get_S_elements (pc := 38) (d := d) hA (by omega) flX7_22 dX7_set_38 ?_
  refine g_iload_n (q := 1) (pc := 41) dX7_set_41 rfl rfl ?_
  refine g_iload_n (q := 2) (pc := 42) dX7_set_42 rfl rfl ?_
  refine gc_st_EL (pc := 43) (d := d) (j := i) (f' := upF EL d (upd (EL d) i v)) hA (by omega) (by omega) rfl dX7_set_43 ?_
  exact g_vret (pc := 44) (by decide) (by decide) (hPo) dX7_set_44
def rmX7_at : Room := { frames := 1, cells := 0, slots := 0, locals := 21 }
set_option maxHeartbeats 8000000 in
theorem c_X7_at_s {d i : Nat} {x : Int32} (hA : oC b0 cd V) (hd : d < 8) (hi1 : i < SZ d) (hz : SZ d ≤ 100) (hx : EL d i = x) : KE l D Z b0 yX7_at cX7_at 2 (some .int) rmX7_at [.ref (cd (30 + d)), .int (nI i)] (wC Z cd ik ugA ugB ugC rA pA tA rB pB tB rC pC tC cX lX oX nX sX zX cY lY oY nY sY zY tm cl KR SO SZ EL V) (some (.int x)) (wC Z cd ik ugA ugB ugC rA pA tA rB pB tB rC pC tC cX lX oX nX sX zX cY lY oY nY sY zY tm cl KR SO SZ EL V) := by
  refine KE.of (by decide) (Nat.le_of_ble_eq_true rfl) (fun Po hPo => ?_)
  refine G.locals (L' := [(0, .ref (cd (30 + d))), (1, .int (nI i))]) [0, 1] rfl ?_
  refine g_iload_n (q := 1) (pc := 0) dX7_at_0 rfl rfl ?_
  refine g_aload_n (q := 0) (pc := 1) dX7_at_1 rfl rfl ?_
  refine gc_get_S_size (pc := 2) (d := d) hA (by omega) flX7_19 dX7_at_2 ?_
  refine e_callSN (k2 := 0) (n2 := 0) (As := [.int (nI i), .int (nI (SZ d))]) (rest := []) (pc := 5) (host := RX11) (c_X11_isBelowN (by omega) (by omega)) (fun _ h => h.2.2.2.1) mX11_isBelow ⟨Nat.le_of_ble_eq_true rfl, Nat.le_of_ble_eq_true rfl⟩ rfl rfl (Nat.le_of_ble_eq_true rfl) dX7_at_5 (by decide) rfl rfl ?_
  refine g_if_eq_B (tgt := 20) (pc := 8) dX7_at_8 (by decide) (fun c1 => ?_) (fun c1 => ?_)
  · -- T c1
    exact absurd hi1 (of_decide_eq_false c1)
  · -- F c1
    have c1 := of_decide_eq_true c1
    refine g_aload_n (q := 0) (pc := 11) dX7_at_11 rfl rfl ?_
    refine gc_get_S_elements (pc := 12) (d := d) hA (by omega) flX7_22 dX7_at_12 ?_
    refine g_iload_n (q := 1) (pc := 15) dX7_at_15 rfl rfl ?_
    refine gc_ld_EL (pc := 16) (d := d) (j := i) (x := x) hA (by omega) (by omega) hx dX7_at_16 ?_
    refine g_goto (tgt := 21) (pc := 17) dX7_at_17 (by decide) ?_
    exact g_iret (pc := 21) (by decide) (by decide) (hPo) dX7_at_21
set_option maxHeartbeats 8000000 in
theorem c_X7_at_n {d : Nat} {j : Int32} (hA : oC b0 cd V) (hd : d < 8) (hi1 : inR j (SZ d) = false) (hz : SZ d ≤ 100) : KE l D Z b0 yX7_at cX7_at 2 (some .int) rmX7_at [.ref (cd (30 + d)), .int j] (wC Z cd ik ugA ugB ugC rA pA tA rB pB tB rC pC tC cX lX oX nX sX zX cY lY oY nY sY zY tm cl KR SO SZ EL V) (some (.int (-1))) (wC Z cd ik ugA ugB ugC rA pA tA rB pB tB rC pC tC cX lX oX nX sX zX cY lY oY nY sY zY tm cl KR SO SZ EL V) := by
  refine KE.of (by decide) (Nat.le_of_ble_eq_true rfl) (fun Po hPo => ?_)
  refine G.locals (L' := [(0, .ref (cd (30 + d))), (1, .int j)]) [0, 1] rfl ?_
  refine g_iload_n (q := 1) (pc := 0) dX7_at_0 rfl rfl ?_
  refine g_aload_n (q := 0) (pc := 1) dX7_at_1 rfl rfl ?_
  refine gc_get_S_size (pc := 2) (d := d) hA (by omega) flX7_19 dX7_at_2 ?_
  refine e_callSN (k2 := 0) (n2 := 0) (As := [.int j, .int (nI (SZ d))]) (rest := []) (pc := 5) (host := RX11) (c_X11_isBelow (by omega)) (fun _ h => h.2.2.2.1) mX11_isBelow ⟨Nat.le_of_ble_eq_true rfl, Nat.le_of_ble_eq_true rfl⟩ rfl rfl (Nat.le_of_ble_eq_true rfl) dX7_at_5 (by decide) rfl rfl ?_
  refine g_if_eq_B (tgt := 20) (pc := 8) dX7_at_8 (by decide) (fun c1 => ?_) (fun c1 => ?_)
  · -- T c1
    refine g_iconst (v := (-1)) (pc := 20) dX7_at_20 (by decide) ?_
    exact g_iret (pc := 21) (by decide) (by decide) (hPo) dX7_at_21
  · -- F c1
    rw [hi1] at c1; cases c1
def rmX7_digit : Room := { frames := 2, cells := 0, slots := 0, locals := 42 }
set_option maxHeartbeats 8000000 in
theorem c_X7_digit_s {d i : Nat} {x : Int32} (hA : oC b0 cd V) (hd : d < 8) (hi1 : i < SZ d) (hz : SZ d ≤ 100) (hx : EL d i = x) : KE l D Z b0 yX7_digit cX7_digit 2 (some .int) rmX7_digit [.ref (cd (30 + d)), .int (nI i)] (wC Z cd ik ugA ugB ugC rA pA tA rB pB tB rC pC tC cX lX oX nX sX zX cY lY oY nY sY zY tm cl KR SO SZ EL V) (some (.int (x - nI 48))) (wC Z cd ik ugA ugB ugC rA pA tA rB pB tB rC pC tC cX lX oX nX sX zX cY lY oY nY sY zY tm cl KR SO SZ EL V) := by
  refine KE.of (by decide) (Nat.le_of_ble_eq_true rfl) (fun Po hPo => ?_)
  refine G.locals (L' := [(0, .ref (cd (30 + d))), (1, .int (nI i))]) [0, 1] rfl ?_
  refine g_aload_n (q := 0) (pc := 0) dX7_digit_0 rfl rfl ?_
  refine g_iload_n (q := 1) (pc := 1) dX7_digit_1 rfl rfl ?_
  refine e_callV (k2 := 0) (n2 := 0) (As := [.int (nI i)]) (rest := []) (pc := 2) (wC_sh hA (by omega)) rfl (c_X7_at_s (x := x) hA (by omega) hi1 hz hx) mlX7_33 selX7_X7_at_X7_at mX7_at ⟨Nat.le_of_ble_eq_true rfl, Nat.le_of_ble_eq_true rfl⟩ rfl rfl (Nat.le_of_ble_eq_true rfl) dX7_digit_2 (by decide) rfl rfl ?_
  refine g_bipush (v := nI 48) (pc := 5) dX7_digit_5 (by decide) ?_
  refine g_isub (pc := 7) dX7_digit_7 ?_
  exact g_iret (pc := 8) (by decide) (by decide) (hPo) dX7_digit_8
set_option maxHeartbeats 8000000 in
theorem c_X7_digit_n {d : Nat} {j : Int32} (hA : oC b0 cd V) (hd : d < 8) (hi1 : inR j (SZ d) = false) (hz : SZ d ≤ 100) : KE l D Z b0 yX7_digit cX7_digit 2 (some .int) rmX7_digit [.ref (cd (30 + d)), .int j] (wC Z cd ik ugA ugB ugC rA pA tA rB pB tB rC pC tC cX lX oX nX sX zX cY lY oY nY sY zY tm cl KR SO SZ EL V) (some (.int ((-1) - nI 48))) (wC Z cd ik ugA ugB ugC rA pA tA rB pB tB rC pC tC cX lX oX nX sX zX cY lY oY nY sY zY tm cl KR SO SZ EL V) := by
  refine KE.of (by decide) (Nat.le_of_ble_eq_true rfl) (fun Po hPo => ?_)
  refine G.locals (L' := [(0, .ref (cd (30 + d))), (1, .int j)]) [0, 1] rfl ?_
  refine g_aload_n (q := 0) (pc := 0) dX7_digit_0 rfl rfl ?_
  refine g_iload_n (q := 1) (pc := 1) dX7_digit_1 rfl rfl ?_
  refine e_callV (k2 := 0) (n2 := 0) (As := [.int j]) (rest := []) (pc := 2) (wC_sh hA (by omega)) rfl (c_X7_at_n hA (by omega) hi1 hz) mlX7_33 selX7_X7_at_X7_at mX7_at ⟨Nat.le_of_ble_eq_true rfl, Nat.le_of_ble_eq_true rfl⟩ rfl rfl (Nat.le_of_ble_eq_true rfl) dX7_digit_2 (by decide) rfl rfl ?_
  refine g_bipush (v := nI 48) (pc := 5) dX7_digit_5 (by decide) ?_
  refine g_isub (pc := 7) dX7_digit_7 ?_
  exact g_iret (pc := 8) (by decide) (by decide) (hPo) dX7_digit_8
end MS
