theorem Sh.clear {V : HV} {KR : Nat → Option Nat} {SO : Nat → Int32} {SZ : Nat → Nat} {EL : Nat → Nat → Int32} {kp so sz : Nat → Nat} {el ki kf : Nat → Int32} (h : Sh V KR SO SZ EL kp so sz el ki kf) (d : Nat) (x y : Int32) : Sh V (upF KR d none) (upd SO d (-1)) (updN SZ d 0) EL (updN kp d 0) so sz el (upd ki d x) (upd kf d y) := fun c hc => by
  by_cases e : c = d
  · subst e; rw [upF_eq, upd_eq, updN_eq]; exact Or.inl ⟨rfl, rfl, rfl⟩
  · rw [upF_ne e, upd_ne e, updN_ne e, updN_ne e, upd_ne e, upd_ne e]; exact h c hc
theorem Sh.rock {V : HV} {KR : Nat → Option Nat} {SO : Nat → Int32} {SZ : Nat → Nat} {EL : Nat → Nat → Int32} {kp so sz : Nat → Nat} {el ki kf : Nat → Int32} (h : Sh V KR SO SZ EL kp so sz el ki kf) (d : Nat) {a q f : Nat} (hr : Rk V a q f) : Sh V (upF KR d (some a)) (upd SO d (-1)) (updN SZ d 0) EL (updN kp d 1) so sz el (upd ki d (nI q)) (upd kf d (nI f)) := fun c hc => by
  by_cases e : c = d
  · subst e; rw [upF_eq, upd_eq, updN_eq, updN_eq, upd_eq, upd_eq]; exact Or.inr (Or.inl ⟨rfl, ⟨a, q, f, rfl, hr, rfl, rfl⟩, rfl⟩)
  · rw [upF_ne e, upd_ne e, updN_ne e, updN_ne e, upd_ne e, upd_ne e]; exact h c hc
theorem Sh.row {V : HV} {KR : Nat → Option Nat} {SO : Nat → Int32} {SZ : Nat → Nat} {EL : Nat → Nat → Int32} {kp so sz : Nat → Nat} {el ki kf : Nat → Int32} (h : Sh V KR SO SZ EL kp so sz el ki kf) {d r n : Nat} (hd : d < 8) (hr : r < 3) (hn : n ≤ 100) : Sh V (upF KR d none) (upd SO d (nI r)) (updN SZ d n) (upF EL d (zrF (EL d) n)) (updN kp d 2) (updN so d r) (updN sz d n) (zr el d) ki kf := fun c hc => by
  by_cases e : c = d
  · subst e; rw [upF_eq, upd_eq, updN_eq, updN_eq, updN_eq, updN_eq, upF_eq]
    refine Or.inr (Or.inr ⟨rfl, rfl, rfl, hr, rfl, hn, fun i hi => ?_⟩)
    unfold zrF zr
    rw [if_pos hi, if_pos (by omega)]
  · rw [upF_ne e, upd_ne e, updN_ne e, updN_ne e, updN_ne e, updN_ne e, upF_ne e]
    rcases h c hc with q | q | ⟨q1, q2, q3, q4, q5, q6, q7⟩
    · exact Or.inl q
    · exact Or.inr (Or.inl q)
    · refine Or.inr (Or.inr ⟨q1, q2, q3, q4, q5, q6, fun i hi => ?_⟩)
      rw [q7 i hi]; unfold zr; rw [if_neg (by omega)]
theorem Sh.put {V : HV} {KR : Nat → Option Nat} {SO : Nat → Int32} {SZ : Nat → Nat} {EL : Nat → Nat → Int32} {kp so sz : Nat → Nat} {el ki kf : Nat → Int32} (h : Sh V KR SO SZ EL kp so sz el ki kf) {d i : Nat} (hd : d < 8) (hk : kp d = 2) (hi1 : i < sz d) (x : Int32) : Sh V KR SO SZ (upF EL d (upd (EL d) i x)) kp so sz (upd el (100 * d + i) x) ki kf := fun c hc => by
  have hz := (h.r2 hd hk).2.2.2.2.1
  rcases h c hc with q | q | ⟨q1, q2, q3, q4, q5, q6, q7⟩
  · exact Or.inl q
  · exact Or.inr (Or.inl q)
  · refine Or.inr (Or.inr ⟨q1, q2, q3, q4, q5, q6, fun j hj => ?_⟩)
    by_cases e : c = d
    · subst e; rw [upF_eq]
      by_cases z : j = i
      · subst z; rw [upd_eq, upd_eq]
      · rw [upd_ne z, upd_ne (by omega)]; exact q7 j hj
    · rw [upF_ne e, upd_ne (by omega)]; exact q7 j hj
section MS
variable {l : Launch} {D : va_G} {Z : Nat → ClassId} {b0 : Nat} {cd : Nat → Nat} {ik : Int32} {ugA ugB ugC : Nat} {rA : Nat → Nat} {pA tA : Nat → Int32} {rB : Nat → Nat} {pB tB : Nat → Int32} {rC : Nat → Nat} {pC tC cX lX oX nX sX zX cY lY oY nY sY zY tm cl : Nat → Int32} {KR : Nat → Option Nat} {SO : Nat → Int32} {SZ : Nat → Nat} {EL : Nat → Nat → Int32} {V Vb : HV} {kd fg pl ikd ifg ipl kp so sz : Nat → Nat} {hr ihr el ki kf : Nat → Int32}
def rmX11_keep : Room := { frames := 5, cells := 1, slots := 1, locals := 96 }
set_option maxHeartbeats 8000000 in
theorem c_X11_keep_1 {d q f : Nat} (hA : oC b0 cd V) (hE : Ext Vb V) (hgA : Rk V ugA 7 0) (hgB : Rk V ugB 7 0) (hmA : mo V rA kd fg) (hmC : mo V rC ikd ifg) (hpl : ∀ g, g < 2 → pl g < 20) (hipl : ∀ g, g < 2 → ipl g < 20) (hSh : Sh V KR SO SZ EL kp so sz el ki kf) (hd : d < 8) (hk8 : q < 8) (hf10 : f < 10) : KM l D Z b0 yX11_keep cX11_keep 5 (some .int) rmX11_keep [.ref (cd 0), .int (nI d), .int (nI 1), .int (nI q), .int (nI f)] (wC Z cd ik ugA ugB ugC rA (nf pl) hr rB pB tB rC (nf ipl) ihr cX lX oX nX sX zX cY lY oY nY sY zY tm cl KR SO SZ EL V) (fun v0 V' => v0 = some (.int (nI 0)) ∧ CI Z b0 cd Vb ik kd fg pl hr ikd ifg ipl ihr (updN kp d 1) so sz el (upd ki d (nI q)) (upd kf d (nI f)) V') := by
  refine KM.ofP (by decide) (Nat.le_of_ble_eq_true rfl) (fun Po hPo => ?_)
  refine G.locals (L' := [(0, .ref (cd 0)), (1, .int (nI d)), (2, .int (nI 1)), (3, .int (nI q)), (4, .int (nI f))]) [0, 1, 2, 3, 4] rfl ?_
  refine g_iload_n (q := 1) (pc := 0) dX11_keep_0 rfl rfl ?_
  refine g_bipush (v := nI 8) (pc := 1) dX11_keep_1 (by decide) ?_
  refine e_callS (k2 := 0) (n2 := 0) (As := [.int (nI d), .int (nI 8)]) (rest := []) (pc := 3) (c_X11_isBelowN (by decide) (by omega)) mlX11_69 mX11_isBelow ⟨Nat.le_of_ble_eq_true rfl, Nat.le_of_ble_eq_true rfl⟩ rfl rfl (Nat.le_of_ble_eq_true rfl) dX11_keep_3 (by decide) rfl rfl ?_
  refine g_if_eq_B (tgt := 17) (pc := 6) dX11_keep_6 (by decide) (fun c1 => ?_) (fun c1 => ?_)
  · -- T c1
    exact absurd (of_decide_eq_false c1) (by omega)
  · -- F c1
    have c1 := of_decide_eq_true c1
    refine g_iload_n (q := 2) (pc := 9) dX11_keep_9 rfl rfl ?_
    refine g_iconst (v := nI 2) (pc := 10) dX11_keep_10 (by decide) ?_
    refine e_callS (k2 := 0) (n2 := 0) (As := [.int (nI 1), .int (nI 2)]) (rest := []) (pc := 11) (c_X11_isBelowN (by decide) (by omega)) mlX11_69 mX11_isBelow ⟨Nat.le_of_ble_eq_true rfl, Nat.le_of_ble_eq_true rfl⟩ rfl rfl (Nat.le_of_ble_eq_true rfl) dX11_keep_11 (by decide) rfl rfl ?_
    refine g_if_ne_B (tgt := 19) (pc := 14) dX11_keep_14 (by decide) (fun c2 => ?_) (fun c2 => ?_)
    · -- T c2
      have c2 := of_decide_eq_true c2
      refine g_iload_n (q := 2) (pc := 19) dX11_keep_19 rfl rfl ?_
      refine g_if_ne (tgt := 34) (pc := 20) dX11_keep_20 (by decide) (fun _ => ?_) (fun c0 => absurd c0 (by decide))
      refine g_iload_n (q := 3) (pc := 34) dX11_keep_34 rfl rfl ?_
      refine g_bipush (v := nI 8) (pc := 35) dX11_keep_35 (by decide) ?_
      refine e_callS (k2 := 0) (n2 := 0) (As := [.int (nI q), .int (nI 8)]) (rest := []) (pc := 37) (c_X11_isBelowN (by decide) (by omega)) mlX11_69 mX11_isBelow ⟨Nat.le_of_ble_eq_true rfl, Nat.le_of_ble_eq_true rfl⟩ rfl rfl (Nat.le_of_ble_eq_true rfl) dX11_keep_37 (by decide) rfl rfl ?_
      refine g_if_eq_B (tgt := 53) (pc := 40) dX11_keep_40 (by decide) (fun c3 => ?_) (fun c3 => ?_)
      · -- T c3
        exact absurd (of_decide_eq_false c3) (by omega)
      · -- F c3
        have c3 := of_decide_eq_true c3
        refine g_iload (q := 4) (pc := 43) dX11_keep_43 rfl ?_
        refine g_bipush (v := nI 10) (pc := 45) dX11_keep_45 (by decide) ?_
        refine e_callS (k2 := 0) (n2 := 0) (As := [.int (nI f), .int (nI 10)]) (rest := []) (pc := 47) (c_X11_isBelowN (by decide) (by omega)) mlX11_69 mX11_isBelow ⟨Nat.le_of_ble_eq_true rfl, Nat.le_of_ble_eq_true rfl⟩ rfl rfl (Nat.le_of_ble_eq_true rfl) dX11_keep_47 (by decide) rfl rfl ?_
        refine g_if_ne_B (tgt := 55) (pc := 50) dX11_keep_50 (by decide) (fun c4 => ?_) (fun c4 => ?_)
        · -- T c4
          have c4 := of_decide_eq_true c4
          refine g_aload_n (q := 0) (pc := 55) dX11_keep_55 rfl rfl ?_
          refine gc_get_O_shelves (pc := 56) hA flX11_28 dX11_keep_56 ?_
          refine g_iload_n (q := 1) (pc := 59) dX11_keep_59 rfl rfl ?_
          refine gc_ld_SH (pc := 60) (d := d) hA (by omega) dX11_keep_60 ?_
          refine g_iload_n (q := 3) (pc := 61) dX11_keep_61 rfl rfl ?_
          refine g_iload (q := 4) (pc := 62) dX11_keep_62 rfl ?_
          refine g_callS (As := [.int (nI q), .int (nI f)]) (rest := [.ref (cd (30 + d))]) (pc := 64) (c_X11_rockOf (by omega) (by omega)) mlX11_157 mX11_rockOf ⟨Nat.le_of_ble_eq_true rfl, Nat.le_of_ble_eq_true rfl⟩ rfl rfl (Nat.le_of_ble_eq_true rfl) dX11_keep_64 (by decide)  (fun v9 V9 h9 => ?_)
          obtain ⟨a64, rfl, hb64, hn64, -, rfl⟩ := h9
          have hw64 := wC_none hA hn64
          refine G.veq (wC_upv hA hn64) ?_
          refine G.eqst (k2 := 1) (n2 := 1) (st2 := [.ref a64, .ref (cd (30 + d))]) rfl rfl rfl ?_
          refine e_callVv (k2 := 1) (n2 := 1) (As := [.ref a64]) (rest := []) (pc := 67) (wC_sh (oC.new hA hw64.2) (by omega)) rfl (c_X7_holdRock (oC.new hA hw64.2) (by omega)) mlX11_206 selX7_X7_holdRock_X7_holdRock mX7_holdRock ⟨Nat.le_of_ble_eq_true rfl, Nat.le_of_ble_eq_true rfl⟩ rfl rfl (Nat.le_of_ble_eq_true rfl) dX11_keep_67 (by decide) rfl rfl ?_
          refine g_iconst (v := nI 0) (pc := 70) dX11_keep_70 (by decide) ?_
          exact g_iret (pc := 71) (by decide) (by decide) (gC hPo rfl (CI.mk ⟨(oC.new hA hw64.2), (Ext.new hE hw64.1), (Rk.new hgA hw64.1), (Rk.new hgB hw64.1), (mo.new hmA hw64.1), (mo.new hmC hw64.1), hpl, hipl, ((Sh.new hSh hw64.1).rock d ⟨hk8, hf10, upv_eq _ _ _⟩)⟩)) dX11_keep_71
        · -- F c4
          exact absurd (of_decide_eq_false c4) (by omega)
    · -- F c2
      exact absurd (of_decide_eq_false c2) (by decide)
theorem d_X11_keep_1 {d q f : Nat} {V2 : HV} (hCI : CI Z b0 cd Vb ik kd fg pl hr ikd ifg ipl ihr kp so sz el ki kf V2) (hd : d < 8) (hk8 : q < 8) (hf10 : f < 10) : KM l D Z b0 yX11_keep cX11_keep 5 (some .int) rmX11_keep [.ref (cd 0), .int (nI d), .int (nI 1), .int (nI q), .int (nI f)] V2 (fun v0 V' => v0 = some (.int (nI 0)) ∧ CI Z b0 cd Vb ik kd fg pl hr ikd ifg ipl ihr (updN kp d 1) so sz el (upd ki d (nI q)) (upd kf d (nI f)) V') := by
  obtain ⟨ugA, ugB, ugC, rA, rB, pB, tB, rC, cX, lX, oX, nX, sX, zX, cY, lY, oY, nY, sY, zY, tm, cl, KR, SO, SZ, EL, V, rfl, hA, hE, hgA, hgB, hmA, hmC, hpl, hipl, hSh⟩ := hCI
  exact c_X11_keep_1 hA hE hgA hgB hmA hmC hpl hipl hSh hd hk8 hf10
set_option maxHeartbeats 8000000 in
theorem c_X11_keep_0 {d : Nat} {q f : Int32} (hA : oC b0 cd V) (hE : Ext Vb V) (hgA : Rk V ugA 7 0) (hgB : Rk V ugB 7 0) (hmA : mo V rA kd fg) (hmC : mo V rC ikd ifg) (hpl : ∀ g, g < 2 → pl g < 20) (hipl : ∀ g, g < 2 → ipl g < 20) (hSh : Sh V KR SO SZ EL kp so sz el ki kf) (hd : d < 8) : KM l D Z b0 yX11_keep cX11_keep 5 (some .int) rmX11_keep [.ref (cd 0), .int (nI d), .int (nI 0), .int q, .int f] (wC Z cd ik ugA ugB ugC rA (nf pl) hr rB pB tB rC (nf ipl) ihr cX lX oX nX sX zX cY lY oY nY sY zY tm cl KR SO SZ EL V) (fun v0 V' => v0 = some (.int (nI 0)) ∧ CI Z b0 cd Vb ik kd fg pl hr ikd ifg ipl ihr (updN kp d 0) so sz el (upd ki d q) (upd kf d f) V') := by
  refine KM.ofP (by decide) (Nat.le_of_ble_eq_true rfl) (fun Po hPo => ?_)
  refine G.locals (L' := [(0, .ref (cd 0)), (1, .int (nI d)), (2, .int (nI 0)), (3, .int q), (4, .int f)]) [0, 1, 2, 3, 4] rfl ?_
  refine g_iload_n (q := 1) (pc := 0) dX11_keep_0 rfl rfl ?_
  refine g_bipush (v := nI 8) (pc := 1) dX11_keep_1 (by decide) ?_
  refine e_callS (k2 := 0) (n2 := 0) (As := [.int (nI d), .int (nI 8)]) (rest := []) (pc := 3) (c_X11_isBelowN (by decide) (by omega)) mlX11_69 mX11_isBelow ⟨Nat.le_of_ble_eq_true rfl, Nat.le_of_ble_eq_true rfl⟩ rfl rfl (Nat.le_of_ble_eq_true rfl) dX11_keep_3 (by decide) rfl rfl ?_
  refine g_if_eq_B (tgt := 17) (pc := 6) dX11_keep_6 (by decide) (fun c1 => ?_) (fun c1 => ?_)
  · -- T c1
    exact absurd (of_decide_eq_false c1) (by omega)
  · -- F c1
    have c1 := of_decide_eq_true c1
    refine g_iload_n (q := 2) (pc := 9) dX11_keep_9 rfl rfl ?_
    refine g_iconst (v := nI 2) (pc := 10) dX11_keep_10 (by decide) ?_
    refine e_callS (k2 := 0) (n2 := 0) (As := [.int (nI 0), .int (nI 2)]) (rest := []) (pc := 11) (c_X11_isBelowN (by decide) (by omega)) mlX11_69 mX11_isBelow ⟨Nat.le_of_ble_eq_true rfl, Nat.le_of_ble_eq_true rfl⟩ rfl rfl (Nat.le_of_ble_eq_true rfl) dX11_keep_11 (by decide) rfl rfl ?_
    refine g_if_ne_B (tgt := 19) (pc := 14) dX11_keep_14 (by decide) (fun c2 => ?_) (fun c2 => ?_)
    · -- T c2
      have c2 := of_decide_eq_true c2
      refine g_iload_n (q := 2) (pc := 19) dX11_keep_19 rfl rfl ?_
      refine g_if_ne (tgt := 34) (pc := 20) dX11_keep_20 (by decide) (fun c0 => absurd c0 (by decide)) (fun _ => ?_)
      refine g_aload_n (q := 0) (pc := 23) dX11_keep_23 rfl rfl ?_
      refine gc_get_O_shelves (pc := 24) hA flX11_28 dX11_keep_24 ?_
      refine g_iload_n (q := 1) (pc := 27) dX11_keep_27 rfl rfl ?_
      refine gc_ld_SH (pc := 28) (d := d) hA (by omega) dX11_keep_28 ?_
      refine e_callVv (k2 := 0) (n2 := 0) (As := []) (rest := []) (pc := 29) (wC_sh hA (by omega)) rfl (c_X7_clear hA (by omega)) mlX11_203 selX7_X7_clear_X7_clear mX7_clear ⟨Nat.le_of_ble_eq_true rfl, Nat.le_of_ble_eq_true rfl⟩ rfl rfl (Nat.le_of_ble_eq_true rfl) dX11_keep_29 (by decide) rfl rfl ?_
      refine g_iconst (v := nI 0) (pc := 32) dX11_keep_32 (by decide) ?_
      exact g_iret (pc := 33) (by decide) (by decide) (gC hPo rfl (CI.mk ⟨hA, hE, hgA, hgB, hmA, hmC, hpl, hipl, (hSh.clear d q f)⟩)) dX11_keep_33
    · -- F c2
      exact absurd (of_decide_eq_false c2) (by decide)
theorem d_X11_keep_0 {d : Nat} {q f : Int32} {V2 : HV} (hCI : CI Z b0 cd Vb ik kd fg pl hr ikd ifg ipl ihr kp so sz el ki kf V2) (hd : d < 8) : KM l D Z b0 yX11_keep cX11_keep 5 (some .int) rmX11_keep [.ref (cd 0), .int (nI d), .int (nI 0), .int q, .int f] V2 (fun v0 V' => v0 = some (.int (nI 0)) ∧ CI Z b0 cd Vb ik kd fg pl hr ikd ifg ipl ihr (updN kp d 0) so sz el (upd ki d q) (upd kf d f) V') := by
  obtain ⟨ugA, ugB, ugC, rA, rB, pB, tB, rC, cX, lX, oX, nX, sX, zX, cY, lY, oY, nY, sY, zY, tm, cl, KR, SO, SZ, EL, V, rfl, hA, hE, hgA, hgB, hmA, hmC, hpl, hipl, hSh⟩ := hCI
  exact c_X11_keep_0 hA hE hgA hgB hmA hmC hpl hipl hSh hd
set_option maxHeartbeats 8000000 in
theorem c_X11_keep_n {d what k f : Int32} (hA : oC b0 cd V) (hE : Ext Vb V) (hgA : Rk V ugA 7 0) (hgB : Rk V ugB 7 0) (hmA : mo V rA kd fg) (hmC : mo V rC ikd ifg) (hpl : ∀ g, g < 2 → pl g < 20) (hipl : ∀ g, g < 2 → ipl g < 20) (hSh : Sh V KR SO SZ EL kp so sz el ki kf) (h : spKeep d what k f = false) : KM l D Z b0 yX11_keep cX11_keep 5 (some .int) rmX11_keep [.ref (cd 0), .int d, .int what, .int k, .int f] (wC Z cd ik ugA ugB ugC rA (nf pl) hr rB pB tB rC (nf ipl) ihr cX lX oX nX sX zX cY lY oY nY sY zY tm cl KR SO SZ EL V) (fun v0 V' => v0 = some (.int ((-1))) ∧ CI Z b0 cd Vb ik kd fg pl hr ikd ifg ipl ihr kp so sz el ki kf V') := by
  refine KM.ofP (by decide) (Nat.le_of_ble_eq_true rfl) (fun Po hPo => ?_)
  refine G.locals (L' := [(0, .ref (cd 0)), (1, .int d), (2, .int what), (3, .int k), (4, .int f)]) [0, 1, 2, 3, 4] rfl ?_
  refine g_iload_n (q := 1) (pc := 0) dX11_keep_0 rfl rfl ?_
  refine g_bipush (v := nI 8) (pc := 1) dX11_keep_1 (by decide) ?_
  refine e_callS (k2 := 0) (n2 := 0) (As := [.int d, .int (nI 8)]) (rest := []) (pc := 3) (c_X11_isBelow (by decide)) mlX11_69 mX11_isBelow ⟨Nat.le_of_ble_eq_true rfl, Nat.le_of_ble_eq_true rfl⟩ rfl rfl (Nat.le_of_ble_eq_true rfl) dX11_keep_3 (by decide) rfl rfl ?_
  refine g_if_eq_B (tgt := 17) (pc := 6) dX11_keep_6 (by decide) (fun c1 => ?_) (fun c1 => ?_)
  · -- T c1
    refine g_iconst (v := (-1)) (pc := 17) dX11_keep_17 (by decide) ?_
    exact g_iret (pc := 18) (by decide) (by decide) (gC hPo (rfl) (CI.mk ⟨hA, hE, hgA, hgB, hmA, hmC, hpl, hipl, hSh⟩)) dX11_keep_18
  · -- F c1
    obtain ⟨d, hd, rfl⟩ := inR_t c1
    refine g_iload_n (q := 2) (pc := 9) dX11_keep_9 rfl rfl ?_
    refine g_iconst (v := nI 2) (pc := 10) dX11_keep_10 (by decide) ?_
    refine e_callS (k2 := 0) (n2 := 0) (As := [.int what, .int (nI 2)]) (rest := []) (pc := 11) (c_X11_isBelow (by decide)) mlX11_69 mX11_isBelow ⟨Nat.le_of_ble_eq_true rfl, Nat.le_of_ble_eq_true rfl⟩ rfl rfl (Nat.le_of_ble_eq_true rfl) dX11_keep_11 (by decide) rfl rfl ?_
    refine g_if_ne_B (tgt := 19) (pc := 14) dX11_keep_14 (by decide) (fun c2 => ?_) (fun c2 => ?_)
    · -- T c2
      obtain ⟨what, hwhat, rfl⟩ := inR_t c2
      refine g_iload_n (q := 2) (pc := 19) dX11_keep_19 rfl rfl ?_
      refine g_if_ne_N (tgt := 34) (pc := 20) (by omega) dX11_keep_20 (by decide) (fun c3 => ?_) (fun c3 => ?_)
      · -- T c3
        refine g_iload_n (q := 3) (pc := 34) dX11_keep_34 rfl rfl ?_
        refine g_bipush (v := nI 8) (pc := 35) dX11_keep_35 (by decide) ?_
        refine e_callS (k2 := 0) (n2 := 0) (As := [.int k, .int (nI 8)]) (rest := []) (pc := 37) (c_X11_isBelow (by decide)) mlX11_69 mX11_isBelow ⟨Nat.le_of_ble_eq_true rfl, Nat.le_of_ble_eq_true rfl⟩ rfl rfl (Nat.le_of_ble_eq_true rfl) dX11_keep_37 (by decide) rfl rfl ?_
        refine g_if_eq_B (tgt := 53) (pc := 40) dX11_keep_40 (by decide) (fun c4 => ?_) (fun c4 => ?_)
        · -- T c4
          refine g_iconst (v := (-1)) (pc := 53) dX11_keep_53 (by decide) ?_
          exact g_iret (pc := 54) (by decide) (by decide) (gC hPo (rfl) (CI.mk ⟨hA, hE, hgA, hgB, hmA, hmC, hpl, hipl, hSh⟩)) dX11_keep_54
        · -- F c4
          obtain ⟨k, hk, rfl⟩ := inR_t c4
          refine g_iload (q := 4) (pc := 43) dX11_keep_43 rfl ?_
          refine g_bipush (v := nI 10) (pc := 45) dX11_keep_45 (by decide) ?_
          refine e_callS (k2 := 0) (n2 := 0) (As := [.int f, .int (nI 10)]) (rest := []) (pc := 47) (c_X11_isBelow (by decide)) mlX11_69 mX11_isBelow ⟨Nat.le_of_ble_eq_true rfl, Nat.le_of_ble_eq_true rfl⟩ rfl rfl (Nat.le_of_ble_eq_true rfl) dX11_keep_47 (by decide) rfl rfl ?_
          refine g_if_ne_B (tgt := 55) (pc := 50) dX11_keep_50 (by decide) (fun c5 => ?_) (fun c5 => ?_)
          · -- T c5
            obtain rfl : what = 1 := (by omega)
            exact absurd h (by simp [spKeep, *])
          · -- F c5
            refine g_iconst (v := (-1)) (pc := 53) dX11_keep_53 (by decide) ?_
            exact g_iret (pc := 54) (by decide) (by decide) (gC hPo (rfl) (CI.mk ⟨hA, hE, hgA, hgB, hmA, hmC, hpl, hipl, hSh⟩)) dX11_keep_54
      · -- F c3
        obtain rfl : what = 0 := (by omega)
        exact absurd h (by simp [spKeep, dN_N, *])
    · -- F c2
      refine g_iconst (v := (-1)) (pc := 17) dX11_keep_17 (by decide) ?_
      exact g_iret (pc := 18) (by decide) (by decide) (gC hPo (rfl) (CI.mk ⟨hA, hE, hgA, hgB, hmA, hmC, hpl, hipl, hSh⟩)) dX11_keep_18
theorem d_X11_keep_n {d what k f : Int32} {V2 : HV} (hCI : CI Z b0 cd Vb ik kd fg pl hr ikd ifg ipl ihr kp so sz el ki kf V2) (h : spKeep d what k f = false) : KM l D Z b0 yX11_keep cX11_keep 5 (some .int) rmX11_keep [.ref (cd 0), .int d, .int what, .int k, .int f] V2 (fun v0 V' => v0 = some (.int ((-1))) ∧ CI Z b0 cd Vb ik kd fg pl hr ikd ifg ipl ihr kp so sz el ki kf V') := by
  obtain ⟨ugA, ugB, ugC, rA, rB, pB, tB, rC, cX, lX, oX, nX, sX, zX, cY, lY, oY, nY, sY, zY, tm, cl, KR, SO, SZ, EL, V, rfl, hA, hE, hgA, hgB, hmA, hmC, hpl, hipl, hSh⟩ := hCI
  exact c_X11_keep_n hA hE hgA hgB hmA hmC hpl hipl hSh h
def rmX11_row : Room := { frames := 2, cells := 0, slots := 0, locals := 43 }
set_option maxHeartbeats 8000000 in
theorem c_X11_row_s {d r n : Nat} (hA : oC b0 cd V) (hE : Ext Vb V) (hgA : Rk V ugA 7 0) (hgB : Rk V ugB 7 0) (hmA : mo V rA kd fg) (hmC : mo V rC ikd ifg) (hpl : ∀ g, g < 2 → pl g < 20) (hipl : ∀ g, g < 2 → ipl g < 20) (hSh : Sh V KR SO SZ EL kp so sz el ki kf) (hd : d < 8) (hr3 : r < 3) (hn : n ≤ 100) : KM l D Z b0 yX11_row cX11_row 4 (some .int) rmX11_row [.ref (cd 0), .int (nI d), .int (nI r), .int (nI n)] (wC Z cd ik ugA ugB ugC rA (nf pl) hr rB pB tB rC (nf ipl) ihr cX lX oX nX sX zX cY lY oY nY sY zY tm cl KR SO SZ EL V) (fun v0 V' => v0 = some (.int (nI 0)) ∧ CI Z b0 cd Vb ik kd fg pl hr ikd ifg ipl ihr (updN kp d 2) (updN so d r) (updN sz d n) (zr el d) ki kf V') := by
  refine KM.ofP (by decide) (Nat.le_of_ble_eq_true rfl) (fun Po hPo => ?_)
  refine G.locals (L' := [(0, .ref (cd 0)), (1, .int (nI d)), (2, .int (nI r)), (3, .int (nI n))]) [0, 1, 2, 3] rfl ?_
  refine g_iload_n (q := 1) (pc := 0) dX11_row_0 rfl rfl ?_
  refine g_bipush (v := nI 8) (pc := 1) dX11_row_1 (by decide) ?_
  refine e_callS (k2 := 0) (n2 := 0) (As := [.int (nI d), .int (nI 8)]) (rest := []) (pc := 3) (c_X11_isBelowN (by decide) (by omega)) mlX11_69 mX11_isBelow ⟨Nat.le_of_ble_eq_true rfl, Nat.le_of_ble_eq_true rfl⟩ rfl rfl (Nat.le_of_ble_eq_true rfl) dX11_row_3 (by decide) rfl rfl ?_
  refine g_if_eq_B (tgt := 23) (pc := 6) dX11_row_6 (by decide) (fun c1 => ?_) (fun c1 => ?_)
  · -- T c1
    exact absurd (of_decide_eq_false c1) (by omega)
  · -- F c1
    have c1 := of_decide_eq_true c1
    refine g_iload_n (q := 2) (pc := 9) dX11_row_9 rfl rfl ?_
    refine g_iconst (v := nI 3) (pc := 10) dX11_row_10 (by decide) ?_
    refine e_callS (k2 := 0) (n2 := 0) (As := [.int (nI r), .int (nI 3)]) (rest := []) (pc := 11) (c_X11_isBelowN (by decide) (by omega)) mlX11_69 mX11_isBelow ⟨Nat.le_of_ble_eq_true rfl, Nat.le_of_ble_eq_true rfl⟩ rfl rfl (Nat.le_of_ble_eq_true rfl) dX11_row_11 (by decide) rfl rfl ?_
    refine g_if_eq_B (tgt := 23) (pc := 14) dX11_row_14 (by decide) (fun c2 => ?_) (fun c2 => ?_)
    · -- T c2
      exact absurd (of_decide_eq_false c2) (by omega)
    · -- F c2
      have c2 := of_decide_eq_true c2
      refine g_iload_n (q := 3) (pc := 17) dX11_row_17 rfl rfl ?_
      refine g_bipush (v := nI 100) (pc := 18) dX11_row_18 (by decide) ?_
      refine g_icmp_le_N (tgt := 25) (pc := 20) (by omega) (by omega) dX11_row_20 (by decide) (fun c3 => ?_) (fun c3 => ?_)
      · -- T c3
        refine g_iload_n (q := 3) (pc := 25) dX11_row_25 rfl rfl ?_
        refine g_if_ge_N (tgt := 32) (pc := 26) (by omega) dX11_row_26 (by decide) ?_
        refine g_aload_n (q := 0) (pc := 32) dX11_row_32 rfl rfl ?_
        refine gc_get_O_shelves (pc := 33) hA flX11_28 dX11_row_33 ?_
        refine g_iload_n (q := 1) (pc := 36) dX11_row_36 rfl rfl ?_
        refine gc_ld_SH (pc := 37) (d := d) hA (by omega) dX11_row_37 ?_
        refine g_iload_n (q := 2) (pc := 38) dX11_row_38 rfl rfl ?_
        refine g_iload_n (q := 3) (pc := 39) dX11_row_39 rfl rfl ?_
        refine e_callVv (k2 := 0) (n2 := 0) (As := [.int (nI r), .int (nI n)]) (rest := []) (pc := 40) (wC_sh hA (by omega)) rfl (c_X7_holdRow hA (by omega) (by omega)) mlX11_210 selX7_X7_holdRow_X7_holdRow mX7_holdRow ⟨Nat.le_of_ble_eq_true rfl, Nat.le_of_ble_eq_true rfl⟩ rfl rfl (Nat.le_of_ble_eq_true rfl) dX11_row_40 (by decide) rfl rfl ?_
        refine g_iconst (v := nI 0) (pc := 43) dX11_row_43 (by decide) ?_
        exact g_iret (pc := 44) (by decide) (by decide) (gC hPo rfl (CI.mk ⟨hA, hE, hgA, hgB, hmA, hmC, hpl, hipl, (hSh.row hd hr3 hn)⟩)) dX11_row_44
      · -- F c3
        exfalso; omega
theorem d_X11_row_s {d r n : Nat} {V2 : HV} (hCI : CI Z b0 cd Vb ik kd fg pl hr ikd ifg ipl ihr kp so sz el ki kf V2) (hd : d < 8) (hr3 : r < 3) (hn : n ≤ 100) : KM l D Z b0 yX11_row cX11_row 4 (some .int) rmX11_row [.ref (cd 0), .int (nI d), .int (nI r), .int (nI n)] V2 (fun v0 V' => v0 = some (.int (nI 0)) ∧ CI Z b0 cd Vb ik kd fg pl hr ikd ifg ipl ihr (updN kp d 2) (updN so d r) (updN sz d n) (zr el d) ki kf V') := by
  obtain ⟨ugA, ugB, ugC, rA, rB, pB, tB, rC, cX, lX, oX, nX, sX, zX, cY, lY, oY, nY, sY, zY, tm, cl, KR, SO, SZ, EL, V, rfl, hA, hE, hgA, hgB, hmA, hmC, hpl, hipl, hSh⟩ := hCI
  exact c_X11_row_s hA hE hgA hgB hmA hmC hpl hipl hSh hd hr3 hn
set_option maxHeartbeats 8000000 in
theorem c_X11_row_n {d r n : Int32} (hA : oC b0 cd V) (hE : Ext Vb V) (hgA : Rk V ugA 7 0) (hgB : Rk V ugB 7 0) (hmA : mo V rA kd fg) (hmC : mo V rC ikd ifg) (hpl : ∀ g, g < 2 → pl g < 20) (hipl : ∀ g, g < 2 → ipl g < 20) (hSh : Sh V KR SO SZ EL kp so sz el ki kf) (h : ¬ spRow d r n = nI 0) : KM l D Z b0 yX11_row cX11_row 4 (some .int) rmX11_row [.ref (cd 0), .int d, .int r, .int n] (wC Z cd ik ugA ugB ugC rA (nf pl) hr rB pB tB rC (nf ipl) ihr cX lX oX nX sX zX cY lY oY nY sY zY tm cl KR SO SZ EL V) (fun v0 V' => v0 = some (.int (spRow d r n)) ∧ CI Z b0 cd Vb ik kd fg pl hr ikd ifg ipl ihr kp so sz el ki kf V') := by
  refine KM.ofP (by decide) (Nat.le_of_ble_eq_true rfl) (fun Po hPo => ?_)
  refine G.locals (L' := [(0, .ref (cd 0)), (1, .int d), (2, .int r), (3, .int n)]) [0, 1, 2, 3] rfl ?_
  refine g_iload_n (q := 1) (pc := 0) dX11_row_0 rfl rfl ?_
  refine g_bipush (v := nI 8) (pc := 1) dX11_row_1 (by decide) ?_
  refine e_callS (k2 := 0) (n2 := 0) (As := [.int d, .int (nI 8)]) (rest := []) (pc := 3) (c_X11_isBelow (by decide)) mlX11_69 mX11_isBelow ⟨Nat.le_of_ble_eq_true rfl, Nat.le_of_ble_eq_true rfl⟩ rfl rfl (Nat.le_of_ble_eq_true rfl) dX11_row_3 (by decide) rfl rfl ?_
  refine g_if_eq_B (tgt := 23) (pc := 6) dX11_row_6 (by decide) (fun c1 => ?_) (fun c1 => ?_)
  · -- T c1
    refine g_iconst (v := (-1)) (pc := 23) dX11_row_23 (by decide) ?_
    exact g_iret (pc := 24) (by decide) (by decide) (gC hPo (by rw [spRow, if_neg (by simp [*])]) (CI.mk ⟨hA, hE, hgA, hgB, hmA, hmC, hpl, hipl, hSh⟩)) dX11_row_24
  · -- F c1
    obtain ⟨d, hd, rfl⟩ := inR_t c1
    refine g_iload_n (q := 2) (pc := 9) dX11_row_9 rfl rfl ?_
    refine g_iconst (v := nI 3) (pc := 10) dX11_row_10 (by decide) ?_
    refine e_callS (k2 := 0) (n2 := 0) (As := [.int r, .int (nI 3)]) (rest := []) (pc := 11) (c_X11_isBelow (by decide)) mlX11_69 mX11_isBelow ⟨Nat.le_of_ble_eq_true rfl, Nat.le_of_ble_eq_true rfl⟩ rfl rfl (Nat.le_of_ble_eq_true rfl) dX11_row_11 (by decide) rfl rfl ?_
    refine g_if_eq_B (tgt := 23) (pc := 14) dX11_row_14 (by decide) (fun c2 => ?_) (fun c2 => ?_)
    · -- T c2
      refine g_iconst (v := (-1)) (pc := 23) dX11_row_23 (by decide) ?_
      exact g_iret (pc := 24) (by decide) (by decide) (gC hPo (by rw [spRow, if_pos (by assumption), if_neg (by simp [*])]) (CI.mk ⟨hA, hE, hgA, hgB, hmA, hmC, hpl, hipl, hSh⟩)) dX11_row_24
    · -- F c2
      obtain ⟨r, hr, rfl⟩ := inR_t c2
      refine g_iload_n (q := 3) (pc := 17) dX11_row_17 rfl rfl ?_
      refine g_bipush (v := nI 100) (pc := 18) dX11_row_18 (by decide) ?_
      refine g_icmp_le (tgt := 25) (pc := 20) dX11_row_20 (by decide) (fun c3 => ?_) (fun c3 => ?_)
      · -- T c3
        refine g_iload_n (q := 3) (pc := 25) dX11_row_25 rfl rfl ?_
        refine g_if_ge (tgt := 32) (pc := 26) dX11_row_26 (by decide) (fun c4 => ?_) (fun c4 => ?_)
        · -- T c4
          exact absurd (by rw [spRow, if_pos (by assumption), if_pos (by assumption)]; simp [*]) h
        · -- F c4
          refine g_bipush (v := (-14)) (pc := 29) dX11_row_29 (by decide) ?_
          exact g_iret (pc := 31) (by decide) (by decide) (gC hPo (by rw [spRow, if_pos (by assumption), if_pos (by assumption)]; simp [*]) (CI.mk ⟨hA, hE, hgA, hgB, hmA, hmC, hpl, hipl, hSh⟩)) dX11_row_31
      · -- F c3
        refine g_iconst (v := (-1)) (pc := 23) dX11_row_23 (by decide) ?_
        exact g_iret (pc := 24) (by decide) (by decide) (gC hPo (by rw [spRow, if_pos (by assumption), if_pos (by assumption)]; simp [*]) (CI.mk ⟨hA, hE, hgA, hgB, hmA, hmC, hpl, hipl, hSh⟩)) dX11_row_24
theorem d_X11_row_n {d r n : Int32} {V2 : HV} (hCI : CI Z b0 cd Vb ik kd fg pl hr ikd ifg ipl ihr kp so sz el ki kf V2) (h : ¬ spRow d r n = nI 0) : KM l D Z b0 yX11_row cX11_row 4 (some .int) rmX11_row [.ref (cd 0), .int d, .int r, .int n] V2 (fun v0 V' => v0 = some (.int (spRow d r n)) ∧ CI Z b0 cd Vb ik kd fg pl hr ikd ifg ipl ihr kp so sz el ki kf V') := by
  obtain ⟨ugA, ugB, ugC, rA, rB, pB, tB, rC, cX, lX, oX, nX, sX, zX, cY, lY, oY, nY, sY, zY, tm, cl, KR, SO, SZ, EL, V, rfl, hA, hE, hgA, hgB, hmA, hmC, hpl, hipl, hSh⟩ := hCI
  exact c_X11_row_n hA hE hgA hgB hmA hmC hpl hipl hSh h
theorem c_X7_set {d i s : Nat} {v : Int32} (hA : oC b0 cd V) (hd : d < 8) (hi1 : i < 100) (h3 : s < 3) (hs : SO d = nI s) : KE l D Z b0 yX7_set cX7_set 3 none rmX7_set [.ref (cd (30 + d)), .int (nI i), .int v] (wC Z cd ik ugA ugB ugC rA pA tA rB pB tB rC pC tC cX lX oX nX sX zX cY lY oY nY sY zY tm cl KR SO SZ EL V) none (wC Z cd ik ugA ugB ugC rA pA tA rB pB tB rC pC tC cX lX oX nX sX zX cY lY oY nY sY zY tm cl KR SO SZ (upF EL d (upd (EL d) i (narS s v))) V) := by
  rcases (by omega : s = 0 ∨ s = 1 ∨ s = 2) with rfl | rfl | rfl
  · exact c_X7_set_0 hA hd hi1 hs
  · exact c_X7_set_1 hA hd hi1 hs
  · exact c_X7_set_2 hA hd hi1 hs
def rmX11_put : Room := { frames := 2, cells := 0, slots := 0, locals := 42 }
set_option maxHeartbeats 8000000 in
theorem c_X11_put_s {d i : Nat} {v : Int32} (hA : oC b0 cd V) (hE : Ext Vb V) (hgA : Rk V ugA 7 0) (hgB : Rk V ugB 7 0) (hmA : mo V rA kd fg) (hmC : mo V rC ikd ifg) (hpl : ∀ g, g < 2 → pl g < 20) (hipl : ∀ g, g < 2 → ipl g < 20) (hSh : Sh V KR SO SZ EL kp so sz el ki kf) (hd : d < 8) (hk : kp d = 2) (hi1 : i < sz d) : KM l D Z b0 yX11_put cX11_put 5 (some .int) rmX11_put [.ref (cd 0), .int (nI d), .int (nI i), .int v] (wC Z cd ik ugA ugB ugC rA (nf pl) hr rB pB tB rC (nf ipl) ihr cX lX oX nX sX zX cY lY oY nY sY zY tm cl KR SO SZ EL V) (fun v0 V' => v0 = some (.int (nI 0)) ∧ CI Z b0 cd Vb ik kd fg pl hr ikd ifg ipl ihr kp so sz (upd el (100 * d + i) (narS (so d) v)) ki kf V') := by
  refine KM.ofP (by decide) (Nat.le_of_ble_eq_true rfl) (fun Po hPo => ?_)
  refine G.locals (L' := [(0, .ref (cd 0)), (1, .int (nI d)), (2, .int (nI i)), (3, .int v)]) [0, 1, 2, 3] rfl ?_
  have h2 := And.intro hk (Sh.r2 hSh hd hk)
  have hz9 := h2.2.2.2.2.2.1
  refine g_aload_n (q := 0) (pc := 0) dX11_put_0 rfl rfl ?_
  refine g_iload_n (q := 1) (pc := 1) dX11_put_1 rfl rfl ?_
  refine e_callV (k2 := 0) (n2 := 0) (As := [.int (nI d)]) (rest := []) (pc := 2) (wC_0 hA) rfl (c_X11_rowOn_s hA hd h2.2.2.1 h2.2.2.2.1) mlX11_197 selX11_X11_rowOn_X11_rowOn mX11_rowOn ⟨Nat.le_of_ble_eq_true rfl, Nat.le_of_ble_eq_true rfl⟩ rfl rfl (Nat.le_of_ble_eq_true rfl) dX11_put_2 (by decide) rfl rfl ?_
  refine g_astore (lv' := [(4, .ref (cd (30 + d))), (0, .ref (cd 0)), (1, .int (nI d)), (2, .int (nI i)), (3, .int v)]) (pc := 5) dX11_put_5 (by decide) rfl ?_
  refine g_aload (q := 0) (pc := 7) dX11_put_7 rfl ?_
  refine g_ifnonnull (tgt := 18) (pc := 9) dX11_put_9 (by decide) ?_
  refine g_iload_n (q := 3) (pc := 18) dX11_put_18 rfl rfl ?_
  refine g_aload (q := 0) (pc := 19) dX11_put_19 rfl ?_
  refine gc_get_S_size (pc := 21) (d := d) hA (by omega) flX11_132 dX11_put_21 ?_
  refine g_top (x := nI (SZ d)) (y := nI (sz d)) (congrArg nI h2.2.2.2.2.1) ?_
  refine e_callS (k2 := 0) (n2 := 0) (As := [.int (nI i), .int (nI (sz d))]) (rest := []) (pc := 24) (c_X11_isBelowN (by omega) (by omega)) mlX11_69 mX11_isBelow ⟨Nat.le_of_ble_eq_true rfl, Nat.le_of_ble_eq_true rfl⟩ rfl rfl (Nat.le_of_ble_eq_true rfl) dX11_put_24 (by decide) rfl rfl ?_
  refine g_if_ne_B (tgt := 33) (pc := 27) dX11_put_27 (by decide) (fun c1 => ?_) (fun c1 => ?_)
  · -- T c1
    have c1 := of_decide_eq_true c1
    refine g_aload (q := 0) (pc := 33) dX11_put_33 rfl ?_
    refine g_iload_n (q := 3) (pc := 35) dX11_put_35 rfl rfl ?_
    refine g_iload_n (q := 4) (pc := 36) dX11_put_36 rfl rfl ?_
    refine e_callVv (k2 := 0) (n2 := 0) (As := [.int (nI i), .int v]) (rest := []) (pc := 37) (wC_sh hA (by omega)) rfl (c_X7_set hA (by omega) (by omega) h2.2.2.2.1 h2.2.2.1) mlX11_214 selX7_X7_set_X7_set mX7_set ⟨Nat.le_of_ble_eq_true rfl, Nat.le_of_ble_eq_true rfl⟩ rfl rfl (Nat.le_of_ble_eq_true rfl) dX11_put_37 (by decide) rfl rfl ?_
    refine g_iconst (v := nI 0) (pc := 40) dX11_put_40 (by decide) ?_
    exact g_iret (pc := 41) (by decide) (by decide) (gC hPo rfl (CI.mk ⟨hA, hE, hgA, hgB, hmA, hmC, hpl, hipl, (hSh.put hd hk hi1 _)⟩)) dX11_put_41
  · -- F c1
    exact absurd (of_decide_eq_false c1) (by omega)
theorem d_X11_put_s {d i : Nat} {v : Int32} {V2 : HV} (hCI : CI Z b0 cd Vb ik kd fg pl hr ikd ifg ipl ihr kp so sz el ki kf V2) (hd : d < 8) (hk : kp d = 2) (hi1 : i < sz d) : KM l D Z b0 yX11_put cX11_put 5 (some .int) rmX11_put [.ref (cd 0), .int (nI d), .int (nI i), .int v] V2 (fun v0 V' => v0 = some (.int (nI 0)) ∧ CI Z b0 cd Vb ik kd fg pl hr ikd ifg ipl ihr kp so sz (upd el (100 * d + i) (narS (so d) v)) ki kf V') := by
  obtain ⟨ugA, ugB, ugC, rA, rB, pB, tB, rC, cX, lX, oX, nX, sX, zX, cY, lY, oY, nY, sY, zY, tm, cl, KR, SO, SZ, EL, V, rfl, hA, hE, hgA, hgB, hmA, hmC, hpl, hipl, hSh⟩ := hCI
  exact c_X11_put_s hA hE hgA hgB hmA hmC hpl hipl hSh hd hk hi1
set_option maxHeartbeats 8000000 in
theorem c_X11_put_n {d i v : Int32} (hA : oC b0 cd V) (hE : Ext Vb V) (hgA : Rk V ugA 7 0) (hgB : Rk V ugB 7 0) (hmA : mo V rA kd fg) (hmC : mo V rC ikd ifg) (hpl : ∀ g, g < 2 → pl g < 20) (hipl : ∀ g, g < 2 → ipl g < 20) (hSh : Sh V KR SO SZ EL kp so sz el ki kf) (h : ¬ spPut kp so sz d i = nI 0) : KM l D Z b0 yX11_put cX11_put 5 (some .int) rmX11_put [.ref (cd 0), .int d, .int i, .int v] (wC Z cd ik ugA ugB ugC rA (nf pl) hr rB pB tB rC (nf ipl) ihr cX lX oX nX sX zX cY lY oY nY sY zY tm cl KR SO SZ EL V) (fun v0 V' => v0 = some (.int (spPut kp so sz d i)) ∧ CI Z b0 cd Vb ik kd fg pl hr ikd ifg ipl ihr kp so sz el ki kf V') := by
  refine KM.ofP (by decide) (Nat.le_of_ble_eq_true rfl) (fun Po hPo => ?_)
  refine G.locals (L' := [(0, .ref (cd 0)), (1, .int d), (2, .int i), (3, .int v)]) [0, 1, 2, 3] rfl ?_
  refine g_aload_n (q := 0) (pc := 0) dX11_put_0 rfl rfl ?_
  refine g_iload_n (q := 1) (pc := 1) dX11_put_1 rfl rfl ?_
  rcases Sh.k hSh d with ho | ⟨d, hd, rfl, h0⟩ | ⟨d, hd, rfl, h1, a, q, f, hk1, hr1, hi1, hf1, hs1⟩ | ⟨d, hd, rfl, h2⟩
  · -- alt
    refine e_callV (k2 := 0) (n2 := 0) (As := [.int d]) (rest := []) (pc := 2) (wC_0 hA) rfl (c_X11_rowOn_o hA ho) mlX11_197 selX11_X11_rowOn_X11_rowOn mX11_rowOn ⟨Nat.le_of_ble_eq_true rfl, Nat.le_of_ble_eq_true rfl⟩ rfl rfl (Nat.le_of_ble_eq_true rfl) dX11_put_2 (by decide) rfl rfl ?_
    refine g_astoreN (lv' := [(4, .null), (0, .ref (cd 0)), (1, .int d), (2, .int i), (3, .int v)]) (pc := 5) dX11_put_5 (by decide) rfl ?_
    refine g_aloadN (q := 0) (pc := 7) dX11_put_7 rfl ?_
    refine g_ifnonnullN (pc := 9) dX11_put_9 ?_
    refine g_aload_n (q := 1) (pc := 12) dX11_put_12 rfl rfl ?_
    refine g_iload_n (q := 2) (pc := 13) dX11_put_13 rfl rfl ?_
    refine e_callV (k2 := 0) (n2 := 0) (As := [.int d]) (rest := []) (pc := 14) (wC_0 hA) rfl (c_X11_whyNot_o hA ho) mlX11_54 selX11_X11_whyNot_X11_whyNot mX11_whyNot ⟨Nat.le_of_ble_eq_true rfl, Nat.le_of_ble_eq_true rfl⟩ rfl rfl (Nat.le_of_ble_eq_true rfl) dX11_put_14 (by decide) rfl rfl ?_
    exact g_iret (pc := 17) (by decide) (by decide) (gC hPo (by rw [spPut]; first | (rw [spWR_o ho]; rfl) | (rw [spWR_0c hd h0.1]; rfl) | (rw [spWR_1c hd h1]; rfl)) (CI.mk ⟨hA, hE, hgA, hgB, hmA, hmC, hpl, hipl, hSh⟩)) dX11_put_17
  · -- alt
    refine e_callV (k2 := 0) (n2 := 0) (As := [.int (nI d)]) (rest := []) (pc := 2) (wC_0 hA) rfl (c_X11_rowOn_e hA hd h0.2.2) mlX11_197 selX11_X11_rowOn_X11_rowOn mX11_rowOn ⟨Nat.le_of_ble_eq_true rfl, Nat.le_of_ble_eq_true rfl⟩ rfl rfl (Nat.le_of_ble_eq_true rfl) dX11_put_2 (by decide) rfl rfl ?_
    refine g_astoreN (lv' := [(4, .null), (0, .ref (cd 0)), (1, .int (nI d)), (2, .int i), (3, .int v)]) (pc := 5) dX11_put_5 (by decide) rfl ?_
    refine g_aloadN (q := 0) (pc := 7) dX11_put_7 rfl ?_
    refine g_ifnonnullN (pc := 9) dX11_put_9 ?_
    refine g_aload_n (q := 1) (pc := 12) dX11_put_12 rfl rfl ?_
    refine g_iload_n (q := 2) (pc := 13) dX11_put_13 rfl rfl ?_
    refine e_callV (k2 := 0) (n2 := 0) (As := [.int (nI d)]) (rest := []) (pc := 14) (wC_0 hA) rfl (c_X11_whyNot_0 hA hd h0.2.1 h0.2.2) mlX11_54 selX11_X11_whyNot_X11_whyNot mX11_whyNot ⟨Nat.le_of_ble_eq_true rfl, Nat.le_of_ble_eq_true rfl⟩ rfl rfl (Nat.le_of_ble_eq_true rfl) dX11_put_14 (by decide) rfl rfl ?_
    exact g_iret (pc := 17) (by decide) (by decide) (gC hPo (by rw [spPut]; first | (rw [spWR_o ho]; rfl) | (rw [spWR_0c hd h0.1]; rfl) | (rw [spWR_1c hd h1]; rfl)) (CI.mk ⟨hA, hE, hgA, hgB, hmA, hmC, hpl, hipl, hSh⟩)) dX11_put_17
  · -- alt
    refine e_callV (k2 := 0) (n2 := 0) (As := [.int (nI d)]) (rest := []) (pc := 2) (wC_0 hA) rfl (c_X11_rowOn_e hA hd hs1) mlX11_197 selX11_X11_rowOn_X11_rowOn mX11_rowOn ⟨Nat.le_of_ble_eq_true rfl, Nat.le_of_ble_eq_true rfl⟩ rfl rfl (Nat.le_of_ble_eq_true rfl) dX11_put_2 (by decide) rfl rfl ?_
    refine g_astoreN (lv' := [(4, .null), (0, .ref (cd 0)), (1, .int (nI d)), (2, .int i), (3, .int v)]) (pc := 5) dX11_put_5 (by decide) rfl ?_
    refine g_aloadN (q := 0) (pc := 7) dX11_put_7 rfl ?_
    refine g_ifnonnullN (pc := 9) dX11_put_9 ?_
    refine g_aload_n (q := 1) (pc := 12) dX11_put_12 rfl rfl ?_
    refine g_iload_n (q := 2) (pc := 13) dX11_put_13 rfl rfl ?_
    refine e_callV (k2 := 0) (n2 := 0) (As := [.int (nI d)]) (rest := []) (pc := 14) (wC_0 hA) rfl (c_X11_whyNot_1 hA hd hk1) mlX11_54 selX11_X11_whyNot_X11_whyNot mX11_whyNot ⟨Nat.le_of_ble_eq_true rfl, Nat.le_of_ble_eq_true rfl⟩ rfl rfl (Nat.le_of_ble_eq_true rfl) dX11_put_14 (by decide) rfl rfl ?_
    exact g_iret (pc := 17) (by decide) (by decide) (gC hPo (by rw [spPut]; first | (rw [spWR_o ho]; rfl) | (rw [spWR_0c hd h0.1]; rfl) | (rw [spWR_1c hd h1]; rfl)) (CI.mk ⟨hA, hE, hgA, hgB, hmA, hmC, hpl, hipl, hSh⟩)) dX11_put_17
  · -- alt
    refine e_callV (k2 := 0) (n2 := 0) (As := [.int (nI d)]) (rest := []) (pc := 2) (wC_0 hA) rfl (c_X11_rowOn_s hA hd h2.2.2.1 h2.2.2.2.1) mlX11_197 selX11_X11_rowOn_X11_rowOn mX11_rowOn ⟨Nat.le_of_ble_eq_true rfl, Nat.le_of_ble_eq_true rfl⟩ rfl rfl (Nat.le_of_ble_eq_true rfl) dX11_put_2 (by decide) rfl rfl ?_
    refine g_astore (lv' := [(4, .ref (cd (30 + d))), (0, .ref (cd 0)), (1, .int (nI d)), (2, .int i), (3, .int v)]) (pc := 5) dX11_put_5 (by decide) rfl ?_
    refine g_aload (q := 0) (pc := 7) dX11_put_7 rfl ?_
    refine g_ifnonnull (tgt := 18) (pc := 9) dX11_put_9 (by decide) ?_
    refine g_iload_n (q := 3) (pc := 18) dX11_put_18 rfl rfl ?_
    refine g_aload (q := 0) (pc := 19) dX11_put_19 rfl ?_
    refine gc_get_S_size (pc := 21) (d := d) hA (by omega) flX11_132 dX11_put_21 ?_
    refine g_top (x := nI (SZ d)) (y := nI (sz d)) (congrArg nI h2.2.2.2.2.1) ?_
    refine e_callS (k2 := 0) (n2 := 0) (As := [.int i, .int (nI (sz d))]) (rest := []) (pc := 24) (c_X11_isBelow (by have := h2.2.2.2.2.2.1; omega)) mlX11_69 mX11_isBelow ⟨Nat.le_of_ble_eq_true rfl, Nat.le_of_ble_eq_true rfl⟩ rfl rfl (Nat.le_of_ble_eq_true rfl) dX11_put_24 (by decide) rfl rfl ?_
    refine g_if_ne_B (tgt := 33) (pc := 27) dX11_put_27 (by decide) (fun c1 => ?_) (fun c1 => ?_)
    · -- T c1
      exact absurd (by rw [spPut, if_pos (show spWR kp so (nI d) none = 0 from spWR_ok hd h2.1 rfl), dN_N (by omega), if_pos (by assumption)]) h
    · -- F c1
      refine g_bipush (v := (-13)) (pc := 30) dX11_put_30 (by decide) ?_
      exact g_iret (pc := 32) (by decide) (by decide) (gC hPo (by rw [spPut, if_pos (show spWR kp so (nI d) none = 0 from spWR_ok hd h2.1 rfl), dN_N (by omega), if_neg (by simp [*])]) (CI.mk ⟨hA, hE, hgA, hgB, hmA, hmC, hpl, hipl, hSh⟩)) dX11_put_32
theorem d_X11_put_n {d i v : Int32} {V2 : HV} (hCI : CI Z b0 cd Vb ik kd fg pl hr ikd ifg ipl ihr kp so sz el ki kf V2) (h : ¬ spPut kp so sz d i = nI 0) : KM l D Z b0 yX11_put cX11_put 5 (some .int) rmX11_put [.ref (cd 0), .int d, .int i, .int v] V2 (fun v0 V' => v0 = some (.int (spPut kp so sz d i)) ∧ CI Z b0 cd Vb ik kd fg pl hr ikd ifg ipl ihr kp so sz el ki kf V') := by
  obtain ⟨ugA, ugB, ugC, rA, rB, pB, tB, rC, cX, lX, oX, nX, sX, zX, cY, lY, oY, nY, sY, zY, tm, cl, KR, SO, SZ, EL, V, rfl, hA, hE, hgA, hgB, hmA, hmC, hpl, hipl, hSh⟩ := hCI
  exact c_X11_put_n hA hE hgA hgB hmA hmC hpl hipl hSh h
end MS
