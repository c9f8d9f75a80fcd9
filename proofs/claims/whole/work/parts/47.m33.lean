theorem Sh.copy {V : HV} {KR : Nat → Option Nat} {SO : Nat → Int32} {SZ : Nat → Nat} {EL : Nat → Nat → Int32} {kp so sz : Nat → Nat} {el ki kf : Nat → Int32} (h : Sh V KR SO SZ EL kp so sz el ki kf) {d e i j n : Nat} (hd : d < 8) (he : e < 8) (hk : kp d = 2) (hke : kp e = 2) (hin : i + n ≤ sz d) (hjn : j + n ≤ sz e) : Sh V KR SO SZ (upF EL e (va_cpy (EL d) (EL e) i j n)) kp so sz (cpy el d i e j n) ki kf := fun c hc => by
  have hz := (h.r2 he hke).2.2.2.2.1
  have hd7 := (h.r2 hd hk).2.2.2.2.2
  rcases h c hc with q | q | ⟨q1, q2, q3, q4, q5, q6, q7⟩
  · exact Or.inl q
  · exact Or.inr (Or.inl q)
  · refine Or.inr (Or.inr ⟨q1, q2, q3, q4, q5, q6, fun x hx => ?_⟩)
    by_cases z : c = e
    · subst z; rw [upF_eq]
      show (if j ≤ x ∧ x < j + n then EL d (i + (x - j)) else EL c x) = (if 100 * c + j ≤ 100 * c + x ∧ 100 * c + x < 100 * c + j + n then el (100 * d + i + (100 * c + x - (100 * c + j))) else el (100 * c + x))
      by_cases y : j ≤ x ∧ x < j + n
      · rw [if_pos y, if_pos (by omega), hd7 _ (by omega)]
        congr 1; omega
      · rw [if_neg y, if_neg (by omega)]; exact q7 x hx
    · rw [upF_ne z, q7 x hx]
      show _ = (if 100 * e + j ≤ 100 * c + x ∧ 100 * c + x < 100 * e + j + n then _ else el (100 * c + x))
      rw [if_neg (by omega)]
theorem spB_N {i n z : Nat} (hi : i < 2147483648) (hn : n < 2147483648) (h : i + n ≤ z) : spB (nI i) (nI n) z = true := by
  refine decide_eq_true ?_
  rw [nI_toInt hi, nI_toInt hn]; omega
theorem spB_le {x y : Int32} {z : Nat} (hz : z ≤ 100) (h : spB x y z = true) : ¬ y < 0 ∧ ¬ x < 0 ∧ y ≤ nI z - x := by
  have h1 := of_decide_eq_true h
  have h0 : (0 : Int32).toInt = 0 := by decide
  have hx : ¬ x < 0 := by rw [Int32.lt_iff_toInt_lt]; omega
  refine ⟨by rw [Int32.lt_iff_toInt_lt]; omega, hx, ?_⟩
  rw [Int32.le_iff_toInt_le, spB_sub hz hx]; omega
theorem rCopy_d {kp so : Nat → Nat} {d e : Int32} (h : inR d 8 = false) : rCopy kp so d e = (-1) := by rw [rCopy, if_neg (by rw [h]; decide)]
theorem rCopy_e {kp so : Nat → Nat} {d e : Int32} (h : inR e 8 = false) : rCopy kp so d e = (-1) := by
  unfold rCopy; split
  · rw [if_neg (by rw [h]; decide)]
  · rfl
theorem rCopy_r {kp so : Nat → Nat} {d e : Nat} (hd : d < 8) (he : e < 8) : rCopy kp so (nI d) (nI e) = if kp d = 0 then (-11) else if kp e = 0 then (-11) else if kp d = 2 then (if kp e = 2 then (if so d = so e then (-13) else (-12)) else (-12)) else (-12) := by
  rw [rCopy, if_pos (inR_lt hd (by omega)), if_pos (inR_lt he (by omega)), dN_N (by omega), dN_N (by omega)]
section MS
variable {l : Launch} {D : va_G} {Z : Nat → ClassId} {b0 : Nat} {cd : Nat → Nat} {ik : Int32} {ugA ugB ugC : Nat} {rA : Nat → Nat} {pA tA : Nat → Int32} {rB : Nat → Nat} {pB tB : Nat → Int32} {rC : Nat → Nat} {pC tC cX lX oX nX sX zX cY lY oY nY sY zY tm cl : Nat → Int32} {KR : Nat → Option Nat} {SO : Nat → Int32} {SZ : Nat → Nat} {EL : Nat → Nat → Int32} {V Vb : HV} {kd fg pl ikd ifg ipl kp so sz : Nat → Nat} {hr ihr el ki kf : Nat → Int32}
def rmX11_copy : Room := { frames := 2, cells := 0, slots := 0, locals := 42 }
set_option maxHeartbeats 8000000 in
theorem c_X11_copy_s {d i e j n : Nat} (hA : oC b0 cd V) (hE : Ext Vb V) (hgA : Rk V ugA 7 0) (hgB : Rk V ugB 7 0) (hmA : mo V rA kd fg) (hmC : mo V rC ikd ifg) (hpl : ∀ g, g < 2 → pl g < 20) (hipl : ∀ g, g < 2 → ipl g < 20) (hSh : Sh V KR SO SZ EL kp so sz el ki kf) (hd : d < 8) (he : e < 8) (hk : kp d = 2) (hke : kp e = 2) (hso : so d = so e) (hin : i + n ≤ sz d) (hjn : j + n ≤ sz e) : KM l D Z b0 yX11_copy cX11_copy 8 (some .int) rmX11_copy [.ref (cd 0), .int (nI d), .int (nI i), .int (nI e), .int (nI j), .int (nI n)] (wC Z cd ik ugA ugB ugC rA (nf pl) hr rB pB tB rC (nf ipl) ihr cX lX oX nX sX zX cY lY oY nY sY zY tm cl KR SO SZ EL V) (fun v0 V' => v0 = some (.int (nI n)) ∧ CI Z b0 cd Vb ik kd fg pl hr ikd ifg ipl ihr kp so sz (cpy el d i e j n) ki kf V') := by
  refine KM.ofP (by decide) (Nat.le_of_ble_eq_true rfl) (fun Po hPo => ?_)
  refine G.locals (L' := [(0, .ref (cd 0)), (1, .int (nI d)), (2, .int (nI i)), (3, .int (nI e)), (4, .int (nI j)), (5, .int (nI n))]) [0, 1, 2, 3, 4, 5] rfl ?_
  have h2 := And.intro hk (Sh.r2 hSh hd hk)
  have g2 := And.intro hke (Sh.r2 hSh he hke)
  have hz9 := h2.2.2.2.2.2.1
  have gz9 := g2.2.2.2.2.2.1
  refine g_iload_n (q := 1) (pc := 0) dX11_copy_0 rfl rfl ?_
  refine g_bipush (v := nI 8) (pc := 1) dX11_copy_1 (by decide) ?_
  refine e_callS (k2 := 0) (n2 := 0) (As := [.int (nI d), .int (nI 8)]) (rest := []) (pc := 3) (c_X11_isBelowN (by decide) (by omega)) mlX11_69 mX11_isBelow ⟨Nat.le_of_ble_eq_true rfl, Nat.le_of_ble_eq_true rfl⟩ rfl rfl (Nat.le_of_ble_eq_true rfl) dX11_copy_3 (by decide) rfl rfl ?_
  refine g_if_eq_B (tgt := 18) (pc := 6) dX11_copy_6 (by decide) (fun c1 => ?_) (fun c1 => ?_)
  · -- T c1
    exact absurd hd (of_decide_eq_false c1)
  · -- F c1
    have c1 := of_decide_eq_true c1
    refine g_iload_n (q := 3) (pc := 9) dX11_copy_9 rfl rfl ?_
    refine g_bipush (v := nI 8) (pc := 10) dX11_copy_10 (by decide) ?_
    refine e_callS (k2 := 0) (n2 := 0) (As := [.int (nI e), .int (nI 8)]) (rest := []) (pc := 12) (c_X11_isBelowN (by decide) (by omega)) mlX11_69 mX11_isBelow ⟨Nat.le_of_ble_eq_true rfl, Nat.le_of_ble_eq_true rfl⟩ rfl rfl (Nat.le_of_ble_eq_true rfl) dX11_copy_12 (by decide) rfl rfl ?_
    refine g_if_ne_B (tgt := 20) (pc := 15) dX11_copy_15 (by decide) (fun c2 => ?_) (fun c2 => ?_)
    · -- T c2
      have c2 := of_decide_eq_true c2
      refine g_aload_n (q := 0) (pc := 20) dX11_copy_20 rfl rfl ?_
      refine gc_get_O_shelves (pc := 21) hA flX11_28 dX11_copy_21 ?_
      refine g_iload_n (q := 1) (pc := 24) dX11_copy_24 rfl rfl ?_
      refine gc_ld_SH (pc := 25) (d := d) hA (by omega) dX11_copy_25 ?_
      refine e_callV (k2 := 0) (n2 := 0) (As := []) (rest := []) (pc := 26) (wC_sh hA hd) rfl (c_X7_isEmpty_s hA hd h2.2.1 h2.2.2.1 h2.2.2.2.1) mlX11_231 selX7_X7_isEmpty_X7_isEmpty mX7_isEmpty ⟨Nat.le_of_ble_eq_true rfl, Nat.le_of_ble_eq_true rfl⟩ rfl rfl (Nat.le_of_ble_eq_true rfl) dX11_copy_26 (by decide) rfl rfl ?_
      refine g_if_ne (tgt := 44) (pc := 29) dX11_copy_29 (by decide) (fun c0 => absurd c0 (by decide)) (fun _ => ?_)
      refine g_aload_n (q := 0) (pc := 32) dX11_copy_32 rfl rfl ?_
      refine gc_get_O_shelves (pc := 33) hA flX11_28 dX11_copy_33 ?_
      refine g_iload_n (q := 3) (pc := 36) dX11_copy_36 rfl rfl ?_
      refine gc_ld_SH (pc := 37) (d := e) hA (by omega) dX11_copy_37 ?_
      refine e_callV (k2 := 0) (n2 := 0) (As := []) (rest := []) (pc := 38) (wC_sh hA he) rfl (c_X7_isEmpty_s hA he g2.2.1 g2.2.2.1 g2.2.2.2.1) mlX11_231 selX7_X7_isEmpty_X7_isEmpty mX7_isEmpty ⟨Nat.le_of_ble_eq_true rfl, Nat.le_of_ble_eq_true rfl⟩ rfl rfl (Nat.le_of_ble_eq_true rfl) dX11_copy_38 (by decide) rfl rfl ?_
      refine g_if_eq (tgt := 47) (pc := 41) dX11_copy_41 (by decide) (fun _ => ?_) (fun c0 => absurd c0 (by decide))
      refine g_aload_n (q := 0) (pc := 47) dX11_copy_47 rfl rfl ?_
      refine g_iload_n (q := 1) (pc := 48) dX11_copy_48 rfl rfl ?_
      refine e_callV (k2 := 0) (n2 := 0) (As := [.int (nI d)]) (rest := []) (pc := 49) (wC_0 hA) rfl (c_X11_rowOn_s hA hd h2.2.2.1 h2.2.2.2.1) mlX11_197 selX11_X11_rowOn_X11_rowOn mX11_rowOn ⟨Nat.le_of_ble_eq_true rfl, Nat.le_of_ble_eq_true rfl⟩ rfl rfl (Nat.le_of_ble_eq_true rfl) dX11_copy_49 (by decide) rfl rfl ?_
      refine g_astore (lv' := [(6, .ref (cd (30 + d))), (0, .ref (cd 0)), (1, .int (nI d)), (2, .int (nI i)), (3, .int (nI e)), (4, .int (nI j)), (5, .int (nI n))]) (pc := 52) dX11_copy_52 (by decide) rfl ?_
      refine g_aload_n (q := 1) (pc := 54) dX11_copy_54 rfl rfl ?_
      refine g_iload_n (q := 4) (pc := 55) dX11_copy_55 rfl rfl ?_
      refine e_callV (k2 := 0) (n2 := 0) (As := [.int (nI e)]) (rest := []) (pc := 56) (wC_0 hA) rfl (c_X11_rowOn_s hA he g2.2.2.1 g2.2.2.2.1) mlX11_197 selX11_X11_rowOn_X11_rowOn mX11_rowOn ⟨Nat.le_of_ble_eq_true rfl, Nat.le_of_ble_eq_true rfl⟩ rfl rfl (Nat.le_of_ble_eq_true rfl) dX11_copy_56 (by decide) rfl rfl ?_
      refine g_astore (lv' := [(7, .ref (cd (30 + e))), (6, .ref (cd (30 + d))), (0, .ref (cd 0)), (1, .int (nI d)), (2, .int (nI i)), (3, .int (nI e)), (4, .int (nI j)), (5, .int (nI n))]) (pc := 59) dX11_copy_59 (by decide) rfl ?_
      refine g_aload (q := 1) (pc := 61) dX11_copy_61 rfl ?_
      refine g_ifnull (pc := 63) dX11_copy_63 ?_
      refine g_aload (q := 0) (pc := 66) dX11_copy_66 rfl ?_
      refine g_ifnull (pc := 68) dX11_copy_68 ?_
      refine g_aload (q := 1) (pc := 71) dX11_copy_71 rfl ?_
      refine gc_get_S_sortx (pc := 73) (x := nI (so d)) (d := d) hA (by omega) h2.2.2.1 flX11_234 dX11_copy_73 ?_
      refine g_aload (q := 0) (pc := 76) dX11_copy_76 rfl ?_
      refine gc_get_S_sortx (pc := 78) (x := nI (so e)) (d := e) hA (by omega) g2.2.2.1 flX11_234 dX11_copy_78 ?_
      refine g_icmp_eq_N (tgt := 87) (pc := 81) (by omega) (by omega) dX11_copy_81 (by decide) (fun c3 => ?_) (fun c3 => ?_)
      · -- T c3
        refine g_aload (q := 1) (pc := 87) dX11_copy_87 rfl ?_
        refine g_iload_n (q := 4) (pc := 89) dX11_copy_89 rfl rfl ?_
        refine g_iload (q := 7) (pc := 90) dX11_copy_90 rfl ?_
        refine e_callV (k2 := 0) (n2 := 0) (As := [.int (nI i), .int (nI n)]) (rest := []) (pc := 92) (wC_sh hA hd) rfl (c_X7_spans hA hd (by rw [h2.2.2.2.2.1]; exact h2.2.2.2.2.2.1)) mlX11_237 selX7_X7_spans_X7_spans mX7_spans ⟨Nat.le_of_ble_eq_true rfl, Nat.le_of_ble_eq_true rfl⟩ rfl rfl (Nat.le_of_ble_eq_true rfl) dX11_copy_92 (by decide) rfl rfl ?_
        refine g_if_eq_B (tgt := 110) (pc := 95) dX11_copy_95 (by decide) (fun c4 => ?_) (fun c4 => ?_)
        · -- T c4
          rw [spB_N (by omega) (by omega) (by rw [h2.2.2.2.2.1]; exact hin)] at c4; cases c4
        · -- F c4
          refine g_aload (q := 0) (pc := 98) dX11_copy_98 rfl ?_
          refine g_iload (q := 6) (pc := 100) dX11_copy_100 rfl ?_
          refine g_iload (q := 7) (pc := 102) dX11_copy_102 rfl ?_
          refine e_callV (k2 := 0) (n2 := 0) (As := [.int (nI j), .int (nI n)]) (rest := []) (pc := 104) (wC_sh hA he) rfl (c_X7_spans hA he (by rw [g2.2.2.2.2.1]; exact g2.2.2.2.2.2.1)) mlX11_237 selX7_X7_spans_X7_spans mX7_spans ⟨Nat.le_of_ble_eq_true rfl, Nat.le_of_ble_eq_true rfl⟩ rfl rfl (Nat.le_of_ble_eq_true rfl) dX11_copy_104 (by decide) rfl rfl ?_
          refine g_if_ne_B (tgt := 113) (pc := 107) dX11_copy_107 (by decide) (fun c5 => ?_) (fun c5 => ?_)
          · -- T c5
            refine g_aload (q := 1) (pc := 113) dX11_copy_113 rfl ?_
            refine gc_get_S_elements (pc := 115) (d := d) hA (by omega) flX11_240 dX11_copy_115 ?_
            refine g_iload_n (q := 4) (pc := 118) dX11_copy_118 rfl rfl ?_
            refine g_aload (q := 0) (pc := 119) dX11_copy_119 rfl ?_
            refine gc_get_S_elements (pc := 121) (d := e) hA (by omega) flX11_240 dX11_copy_121 ?_
            refine g_iload (q := 6) (pc := 124) dX11_copy_124 rfl ?_
            refine g_iload (q := 7) (pc := 126) dX11_copy_126 rfl ?_
            refine g_copy (pc := 128) (sp := i) (dp := j) (w := n) (wC_el hA hd) (wC_el hA he) (by have := h2.2.2.2.2.2.1; omega) (by have := g2.2.2.2.2.2.1; omega) (by decide) (by decide) (hA.1.2 _ (by omega)) ⟨Nat.le_of_ble_eq_true rfl, Nat.le_of_ble_eq_true rfl⟩ (Nat.le_of_ble_eq_true rfl) dX11_copy_128 ?_
            refine G.veq (wCs_EL hA he) ?_
            refine g_iload (q := 7) (pc := 131) dX11_copy_131 rfl ?_
            exact g_iret (pc := 133) (by decide) (by decide) (gC hPo rfl (CI.mk ⟨hA, hE, hgA, hgB, hmA, hmC, hpl, hipl, (hSh.copy hd he hk hke hin hjn)⟩)) dX11_copy_133
          · -- F c5
            rw [spB_N (by omega) (by omega) (by rw [g2.2.2.2.2.1]; exact hjn)] at c5; cases c5
      · -- F c3
        exact absurd hso c3
    · -- F c2
      exact absurd he (of_decide_eq_false c2)
theorem d_X11_copy_s {d i e j n : Nat} {V2 : HV} (hCI : CI Z b0 cd Vb ik kd fg pl hr ikd ifg ipl ihr kp so sz el ki kf V2) (hd : d < 8) (he : e < 8) (hk : kp d = 2) (hke : kp e = 2) (hso : so d = so e) (hin : i + n ≤ sz d) (hjn : j + n ≤ sz e) : KM l D Z b0 yX11_copy cX11_copy 8 (some .int) rmX11_copy [.ref (cd 0), .int (nI d), .int (nI i), .int (nI e), .int (nI j), .int (nI n)] V2 (fun v0 V' => v0 = some (.int (nI n)) ∧ CI Z b0 cd Vb ik kd fg pl hr ikd ifg ipl ihr kp so sz (cpy el d i e j n) ki kf V') := by
  obtain ⟨ugA, ugB, ugC, rA, rB, pB, tB, rC, cX, lX, oX, nX, sX, zX, cY, lY, oY, nY, sY, zY, tm, cl, KR, SO, SZ, EL, V, rfl, hA, hE, hgA, hgB, hmA, hmC, hpl, hipl, hSh⟩ := hCI
  exact c_X11_copy_s hA hE hgA hgB hmA hmC hpl hipl hSh hd he hk hke hso hin hjn
set_option maxHeartbeats 8000000 in
theorem c_X11_copy_n {d i e j n : Int32} (hA : oC b0 cd V) (hE : Ext Vb V) (hgA : Rk V ugA 7 0) (hgB : Rk V ugB 7 0) (hmA : mo V rA kd fg) (hmC : mo V rC ikd ifg) (hpl : ∀ g, g < 2 → pl g < 20) (hipl : ∀ g, g < 2 → ipl g < 20) (hSh : Sh V KR SO SZ EL kp so sz el ki kf) (h : ¬ okCopy kp so sz d i e j n) : KM l D Z b0 yX11_copy cX11_copy 8 (some .int) rmX11_copy [.ref (cd 0), .int d, .int i, .int e, .int j, .int n] (wC Z cd ik ugA ugB ugC rA (nf pl) hr rB pB tB rC (nf ipl) ihr cX lX oX nX sX zX cY lY oY nY sY zY tm cl KR SO SZ EL V) (fun v0 V' => v0 = some (.int (rCopy kp so d e)) ∧ CI Z b0 cd Vb ik kd fg pl hr ikd ifg ipl ihr kp so sz el ki kf V') := by
  refine KM.ofP (by decide) (Nat.le_of_ble_eq_true rfl) (fun Po hPo => ?_)
  refine G.locals (L' := [(0, .ref (cd 0)), (1, .int d), (2, .int i), (3, .int e), (4, .int j), (5, .int n)]) [0, 1, 2, 3, 4, 5] rfl ?_
  refine g_iload_n (q := 1) (pc := 0) dX11_copy_0 rfl rfl ?_
  refine g_bipush (v := nI 8) (pc := 1) dX11_copy_1 (by decide) ?_
  refine e_callS (k2 := 0) (n2 := 0) (As := [.int d, .int (nI 8)]) (rest := []) (pc := 3) (c_X11_isBelow (by decide)) mlX11_69 mX11_isBelow ⟨Nat.le_of_ble_eq_true rfl, Nat.le_of_ble_eq_true rfl⟩ rfl rfl (Nat.le_of_ble_eq_true rfl) dX11_copy_3 (by decide) rfl rfl ?_
  refine g_if_eq_B (tgt := 18) (pc := 6) dX11_copy_6 (by decide) (fun c1 => ?_) (fun c1 => ?_)
  · -- T c1
    refine g_iconst (v := (-1)) (pc := 18) dX11_copy_18 (by decide) ?_
    exact g_iret (pc := 19) (by decide) (by decide) (gC hPo (rCopy_d (by assumption)) (CI.mk ⟨hA, hE, hgA, hgB, hmA, hmC, hpl, hipl, hSh⟩)) dX11_copy_19
  · -- F c1
    obtain ⟨d, hd, rfl⟩ := inR_t c1
    refine g_iload_n (q := 3) (pc := 9) dX11_copy_9 rfl rfl ?_
    refine g_bipush (v := nI 8) (pc := 10) dX11_copy_10 (by decide) ?_
    refine e_callS (k2 := 0) (n2 := 0) (As := [.int e, .int (nI 8)]) (rest := []) (pc := 12) (c_X11_isBelow (by decide)) mlX11_69 mX11_isBelow ⟨Nat.le_of_ble_eq_true rfl, Nat.le_of_ble_eq_true rfl⟩ rfl rfl (Nat.le_of_ble_eq_true rfl) dX11_copy_12 (by decide) rfl rfl ?_
    refine g_if_ne_B (tgt := 20) (pc := 15) dX11_copy_15 (by decide) (fun c2 => ?_) (fun c2 => ?_)
    · -- T c2
      obtain ⟨e, he, rfl⟩ := inR_t c2
      refine g_aload_n (q := 0) (pc := 20) dX11_copy_20 rfl rfl ?_
      refine gc_get_O_shelves (pc := 21) hA flX11_28 dX11_copy_21 ?_
      refine g_iload_n (q := 1) (pc := 24) dX11_copy_24 rfl rfl ?_
      refine gc_ld_SH (pc := 25) (d := d) hA (by omega) dX11_copy_25 ?_
      rcases hSh d hd with h0 | ⟨h1, ⟨a, q, f, hk1, hr1, hi1, hf1⟩, hs1⟩ | h2
      · -- alt
        refine e_callV (k2 := 0) (n2 := 0) (As := []) (rest := []) (pc := 26) (wC_sh hA hd) rfl (c_X7_isEmpty_e hA hd h0.2.1 h0.2.2) mlX11_231 selX7_X7_isEmpty_X7_isEmpty mX7_isEmpty ⟨Nat.le_of_ble_eq_true rfl, Nat.le_of_ble_eq_true rfl⟩ rfl rfl (Nat.le_of_ble_eq_true rfl) dX11_copy_26 (by decide) rfl rfl ?_
        refine g_if_ne (tgt := 44) (pc := 29) dX11_copy_29 (by decide) (fun _ => ?_) (fun c0 => absurd c0 (by decide))
        refine g_bipush (v := (-11)) (pc := 44) dX11_copy_44 (by decide) ?_
        exact g_iret (pc := 46) (by decide) (by decide) (gC hPo (by rw [rCopy_r hd he]; simp [*]) (CI.mk ⟨hA, hE, hgA, hgB, hmA, hmC, hpl, hipl, hSh⟩)) dX11_copy_46
      · -- alt
        refine e_callV (k2 := 0) (n2 := 0) (As := []) (rest := []) (pc := 26) (wC_sh hA hd) rfl (c_X7_isEmpty_r hA hd hk1) mlX11_231 selX7_X7_isEmpty_X7_isEmpty mX7_isEmpty ⟨Nat.le_of_ble_eq_true rfl, Nat.le_of_ble_eq_true rfl⟩ rfl rfl (Nat.le_of_ble_eq_true rfl) dX11_copy_26 (by decide) rfl rfl ?_
        refine g_if_ne (tgt := 44) (pc := 29) dX11_copy_29 (by decide) (fun c0 => absurd c0 (by decide)) (fun _ => ?_)
        refine g_aload_n (q := 0) (pc := 32) dX11_copy_32 rfl rfl ?_
        refine gc_get_O_shelves (pc := 33) hA flX11_28 dX11_copy_33 ?_
        refine g_iload_n (q := 3) (pc := 36) dX11_copy_36 rfl rfl ?_
        refine gc_ld_SH (pc := 37) (d := e) hA (by omega) dX11_copy_37 ?_
        rcases hSh e he with g0 | ⟨g1, ⟨ga, gq, gf, gk1, gr1, gi1, gf1⟩, gs1⟩ | g2
        · -- alt
          refine e_callV (k2 := 0) (n2 := 0) (As := []) (rest := []) (pc := 38) (wC_sh hA he) rfl (c_X7_isEmpty_e hA he g0.2.1 g0.2.2) mlX11_231 selX7_X7_isEmpty_X7_isEmpty mX7_isEmpty ⟨Nat.le_of_ble_eq_true rfl, Nat.le_of_ble_eq_true rfl⟩ rfl rfl (Nat.le_of_ble_eq_true rfl) dX11_copy_38 (by decide) rfl rfl ?_
          refine g_if_eq (tgt := 47) (pc := 41) dX11_copy_41 (by decide) (fun c0 => absurd c0 (by decide)) (fun _ => ?_)
          refine g_bipush (v := (-11)) (pc := 44) dX11_copy_44 (by decide) ?_
          exact g_iret (pc := 46) (by decide) (by decide) (gC hPo (by rw [rCopy_r hd he]; simp [*]) (CI.mk ⟨hA, hE, hgA, hgB, hmA, hmC, hpl, hipl, hSh⟩)) dX11_copy_46
        · -- alt
          refine e_callV (k2 := 0) (n2 := 0) (As := []) (rest := []) (pc := 38) (wC_sh hA he) rfl (c_X7_isEmpty_r hA he gk1) mlX11_231 selX7_X7_isEmpty_X7_isEmpty mX7_isEmpty ⟨Nat.le_of_ble_eq_true rfl, Nat.le_of_ble_eq_true rfl⟩ rfl rfl (Nat.le_of_ble_eq_true rfl) dX11_copy_38 (by decide) rfl rfl ?_
          refine g_if_eq (tgt := 47) (pc := 41) dX11_copy_41 (by decide) (fun _ => ?_) (fun c0 => absurd c0 (by decide))
          refine g_aload_n (q := 0) (pc := 47) dX11_copy_47 rfl rfl ?_
          refine g_iload_n (q := 1) (pc := 48) dX11_copy_48 rfl rfl ?_
          refine e_callV (k2 := 0) (n2 := 0) (As := [.int (nI d)]) (rest := []) (pc := 49) (wC_0 hA) rfl (c_X11_rowOn_e hA hd hs1) mlX11_197 selX11_X11_rowOn_X11_rowOn mX11_rowOn ⟨Nat.le_of_ble_eq_true rfl, Nat.le_of_ble_eq_true rfl⟩ rfl rfl (Nat.le_of_ble_eq_true rfl) dX11_copy_49 (by decide) rfl rfl ?_
          refine g_astoreN (lv' := [(6, .null), (0, .ref (cd 0)), (1, .int (nI d)), (2, .int i), (3, .int (nI e)), (4, .int j), (5, .int n)]) (pc := 52) dX11_copy_52 (by decide) rfl ?_
          refine g_aload_n (q := 1) (pc := 54) dX11_copy_54 rfl rfl ?_
          refine g_iload_n (q := 4) (pc := 55) dX11_copy_55 rfl rfl ?_
          refine e_callV (k2 := 0) (n2 := 0) (As := [.int (nI e)]) (rest := []) (pc := 56) (wC_0 hA) rfl (c_X11_rowOn_e hA he gs1) mlX11_197 selX11_X11_rowOn_X11_rowOn mX11_rowOn ⟨Nat.le_of_ble_eq_true rfl, Nat.le_of_ble_eq_true rfl⟩ rfl rfl (Nat.le_of_ble_eq_true rfl) dX11_copy_56 (by decide) rfl rfl ?_
          refine g_astoreN (lv' := [(7, .null), (6, .null), (0, .ref (cd 0)), (1, .int (nI d)), (2, .int i), (3, .int (nI e)), (4, .int j), (5, .int n)]) (pc := 59) dX11_copy_59 (by decide) rfl ?_
          refine g_aloadN (q := 1) (pc := 61) dX11_copy_61 rfl ?_
          refine g_ifnullN (tgt := 84) (pc := 63) dX11_copy_63 (by decide) ?_
          refine g_bipush (v := (-12)) (pc := 84) dX11_copy_84 (by decide) ?_
          exact g_iret (pc := 86) (by decide) (by decide) (gC hPo (by rw [rCopy_r hd he]; simp [*]) (CI.mk ⟨hA, hE, hgA, hgB, hmA, hmC, hpl, hipl, hSh⟩)) dX11_copy_86
        · -- alt
          refine e_callV (k2 := 0) (n2 := 0) (As := []) (rest := []) (pc := 38) (wC_sh hA he) rfl (c_X7_isEmpty_s hA he g2.2.1 g2.2.2.1 g2.2.2.2.1) mlX11_231 selX7_X7_isEmpty_X7_isEmpty mX7_isEmpty ⟨Nat.le_of_ble_eq_true rfl, Nat.le_of_ble_eq_true rfl⟩ rfl rfl (Nat.le_of_ble_eq_true rfl) dX11_copy_38 (by decide) rfl rfl ?_
          refine g_if_eq (tgt := 47) (pc := 41) dX11_copy_41 (by decide) (fun _ => ?_) (fun c0 => absurd c0 (by decide))
          refine g_aload_n (q := 0) (pc := 47) dX11_copy_47 rfl rfl ?_
          refine g_iload_n (q := 1) (pc := 48) dX11_copy_48 rfl rfl ?_
          refine e_callV (k2 := 0) (n2 := 0) (As := [.int (nI d)]) (rest := []) (pc := 49) (wC_0 hA) rfl (c_X11_rowOn_e hA hd hs1) mlX11_197 selX11_X11_rowOn_X11_rowOn mX11_rowOn ⟨Nat.le_of_ble_eq_true rfl, Nat.le_of_ble_eq_true rfl⟩ rfl rfl (Nat.le_of_ble_eq_true rfl) dX11_copy_49 (by decide) rfl rfl ?_
          refine g_astoreN (lv' := [(6, .null), (0, .ref (cd 0)), (1, .int (nI d)), (2, .int i), (3, .int (nI e)), (4, .int j), (5, .int n)]) (pc := 52) dX11_copy_52 (by decide) rfl ?_
          refine g_aload_n (q := 1) (pc := 54) dX11_copy_54 rfl rfl ?_
          refine g_iload_n (q := 4) (pc := 55) dX11_copy_55 rfl rfl ?_
          refine e_callV (k2 := 0) (n2 := 0) (As := [.int (nI e)]) (rest := []) (pc := 56) (wC_0 hA) rfl (c_X11_rowOn_s hA he g2.2.2.1 g2.2.2.2.1) mlX11_197 selX11_X11_rowOn_X11_rowOn mX11_rowOn ⟨Nat.le_of_ble_eq_true rfl, Nat.le_of_ble_eq_true rfl⟩ rfl rfl (Nat.le_of_ble_eq_true rfl) dX11_copy_56 (by decide) rfl rfl ?_
          refine g_astore (lv' := [(7, .ref (cd (30 + e))), (6, .null), (0, .ref (cd 0)), (1, .int (nI d)), (2, .int i), (3, .int (nI e)), (4, .int j), (5, .int n)]) (pc := 59) dX11_copy_59 (by decide) rfl ?_
          refine g_aloadN (q := 1) (pc := 61) dX11_copy_61 rfl ?_
          refine g_ifnullN (tgt := 84) (pc := 63) dX11_copy_63 (by decide) ?_
          refine g_bipush (v := (-12)) (pc := 84) dX11_copy_84 (by decide) ?_
          exact g_iret (pc := 86) (by decide) (by decide) (gC hPo (by rw [rCopy_r hd he]; simp [*]) (CI.mk ⟨hA, hE, hgA, hgB, hmA, hmC, hpl, hipl, hSh⟩)) dX11_copy_86
      · -- alt
        refine e_callV (k2 := 0) (n2 := 0) (As := []) (rest := []) (pc := 26) (wC_sh hA hd) rfl (c_X7_isEmpty_s hA hd h2.2.1 h2.2.2.1 h2.2.2.2.1) mlX11_231 selX7_X7_isEmpty_X7_isEmpty mX7_isEmpty ⟨Nat.le_of_ble_eq_true rfl, Nat.le_of_ble_eq_true rfl⟩ rfl rfl (Nat.le_of_ble_eq_true rfl) dX11_copy_26 (by decide) rfl rfl ?_
        refine g_if_ne (tgt := 44) (pc := 29) dX11_copy_29 (by decide) (fun c0 => absurd c0 (by decide)) (fun _ => ?_)
        refine g_aload_n (q := 0) (pc := 32) dX11_copy_32 rfl rfl ?_
        refine gc_get_O_shelves (pc := 33) hA flX11_28 dX11_copy_33 ?_
        refine g_iload_n (q := 3) (pc := 36) dX11_copy_36 rfl rfl ?_
        refine gc_ld_SH (pc := 37) (d := e) hA (by omega) dX11_copy_37 ?_
        rcases hSh e he with g0 | ⟨g1, ⟨ga, gq, gf, gk1, gr1, gi1, gf1⟩, gs1⟩ | g2
        · -- alt
          refine e_callV (k2 := 0) (n2 := 0) (As := []) (rest := []) (pc := 38) (wC_sh hA he) rfl (c_X7_isEmpty_e hA he g0.2.1 g0.2.2) mlX11_231 selX7_X7_isEmpty_X7_isEmpty mX7_isEmpty ⟨Nat.le_of_ble_eq_true rfl, Nat.le_of_ble_eq_true rfl⟩ rfl rfl (Nat.le_of_ble_eq_true rfl) dX11_copy_38 (by decide) rfl rfl ?_
          refine g_if_eq (tgt := 47) (pc := 41) dX11_copy_41 (by decide) (fun c0 => absurd c0 (by decide)) (fun _ => ?_)
          refine g_bipush (v := (-11)) (pc := 44) dX11_copy_44 (by decide) ?_
          exact g_iret (pc := 46) (by decide) (by decide) (gC hPo (by rw [rCopy_r hd he]; simp [*]) (CI.mk ⟨hA, hE, hgA, hgB, hmA, hmC, hpl, hipl, hSh⟩)) dX11_copy_46
        · -- alt
          refine e_callV (k2 := 0) (n2 := 0) (As := []) (rest := []) (pc := 38) (wC_sh hA he) rfl (c_X7_isEmpty_r hA he gk1) mlX11_231 selX7_X7_isEmpty_X7_isEmpty mX7_isEmpty ⟨Nat.le_of_ble_eq_true rfl, Nat.le_of_ble_eq_true rfl⟩ rfl rfl (Nat.le_of_ble_eq_true rfl) dX11_copy_38 (by decide) rfl rfl ?_
          refine g_if_eq (tgt := 47) (pc := 41) dX11_copy_41 (by decide) (fun _ => ?_) (fun c0 => absurd c0 (by decide))
          refine g_aload_n (q := 0) (pc := 47) dX11_copy_47 rfl rfl ?_
          refine g_iload_n (q := 1) (pc := 48) dX11_copy_48 rfl rfl ?_
          refine e_callV (k2 := 0) (n2 := 0) (As := [.int (nI d)]) (rest := []) (pc := 49) (wC_0 hA) rfl (c_X11_rowOn_s hA hd h2.2.2.1 h2.2.2.2.1) mlX11_197 selX11_X11_rowOn_X11_rowOn mX11_rowOn ⟨Nat.le_of_ble_eq_true rfl, Nat.le_of_ble_eq_true rfl⟩ rfl rfl (Nat.le_of_ble_eq_true rfl) dX11_copy_49 (by decide) rfl rfl ?_
          refine g_astore (lv' := [(6, .ref (cd (30 + d))), (0, .ref (cd 0)), (1, .int (nI d)), (2, .int i), (3, .int (nI e)), (4, .int j), (5, .int n)]) (pc := 52) dX11_copy_52 (by decide) rfl ?_
          refine g_aload_n (q := 1) (pc := 54) dX11_copy_54 rfl rfl ?_
          refine g_iload_n (q := 4) (pc := 55) dX11_copy_55 rfl rfl ?_
          refine e_callV (k2 := 0) (n2 := 0) (As := [.int (nI e)]) (rest := []) (pc := 56) (wC_0 hA) rfl (c_X11_rowOn_e hA he gs1) mlX11_197 selX11_X11_rowOn_X11_rowOn mX11_rowOn ⟨Nat.le_of_ble_eq_true rfl, Nat.le_of_ble_eq_true rfl⟩ rfl rfl (Nat.le_of_ble_eq_true rfl) dX11_copy_56 (by decide) rfl rfl ?_
          refine g_astoreN (lv' := [(7, .null), (6, .ref (cd (30 + d))), (0, .ref (cd 0)), (1, .int (nI d)), (2, .int i), (3, .int (nI e)), (4, .int j), (5, .int n)]) (pc := 59) dX11_copy_59 (by decide) rfl ?_
          refine g_aload (q := 1) (pc := 61) dX11_copy_61 rfl ?_
          refine g_ifnull (pc := 63) dX11_copy_63 ?_
          refine g_aloadN (q := 0) (pc := 66) dX11_copy_66 rfl ?_
          refine g_ifnullN (tgt := 84) (pc := 68) dX11_copy_68 (by decide) ?_
          refine g_bipush (v := (-12)) (pc := 84) dX11_copy_84 (by decide) ?_
          exact g_iret (pc := 86) (by decide) (by decide) (gC hPo (by rw [rCopy_r hd he]; simp [*]) (CI.mk ⟨hA, hE, hgA, hgB, hmA, hmC, hpl, hipl, hSh⟩)) dX11_copy_86
        · -- alt
          refine e_callV (k2 := 0) (n2 := 0) (As := []) (rest := []) (pc := 38) (wC_sh hA he) rfl (c_X7_isEmpty_s hA he g2.2.1 g2.2.2.1 g2.2.2.2.1) mlX11_231 selX7_X7_isEmpty_X7_isEmpty mX7_isEmpty ⟨Nat.le_of_ble_eq_true rfl, Nat.le_of_ble_eq_true rfl⟩ rfl rfl (Nat.le_of_ble_eq_true rfl) dX11_copy_38 (by decide) rfl rfl ?_
          refine g_if_eq (tgt := 47) (pc := 41) dX11_copy_41 (by decide) (fun _ => ?_) (fun c0 => absurd c0 (by decide))
          refine g_aload_n (q := 0) (pc := 47) dX11_copy_47 rfl rfl ?_
          refine g_iload_n (q := 1) (pc := 48) dX11_copy_48 rfl rfl ?_
          refine e_callV (k2 := 0) (n2 := 0) (As := [.int (nI d)]) (rest := []) (pc := 49) (wC_0 hA) rfl (c_X11_rowOn_s hA hd h2.2.2.1 h2.2.2.2.1) mlX11_197 selX11_X11_rowOn_X11_rowOn mX11_rowOn ⟨Nat.le_of_ble_eq_true rfl, Nat.le_of_ble_eq_true rfl⟩ rfl rfl (Nat.le_of_ble_eq_true rfl) dX11_copy_49 (by decide) rfl rfl ?_
          refine g_astore (lv' := [(6, .ref (cd (30 + d))), (0, .ref (cd 0)), (1, .int (nI d)), (2, .int i), (3, .int (nI e)), (4, .int j), (5, .int n)]) (pc := 52) dX11_copy_52 (by decide) rfl ?_
          refine g_aload_n (q := 1) (pc := 54) dX11_copy_54 rfl rfl ?_
          refine g_iload_n (q := 4) (pc := 55) dX11_copy_55 rfl rfl ?_
          refine e_callV (k2 := 0) (n2 := 0) (As := [.int (nI e)]) (rest := []) (pc := 56) (wC_0 hA) rfl (c_X11_rowOn_s hA he g2.2.2.1 g2.2.2.2.1) mlX11_197 selX11_X11_rowOn_X11_rowOn mX11_rowOn ⟨Nat.le_of_ble_eq_true rfl, Nat.le_of_ble_eq_true rfl⟩ rfl rfl (Nat.le_of_ble_eq_true rfl) dX11_copy_56 (by decide) rfl rfl ?_
          refine g_astore (lv' := [(7, .ref (cd (30 + e))), (6, .ref (cd (30 + d))), (0, .ref (cd 0)), (1, .int (nI d)), (2, .int i), (3, .int (nI e)), (4, .int j), (5, .int n)]) (pc := 59) dX11_copy_59 (by decide) rfl ?_
          refine g_aload (q := 1) (pc := 61) dX11_copy_61 rfl ?_
          refine g_ifnull (pc := 63) dX11_copy_63 ?_
          refine g_aload (q := 0) (pc := 66) dX11_copy_66 rfl ?_
          refine g_ifnull (pc := 68) dX11_copy_68 ?_
          refine g_aload (q := 1) (pc := 71) dX11_copy_71 rfl ?_
          refine gc_get_S_sortx (pc := 73) (x := nI (so d)) (d := d) hA (by omega) h2.2.2.1 flX11_234 dX11_copy_73 ?_
          refine g_aload (q := 0) (pc := 76) dX11_copy_76 rfl ?_
          refine gc_get_S_sortx (pc := 78) (x := nI (so e)) (d := e) hA (by omega) g2.2.2.1 flX11_234 dX11_copy_78 ?_
          refine g_icmp_eq_N (tgt := 87) (pc := 81) (by omega) (by omega) dX11_copy_81 (by decide) (fun c3 => ?_) (fun c3 => ?_)
          · -- T c3
            refine g_aload (q := 1) (pc := 87) dX11_copy_87 rfl ?_
            refine g_iload_n (q := 4) (pc := 89) dX11_copy_89 rfl rfl ?_
            refine g_iload (q := 7) (pc := 90) dX11_copy_90 rfl ?_
            refine e_callV (k2 := 0) (n2 := 0) (As := [.int i, .int n]) (rest := []) (pc := 92) (wC_sh hA hd) rfl (c_X7_spans hA hd (by rw [h2.2.2.2.2.1]; exact h2.2.2.2.2.2.1)) mlX11_237 selX7_X7_spans_X7_spans mX7_spans ⟨Nat.le_of_ble_eq_true rfl, Nat.le_of_ble_eq_true rfl⟩ rfl rfl (Nat.le_of_ble_eq_true rfl) dX11_copy_92 (by decide) rfl rfl ?_
            refine g_if_eq_B (tgt := 110) (pc := 95) dX11_copy_95 (by decide) (fun c4 => ?_) (fun c4 => ?_)
            · -- T c4
              refine g_bipush (v := (-13)) (pc := 110) dX11_copy_110 (by decide) ?_
              exact g_iret (pc := 112) (by decide) (by decide) (gC hPo (by rw [rCopy_r hd he]; simp [*]) (CI.mk ⟨hA, hE, hgA, hgB, hmA, hmC, hpl, hipl, hSh⟩)) dX11_copy_112
            · -- F c4
              refine g_aload (q := 0) (pc := 98) dX11_copy_98 rfl ?_
              refine g_iload (q := 6) (pc := 100) dX11_copy_100 rfl ?_
              refine g_iload (q := 7) (pc := 102) dX11_copy_102 rfl ?_
              refine e_callV (k2 := 0) (n2 := 0) (As := [.int j, .int n]) (rest := []) (pc := 104) (wC_sh hA he) rfl (c_X7_spans hA he (by rw [g2.2.2.2.2.1]; exact g2.2.2.2.2.2.1)) mlX11_237 selX7_X7_spans_X7_spans mX7_spans ⟨Nat.le_of_ble_eq_true rfl, Nat.le_of_ble_eq_true rfl⟩ rfl rfl (Nat.le_of_ble_eq_true rfl) dX11_copy_104 (by decide) rfl rfl ?_
              refine g_if_ne_B (tgt := 113) (pc := 107) dX11_copy_107 (by decide) (fun c5 => ?_) (fun c5 => ?_)
              · -- T c5
                refine absurd ?_ h
                have q1 := spB_le (by rw [h2.2.2.2.2.1]; exact h2.2.2.2.2.2.1) (by assumption : spB i n (SZ d) = true)
                have q2 := spB_le (by rw [g2.2.2.2.2.1]; exact g2.2.2.2.2.2.1) (by assumption : spB j n (SZ e) = true)
                rw [h2.2.2.2.2.1] at q1; rw [g2.2.2.2.2.1] at q2
                refine ⟨inR_lt hd (by omega), inR_lt he (by omega), ?_⟩
                rw [dN_N (by omega), dN_N (by omega)]
                exact ⟨h2.1, g2.1, by assumption, q1.1, q1.2.1, q2.2.1, q1.2.2, q2.2.2⟩
              · -- F c5
                refine g_bipush (v := (-13)) (pc := 110) dX11_copy_110 (by decide) ?_
                exact g_iret (pc := 112) (by decide) (by decide) (gC hPo (by rw [rCopy_r hd he]; simp [*]) (CI.mk ⟨hA, hE, hgA, hgB, hmA, hmC, hpl, hipl, hSh⟩)) dX11_copy_112
          · -- F c3
            refine g_bipush (v := (-12)) (pc := 84) dX11_copy_84 (by decide) ?_
            exact g_iret (pc := 86) (by decide) (by decide) (gC hPo (by rw [rCopy_r hd he]; simp [*]) (CI.mk ⟨hA, hE, hgA, hgB, hmA, hmC, hpl, hipl, hSh⟩)) dX11_copy_86
    · -- F c2
      refine g_iconst (v := (-1)) (pc := 18) dX11_copy_18 (by decide) ?_
      exact g_iret (pc := 19) (by decide) (by decide) (gC hPo (rCopy_e (by assumption)) (CI.mk ⟨hA, hE, hgA, hgB, hmA, hmC, hpl, hipl, hSh⟩)) dX11_copy_19
theorem d_X11_copy_n {d i e j n : Int32} {V2 : HV} (hCI : CI Z b0 cd Vb ik kd fg pl hr ikd ifg ipl ihr kp so sz el ki kf V2) (h : ¬ okCopy kp so sz d i e j n) : KM l D Z b0 yX11_copy cX11_copy 8 (some .int) rmX11_copy [.ref (cd 0), .int d, .int i, .int e, .int j, .int n] V2 (fun v0 V' => v0 = some (.int (rCopy kp so d e)) ∧ CI Z b0 cd Vb ik kd fg pl hr ikd ifg ipl ihr kp so sz el ki kf V') := by
  obtain ⟨ugA, ugB, ugC, rA, rB, pB, tB, rC, cX, lX, oX, nX, sX, zX, cY, lY, oY, nY, sY, zY, tm, cl, KR, SO, SZ, EL, V, rfl, hA, hE, hgA, hgB, hmA, hmC, hpl, hipl, hSh⟩ := hCI
  exact c_X11_copy_n hA hE hgA hgB hmA hmC hpl hipl hSh h
end MS
