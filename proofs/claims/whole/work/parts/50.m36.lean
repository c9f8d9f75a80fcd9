section MS
variable {l : Launch} {D : va_G} {Z : Nat → ClassId} {b0 : Nat} {cd : Nat → Nat} {ik : Int32} {ugA ugB ugC : Nat} {rA : Nat → Nat} {pA tA : Nat → Int32} {rB : Nat → Nat} {pB tB : Nat → Int32} {rC : Nat → Nat} {pC tC cX lX oX nX sX zX cY lY oY nY sY zY tm cl : Nat → Int32} {KR : Nat → Option Nat} {SO : Nat → Int32} {SZ : Nat → Nat} {EL : Nat → Nat → Int32} {V Vb : HV} {kd fg pl ikd ifg ipl kp so sz : Nat → Nat} {hr ihr el ki kf : Nat → Int32}
def rmX11_mountain : Room := { frames := 8, cells := 100, slots := 100, locals := 167 }
set_option maxHeartbeats 8000000 in
theorem c_X11_mountain_s {d : Nat} (hA : oC b0 cd V) (hE : Ext Vb V) (hgA : Rk V ugA 7 0) (hgB : Rk V ugB 7 0) (hmA : mo V rA kd fg) (hmC : mo V rC ikd ifg) (hpl : ∀ g, g < 2 → pl g < 20) (hipl : ∀ g, g < 2 → ipl g < 20) (hSh : Sh V KR SO SZ EL kp so sz el ki kf) (hd : d < 8) (hk : kp d = 2) (hsr : so d = 0) : KM l D Z b0 yX11_mountain cX11_mountain 5 (some .int) rmX11_mountain [.ref (cd 0), .int (nI d)] (wC Z cd ik ugA ugB ugC rA (nf pl) hr rB pB tB rC (nf ipl) ihr cX lX oX nX sX zX cY lY oY nY sY zY tm cl KR SO SZ EL V) (fun v0 V' => ∃ (r : Int32) (M2 : Mt), mtR (tx el (100 * d)) (sz d) (kd, fg, pl, hr) r M2 ∧ v0 = some (.int r) ∧ CI Z b0 cd Vb ik M2.1 M2.2.1 M2.2.2.1 M2.2.2.2 ikd ifg ipl ihr kp so sz el ki kf V') := by
  refine KM.ofP (by decide) (Nat.le_of_ble_eq_true rfl) (fun Po hPo => ?_)
  refine G.locals (L' := [(0, .ref (cd 0)), (1, .int (nI d))]) [0, 1] rfl ?_
  have h2 := And.intro hk (Sh.r2 hSh hd hk)
  have hz9 := h2.2.2.2.2.2.1
  refine g_aload_n (q := 0) (pc := 0) dX11_mountain_0 rfl rfl ?_
  refine g_iload_n (q := 1) (pc := 1) dX11_mountain_1 rfl rfl ?_
  refine g_iconst (v := nI 0) (pc := 2) dX11_mountain_2 (by decide) ?_
  refine e_callV (k2 := 0) (n2 := 0) (As := [.int (nI d), .int (nI 0)]) (rest := []) (pc := 3) (wC_0 hA) rfl (c_X11_rowOn__s hA hd h2.2.2.1 h2.2.2.2.1 hsr) mlX11_50 selX11_X11_rowOn__X11_rowOn_ mX11_rowOn_ ⟨Nat.le_of_ble_eq_true rfl, Nat.le_of_ble_eq_true rfl⟩ rfl rfl (Nat.le_of_ble_eq_true rfl) dX11_mountain_3 (by decide) rfl rfl ?_
  refine g_astore_n (lv' := [(2, .ref (cd (30 + d))), (0, .ref (cd 0)), (1, .int (nI d))]) (pc := 6) dX11_mountain_6 rfl (by decide) rfl ?_
  refine g_aload_n (q := 0) (pc := 7) dX11_mountain_7 rfl rfl ?_
  refine g_ifnonnull (tgt := 17) (pc := 8) dX11_mountain_8 (by decide) ?_
  refine g_aload_n (q := 0) (pc := 17) dX11_mountain_17 rfl rfl ?_
  refine g_callS (As := [.ref (cd (30 + d))]) (rest := []) (pc := 18) (c_X11_strayByte hA hd h2.2.2.2.2.1 h2.2.2.2.2.2.1 h2.2.2.2.2.2.2) mlX11_58 mX11_strayByte ⟨Nat.le_of_ble_eq_true rfl, Nat.le_of_ble_eq_true rfl⟩ rfl rfl (Nat.le_of_ble_eq_true rfl) dX11_mountain_18 (by decide)  (fun v9 V9 h9 => ?_)
  obtain ⟨r9, rfl, hr9, rfl⟩ := h9
  rcases hr9 with ⟨hok, rfl⟩ | ⟨p9, hf9, rfl⟩
  · -- 0
    refine G.eqst (k2 := 0) (n2 := 0) (st2 := [.int (-1)]) rfl rfl rfl ?_
    refine g_istore_n (lv' := [(3, .int (-1)), (2, .ref (cd (30 + d))), (0, .ref (cd 0)), (1, .int (nI d))]) (pc := 21) dX11_mountain_21 rfl (by decide) rfl ?_
    refine g_iload_n (q := 0) (pc := 22) dX11_mountain_22 rfl rfl ?_
    refine g_iconst (v := (-1)) (pc := 23) dX11_mountain_23 (by decide) ?_
    refine g_icmp_eq (tgt := 33) (pc := 24) dX11_mountain_24 (by decide) (fun c1 => ?_) (fun c1 => ?_)
    · -- T c1
      refine g_aload_n (q := 2) (pc := 33) dX11_mountain_33 rfl rfl ?_
      refine gc_get_O_mind (pc := 34) hA flX11_16 dX11_mountain_34 ?_
      refine g_aload_n (q := 2) (pc := 37) dX11_mountain_37 rfl rfl ?_
      refine gc_get_O_now (pc := 38) hA flX11_12 dX11_mountain_38 ?_
      refine e_callVv (k2 := 0) (n2 := 0) (As := [.ref (cd 1)]) (rest := []) (pc := 41) (wC_2 hA) rfl (c_X5_become_BA hA hmA) mlX11_62 selX5_X5_become_X5_become mX5_become ⟨Nat.le_of_ble_eq_true rfl, Nat.le_of_ble_eq_true rfl⟩ rfl rfl (Nat.le_of_ble_eq_true rfl) dX11_mountain_41 (by decide) rfl rfl ?_
      refine g_aload_n (q := 2) (pc := 44) dX11_mountain_44 rfl rfl ?_
      refine g_aload_n (q := 1) (pc := 45) dX11_mountain_45 rfl rfl ?_
      refine g_callV (As := [.ref (cd (30 + d))]) (rest := []) (pc := 46) (wC_0 hA) rfl (c_X11_obeyAll hA hE hgA hgB hmA hmC hpl hipl hSh hmA hd h2.2.2.2.2.1 h2.2.2.2.2.2.1 h2.2.2.2.2.2.2 hok) mlX11_66 selX11_X11_obeyAll_X11_obeyAll mX11_obeyAll ⟨Nat.le_of_ble_eq_true rfl, Nat.le_of_ble_eq_true rfl⟩ rfl rfl (Nat.le_of_ble_eq_true rfl) dX11_mountain_46 (by decide)  (fun v9 V9 h9 => ?_)
      obtain ⟨rB2, pB2, tB2, V2, hCH9, rfl, h8⟩ := h9
      rcases h8 with ⟨i9, hfl, rfl⟩ | ⟨M2, hEE, rfl, hm9, hpl9, rfl, rfl⟩
      · -- 0
        refine G.eqst (k2 := 100) (n2 := 100) (st2 := [.int ((-2000) - nI i9)]) rfl rfl rfl ?_
        refine g_istore (lv' := [(4, .int ((-2000) - nI i9)), (3, .int (-1)), (2, .ref (cd (30 + d))), (0, .ref (cd 0)), (1, .int (nI d))]) (pc := 49) dX11_mountain_49 (by decide) rfl ?_
        refine g_iload (q := 0) (pc := 51) dX11_mountain_51 rfl ?_
        refine g_if_le (tgt := 67) (pc := 53) dX11_mountain_53 (by decide) (fun c2 => ?_) (fun c2 => ?_)
        · -- T c2
          refine g_iload (q := 0) (pc := 67) dX11_mountain_67 rfl ?_
          exact g_iret (pc := 69) (by decide) (by decide) (hPo _ _ ⟨_, (kd, fg, pl, hr), Or.inr ⟨hok, Or.inl ⟨i9, hfl, rfl, rfl⟩⟩, rfl, (CI.mk ⟨hCH9.1, hCH9.2.1, hCH9.2.2.1, hCH9.2.2.2.1, hCH9.2.2.2.2.1, hCH9.2.2.2.2.2.1, hCH9.2.2.2.2.2.2.1, hCH9.2.2.2.2.2.2.2.1, hCH9.2.2.2.2.2.2.2.2⟩)⟩) dX11_mountain_69
        · -- F c2
          exact absurd (fltI (by have := hfl.1; omega)) c2
      · -- 1
        refine G.eqst (k2 := 100) (n2 := 100) (st2 := [.int (nI (cnA (tx el (100 * d)) (sz d)))]) rfl rfl rfl ?_
        refine g_istore (lv' := [(4, .int (nI (cnA (tx el (100 * d)) (sz d)))), (3, .int (-1)), (2, .ref (cd (30 + d))), (0, .ref (cd 0)), (1, .int (nI d))]) (pc := 49) dX11_mountain_49 (by decide) rfl ?_
        refine g_iload (q := 0) (pc := 51) dX11_mountain_51 rfl ?_
        refine g_if_le_N (tgt := 67) (pc := 53) (by have := cnA_le (tx el (100 * d)) (sz d); omega) dX11_mountain_53 (by decide) (fun c3 => ?_) (fun c3 => ?_)
        · -- T c3
          exact absurd (cnA_pos (f := (tx el (100 * d))) (sz d) hok.1) (by omega)
        · -- F c3
          refine g_aload_n (q := 3) (pc := 56) dX11_mountain_56 rfl rfl ?_
          refine gc_get_O_now (pc := 57) hCH9.1 flX11_12 dX11_mountain_57 ?_
          refine g_aload_n (q := 3) (pc := 60) dX11_mountain_60 rfl rfl ?_
          refine gc_get_O_mind (pc := 61) hCH9.1 flX11_16 dX11_mountain_61 ?_
          refine e_callVv (k2 := 100) (n2 := 100) (As := [.ref (cd 2)]) (rest := []) (pc := 64) (wC_1 hCH9.1) rfl (c_X5_become_AB hCH9.1 hm9) mlX11_62 selX5_X5_become_X5_become mX5_become ⟨Nat.le_of_ble_eq_true rfl, Nat.le_of_ble_eq_true rfl⟩ rfl rfl (Nat.le_of_ble_eq_true rfl) dX11_mountain_64 (by decide) rfl rfl ?_
          refine g_iload (q := 0) (pc := 67) dX11_mountain_67 rfl ?_
          exact g_iret (pc := 69) (by decide) (by decide) (hPo _ _ ⟨_, M2, Or.inr ⟨hok, Or.inr ⟨hEE, rfl⟩⟩, rfl, (CI.mk ⟨hCH9.1, hCH9.2.1, hCH9.2.2.1, hCH9.2.2.2.1, hm9, hCH9.2.2.2.2.2.1, hpl9, hCH9.2.2.2.2.2.2.2.1, hCH9.2.2.2.2.2.2.2.2⟩)⟩) dX11_mountain_69
    · -- F c1
      exact absurd rfl c1
  · -- 1
    refine G.eqst (k2 := 0) (n2 := 0) (st2 := [.int (nI p9)]) rfl rfl rfl ?_
    refine g_istore_n (lv' := [(3, .int (nI p9)), (2, .ref (cd (30 + d))), (0, .ref (cd 0)), (1, .int (nI d))]) (pc := 21) dX11_mountain_21 rfl (by decide) rfl ?_
    refine g_iload_n (q := 0) (pc := 22) dX11_mountain_22 rfl rfl ?_
    refine g_iconst (v := (-1)) (pc := 23) dX11_mountain_23 (by decide) ?_
    refine g_icmp_eq (tgt := 33) (pc := 24) dX11_mountain_24 (by decide) (fun c4 => ?_) (fun c4 => ?_)
    · -- T c4
      exact absurd c4 (nI_m1 (by have := hf9.1; omega))
    · -- F c4
      refine g_sipush (v := (-1000)) (pc := 27) dX11_mountain_27 (by decide) ?_
      refine g_iload_n (q := 0) (pc := 30) dX11_mountain_30 rfl rfl ?_
      refine g_isub (pc := 31) dX11_mountain_31 ?_
      exact g_iret (pc := 32) (by decide) (by decide) (hPo _ _ ⟨_, (kd, fg, pl, hr), Or.inl ⟨p9, hf9, rfl, rfl⟩, rfl, (CI.mk ⟨hA, hE, hgA, hgB, hmA, hmC, hpl, hipl, hSh⟩)⟩) dX11_mountain_32
theorem d_X11_mountain_s {d : Nat} {V2 : HV} (hCI : CI Z b0 cd Vb ik kd fg pl hr ikd ifg ipl ihr kp so sz el ki kf V2) (hd : d < 8) (hk : kp d = 2) (hsr : so d = 0) : KM l D Z b0 yX11_mountain cX11_mountain 5 (some .int) rmX11_mountain [.ref (cd 0), .int (nI d)] V2 (fun v0 V' => ∃ (r : Int32) (M2 : Mt), mtR (tx el (100 * d)) (sz d) (kd, fg, pl, hr) r M2 ∧ v0 = some (.int r) ∧ CI Z b0 cd Vb ik M2.1 M2.2.1 M2.2.2.1 M2.2.2.2 ikd ifg ipl ihr kp so sz el ki kf V') := by
  obtain ⟨ugA, ugB, ugC, rA, rB, pB, tB, rC, cX, lX, oX, nX, sX, zX, cY, lY, oY, nY, sY, zY, tm, cl, KR, SO, SZ, EL, V, rfl, hA, hE, hgA, hgB, hmA, hmC, hpl, hipl, hSh⟩ := hCI
  exact c_X11_mountain_s hA hE hgA hgB hmA hmC hpl hipl hSh hd hk hsr
set_option maxHeartbeats 8000000 in
theorem c_X11_mountain_n {d : Int32} (hA : oC b0 cd V) (hE : Ext Vb V) (hgA : Rk V ugA 7 0) (hgB : Rk V ugB 7 0) (hmA : mo V rA kd fg) (hmC : mo V rC ikd ifg) (hpl : ∀ g, g < 2 → pl g < 20) (hipl : ∀ g, g < 2 → ipl g < 20) (hSh : Sh V KR SO SZ EL kp so sz el ki kf) (h : ¬ spWR kp so d (some 0) = nI 0) : KM l D Z b0 yX11_mountain cX11_mountain 5 (some .int) rmX11_mountain [.ref (cd 0), .int d] (wC Z cd ik ugA ugB ugC rA (nf pl) hr rB pB tB rC (nf ipl) ihr cX lX oX nX sX zX cY lY oY nY sY zY tm cl KR SO SZ EL V) (fun v0 V' => v0 = some (.int (spWR kp so d (some 0))) ∧ CI Z b0 cd Vb ik kd fg pl hr ikd ifg ipl ihr kp so sz el ki kf V') := by
  refine KM.ofP (by decide) (Nat.le_of_ble_eq_true rfl) (fun Po hPo => ?_)
  refine G.locals (L' := [(0, .ref (cd 0)), (1, .int d)]) [0, 1] rfl ?_
  refine g_aload_n (q := 0) (pc := 0) dX11_mountain_0 rfl rfl ?_
  refine g_iload_n (q := 1) (pc := 1) dX11_mountain_1 rfl rfl ?_
  refine g_iconst (v := nI 0) (pc := 2) dX11_mountain_2 (by decide) ?_
  rcases Sh.k2 hSh d 0 with ho | ⟨d, hd, rfl, h0⟩ | ⟨d, hd, rfl, h1, a, q, f, hk1, hr1, hi1, hf1, hs1⟩ | ⟨d, hd, rfl, h2, hsx⟩ | ⟨d, hd, rfl, h2, hsr⟩
  · -- alt
    refine e_callV (k2 := 0) (n2 := 0) (As := [.int d, .int (nI 0)]) (rest := []) (pc := 3) (wC_0 hA) rfl (c_X11_rowOn__o (r := 0) hA ho) mlX11_50 selX11_X11_rowOn__X11_rowOn_ mX11_rowOn_ ⟨Nat.le_of_ble_eq_true rfl, Nat.le_of_ble_eq_true rfl⟩ rfl rfl (Nat.le_of_ble_eq_true rfl) dX11_mountain_3 (by decide) rfl rfl ?_
    refine g_astore_nN (lv' := [(2, .null), (0, .ref (cd 0)), (1, .int d)]) (pc := 6) dX11_mountain_6 rfl (by decide) rfl ?_
    refine g_aload_nN (q := 0) (pc := 7) dX11_mountain_7 rfl rfl ?_
    refine g_ifnonnullN (pc := 8) dX11_mountain_8 ?_
    refine g_aload_n (q := 1) (pc := 11) dX11_mountain_11 rfl rfl ?_
    refine g_iload_n (q := 2) (pc := 12) dX11_mountain_12 rfl rfl ?_
    refine e_callV (k2 := 0) (n2 := 0) (As := [.int d]) (rest := []) (pc := 13) (wC_0 hA) rfl (c_X11_whyNot_o hA ho) mlX11_54 selX11_X11_whyNot_X11_whyNot mX11_whyNot ⟨Nat.le_of_ble_eq_true rfl, Nat.le_of_ble_eq_true rfl⟩ rfl rfl (Nat.le_of_ble_eq_true rfl) dX11_mountain_13 (by decide) rfl rfl ?_
    exact g_iret (pc := 16) (by decide) (by decide) (gC hPo (by first | exact spWR_o ho | exact spWR_0c hd h0.1 | exact spWR_1c hd h1 | exact spWR_xc (r := some 0) hd h2.1 (decide_eq_false hsx)) (CI.mk ⟨hA, hE, hgA, hgB, hmA, hmC, hpl, hipl, hSh⟩)) dX11_mountain_16
  · -- alt
    refine e_callV (k2 := 0) (n2 := 0) (As := [.int (nI d), .int (nI 0)]) (rest := []) (pc := 3) (wC_0 hA) rfl (c_X11_rowOn__e (r := 0) hA hd h0.2.2) mlX11_50 selX11_X11_rowOn__X11_rowOn_ mX11_rowOn_ ⟨Nat.le_of_ble_eq_true rfl, Nat.le_of_ble_eq_true rfl⟩ rfl rfl (Nat.le_of_ble_eq_true rfl) dX11_mountain_3 (by decide) rfl rfl ?_
    refine g_astore_nN (lv' := [(2, .null), (0, .ref (cd 0)), (1, .int (nI d))]) (pc := 6) dX11_mountain_6 rfl (by decide) rfl ?_
    refine g_aload_nN (q := 0) (pc := 7) dX11_mountain_7 rfl rfl ?_
    refine g_ifnonnullN (pc := 8) dX11_mountain_8 ?_
    refine g_aload_n (q := 1) (pc := 11) dX11_mountain_11 rfl rfl ?_
    refine g_iload_n (q := 2) (pc := 12) dX11_mountain_12 rfl rfl ?_
    refine e_callV (k2 := 0) (n2 := 0) (As := [.int (nI d)]) (rest := []) (pc := 13) (wC_0 hA) rfl (c_X11_whyNot_0 hA hd h0.2.1 h0.2.2) mlX11_54 selX11_X11_whyNot_X11_whyNot mX11_whyNot ⟨Nat.le_of_ble_eq_true rfl, Nat.le_of_ble_eq_true rfl⟩ rfl rfl (Nat.le_of_ble_eq_true rfl) dX11_mountain_13 (by decide) rfl rfl ?_
    exact g_iret (pc := 16) (by decide) (by decide) (gC hPo (by first | exact spWR_o ho | exact spWR_0c hd h0.1 | exact spWR_1c hd h1 | exact spWR_xc (r := some 0) hd h2.1 (decide_eq_false hsx)) (CI.mk ⟨hA, hE, hgA, hgB, hmA, hmC, hpl, hipl, hSh⟩)) dX11_mountain_16
  · -- alt
    refine e_callV (k2 := 0) (n2 := 0) (As := [.int (nI d), .int (nI 0)]) (rest := []) (pc := 3) (wC_0 hA) rfl (c_X11_rowOn__e (r := 0) hA hd hs1) mlX11_50 selX11_X11_rowOn__X11_rowOn_ mX11_rowOn_ ⟨Nat.le_of_ble_eq_true rfl, Nat.le_of_ble_eq_true rfl⟩ rfl rfl (Nat.le_of_ble_eq_true rfl) dX11_mountain_3 (by decide) rfl rfl ?_
    refine g_astore_nN (lv' := [(2, .null), (0, .ref (cd 0)), (1, .int (nI d))]) (pc := 6) dX11_mountain_6 rfl (by decide) rfl ?_
    refine g_aload_nN (q := 0) (pc := 7) dX11_mountain_7 rfl rfl ?_
    refine g_ifnonnullN (pc := 8) dX11_mountain_8 ?_
    refine g_aload_n (q := 1) (pc := 11) dX11_mountain_11 rfl rfl ?_
    refine g_iload_n (q := 2) (pc := 12) dX11_mountain_12 rfl rfl ?_
    refine e_callV (k2 := 0) (n2 := 0) (As := [.int (nI d)]) (rest := []) (pc := 13) (wC_0 hA) rfl (c_X11_whyNot_1 hA hd hk1) mlX11_54 selX11_X11_whyNot_X11_whyNot mX11_whyNot ⟨Nat.le_of_ble_eq_true rfl, Nat.le_of_ble_eq_true rfl⟩ rfl rfl (Nat.le_of_ble_eq_true rfl) dX11_mountain_13 (by decide) rfl rfl ?_
    exact g_iret (pc := 16) (by decide) (by decide) (gC hPo (by first | exact spWR_o ho | exact spWR_0c hd h0.1 | exact spWR_1c hd h1 | exact spWR_xc (r := some 0) hd h2.1 (decide_eq_false hsx)) (CI.mk ⟨hA, hE, hgA, hgB, hmA, hmC, hpl, hipl, hSh⟩)) dX11_mountain_16
  · -- alt
    refine e_callV (k2 := 0) (n2 := 0) (As := [.int (nI d), .int (nI 0)]) (rest := []) (pc := 3) (wC_0 hA) rfl (c_X11_rowOn__x hA hd h2.2.2.1 h2.2.2.2.1 hsx (by decide)) mlX11_50 selX11_X11_rowOn__X11_rowOn_ mX11_rowOn_ ⟨Nat.le_of_ble_eq_true rfl, Nat.le_of_ble_eq_true rfl⟩ rfl rfl (Nat.le_of_ble_eq_true rfl) dX11_mountain_3 (by decide) rfl rfl ?_
    refine g_astore_nN (lv' := [(2, .null), (0, .ref (cd 0)), (1, .int (nI d))]) (pc := 6) dX11_mountain_6 rfl (by decide) rfl ?_
    refine g_aload_nN (q := 0) (pc := 7) dX11_mountain_7 rfl rfl ?_
    refine g_ifnonnullN (pc := 8) dX11_mountain_8 ?_
    refine g_aload_n (q := 1) (pc := 11) dX11_mountain_11 rfl rfl ?_
    refine g_iload_n (q := 2) (pc := 12) dX11_mountain_12 rfl rfl ?_
    refine e_callV (k2 := 0) (n2 := 0) (As := [.int (nI d)]) (rest := []) (pc := 13) (wC_0 hA) rfl (c_X11_whyNot_2 hA hd h2.2.1 h2.2.2.1 h2.2.2.2.1) mlX11_54 selX11_X11_whyNot_X11_whyNot mX11_whyNot ⟨Nat.le_of_ble_eq_true rfl, Nat.le_of_ble_eq_true rfl⟩ rfl rfl (Nat.le_of_ble_eq_true rfl) dX11_mountain_13 (by decide) rfl rfl ?_
    exact g_iret (pc := 16) (by decide) (by decide) (gC hPo (by first | exact spWR_o ho | exact spWR_0c hd h0.1 | exact spWR_1c hd h1 | exact spWR_xc (r := some 0) hd h2.1 (decide_eq_false hsx)) (CI.mk ⟨hA, hE, hgA, hgB, hmA, hmC, hpl, hipl, hSh⟩)) dX11_mountain_16
  · -- alt
    refine e_callV (k2 := 0) (n2 := 0) (As := [.int (nI d), .int (nI 0)]) (rest := []) (pc := 3) (wC_0 hA) rfl (c_X11_rowOn__s hA hd h2.2.2.1 h2.2.2.2.1 hsr) mlX11_50 selX11_X11_rowOn__X11_rowOn_ mX11_rowOn_ ⟨Nat.le_of_ble_eq_true rfl, Nat.le_of_ble_eq_true rfl⟩ rfl rfl (Nat.le_of_ble_eq_true rfl) dX11_mountain_3 (by decide) rfl rfl ?_
    refine g_astore_n (lv' := [(2, .ref (cd (30 + d))), (0, .ref (cd 0)), (1, .int (nI d))]) (pc := 6) dX11_mountain_6 rfl (by decide) rfl ?_
    refine g_aload_n (q := 0) (pc := 7) dX11_mountain_7 rfl rfl ?_
    refine g_ifnonnull (tgt := 17) (pc := 8) dX11_mountain_8 (by decide) ?_
    exact absurd (spWR_ok (r := some 0) hd h2.1 (decide_eq_true hsr)) h
theorem d_X11_mountain_n {d : Int32} {V2 : HV} (hCI : CI Z b0 cd Vb ik kd fg pl hr ikd ifg ipl ihr kp so sz el ki kf V2) (h : ¬ spWR kp so d (some 0) = nI 0) : KM l D Z b0 yX11_mountain cX11_mountain 5 (some .int) rmX11_mountain [.ref (cd 0), .int d] V2 (fun v0 V' => v0 = some (.int (spWR kp so d (some 0))) ∧ CI Z b0 cd Vb ik kd fg pl hr ikd ifg ipl ihr kp so sz el ki kf V') := by
  obtain ⟨ugA, ugB, ugC, rA, rB, pB, tB, rC, cX, lX, oX, nX, sX, zX, cY, lY, oY, nY, sY, zY, tm, cl, KR, SO, SZ, EL, V, rfl, hA, hE, hgA, hgB, hmA, hmC, hpl, hipl, hSh⟩ := hCI
  exact c_X11_mountain_n hA hE hgA hgB hmA hmC hpl hipl hSh h
end MS
