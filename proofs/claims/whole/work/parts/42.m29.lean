theorem inB_og {z : Int32} (h1 : ¬ z < nI 1) (h2 : ¬ nI 40 < z) : inB z 1 40 = true := by
  rw [Int32.lt_iff_toInt_lt, nI_toInt (by omega)] at h1 h2
  exact decide_eq_true (by omega)
theorem inB_m1 {z : Int32} (h1 : z < nI 1) : ¬ inB z 1 40 = true := fun q => by
  have := of_decide_eq_true q
  rw [Int32.lt_iff_toInt_lt, nI_toInt (by omega)] at h1; omega
theorem inB_m2 {z : Int32} (h2 : nI 40 < z) : ¬ inB z 1 40 = true := fun q => by
  have := of_decide_eq_true q
  rw [Int32.lt_iff_toInt_lt, nI_toInt (by omega)] at h2; omega
theorem fs_or (m : Mt) (z : Int32) : ∀ k, k < 1000 → fsS m z k = (-4) ∨ ¬ fsS m z k < 0
  | 0, _ => by
    rw [fsS]; split
    · right; decide
    · left; rfl
  | k + 1, hk => by
    rw [fsS]; split
    · right; exact nI_nneg (by omega)
    · exact fs_or m z k (by omega)
theorem fs_nl {m : Mt} {z f : Int32} {k : Nat} (hf : f = fsS m z k) (hk : k < 1000) (h : ¬ f = (-4)) : ¬ fsS m z k < 0 := (fs_or m z k hk).resolve_left (fun q => h (hf.trans q))
theorem fs_lt {m : Mt} {z f : Int32} {k : Nat} (hf : f = fsS m z k) (h : f = (-4)) : fsS m z k < 0 := by rw [← hf, h]; decide
theorem fs0_t {m : Mt} {z : Int32} (h : metB (m.2.2.1 0) (m.2.2.1 1) = true) : nI 0 = fsS m z 0 := (if_pos h).symm
theorem fs0_f {m : Mt} {z : Int32} (h : metB (m.2.2.1 0) (m.2.2.1 1) = false) : ((-4) : Int32) = fsS m z 0 := (if_neg (by rw [h]; decide)).symm
section MS
variable {l : Launch} {D : va_G} {Z : Nat → ClassId} {b0 : Nat} {cd : Nat → Nat} {ik : Int32} {ugA ugB ugC : Nat} {rA : Nat → Nat} {pA tA : Nat → Int32} {rB : Nat → Nat} {pB tB : Nat → Int32} {rC : Nat → Nat} {pC tC cX lX oX nX sX zX cY lY oY nY sY zY tm cl : Nat → Int32} {KR : Nat → Option Nat} {SO : Nat → Int32} {SZ : Nat → Nat} {EL : Nat → Nat → Int32} {V Vb : HV} {kd fg pl ikd ifg ipl kp so sz : Nat → Nat} {hr ihr el ki kf : Nat → Int32}
def rmX11_nextSeed : Room := { frames := 0, cells := 0, slots := 0, locals := 0 }
set_option maxHeartbeats 8000000 in
theorem c_X11_nextSeed {z : Int32}  : KE l D Z b0 yX11_nextSeed cX11_nextSeed 1 (some .int) rmX11_nextSeed [.int z] (V) (some (.int (nextS z))) (V) := by
  refine KE.of (by decide) (Nat.le_of_ble_eq_true rfl) (fun Po hPo => ?_)
  refine G.locals (L' := [(0, .int z)]) [0] rfl ?_
  refine g_iload_n (q := 0) (pc := 0) dX11_nextSeed_0 rfl rfl ?_
  refine g_ldcw (v := nI 1103515245) (pc := 1) ctX11_309 dX11_nextSeed_1 ?_
  refine g_imul (pc := 4) dX11_nextSeed_4 ?_
  refine g_sipush (v := nI 12345) (pc := 5) dX11_nextSeed_5 (by decide) ?_
  refine g_iadd (pc := 8) dX11_nextSeed_8 ?_
  refine g_top (x := (z * (nI 1103515245)) + (nI 12345)) (y := nextS z) rfl ?_
  exact g_iret (pc := 9) (by decide) (by decide) (hPo) dX11_nextSeed_9
def rmX11_draw : Room := { frames := 0, cells := 0, slots := 0, locals := 0 }
set_option maxHeartbeats 8000000 in
theorem c_X11_draw_2 {z : Int32}  : KE l D Z b0 yX11_draw cX11_draw 3 (some .int) rmX11_draw [.int z, .int (nI 2)] (V) (some (.int (nI (drN z 2)))) (V) := by
  refine KE.of (by decide) (Nat.le_of_ble_eq_true rfl) (fun Po hPo => ?_)
  refine G.locals (L' := [(0, .int z), (1, .int (nI 2))]) [0, 1] rfl ?_
  refine g_iload_n (q := 0) (pc := 0) dX11_draw_0 rfl rfl ?_
  refine g_ldcw (v := nI 2147483647) (pc := 1) ctX11_310 dX11_draw_1 ?_
  refine g_iand (pc := 4) dX11_draw_4 ?_
  refine g_top (x := z &&& (nI 2147483647)) (y := nI (drM z)) (drM_ok _).1 ?_
  refine g_ldcw (v := nI 65536) (pc := 5) ctX11_311 dX11_draw_5 ?_
  refine g_idiv_N (pc := 8) (by have := (drM_ok z).2; omega) (by decide) (by decide) dX11_draw_8 ?_
  refine g_istore_n (lv' := [(2, .int (nI ((drM z) / 65536))), (0, .int z), (1, .int (nI 2))]) (pc := 9) dX11_draw_9 rfl (by decide) rfl ?_
  refine g_iload_n (q := 2) (pc := 10) dX11_draw_10 rfl rfl ?_
  refine g_if_le (tgt := 20) (pc := 11) dX11_draw_11 (by decide) (fun c0 => absurd c0 (by decide)) (fun _ => ?_)
  refine g_iload_n (q := 0) (pc := 14) dX11_draw_14 rfl rfl ?_
  refine g_iload_n (q := 2) (pc := 15) dX11_draw_15 rfl rfl ?_
  refine g_irem_N (pc := 16) (by have := (drM_ok z).2; omega) (by decide) (by decide) dX11_draw_16 ?_
  refine g_goto (tgt := 21) (pc := 17) dX11_draw_17 (by decide) ?_
  exact g_iret (pc := 21) (by decide) (by decide) (hPo) dX11_draw_21
set_option maxHeartbeats 8000000 in
theorem c_X11_draw_4 {z : Int32}  : KE l D Z b0 yX11_draw cX11_draw 3 (some .int) rmX11_draw [.int z, .int (nI 4)] (V) (some (.int (nI (drN z 4)))) (V) := by
  refine KE.of (by decide) (Nat.le_of_ble_eq_true rfl) (fun Po hPo => ?_)
  refine G.locals (L' := [(0, .int z), (1, .int (nI 4))]) [0, 1] rfl ?_
  refine g_iload_n (q := 0) (pc := 0) dX11_draw_0 rfl rfl ?_
  refine g_ldcw (v := nI 2147483647) (pc := 1) ctX11_310 dX11_draw_1 ?_
  refine g_iand (pc := 4) dX11_draw_4 ?_
  refine g_top (x := z &&& (nI 2147483647)) (y := nI (drM z)) (drM_ok _).1 ?_
  refine g_ldcw (v := nI 65536) (pc := 5) ctX11_311 dX11_draw_5 ?_
  refine g_idiv_N (pc := 8) (by have := (drM_ok z).2; omega) (by decide) (by decide) dX11_draw_8 ?_
  refine g_istore_n (lv' := [(2, .int (nI ((drM z) / 65536))), (0, .int z), (1, .int (nI 4))]) (pc := 9) dX11_draw_9 rfl (by decide) rfl ?_
  refine g_iload_n (q := 2) (pc := 10) dX11_draw_10 rfl rfl ?_
  refine g_if_le (tgt := 20) (pc := 11) dX11_draw_11 (by decide) (fun c0 => absurd c0 (by decide)) (fun _ => ?_)
  refine g_iload_n (q := 0) (pc := 14) dX11_draw_14 rfl rfl ?_
  refine g_iload_n (q := 2) (pc := 15) dX11_draw_15 rfl rfl ?_
  refine g_irem_N (pc := 16) (by have := (drM_ok z).2; omega) (by decide) (by decide) dX11_draw_16 ?_
  refine g_goto (tgt := 21) (pc := 17) dX11_draw_17 (by decide) ?_
  exact g_iret (pc := 21) (by decide) (by decide) (hPo) dX11_draw_21
def rmX11_seeded : Room := { frames := 4, cells := 0, slots := 0, locals := 84 }
set_option maxHeartbeats 8000000 in
theorem c_X11_seeded {n z what : Int32} (hA : oC b0 cd V) (hE : Ext Vb V) (hgA : Rk V ugA 7 0) (hgB : Rk V ugB 7 0) (hmA : mo V rA kd fg) (hmC : mo V rC ikd ifg) (hpl : ∀ g, g < 2 → pl g < 20) (hipl : ∀ g, g < 2 → ipl g < 20) (hSh : Sh V KR SO SZ EL kp so sz el ki kf) : KM l D Z b0 yX11_seeded cX11_seeded 8 (some .int) rmX11_seeded [.ref (cd 0), .int n, .int z, .int what] (wC Z cd ik ugA ugB ugC rA (nf pl) hr rB pB tB rC (nf ipl) ihr cX lX oX nX sX zX cY lY oY nY sY zY tm cl KR SO SZ EL V) (fun v0 V' => v0 = some (.int (spSeed (kd, fg, pl, hr) n z what)) ∧ CI Z b0 cd Vb ik kd fg pl hr ikd ifg ipl ihr kp so sz el ki kf V') := by
  refine KM.ofP (by decide) (Nat.le_of_ble_eq_true rfl) (fun Po hPo => ?_)
  refine G.locals (L' := [(0, .ref (cd 0)), (1, .int n), (2, .int z), (3, .int what)]) [0, 1, 2, 3] rfl ?_
  refine g_iload_n (q := 1) (pc := 0) dX11_seeded_0 rfl rfl ?_
  refine g_iconst (v := nI 1) (pc := 1) dX11_seeded_1 (by decide) ?_
  refine g_icmp_lt (tgt := 19) (pc := 2) dX11_seeded_2 (by decide) (fun c1 => ?_) (fun c1 => ?_)
  · -- T c1
    refine g_iconst (v := (-1)) (pc := 19) dX11_seeded_19 (by decide) ?_
    exact g_iret (pc := 20) (by decide) (by decide) (gC hPo (by rw [spSeed, if_neg (by first | exact inB_m1 (by assumption) | exact inB_m2 (by assumption))]) (CI.mk ⟨hA, hE, hgA, hgB, hmA, hmC, hpl, hipl, hSh⟩)) dX11_seeded_20
  · -- F c1
    refine g_iload_n (q := 1) (pc := 5) dX11_seeded_5 rfl rfl ?_
    refine g_bipush (v := nI 40) (pc := 6) dX11_seeded_6 (by decide) ?_
    refine g_icmp_gt (tgt := 19) (pc := 8) dX11_seeded_8 (by decide) (fun c2 => ?_) (fun c2 => ?_)
    · -- T c2
      refine g_iconst (v := (-1)) (pc := 19) dX11_seeded_19 (by decide) ?_
      exact g_iret (pc := 20) (by decide) (by decide) (gC hPo (by rw [spSeed, if_neg (by first | exact inB_m1 (by assumption) | exact inB_m2 (by assumption))]) (CI.mk ⟨hA, hE, hgA, hgB, hmA, hmC, hpl, hipl, hSh⟩)) dX11_seeded_20
    · -- F c2
      obtain ⟨n, hn1, hn2, rfl⟩ := inB_t (inB_og (by assumption) c2)
      refine g_iload_n (q := 3) (pc := 11) dX11_seeded_11 rfl rfl ?_
      refine g_iconst (v := nI 2) (pc := 12) dX11_seeded_12 (by decide) ?_
      refine e_callS (k2 := 0) (n2 := 0) (As := [.int what, .int (nI 2)]) (rest := []) (pc := 13) (c_X11_isBelow (by decide)) mlX11_69 mX11_isBelow ⟨Nat.le_of_ble_eq_true rfl, Nat.le_of_ble_eq_true rfl⟩ rfl rfl (Nat.le_of_ble_eq_true rfl) dX11_seeded_13 (by decide) rfl rfl ?_
      refine g_if_ne_B (tgt := 21) (pc := 16) dX11_seeded_16 (by decide) (fun c3 => ?_) (fun c3 => ?_)
      · -- T c3
        obtain ⟨what, hwhat, rfl⟩ := inR_t c3
        refine g_aload_n (q := 0) (pc := 21) dX11_seeded_21 rfl rfl ?_
        refine gc_get_O_mind (pc := 22) hA flX11_16 dX11_seeded_22 ?_
        refine g_aload_n (q := 0) (pc := 25) dX11_seeded_25 rfl rfl ?_
        refine gc_get_O_now (pc := 26) hA flX11_12 dX11_seeded_26 ?_
        refine e_callVv (k2 := 0) (n2 := 0) (As := [.ref (cd 1)]) (rest := []) (pc := 29) (wC_2 hA) rfl (c_X5_become_BA hA hmA) mlX11_62 selX5_X5_become_X5_become mX5_become ⟨Nat.le_of_ble_eq_true rfl, Nat.le_of_ble_eq_true rfl⟩ rfl rfl (Nat.le_of_ble_eq_true rfl) dX11_seeded_29 (by decide) rfl rfl ?_
        refine g_aload_n (q := 0) (pc := 32) dX11_seeded_32 rfl rfl ?_
        refine gc_get_O_mind (pc := 33) hA flX11_16 dX11_seeded_33 ?_
        refine e_callV (k2 := 0) (n2 := 0) (As := []) (rest := []) (pc := 36) (wC_2 hA) rfl (c_X5_gangsMet_B hA (hpl 0 (by decide)) (hpl 1 (by decide))) mlX11_110 selX5_X5_gangsMet_X5_gangsMet mX5_gangsMet ⟨Nat.le_of_ble_eq_true rfl, Nat.le_of_ble_eq_true rfl⟩ rfl rfl (Nat.le_of_ble_eq_true rfl) dX11_seeded_36 (by decide) rfl rfl ?_
        refine g_if_eq_B (tgt := 46) (pc := 39) dX11_seeded_39 (by decide) (fun c4 => ?_) (fun c4 => ?_)
        · -- T c4
          refine g_bipush (v := (-4)) (pc := 46) dX11_seeded_46 (by decide) ?_
          refine g_istore (lv' := [(4, .int (-4)), (0, .ref (cd 0)), (1, .int (nI n)), (2, .int z), (3, .int (nI what))]) (pc := 48) dX11_seeded_48 (by decide) rfl ?_
          refine g_iload_n (q := 3) (pc := 50) dX11_seeded_50 rfl rfl ?_
          refine g_istore (lv' := [(5, .int z), (4, .int (-4)), (0, .ref (cd 0)), (1, .int (nI n)), (2, .int z), (3, .int (nI what))]) (pc := 51) dX11_seeded_51 (by decide) rfl ?_
          refine g_iconst (v := nI 1) (pc := 53) dX11_seeded_53 (by decide) ?_
          refine g_istore (lv' := [(6, .int (nI 1)), (5, .int z), (4, .int (-4)), (0, .ref (cd 0)), (1, .int (nI n)), (2, .int z), (3, .int (nI what))]) (pc := 54) dX11_seeded_54 (by decide) rfl ?_
          have lp56 : ∀ (d56 : Nat) (k : Nat) (z2 : Int32) (f9 : Int32) (rB8 : Nat → Nat) (kd2 : Nat → Nat) (fg2 : Nat → Nat) (pl2 : Nat → Nat) (hr2 : Nat → Int32), k + d56 = n + 1 → (k ≤ n) → (simS (kd, fg, pl, hr) z k = ((kd2, fg2, pl2, hr2), z2)) → (f9 = fsS (kd, fg, pl, hr) z k) → (mo V rB8 kd2 fg2) → (∀ g, g < 2 → pl2 g < 20) → G l D Z b0 rmX11_seeded RX11 cX11_seeded 8 (gE (some .int) "seeded") (gT D b0 Po rmX11_seeded.cells rmX11_seeded.slots) (wC Z cd ik ugA ugB ugC rA (nf pl) hr rB8 (nf pl2) hr2 rC (nf ipl) ihr cX lX oX nX sX zX cY lY oY nY sY zY tm cl KR SO SZ EL V) [(6, .int (nI (k + 1))), (5, .int z2), (4, .int f9), (0, .ref (cd 0)), (1, .int (nI n)), (2, .int z), (3, .int (nI what))] 0 0 56 [] := by
            intro d56
            induction d56 with
            | zero =>
              intro k z2 f9 rB8 kd2 fg2 pl2 hr2 hd56 hkn hsim hf9 hmB2 hpl2
              exact absurd hd56 (by omega)
            | succ d56 ih56 =>
              intro k z2 f9 rB8 kd2 fg2 pl2 hr2 hd56 hkn hsim hf9 hmB2 hpl2
              refine g_iload (q := 0) (pc := 56) dX11_seeded_56 rfl ?_
              refine g_iload_n (q := 4) (pc := 58) dX11_seeded_58 rfl rfl ?_
              refine g_icmp_gt_N (tgt := 127) (pc := 59) (by omega) (by omega) dX11_seeded_59 (by decide) (fun c5 => ?_) (fun c5 => ?_)
              · -- T c5
                refine g_iload_n (q := 6) (pc := 127) dX11_seeded_127 rfl rfl ?_
                refine g_if_ne_N (tgt := 141) (pc := 128) (by omega) dX11_seeded_128 (by decide) (fun c6 => ?_) (fun c6 => ?_)
                · -- T c6
                  refine g_iload (q := 2) (pc := 141) dX11_seeded_141 rfl ?_
                  exact g_iret (pc := 143) (by decide) (by decide) (gC hPo (by obtain rfl : k = n := (by omega); rw [spSeed, if_pos (by rw [inB_N (by omega)]; exact decide_eq_true (by omega)), if_pos (by assumption), dN_N (by omega), dN_N (by omega), spSeedV, if_neg (by omega), hf9]) (CI.mk ⟨hA, hE, hgA, hgB, hmA, hmC, hpl, hipl, hSh⟩)) dX11_seeded_143
                · -- F c6
                  refine g_aload_n (q := 3) (pc := 131) dX11_seeded_131 rfl rfl ?_
                  refine gc_get_O_mind (pc := 132) hA flX11_16 dX11_seeded_132 ?_
                  refine e_callV (k2 := 0) (n2 := 0) (As := []) (rest := []) (pc := 135) (wC_2 hA) rfl (c_X5_allHours_B hA) mlX11_194 selX5_X5_allHours_X5_allHours mX5_allHours ⟨Nat.le_of_ble_eq_true rfl, Nat.le_of_ble_eq_true rfl⟩ rfl rfl (Nat.le_of_ble_eq_true rfl) dX11_seeded_135 (by decide) rfl rfl ?_
                  refine g_goto (tgt := 143) (pc := 138) dX11_seeded_138 (by decide) ?_
                  exact g_iret (pc := 143) (by decide) (by decide) (gC hPo (by obtain rfl : k = n := (by omega); rw [spSeed, if_pos (by rw [inB_N (by omega)]; exact decide_eq_true (by omega)), if_pos (by assumption), dN_N (by omega), dN_N (by omega), spSeedV, if_pos (by assumption), hsim]) (CI.mk ⟨hA, hE, hgA, hgB, hmA, hmC, hpl, hipl, hSh⟩)) dX11_seeded_143
              · -- F c5
                refine g_iload (q := 1) (pc := 62) dX11_seeded_62 rfl ?_
                refine e_callS (k2 := 0) (n2 := 0) (As := [.int z2]) (rest := []) (pc := 64) c_X11_nextSeed mlX11_188 mX11_nextSeed ⟨Nat.le_of_ble_eq_true rfl, Nat.le_of_ble_eq_true rfl⟩ rfl rfl (Nat.le_of_ble_eq_true rfl) dX11_seeded_64 (by decide) rfl rfl ?_
                refine g_istore (lv' := [(5, .int (nextS z2)), (6, .int (nI (k + 1))), (4, .int f9), (0, .ref (cd 0)), (1, .int (nI n)), (2, .int z), (3, .int (nI what))]) (pc := 67) dX11_seeded_67 (by decide) rfl ?_
                refine g_iload (q := 0) (pc := 69) dX11_seeded_69 rfl ?_
                refine g_iconst (v := nI 2) (pc := 71) dX11_seeded_71 (by decide) ?_
                refine e_callS (k2 := 0) (n2 := 0) (As := [.int (nextS z2), .int (nI 2)]) (rest := []) (pc := 72) c_X11_draw_2 mlX11_191 mX11_draw ⟨Nat.le_of_ble_eq_true rfl, Nat.le_of_ble_eq_true rfl⟩ rfl rfl (Nat.le_of_ble_eq_true rfl) dX11_seeded_72 (by decide) rfl rfl ?_
                refine g_istore (lv' := [(7, .int (nI (drN (nextS z2) 2))), (5, .int (nextS z2)), (6, .int (nI (k + 1))), (4, .int f9), (0, .ref (cd 0)), (1, .int (nI n)), (2, .int z), (3, .int (nI what))]) (pc := 75) dX11_seeded_75 (by decide) rfl ?_
                refine g_iload (q := 1) (pc := 77) dX11_seeded_77 rfl ?_
                refine e_callS (k2 := 0) (n2 := 0) (As := [.int (nextS z2)]) (rest := []) (pc := 79) c_X11_nextSeed mlX11_188 mX11_nextSeed ⟨Nat.le_of_ble_eq_true rfl, Nat.le_of_ble_eq_true rfl⟩ rfl rfl (Nat.le_of_ble_eq_true rfl) dX11_seeded_79 (by decide) rfl rfl ?_
                refine g_istore (lv' := [(5, .int (nextS (nextS z2))), (7, .int (nI (drN (nextS z2) 2))), (6, .int (nI (k + 1))), (4, .int f9), (0, .ref (cd 0)), (1, .int (nI n)), (2, .int z), (3, .int (nI what))]) (pc := 82) dX11_seeded_82 (by decide) rfl ?_
                refine g_aload_n (q := 4) (pc := 84) dX11_seeded_84 rfl rfl ?_
                refine gc_get_O_mind (pc := 85) hA flX11_16 dX11_seeded_85 ?_
                refine g_iload (q := 1) (pc := 88) dX11_seeded_88 rfl ?_
                refine g_iload (q := 0) (pc := 90) dX11_seeded_90 rfl ?_
                refine g_iconst (v := nI 4) (pc := 92) dX11_seeded_92 (by decide) ?_
                refine e_callS (k2 := 0) (n2 := 0) (As := [.int (nextS (nextS z2)), .int (nI 4)]) (rest := [.int (nI (drN (nextS z2) 2)), .ref (cd 2)]) (pc := 93) c_X11_draw_4 mlX11_191 mX11_draw ⟨Nat.le_of_ble_eq_true rfl, Nat.le_of_ble_eq_true rfl⟩ rfl rfl (Nat.le_of_ble_eq_true rfl) dX11_seeded_93 (by decide) rfl rfl ?_
                rcases hd96 : nbo (pl2 (drN (nextS z2) 2)) (drN (nextS (nextS z2)) 4) with _ | u96
                · -- alt
                  refine e_callV (k2 := 0) (n2 := 0) (As := [.int (nI (drN (nextS z2) 2)), .int (nI (drN (nextS (nextS z2)) 4))]) (rest := []) (pc := 96) (wC_2 hA) rfl (c_X5_advance_B_n hA hmB2 hgB (hpl2 _ (Nat.mod_lt _ (by decide))) (Nat.mod_lt _ (by decide)) (Nat.mod_lt _ (by decide)) hd96) mlX11_106 selX5_X5_advance_X5_advance mX5_advance ⟨Nat.le_of_ble_eq_true rfl, Nat.le_of_ble_eq_true rfl⟩ rfl rfl (Nat.le_of_ble_eq_true rfl) dX11_seeded_96 (by decide) rfl rfl ?_
                  have hsn := (simS_s hsim).trans (congrArg (fun q => (q, _)) (digM_n hd96))
                  have hpn := hpl2
                  refine g_pop (pc := 99) dX11_seeded_99 rfl ?_
                  refine g_iload (q := 3) (pc := 100) dX11_seeded_100 rfl ?_
                  refine g_bipush (v := (-4)) (pc := 102) dX11_seeded_102 (by decide) ?_
                  refine g_icmp_ne (tgt := 121) (pc := 104) dX11_seeded_104 (by decide) (fun c7 => ?_) (fun c7 => ?_)
                  · -- T c7
                    refine g_iinc (q := 2) (lv' := [(6, .int (nI ((k + 1) + 1))), (5, .int (nextS (nextS z2))), (7, .int (nI (drN (nextS z2) 2))), (4, .int f9), (0, .ref (cd 0)), (1, .int (nI n)), (2, .int z), (3, .int (nI what))]) (pc := 121) dX11_seeded_121 rfl (nI_inc _ _) (by decide) rfl ?_
                    refine g_goto (tgt := 56) (pc := 124) dX11_seeded_124 (by decide) ?_
                    refine G.locals (L' := [(6, .int (nI ((k + 1) + 1))), (5, .int (nextS (nextS z2))), (4, .int f9), (0, .ref (cd 0)), (1, .int (nI n)), (2, .int z), (3, .int (nI what))]) [0, 1, 3, 4, 5, 6, 7] rfl ?_
                    exact ih56 (k + 1) (nextS (nextS z2)) f9 rB8 kd2 fg2 pl2 hr2 (by omega) (by omega) hsn (by first | exact hf9.trans (fs_f1 (fs_nl hf9 (by omega) (by assumption))) | exact hf9.trans (fs_f2 hsn (by assumption)) | exact fs_t (fs_lt hf9 (by assumption)) hsn (by assumption)) hmB2 hpn
                  · -- F c7
                    refine g_aload_n (q := 4) (pc := 107) dX11_seeded_107 rfl rfl ?_
                    refine gc_get_O_mind (pc := 108) hA flX11_16 dX11_seeded_108 ?_
                    refine e_callV (k2 := 0) (n2 := 0) (As := []) (rest := []) (pc := 111) (wC_2 hA) rfl (c_X5_gangsMet_B hA (hpn 0 (by decide)) (hpn 1 (by decide))) mlX11_110 selX5_X5_gangsMet_X5_gangsMet mX5_gangsMet ⟨Nat.le_of_ble_eq_true rfl, Nat.le_of_ble_eq_true rfl⟩ rfl rfl (Nat.le_of_ble_eq_true rfl) dX11_seeded_111 (by decide) rfl rfl ?_
                    refine g_if_eq_B (tgt := 121) (pc := 114) dX11_seeded_114 (by decide) (fun c8 => ?_) (fun c8 => ?_)
                    · -- T c8
                      refine g_iinc (q := 2) (lv' := [(6, .int (nI ((k + 1) + 1))), (5, .int (nextS (nextS z2))), (7, .int (nI (drN (nextS z2) 2))), (4, .int f9), (0, .ref (cd 0)), (1, .int (nI n)), (2, .int z), (3, .int (nI what))]) (pc := 121) dX11_seeded_121 rfl (nI_inc _ _) (by decide) rfl ?_
                      refine g_goto (tgt := 56) (pc := 124) dX11_seeded_124 (by decide) ?_
                      refine G.locals (L' := [(6, .int (nI ((k + 1) + 1))), (5, .int (nextS (nextS z2))), (4, .int f9), (0, .ref (cd 0)), (1, .int (nI n)), (2, .int z), (3, .int (nI what))]) [0, 1, 3, 4, 5, 6, 7] rfl ?_
                      exact ih56 (k + 1) (nextS (nextS z2)) f9 rB8 kd2 fg2 pl2 hr2 (by omega) (by omega) hsn (by first | exact hf9.trans (fs_f1 (fs_nl hf9 (by omega) (by assumption))) | exact hf9.trans (fs_f2 hsn (by assumption)) | exact fs_t (fs_lt hf9 (by assumption)) hsn (by assumption)) hmB2 hpn
                    · -- F c8
                      refine g_iload (q := 2) (pc := 117) dX11_seeded_117 rfl ?_
                      refine g_istore (lv' := [(4, .int (nI (k + 1))), (5, .int (nextS (nextS z2))), (7, .int (nI (drN (nextS z2) 2))), (6, .int (nI (k + 1))), (0, .ref (cd 0)), (1, .int (nI n)), (2, .int z), (3, .int (nI what))]) (pc := 119) dX11_seeded_119 (by decide) rfl ?_
                      refine g_iinc (q := 3) (lv' := [(6, .int (nI ((k + 1) + 1))), (4, .int (nI (k + 1))), (5, .int (nextS (nextS z2))), (7, .int (nI (drN (nextS z2) 2))), (0, .ref (cd 0)), (1, .int (nI n)), (2, .int z), (3, .int (nI what))]) (pc := 121) dX11_seeded_121 rfl (nI_inc _ _) (by decide) rfl ?_
                      refine g_goto (tgt := 56) (pc := 124) dX11_seeded_124 (by decide) ?_
                      refine G.locals (L' := [(6, .int (nI ((k + 1) + 1))), (5, .int (nextS (nextS z2))), (4, .int (nI (k + 1))), (0, .ref (cd 0)), (1, .int (nI n)), (2, .int z), (3, .int (nI what))]) [0, 2, 1, 4, 5, 6, 7] rfl ?_
                      exact ih56 (k + 1) (nextS (nextS z2)) (nI (k + 1)) rB8 kd2 fg2 pl2 hr2 (by omega) (by omega) hsn (by first | exact hf9.trans (fs_f1 (fs_nl hf9 (by omega) (by assumption))) | exact hf9.trans (fs_f2 hsn (by assumption)) | exact fs_t (fs_lt hf9 (by assumption)) hsn (by assumption)) hmB2 hpn
                · -- alt
                  have u96l := nbo_lt (c := pl2 (drN (nextS z2) 2)) (hpl2 _ (Nat.mod_lt _ (by decide))) hd96
                  refine e_callV (k2 := 0) (n2 := 0) (As := [.int (nI (drN (nextS z2) 2)), .int (nI (drN (nextS (nextS z2)) 4))]) (rest := []) (pc := 96) (wC_2 hA) rfl (c_X5_advance_B_s hA hmB2 hgB (hpl2 _ (Nat.mod_lt _ (by decide))) (Nat.mod_lt _ (by decide)) (Nat.mod_lt _ (by decide)) hd96) mlX11_106 selX5_X5_advance_X5_advance mX5_advance ⟨Nat.le_of_ble_eq_true rfl, Nat.le_of_ble_eq_true rfl⟩ rfl rfl (Nat.le_of_ble_eq_true rfl) dX11_seeded_96 (by decide) rfl rfl ?_
                  have hsn := (simS_s hsim).trans (congrArg (fun q => (q, _)) (digM_s hd96))
                  have hpn := hplU (g := drN (nextS z2) 2) hpl2 u96l
                  refine g_pop (pc := 99) dX11_seeded_99 rfl ?_
                  refine g_iload (q := 3) (pc := 100) dX11_seeded_100 rfl ?_
                  refine g_bipush (v := (-4)) (pc := 102) dX11_seeded_102 (by decide) ?_
                  refine g_icmp_ne (tgt := 121) (pc := 104) dX11_seeded_104 (by decide) (fun c9 => ?_) (fun c9 => ?_)
                  · -- T c9
                    refine g_iinc (q := 2) (lv' := [(6, .int (nI ((k + 1) + 1))), (5, .int (nextS (nextS z2))), (7, .int (nI (drN (nextS z2) 2))), (4, .int f9), (0, .ref (cd 0)), (1, .int (nI n)), (2, .int z), (3, .int (nI what))]) (pc := 121) dX11_seeded_121 rfl (nI_inc _ _) (by decide) rfl ?_
                    refine g_goto (tgt := 56) (pc := 124) dX11_seeded_124 (by decide) ?_
                    refine G.locals (L' := [(6, .int (nI ((k + 1) + 1))), (5, .int (nextS (nextS z2))), (4, .int f9), (0, .ref (cd 0)), (1, .int (nI n)), (2, .int z), (3, .int (nI what))]) [0, 1, 3, 4, 5, 6, 7] rfl ?_
                    exact ih56 (k + 1) (nextS (nextS z2)) f9 (updN rB8 u96 ugB) (updN kd2 u96 7) (updN fg2 u96 0) (updN pl2 (drN (nextS z2) 2) u96) (upd hr2 (drN (nextS z2) 2) (hr2 (drN (nextS z2) 2) + nI (toilN (kd2 u96) (fg2 u96)))) (by omega) (by omega) hsn (by first | exact hf9.trans (fs_f1 (fs_nl hf9 (by omega) (by assumption))) | exact hf9.trans (fs_f2 hsn (by assumption)) | exact fs_t (fs_lt hf9 (by assumption)) hsn (by assumption)) (mo.st hmB2 hgB) hpn
                  · -- F c9
                    refine g_aload_n (q := 4) (pc := 107) dX11_seeded_107 rfl rfl ?_
                    refine gc_get_O_mind (pc := 108) hA flX11_16 dX11_seeded_108 ?_
                    refine e_callV (k2 := 0) (n2 := 0) (As := []) (rest := []) (pc := 111) (wC_2 hA) rfl (c_X5_gangsMet_B hA (hpn 0 (by decide)) (hpn 1 (by decide))) mlX11_110 selX5_X5_gangsMet_X5_gangsMet mX5_gangsMet ⟨Nat.le_of_ble_eq_true rfl, Nat.le_of_ble_eq_true rfl⟩ rfl rfl (Nat.le_of_ble_eq_true rfl) dX11_seeded_111 (by decide) rfl rfl ?_
                    refine g_if_eq_B (tgt := 121) (pc := 114) dX11_seeded_114 (by decide) (fun c10 => ?_) (fun c10 => ?_)
                    · -- T c10
                      refine g_iinc (q := 2) (lv' := [(6, .int (nI ((k + 1) + 1))), (5, .int (nextS (nextS z2))), (7, .int (nI (drN (nextS z2) 2))), (4, .int f9), (0, .ref (cd 0)), (1, .int (nI n)), (2, .int z), (3, .int (nI what))]) (pc := 121) dX11_seeded_121 rfl (nI_inc _ _) (by decide) rfl ?_
                      refine g_goto (tgt := 56) (pc := 124) dX11_seeded_124 (by decide) ?_
                      refine G.locals (L' := [(6, .int (nI ((k + 1) + 1))), (5, .int (nextS (nextS z2))), (4, .int f9), (0, .ref (cd 0)), (1, .int (nI n)), (2, .int z), (3, .int (nI what))]) [0, 1, 3, 4, 5, 6, 7] rfl ?_
                      exact ih56 (k + 1) (nextS (nextS z2)) f9 (updN rB8 u96 ugB) (updN kd2 u96 7) (updN fg2 u96 0) (updN pl2 (drN (nextS z2) 2) u96) (upd hr2 (drN (nextS z2) 2) (hr2 (drN (nextS z2) 2) + nI (toilN (kd2 u96) (fg2 u96)))) (by omega) (by omega) hsn (by first | exact hf9.trans (fs_f1 (fs_nl hf9 (by omega) (by assumption))) | exact hf9.trans (fs_f2 hsn (by assumption)) | exact fs_t (fs_lt hf9 (by assumption)) hsn (by assumption)) (mo.st hmB2 hgB) hpn
                    · -- F c10
                      refine g_iload (q := 2) (pc := 117) dX11_seeded_117 rfl ?_
                      refine g_istore (lv' := [(4, .int (nI (k + 1))), (5, .int (nextS (nextS z2))), (7, .int (nI (drN (nextS z2) 2))), (6, .int (nI (k + 1))), (0, .ref (cd 0)), (1, .int (nI n)), (2, .int z), (3, .int (nI what))]) (pc := 119) dX11_seeded_119 (by decide) rfl ?_
                      refine g_iinc (q := 3) (lv' := [(6, .int (nI ((k + 1) + 1))), (4, .int (nI (k + 1))), (5, .int (nextS (nextS z2))), (7, .int (nI (drN (nextS z2) 2))), (0, .ref (cd 0)), (1, .int (nI n)), (2, .int z), (3, .int (nI what))]) (pc := 121) dX11_seeded_121 rfl (nI_inc _ _) (by decide) rfl ?_
                      refine g_goto (tgt := 56) (pc := 124) dX11_seeded_124 (by decide) ?_
                      refine G.locals (L' := [(6, .int (nI ((k + 1) + 1))), (5, .int (nextS (nextS z2))), (4, .int (nI (k + 1))), (0, .ref (cd 0)), (1, .int (nI n)), (2, .int z), (3, .int (nI what))]) [0, 2, 1, 4, 5, 6, 7] rfl ?_
                      exact ih56 (k + 1) (nextS (nextS z2)) (nI (k + 1)) (updN rB8 u96 ugB) (updN kd2 u96 7) (updN fg2 u96 0) (updN pl2 (drN (nextS z2) 2) u96) (upd hr2 (drN (nextS z2) 2) (hr2 (drN (nextS z2) 2) + nI (toilN (kd2 u96) (fg2 u96)))) (by omega) (by omega) hsn (by first | exact hf9.trans (fs_f1 (fs_nl hf9 (by omega) (by assumption))) | exact hf9.trans (fs_f2 hsn (by assumption)) | exact fs_t (fs_lt hf9 (by assumption)) hsn (by assumption)) (mo.st hmB2 hgB) hpn
          refine G.locals (L' := [(6, .int (nI 1)), (5, .int z), (4, .int (-4)), (0, .ref (cd 0)), (1, .int (nI n)), (2, .int z), (3, .int (nI what))]) [0, 1, 2, 3, 4, 5, 6] rfl ?_
          exact lp56 (n + 1) 0 z (-4) rA kd fg pl hr (by omega) (by omega) rfl (by first | exact fs0_t (by assumption) | exact fs0_f (by assumption)) hmA hpl
        · -- F c4
          refine g_iconst (v := nI 0) (pc := 42) dX11_seeded_42 (by decide) ?_
          refine g_goto (tgt := 48) (pc := 43) dX11_seeded_43 (by decide) ?_
          refine g_istore (lv' := [(4, .int (nI 0)), (0, .ref (cd 0)), (1, .int (nI n)), (2, .int z), (3, .int (nI what))]) (pc := 48) dX11_seeded_48 (by decide) rfl ?_
          refine g_iload_n (q := 3) (pc := 50) dX11_seeded_50 rfl rfl ?_
          refine g_istore (lv' := [(5, .int z), (4, .int (nI 0)), (0, .ref (cd 0)), (1, .int (nI n)), (2, .int z), (3, .int (nI what))]) (pc := 51) dX11_seeded_51 (by decide) rfl ?_
          refine g_iconst (v := nI 1) (pc := 53) dX11_seeded_53 (by decide) ?_
          refine g_istore (lv' := [(6, .int (nI 1)), (5, .int z), (4, .int (nI 0)), (0, .ref (cd 0)), (1, .int (nI n)), (2, .int z), (3, .int (nI what))]) (pc := 54) dX11_seeded_54 (by decide) rfl ?_
          have lp56 : ∀ (d56 : Nat) (k : Nat) (z2 : Int32) (f9 : Int32) (rB8 : Nat → Nat) (kd2 : Nat → Nat) (fg2 : Nat → Nat) (pl2 : Nat → Nat) (hr2 : Nat → Int32), k + d56 = n + 1 → (k ≤ n) → (simS (kd, fg, pl, hr) z k = ((kd2, fg2, pl2, hr2), z2)) → (f9 = fsS (kd, fg, pl, hr) z k) → (mo V rB8 kd2 fg2) → (∀ g, g < 2 → pl2 g < 20) → G l D Z b0 rmX11_seeded RX11 cX11_seeded 8 (gE (some .int) "seeded") (gT D b0 Po rmX11_seeded.cells rmX11_seeded.slots) (wC Z cd ik ugA ugB ugC rA (nf pl) hr rB8 (nf pl2) hr2 rC (nf ipl) ihr cX lX oX nX sX zX cY lY oY nY sY zY tm cl KR SO SZ EL V) [(6, .int (nI (k + 1))), (5, .int z2), (4, .int f9), (0, .ref (cd 0)), (1, .int (nI n)), (2, .int z), (3, .int (nI what))] 0 0 56 [] := by
            intro d56
            induction d56 with
            | zero =>
              intro k z2 f9 rB8 kd2 fg2 pl2 hr2 hd56 hkn hsim hf9 hmB2 hpl2
              exact absurd hd56 (by omega)
            | succ d56 ih56 =>
              intro k z2 f9 rB8 kd2 fg2 pl2 hr2 hd56 hkn hsim hf9 hmB2 hpl2
              refine g_iload (q := 0) (pc := 56) dX11_seeded_56 rfl ?_
              refine g_iload_n (q := 4) (pc := 58) dX11_seeded_58 rfl rfl ?_
              refine g_icmp_gt_N (tgt := 127) (pc := 59) (by omega) (by omega) dX11_seeded_59 (by decide) (fun c11 => ?_) (fun c11 => ?_)
              · -- T c11
                refine g_iload_n (q := 6) (pc := 127) dX11_seeded_127 rfl rfl ?_
                refine g_if_ne_N (tgt := 141) (pc := 128) (by omega) dX11_seeded_128 (by decide) (fun c12 => ?_) (fun c12 => ?_)
                · -- T c12
                  refine g_iload (q := 2) (pc := 141) dX11_seeded_141 rfl ?_
                  exact g_iret (pc := 143) (by decide) (by decide) (gC hPo (by obtain rfl : k = n := (by omega); rw [spSeed, if_pos (by rw [inB_N (by omega)]; exact decide_eq_true (by omega)), if_pos (by assumption), dN_N (by omega), dN_N (by omega), spSeedV, if_neg (by omega), hf9]) (CI.mk ⟨hA, hE, hgA, hgB, hmA, hmC, hpl, hipl, hSh⟩)) dX11_seeded_143
                · -- F c12
                  refine g_aload_n (q := 3) (pc := 131) dX11_seeded_131 rfl rfl ?_
                  refine gc_get_O_mind (pc := 132) hA flX11_16 dX11_seeded_132 ?_
                  refine e_callV (k2 := 0) (n2 := 0) (As := []) (rest := []) (pc := 135) (wC_2 hA) rfl (c_X5_allHours_B hA) mlX11_194 selX5_X5_allHours_X5_allHours mX5_allHours ⟨Nat.le_of_ble_eq_true rfl, Nat.le_of_ble_eq_true rfl⟩ rfl rfl (Nat.le_of_ble_eq_true rfl) dX11_seeded_135 (by decide) rfl rfl ?_
                  refine g_goto (tgt := 143) (pc := 138) dX11_seeded_138 (by decide) ?_
                  exact g_iret (pc := 143) (by decide) (by decide) (gC hPo (by obtain rfl : k = n := (by omega); rw [spSeed, if_pos (by rw [inB_N (by omega)]; exact decide_eq_true (by omega)), if_pos (by assumption), dN_N (by omega), dN_N (by omega), spSeedV, if_pos (by assumption), hsim]) (CI.mk ⟨hA, hE, hgA, hgB, hmA, hmC, hpl, hipl, hSh⟩)) dX11_seeded_143
              · -- F c11
                refine g_iload (q := 1) (pc := 62) dX11_seeded_62 rfl ?_
                refine e_callS (k2 := 0) (n2 := 0) (As := [.int z2]) (rest := []) (pc := 64) c_X11_nextSeed mlX11_188 mX11_nextSeed ⟨Nat.le_of_ble_eq_true rfl, Nat.le_of_ble_eq_true rfl⟩ rfl rfl (Nat.le_of_ble_eq_true rfl) dX11_seeded_64 (by decide) rfl rfl ?_
                refine g_istore (lv' := [(5, .int (nextS z2)), (6, .int (nI (k + 1))), (4, .int f9), (0, .ref (cd 0)), (1, .int (nI n)), (2, .int z), (3, .int (nI what))]) (pc := 67) dX11_seeded_67 (by decide) rfl ?_
                refine g_iload (q := 0) (pc := 69) dX11_seeded_69 rfl ?_
                refine g_iconst (v := nI 2) (pc := 71) dX11_seeded_71 (by decide) ?_
                refine e_callS (k2 := 0) (n2 := 0) (As := [.int (nextS z2), .int (nI 2)]) (rest := []) (pc := 72) c_X11_draw_2 mlX11_191 mX11_draw ⟨Nat.le_of_ble_eq_true rfl, Nat.le_of_ble_eq_true rfl⟩ rfl rfl (Nat.le_of_ble_eq_true rfl) dX11_seeded_72 (by decide) rfl rfl ?_
                refine g_istore (lv' := [(7, .int (nI (drN (nextS z2) 2))), (5, .int (nextS z2)), (6, .int (nI (k + 1))), (4, .int f9), (0, .ref (cd 0)), (1, .int (nI n)), (2, .int z), (3, .int (nI what))]) (pc := 75) dX11_seeded_75 (by decide) rfl ?_
                refine g_iload (q := 1) (pc := 77) dX11_seeded_77 rfl ?_
                refine e_callS (k2 := 0) (n2 := 0) (As := [.int (nextS z2)]) (rest := []) (pc := 79) c_X11_nextSeed mlX11_188 mX11_nextSeed ⟨Nat.le_of_ble_eq_true rfl, Nat.le_of_ble_eq_true rfl⟩ rfl rfl (Nat.le_of_ble_eq_true rfl) dX11_seeded_79 (by decide) rfl rfl ?_
                refine g_istore (lv' := [(5, .int (nextS (nextS z2))), (7, .int (nI (drN (nextS z2) 2))), (6, .int (nI (k + 1))), (4, .int f9), (0, .ref (cd 0)), (1, .int (nI n)), (2, .int z), (3, .int (nI what))]) (pc := 82) dX11_seeded_82 (by decide) rfl ?_
                refine g_aload_n (q := 4) (pc := 84) dX11_seeded_84 rfl rfl ?_
                refine gc_get_O_mind (pc := 85) hA flX11_16 dX11_seeded_85 ?_
                refine g_iload (q := 1) (pc := 88) dX11_seeded_88 rfl ?_
                refine g_iload (q := 0) (pc := 90) dX11_seeded_90 rfl ?_
                refine g_iconst (v := nI 4) (pc := 92) dX11_seeded_92 (by decide) ?_
                refine e_callS (k2 := 0) (n2 := 0) (As := [.int (nextS (nextS z2)), .int (nI 4)]) (rest := [.int (nI (drN (nextS z2) 2)), .ref (cd 2)]) (pc := 93) c_X11_draw_4 mlX11_191 mX11_draw ⟨Nat.le_of_ble_eq_true rfl, Nat.le_of_ble_eq_true rfl⟩ rfl rfl (Nat.le_of_ble_eq_true rfl) dX11_seeded_93 (by decide) rfl rfl ?_
                rcases hd96 : nbo (pl2 (drN (nextS z2) 2)) (drN (nextS (nextS z2)) 4) with _ | u96
                · -- alt
                  refine e_callV (k2 := 0) (n2 := 0) (As := [.int (nI (drN (nextS z2) 2)), .int (nI (drN (nextS (nextS z2)) 4))]) (rest := []) (pc := 96) (wC_2 hA) rfl (c_X5_advance_B_n hA hmB2 hgB (hpl2 _ (Nat.mod_lt _ (by decide))) (Nat.mod_lt _ (by decide)) (Nat.mod_lt _ (by decide)) hd96) mlX11_106 selX5_X5_advance_X5_advance mX5_advance ⟨Nat.le_of_ble_eq_true rfl, Nat.le_of_ble_eq_true rfl⟩ rfl rfl (Nat.le_of_ble_eq_true rfl) dX11_seeded_96 (by decide) rfl rfl ?_
                  have hsn := (simS_s hsim).trans (congrArg (fun q => (q, _)) (digM_n hd96))
                  have hpn := hpl2
                  refine g_pop (pc := 99) dX11_seeded_99 rfl ?_
                  refine g_iload (q := 3) (pc := 100) dX11_seeded_100 rfl ?_
                  refine g_bipush (v := (-4)) (pc := 102) dX11_seeded_102 (by decide) ?_
                  refine g_icmp_ne (tgt := 121) (pc := 104) dX11_seeded_104 (by decide) (fun c13 => ?_) (fun c13 => ?_)
                  · -- T c13
                    refine g_iinc (q := 2) (lv' := [(6, .int (nI ((k + 1) + 1))), (5, .int (nextS (nextS z2))), (7, .int (nI (drN (nextS z2) 2))), (4, .int f9), (0, .ref (cd 0)), (1, .int (nI n)), (2, .int z), (3, .int (nI what))]) (pc := 121) dX11_seeded_121 rfl (nI_inc _ _) (by decide) rfl ?_
                    refine g_goto (tgt := 56) (pc := 124) dX11_seeded_124 (by decide) ?_
                    refine G.locals (L' := [(6, .int (nI ((k + 1) + 1))), (5, .int (nextS (nextS z2))), (4, .int f9), (0, .ref (cd 0)), (1, .int (nI n)), (2, .int z), (3, .int (nI what))]) [0, 1, 3, 4, 5, 6, 7] rfl ?_
                    exact ih56 (k + 1) (nextS (nextS z2)) f9 rB8 kd2 fg2 pl2 hr2 (by omega) (by omega) hsn (by first | exact hf9.trans (fs_f1 (fs_nl hf9 (by omega) (by assumption))) | exact hf9.trans (fs_f2 hsn (by assumption)) | exact fs_t (fs_lt hf9 (by assumption)) hsn (by assumption)) hmB2 hpn
                  · -- F c13
                    refine g_aload_n (q := 4) (pc := 107) dX11_seeded_107 rfl rfl ?_
                    refine gc_get_O_mind (pc := 108) hA flX11_16 dX11_seeded_108 ?_
                    refine e_callV (k2 := 0) (n2 := 0) (As := []) (rest := []) (pc := 111) (wC_2 hA) rfl (c_X5_gangsMet_B hA (hpn 0 (by decide)) (hpn 1 (by decide))) mlX11_110 selX5_X5_gangsMet_X5_gangsMet mX5_gangsMet ⟨Nat.le_of_ble_eq_true rfl, Nat.le_of_ble_eq_true rfl⟩ rfl rfl (Nat.le_of_ble_eq_true rfl) dX11_seeded_111 (by decide) rfl rfl ?_
                    refine g_if_eq_B (tgt := 121) (pc := 114) dX11_seeded_114 (by decide) (fun c14 => ?_) (fun c14 => ?_)
                    · -- T c14
                      refine g_iinc (q := 2) (lv' := [(6, .int (nI ((k + 1) + 1))), (5, .int (nextS (nextS z2))), (7, .int (nI (drN (nextS z2) 2))), (4, .int f9), (0, .ref (cd 0)), (1, .int (nI n)), (2, .int z), (3, .int (nI what))]) (pc := 121) dX11_seeded_121 rfl (nI_inc _ _) (by decide) rfl ?_
                      refine g_goto (tgt := 56) (pc := 124) dX11_seeded_124 (by decide) ?_
                      refine G.locals (L' := [(6, .int (nI ((k + 1) + 1))), (5, .int (nextS (nextS z2))), (4, .int f9), (0, .ref (cd 0)), (1, .int (nI n)), (2, .int z), (3, .int (nI what))]) [0, 1, 3, 4, 5, 6, 7] rfl ?_
                      exact ih56 (k + 1) (nextS (nextS z2)) f9 rB8 kd2 fg2 pl2 hr2 (by omega) (by omega) hsn (by first | exact hf9.trans (fs_f1 (fs_nl hf9 (by omega) (by assumption))) | exact hf9.trans (fs_f2 hsn (by assumption)) | exact fs_t (fs_lt hf9 (by assumption)) hsn (by assumption)) hmB2 hpn
                    · -- F c14
                      refine g_iload (q := 2) (pc := 117) dX11_seeded_117 rfl ?_
                      refine g_istore (lv' := [(4, .int (nI (k + 1))), (5, .int (nextS (nextS z2))), (7, .int (nI (drN (nextS z2) 2))), (6, .int (nI (k + 1))), (0, .ref (cd 0)), (1, .int (nI n)), (2, .int z), (3, .int (nI what))]) (pc := 119) dX11_seeded_119 (by decide) rfl ?_
                      refine g_iinc (q := 3) (lv' := [(6, .int (nI ((k + 1) + 1))), (4, .int (nI (k + 1))), (5, .int (nextS (nextS z2))), (7, .int (nI (drN (nextS z2) 2))), (0, .ref (cd 0)), (1, .int (nI n)), (2, .int z), (3, .int (nI what))]) (pc := 121) dX11_seeded_121 rfl (nI_inc _ _) (by decide) rfl ?_
                      refine g_goto (tgt := 56) (pc := 124) dX11_seeded_124 (by decide) ?_
                      refine G.locals (L' := [(6, .int (nI ((k + 1) + 1))), (5, .int (nextS (nextS z2))), (4, .int (nI (k + 1))), (0, .ref (cd 0)), (1, .int (nI n)), (2, .int z), (3, .int (nI what))]) [0, 2, 1, 4, 5, 6, 7] rfl ?_
                      exact ih56 (k + 1) (nextS (nextS z2)) (nI (k + 1)) rB8 kd2 fg2 pl2 hr2 (by omega) (by omega) hsn (by first | exact hf9.trans (fs_f1 (fs_nl hf9 (by omega) (by assumption))) | exact hf9.trans (fs_f2 hsn (by assumption)) | exact fs_t (fs_lt hf9 (by assumption)) hsn (by assumption)) hmB2 hpn
                · -- alt
                  have u96l := nbo_lt (c := pl2 (drN (nextS z2) 2)) (hpl2 _ (Nat.mod_lt _ (by decide))) hd96
                  refine e_callV (k2 := 0) (n2 := 0) (As := [.int (nI (drN (nextS z2) 2)), .int (nI (drN (nextS (nextS z2)) 4))]) (rest := []) (pc := 96) (wC_2 hA) rfl (c_X5_advance_B_s hA hmB2 hgB (hpl2 _ (Nat.mod_lt _ (by decide))) (Nat.mod_lt _ (by decide)) (Nat.mod_lt _ (by decide)) hd96) mlX11_106 selX5_X5_advance_X5_advance mX5_advance ⟨Nat.le_of_ble_eq_true rfl, Nat.le_of_ble_eq_true rfl⟩ rfl rfl (Nat.le_of_ble_eq_true rfl) dX11_seeded_96 (by decide) rfl rfl ?_
                  have hsn := (simS_s hsim).trans (congrArg (fun q => (q, _)) (digM_s hd96))
                  have hpn := hplU (g := drN (nextS z2) 2) hpl2 u96l
                  refine g_pop (pc := 99) dX11_seeded_99 rfl ?_
                  refine g_iload (q := 3) (pc := 100) dX11_seeded_100 rfl ?_
                  refine g_bipush (v := (-4)) (pc := 102) dX11_seeded_102 (by decide) ?_
                  refine g_icmp_ne (tgt := 121) (pc := 104) dX11_seeded_104 (by decide) (fun c15 => ?_) (fun c15 => ?_)
                  · -- T c15
                    refine g_iinc (q := 2) (lv' := [(6, .int (nI ((k + 1) + 1))), (5, .int (nextS (nextS z2))), (7, .int (nI (drN (nextS z2) 2))), (4, .int f9), (0, .ref (cd 0)), (1, .int (nI n)), (2, .int z), (3, .int (nI what))]) (pc := 121) dX11_seeded_121 rfl (nI_inc _ _) (by decide) rfl ?_
                    refine g_goto (tgt := 56) (pc := 124) dX11_seeded_124 (by decide) ?_
                    refine G.locals (L' := [(6, .int (nI ((k + 1) + 1))), (5, .int (nextS (nextS z2))), (4, .int f9), (0, .ref (cd 0)), (1, .int (nI n)), (2, .int z), (3, .int (nI what))]) [0, 1, 3, 4, 5, 6, 7] rfl ?_
                    exact ih56 (k + 1) (nextS (nextS z2)) f9 (updN rB8 u96 ugB) (updN kd2 u96 7) (updN fg2 u96 0) (updN pl2 (drN (nextS z2) 2) u96) (upd hr2 (drN (nextS z2) 2) (hr2 (drN (nextS z2) 2) + nI (toilN (kd2 u96) (fg2 u96)))) (by omega) (by omega) hsn (by first | exact hf9.trans (fs_f1 (fs_nl hf9 (by omega) (by assumption))) | exact hf9.trans (fs_f2 hsn (by assumption)) | exact fs_t (fs_lt hf9 (by assumption)) hsn (by assumption)) (mo.st hmB2 hgB) hpn
                  · -- F c15
                    refine g_aload_n (q := 4) (pc := 107) dX11_seeded_107 rfl rfl ?_
                    refine gc_get_O_mind (pc := 108) hA flX11_16 dX11_seeded_108 ?_
                    refine e_callV (k2 := 0) (n2 := 0) (As := []) (rest := []) (pc := 111) (wC_2 hA) rfl (c_X5_gangsMet_B hA (hpn 0 (by decide)) (hpn 1 (by decide))) mlX11_110 selX5_X5_gangsMet_X5_gangsMet mX5_gangsMet ⟨Nat.le_of_ble_eq_true rfl, Nat.le_of_ble_eq_true rfl⟩ rfl rfl (Nat.le_of_ble_eq_true rfl) dX11_seeded_111 (by decide) rfl rfl ?_
                    refine g_if_eq_B (tgt := 121) (pc := 114) dX11_seeded_114 (by decide) (fun c16 => ?_) (fun c16 => ?_)
                    · -- T c16
                      refine g_iinc (q := 2) (lv' := [(6, .int (nI ((k + 1) + 1))), (5, .int (nextS (nextS z2))), (7, .int (nI (drN (nextS z2) 2))), (4, .int f9), (0, .ref (cd 0)), (1, .int (nI n)), (2, .int z), (3, .int (nI what))]) (pc := 121) dX11_seeded_121 rfl (nI_inc _ _) (by decide) rfl ?_
                      refine g_goto (tgt := 56) (pc := 124) dX11_seeded_124 (by decide) ?_
                      refine G.locals (L' := [(6, .int (nI ((k + 1) + 1))), (5, .int (nextS (nextS z2))), (4, .int f9), (0, .ref (cd 0)), (1, .int (nI n)), (2, .int z), (3, .int (nI what))]) [0, 1, 3, 4, 5, 6, 7] rfl ?_
                      exact ih56 (k + 1) (nextS (nextS z2)) f9 (updN rB8 u96 ugB) (updN kd2 u96 7) (updN fg2 u96 0) (updN pl2 (drN (nextS z2) 2) u96) (upd hr2 (drN (nextS z2) 2) (hr2 (drN (nextS z2) 2) + nI (toilN (kd2 u96) (fg2 u96)))) (by omega) (by omega) hsn (by first | exact hf9.trans (fs_f1 (fs_nl hf9 (by omega) (by assumption))) | exact hf9.trans (fs_f2 hsn (by assumption)) | exact fs_t (fs_lt hf9 (by assumption)) hsn (by assumption)) (mo.st hmB2 hgB) hpn
                    · -- F c16
                      refine g_iload (q := 2) (pc := 117) dX11_seeded_117 rfl ?_
                      refine g_istore (lv' := [(4, .int (nI (k + 1))), (5, .int (nextS (nextS z2))), (7, .int (nI (drN (nextS z2) 2))), (6, .int (nI (k + 1))), (0, .ref (cd 0)), (1, .int (nI n)), (2, .int z), (3, .int (nI what))]) (pc := 119) dX11_seeded_119 (by decide) rfl ?_
                      refine g_iinc (q := 3) (lv' := [(6, .int (nI ((k + 1) + 1))), (4, .int (nI (k + 1))), (5, .int (nextS (nextS z2))), (7, .int (nI (drN (nextS z2) 2))), (0, .ref (cd 0)), (1, .int (nI n)), (2, .int z), (3, .int (nI what))]) (pc := 121) dX11_seeded_121 rfl (nI_inc _ _) (by decide) rfl ?_
                      refine g_goto (tgt := 56) (pc := 124) dX11_seeded_124 (by decide) ?_
                      refine G.locals (L' := [(6, .int (nI ((k + 1) + 1))), (5, .int (nextS (nextS z2))), (4, .int (nI (k + 1))), (0, .ref (cd 0)), (1, .int (nI n)), (2, .int z), (3, .int (nI what))]) [0, 2, 1, 4, 5, 6, 7] rfl ?_
                      exact ih56 (k + 1) (nextS (nextS z2)) (nI (k + 1)) (updN rB8 u96 ugB) (updN kd2 u96 7) (updN fg2 u96 0) (updN pl2 (drN (nextS z2) 2) u96) (upd hr2 (drN (nextS z2) 2) (hr2 (drN (nextS z2) 2) + nI (toilN (kd2 u96) (fg2 u96)))) (by omega) (by omega) hsn (by first | exact hf9.trans (fs_f1 (fs_nl hf9 (by omega) (by assumption))) | exact hf9.trans (fs_f2 hsn (by assumption)) | exact fs_t (fs_lt hf9 (by assumption)) hsn (by assumption)) (mo.st hmB2 hgB) hpn
          refine G.locals (L' := [(6, .int (nI 1)), (5, .int z), (4, .int (nI 0)), (0, .ref (cd 0)), (1, .int (nI n)), (2, .int z), (3, .int (nI what))]) [0, 1, 2, 3, 4, 5, 6] rfl ?_
          exact lp56 (n + 1) 0 z (nI 0) rA kd fg pl hr (by omega) (by omega) rfl (by first | exact fs0_t (by assumption) | exact fs0_f (by assumption)) hmA hpl
      · -- F c3
        refine g_iconst (v := (-1)) (pc := 19) dX11_seeded_19 (by decide) ?_
        exact g_iret (pc := 20) (by decide) (by decide) (gC hPo (by rw [spSeed, if_pos (by rw [inB_N (by omega)]; exact decide_eq_true (by omega)), if_neg (by simp [*])]) (CI.mk ⟨hA, hE, hgA, hgB, hmA, hmC, hpl, hipl, hSh⟩)) dX11_seeded_20
theorem d_X11_seeded {n z what : Int32} {V2 : HV} (hCI : CI Z b0 cd Vb ik kd fg pl hr ikd ifg ipl ihr kp so sz el ki kf V2)  : KM l D Z b0 yX11_seeded cX11_seeded 8 (some .int) rmX11_seeded [.ref (cd 0), .int n, .int z, .int what] V2 (fun v0 V' => v0 = some (.int (spSeed (kd, fg, pl, hr) n z what)) ∧ CI Z b0 cd Vb ik kd fg pl hr ikd ifg ipl ihr kp so sz el ki kf V') := by
  obtain ⟨ugA, ugB, ugC, rA, rB, pB, tB, rC, cX, lX, oX, nX, sX, zX, cY, lY, oY, nY, sY, zY, tm, cl, KR, SO, SZ, EL, V, rfl, hA, hE, hgA, hgB, hmA, hmC, hpl, hipl, hSh⟩ := hCI
  exact c_X11_seeded hA hE hgA hgB hmA hmC hpl hipl hSh 
def rmX11_judge : Room := { frames := 4, cells := 0, slots := 0, locals := 84 }
set_option maxHeartbeats 8000000 in
theorem c_X11_judge_s {d : Nat} (hA : oC b0 cd V) (hE : Ext Vb V) (hgA : Rk V ugA 7 0) (hgB : Rk V ugB 7 0) (hmA : mo V rA kd fg) (hmC : mo V rC ikd ifg) (hpl : ∀ g, g < 2 → pl g < 20) (hipl : ∀ g, g < 2 → ipl g < 20) (hSh : Sh V KR SO SZ EL kp so sz el ki kf) (hd : d < 8) (hk : kp d = 2) : KM l D Z b0 yX11_judge cX11_judge 5 (some .int) rmX11_judge [.ref (cd 0), .int (nI d)] (wC Z cd ik ugA ugB ugC rA (nf pl) hr rB pB tB rC (nf ipl) ihr cX lX oX nX sX zX cY lY oY nY sY zY tm cl KR SO SZ EL V) (fun v0 V' => v0 = some (.int (spJudgeV el d (sz d) (kd, fg, pl, hr))) ∧ CI Z b0 cd Vb ik kd fg pl hr ikd ifg ipl ihr kp so sz el ki kf V') := by
  refine KM.ofP (by decide) (Nat.le_of_ble_eq_true rfl) (fun Po hPo => ?_)
  refine G.locals (L' := [(0, .ref (cd 0)), (1, .int (nI d))]) [0, 1] rfl ?_
  have h2 := And.intro hk (Sh.r2 hSh hd hk)
  have hz9 := h2.2.2.2.2.2.1
  refine g_aload_n (q := 0) (pc := 0) dX11_judge_0 rfl rfl ?_
  refine g_iload_n (q := 1) (pc := 1) dX11_judge_1 rfl rfl ?_
  refine e_callV (k2 := 0) (n2 := 0) (As := [.int (nI d)]) (rest := []) (pc := 2) (wC_0 hA) rfl (c_X11_rowOn_s hA hd h2.2.2.1 h2.2.2.2.1) mlX11_197 selX11_X11_rowOn_X11_rowOn mX11_rowOn ⟨Nat.le_of_ble_eq_true rfl, Nat.le_of_ble_eq_true rfl⟩ rfl rfl (Nat.le_of_ble_eq_true rfl) dX11_judge_2 (by decide) rfl rfl ?_
  refine g_astore_n (lv' := [(2, .ref (cd (30 + d))), (0, .ref (cd 0)), (1, .int (nI d))]) (pc := 5) dX11_judge_5 rfl (by decide) rfl ?_
  refine g_aload_n (q := 0) (pc := 6) dX11_judge_6 rfl rfl ?_
  refine g_ifnonnull (tgt := 16) (pc := 7) dX11_judge_7 (by decide) ?_
  refine g_aload_n (q := 1) (pc := 16) dX11_judge_16 rfl rfl ?_
  refine gc_get_O_mind (pc := 17) hA flX11_16 dX11_judge_17 ?_
  refine g_aload_n (q := 1) (pc := 20) dX11_judge_20 rfl rfl ?_
  refine gc_get_O_now (pc := 21) hA flX11_12 dX11_judge_21 ?_
  refine e_callVv (k2 := 0) (n2 := 0) (As := [.ref (cd 1)]) (rest := []) (pc := 24) (wC_2 hA) rfl (c_X5_become_BA hA hmA) mlX11_62 selX5_X5_become_X5_become mX5_become ⟨Nat.le_of_ble_eq_true rfl, Nat.le_of_ble_eq_true rfl⟩ rfl rfl (Nat.le_of_ble_eq_true rfl) dX11_judge_24 (by decide) rfl rfl ?_
  refine g_iconst (v := nI 0) (pc := 27) dX11_judge_27 (by decide) ?_
  refine g_istore_n (lv' := [(3, .int (nI 0)), (2, .ref (cd (30 + d))), (0, .ref (cd 0)), (1, .int (nI d))]) (pc := 28) dX11_judge_28 rfl (by decide) rfl ?_
  have lp29 : ∀ (d29 : Nat) (i : Nat) (k : Nat) (rB8 : Nat → Nat) (kd2 : Nat → Nat) (fg2 : Nat → Nat) (pl2 : Nat → Nat) (hr2 : Nat → Int32), k + d29 = 101 → (i = 3 * k) → (3 * k ≤ sz d) → (jF el d (kd, fg, pl, hr) k = ((kd2, fg2, pl2, hr2), (-4))) → (mo V rB8 kd2 fg2) → (∀ g, g < 2 → pl2 g < 20) → G l D Z b0 rmX11_judge RX11 cX11_judge 5 (gE (some .int) "judge") (gT D b0 Po rmX11_judge.cells rmX11_judge.slots) (wC Z cd ik ugA ugB ugC rA (nf pl) hr rB8 (nf pl2) hr2 rC (nf ipl) ihr cX lX oX nX sX zX cY lY oY nY sY zY tm cl KR SO SZ EL V) [(3, .int (nI i)), (0, .ref (cd 0)), (1, .int (nI d)), (2, .ref (cd (30 + d)))] 0 0 29 [] := by
    intro d29
    induction d29 with
    | zero =>
      intro i k rB8 kd2 fg2 pl2 hr2 hd29 hik hkn hj hmB2 hpl2
      have := h2.2.2.2.2.2.1; omega
    | succ d29 ih29 =>
      intro i k rB8 kd2 fg2 pl2 hr2 hd29 hik hkn hj hmB2 hpl2
      refine g_iload_n (q := 0) (pc := 29) dX11_judge_29 rfl rfl ?_
      refine g_iconst (v := nI 2) (pc := 30) dX11_judge_30 (by decide) ?_
      refine g_iadd_N (pc := 31) dX11_judge_31 ?_
      refine g_aload_n (q := 3) (pc := 32) dX11_judge_32 rfl rfl ?_
      refine gc_get_S_size (pc := 33) (d := d) hA (by omega) flX11_132 dX11_judge_33 ?_
      refine g_top (x := nI (SZ d)) (y := nI (sz d)) (congrArg nI h2.2.2.2.2.1) ?_
      refine g_icmp_ge_N (tgt := 111) (pc := 36) (by have := h2.2.2.2.2.2.1; omega) (by have := h2.2.2.2.2.2.1; omega) dX11_judge_36 (by decide) (fun c1 => ?_) (fun c1 => ?_)
      · -- T c1
        refine g_iload_n (q := 0) (pc := 111) dX11_judge_111 rfl rfl ?_
        refine g_aload_n (q := 3) (pc := 112) dX11_judge_112 rfl rfl ?_
        refine gc_get_S_size (pc := 113) (d := d) hA (by omega) flX11_132 dX11_judge_113 ?_
        refine g_top (x := nI (SZ d)) (y := nI (sz d)) (congrArg nI h2.2.2.2.2.1) ?_
        refine g_icmp_ge_N (tgt := 123) (pc := 116) (by have := h2.2.2.2.2.2.1; omega) (by have := h2.2.2.2.2.2.1; omega) dX11_judge_116 (by decide) (fun c2 => ?_) (fun c2 => ?_)
        · -- T c2
          refine g_bipush (v := (-4)) (pc := 123) dX11_judge_123 (by decide) ?_
          exact g_iret (pc := 125) (by decide) (by decide) (gC hPo (by obtain rfl : k = sz d / 3 := (by omega); rw [spJudgeV, hj, if_pos (show ((-4) : Int32) < 0 by decide), if_pos (by omega)]) (CI.mk ⟨hA, hE, hgA, hgB, hmA, hmC, hpl, hipl, hSh⟩)) dX11_judge_125
        · -- F c2
          refine g_iload_n (q := 0) (pc := 119) dX11_judge_119 rfl rfl ?_
          refine g_goto (tgt := 125) (pc := 120) dX11_judge_120 (by decide) ?_
          exact g_iret (pc := 125) (by decide) (by decide) (gC hPo (by obtain rfl : k = sz d / 3 := (by omega); rw [spJudgeV, hj, if_pos (show ((-4) : Int32) < 0 by decide), if_neg (by omega), hik]) (CI.mk ⟨hA, hE, hgA, hgB, hmA, hmC, hpl, hipl, hSh⟩)) dX11_judge_125
      · -- F c1
        refine g_aload_n (q := 3) (pc := 39) dX11_judge_39 rfl rfl ?_
        refine g_iload_n (q := 0) (pc := 40) dX11_judge_40 rfl rfl ?_
        rcases jd_cases kd2 fg2 pl2 hr2 (el (100 * d + i)) (el (100 * d + (i + 1))) (el (100 * d + (i + 2))) with ha | ⟨g, hg, e0, hb⟩ | ⟨g, s1, hg, hs1, e0, e1, hb⟩ | ⟨g, s1, t, hg, hs1, e0, e1, hb, hv⟩ | ⟨g, s1, t, hg, hs1, e0, e1, hb, hv⟩
        · -- alt
          have hjn := (jF_s hik hj (jd1_a ha)).trans (by rw [if_pos (by decide)])
          have hpn := hpl2
          refine e_callV (k2 := 0) (n2 := 0) (As := [.int (nI i)]) (rest := []) (pc := 41) (wC_sh hA hd) rfl (c_X7_at_s (x := el (100 * d + i)) hA hd (by rw [h2.2.2.2.2.1]; omega) (by rw [h2.2.2.2.2.1]; exact h2.2.2.2.2.2.1) (h2.2.2.2.2.2.2 i (by omega))) mlX11_200 selX7_X7_at_X7_at mX7_at ⟨Nat.le_of_ble_eq_true rfl, Nat.le_of_ble_eq_true rfl⟩ rfl rfl (Nat.le_of_ble_eq_true rfl) dX11_judge_41 (by decide) rfl rfl ?_
          refine g_istore (lv' := [(4, .int (el (100 * d + i))), (3, .int (nI i)), (0, .ref (cd 0)), (1, .int (nI d)), (2, .ref (cd (30 + d)))]) (pc := 44) dX11_judge_44 (by decide) rfl ?_
          refine g_iload (q := 0) (pc := 46) dX11_judge_46 rfl ?_
          refine g_iconst (v := nI 2) (pc := 48) dX11_judge_48 (by decide) ?_
          refine e_callS (k2 := 0) (n2 := 0) (As := [.int (el (100 * d + i)), .int (nI 2)]) (rest := []) (pc := 49) (c_X11_isBelow (by decide)) mlX11_69 mX11_isBelow ⟨Nat.le_of_ble_eq_true rfl, Nat.le_of_ble_eq_true rfl⟩ rfl rfl (Nat.le_of_ble_eq_true rfl) dX11_judge_49 (by decide) rfl rfl ?_
          refine g_if_ne_B (tgt := 57) (pc := 52) dX11_judge_52 (by decide) (fun c3 => ?_) (fun c3 => ?_)
          · -- T c3
            rw [ha] at c3; cases c3
          · -- F c3
            refine g_iload_n (q := 1) (pc := 55) dX11_judge_55 rfl rfl ?_
            exact g_iret (pc := 56) (by decide) (by decide) (gC hPo (by rw [spJudgeV, jF_st hjn (nI_nneg (by omega)) (sz d / 3) (by omega), if_neg (nI_nneg (by omega))]; rfl) (CI.mk ⟨hA, hE, hgA, hgB, hmA, hmC, hpl, hipl, hSh⟩)) dX11_judge_56
        · -- alt
          have hjn := (jF_s hik hj (jd1_b hg e0 hb)).trans (by rw [if_pos (by decide)])
          have hpn := hpl2
          refine e_callV (k2 := 0) (n2 := 0) (As := [.int (nI i)]) (rest := []) (pc := 41) (wC_sh hA hd) rfl (c_X7_at_s (x := nI g) hA hd (by rw [h2.2.2.2.2.1]; omega) (by rw [h2.2.2.2.2.1]; exact h2.2.2.2.2.2.1) ((h2.2.2.2.2.2.2 i (by omega)).trans e0)) mlX11_200 selX7_X7_at_X7_at mX7_at ⟨Nat.le_of_ble_eq_true rfl, Nat.le_of_ble_eq_true rfl⟩ rfl rfl (Nat.le_of_ble_eq_true rfl) dX11_judge_41 (by decide) rfl rfl ?_
          refine g_istore (lv' := [(4, .int (nI g)), (3, .int (nI i)), (0, .ref (cd 0)), (1, .int (nI d)), (2, .ref (cd (30 + d)))]) (pc := 44) dX11_judge_44 (by decide) rfl ?_
          refine g_iload (q := 0) (pc := 46) dX11_judge_46 rfl ?_
          refine g_iconst (v := nI 2) (pc := 48) dX11_judge_48 (by decide) ?_
          refine e_callS (k2 := 0) (n2 := 0) (As := [.int (nI g), .int (nI 2)]) (rest := []) (pc := 49) (c_X11_isBelowN (by decide) (by omega)) mlX11_69 mX11_isBelow ⟨Nat.le_of_ble_eq_true rfl, Nat.le_of_ble_eq_true rfl⟩ rfl rfl (Nat.le_of_ble_eq_true rfl) dX11_judge_49 (by decide) rfl rfl ?_
          refine g_if_ne_B (tgt := 57) (pc := 52) dX11_judge_52 (by decide) (fun c4 => ?_) (fun c4 => ?_)
          · -- T c4
            have c4 := of_decide_eq_true c4
            refine g_aload_n (q := 2) (pc := 57) dX11_judge_57 rfl rfl ?_
            refine gc_get_O_mind (pc := 58) hA flX11_16 dX11_judge_58 ?_
            refine g_iload (q := 0) (pc := 61) dX11_judge_61 rfl ?_
            refine g_aload_n (q := 4) (pc := 63) dX11_judge_63 rfl rfl ?_
            refine g_iload_n (q := 1) (pc := 64) dX11_judge_64 rfl rfl ?_
            refine g_iconst (v := nI 1) (pc := 65) dX11_judge_65 (by decide) ?_
            refine g_iadd_N (pc := 66) dX11_judge_66 ?_
            refine e_callV (k2 := 0) (n2 := 0) (As := [.int (nI (i + 1))]) (rest := [.int (nI g), .ref (cd 2)]) (pc := 67) (wC_sh hA hd) rfl (c_X7_at_s (x := el (100 * d + (i + 1))) hA hd (by rw [h2.2.2.2.2.1]; omega) (by rw [h2.2.2.2.2.1]; exact h2.2.2.2.2.2.1) (h2.2.2.2.2.2.2 (i + 1) (by omega))) mlX11_200 selX7_X7_at_X7_at mX7_at ⟨Nat.le_of_ble_eq_true rfl, Nat.le_of_ble_eq_true rfl⟩ rfl rfl (Nat.le_of_ble_eq_true rfl) dX11_judge_67 (by decide) rfl rfl ?_
            refine e_callV (k2 := 0) (n2 := 0) (As := [.int (nI g), .int (el (100 * d + (i + 1)))]) (rest := []) (pc := 70) (wC_2 hA) rfl (c_X5_advance_B_o hA hmB2 hgB (hpl2 g hg) hg hb) mlX11_106 selX5_X5_advance_X5_advance mX5_advance ⟨Nat.le_of_ble_eq_true rfl, Nat.le_of_ble_eq_true rfl⟩ rfl rfl (Nat.le_of_ble_eq_true rfl) dX11_judge_70 (by decide) rfl rfl ?_
            refine g_iconst (v := (-1)) (pc := 73) dX11_judge_73 (by decide) ?_
            refine g_icmp_ne (tgt := 81) (pc := 74) dX11_judge_74 (by decide) (fun c5 => ?_) (fun c5 => ?_)
            · -- T c5
              exact absurd rfl c5
            · -- F c5
              refine g_iload_n (q := 1) (pc := 77) dX11_judge_77 rfl rfl ?_
              refine g_iconst (v := nI 1) (pc := 78) dX11_judge_78 (by decide) ?_
              refine g_iadd_N (pc := 79) dX11_judge_79 ?_
              exact g_iret (pc := 80) (by decide) (by decide) (gC hPo (by rw [spJudgeV, jF_st hjn (nI_nneg (by omega)) (sz d / 3) (by omega), if_neg (nI_nneg (by omega))]) (CI.mk ⟨hA, hE, hgA, hgB, hmA, hmC, hpl, hipl, hSh⟩)) dX11_judge_80
          · -- F c4
            have c4 := of_decide_eq_false c4
            exact absurd hg c4
        · -- alt
          have hjn := (jF_s hik hj (jd1_c hg hs1 e0 e1 hb)).trans (by rw [if_pos (by decide)])
          have hpn := hpl2
          refine e_callV (k2 := 0) (n2 := 0) (As := [.int (nI i)]) (rest := []) (pc := 41) (wC_sh hA hd) rfl (c_X7_at_s (x := nI g) hA hd (by rw [h2.2.2.2.2.1]; omega) (by rw [h2.2.2.2.2.1]; exact h2.2.2.2.2.2.1) ((h2.2.2.2.2.2.2 i (by omega)).trans e0)) mlX11_200 selX7_X7_at_X7_at mX7_at ⟨Nat.le_of_ble_eq_true rfl, Nat.le_of_ble_eq_true rfl⟩ rfl rfl (Nat.le_of_ble_eq_true rfl) dX11_judge_41 (by decide) rfl rfl ?_
          refine g_istore (lv' := [(4, .int (nI g)), (3, .int (nI i)), (0, .ref (cd 0)), (1, .int (nI d)), (2, .ref (cd (30 + d)))]) (pc := 44) dX11_judge_44 (by decide) rfl ?_
          refine g_iload (q := 0) (pc := 46) dX11_judge_46 rfl ?_
          refine g_iconst (v := nI 2) (pc := 48) dX11_judge_48 (by decide) ?_
          refine e_callS (k2 := 0) (n2 := 0) (As := [.int (nI g), .int (nI 2)]) (rest := []) (pc := 49) (c_X11_isBelowN (by decide) (by omega)) mlX11_69 mX11_isBelow ⟨Nat.le_of_ble_eq_true rfl, Nat.le_of_ble_eq_true rfl⟩ rfl rfl (Nat.le_of_ble_eq_true rfl) dX11_judge_49 (by decide) rfl rfl ?_
          refine g_if_ne_B (tgt := 57) (pc := 52) dX11_judge_52 (by decide) (fun c6 => ?_) (fun c6 => ?_)
          · -- T c6
            have c6 := of_decide_eq_true c6
            refine g_aload_n (q := 2) (pc := 57) dX11_judge_57 rfl rfl ?_
            refine gc_get_O_mind (pc := 58) hA flX11_16 dX11_judge_58 ?_
            refine g_iload (q := 0) (pc := 61) dX11_judge_61 rfl ?_
            refine g_aload_n (q := 4) (pc := 63) dX11_judge_63 rfl rfl ?_
            refine g_iload_n (q := 1) (pc := 64) dX11_judge_64 rfl rfl ?_
            refine g_iconst (v := nI 1) (pc := 65) dX11_judge_65 (by decide) ?_
            refine g_iadd_N (pc := 66) dX11_judge_66 ?_
            refine e_callV (k2 := 0) (n2 := 0) (As := [.int (nI (i + 1))]) (rest := [.int (nI g), .ref (cd 2)]) (pc := 67) (wC_sh hA hd) rfl (c_X7_at_s (x := nI s1) hA hd (by rw [h2.2.2.2.2.1]; omega) (by rw [h2.2.2.2.2.1]; exact h2.2.2.2.2.2.1) ((h2.2.2.2.2.2.2 (i + 1) (by omega)).trans e1)) mlX11_200 selX7_X7_at_X7_at mX7_at ⟨Nat.le_of_ble_eq_true rfl, Nat.le_of_ble_eq_true rfl⟩ rfl rfl (Nat.le_of_ble_eq_true rfl) dX11_judge_67 (by decide) rfl rfl ?_
            refine e_callV (k2 := 0) (n2 := 0) (As := [.int (nI g), .int (nI s1)]) (rest := []) (pc := 70) (wC_2 hA) rfl (c_X5_advance_B_n hA hmB2 hgB (hpl2 g hg) hg hs1 hb) mlX11_106 selX5_X5_advance_X5_advance mX5_advance ⟨Nat.le_of_ble_eq_true rfl, Nat.le_of_ble_eq_true rfl⟩ rfl rfl (Nat.le_of_ble_eq_true rfl) dX11_judge_70 (by decide) rfl rfl ?_
            refine g_iconst (v := (-1)) (pc := 73) dX11_judge_73 (by decide) ?_
            refine g_icmp_ne (tgt := 81) (pc := 74) dX11_judge_74 (by decide) (fun c7 => ?_) (fun c7 => ?_)
            · -- T c7
              exact absurd rfl c7
            · -- F c7
              refine g_iload_n (q := 1) (pc := 77) dX11_judge_77 rfl rfl ?_
              refine g_iconst (v := nI 1) (pc := 78) dX11_judge_78 (by decide) ?_
              refine g_iadd_N (pc := 79) dX11_judge_79 ?_
              exact g_iret (pc := 80) (by decide) (by decide) (gC hPo (by rw [spJudgeV, jF_st hjn (nI_nneg (by omega)) (sz d / 3) (by omega), if_neg (nI_nneg (by omega))]) (CI.mk ⟨hA, hE, hgA, hgB, hmA, hmC, hpl, hipl, hSh⟩)) dX11_judge_80
          · -- F c6
            have c6 := of_decide_eq_false c6
            exact absurd hg c6
        · -- alt
          have hjn := (jF_s hik hj (jd1_d hg hs1 e0 e1 hb hv)).trans (by rw [if_pos (by decide)])
          have hpn := hplU (g := g) hpl2 (nbo_lt (hpl2 g hg) hb)
          refine e_callV (k2 := 0) (n2 := 0) (As := [.int (nI i)]) (rest := []) (pc := 41) (wC_sh hA hd) rfl (c_X7_at_s (x := nI g) hA hd (by rw [h2.2.2.2.2.1]; omega) (by rw [h2.2.2.2.2.1]; exact h2.2.2.2.2.2.1) ((h2.2.2.2.2.2.2 i (by omega)).trans e0)) mlX11_200 selX7_X7_at_X7_at mX7_at ⟨Nat.le_of_ble_eq_true rfl, Nat.le_of_ble_eq_true rfl⟩ rfl rfl (Nat.le_of_ble_eq_true rfl) dX11_judge_41 (by decide) rfl rfl ?_
          refine g_istore (lv' := [(4, .int (nI g)), (3, .int (nI i)), (0, .ref (cd 0)), (1, .int (nI d)), (2, .ref (cd (30 + d)))]) (pc := 44) dX11_judge_44 (by decide) rfl ?_
          refine g_iload (q := 0) (pc := 46) dX11_judge_46 rfl ?_
          refine g_iconst (v := nI 2) (pc := 48) dX11_judge_48 (by decide) ?_
          refine e_callS (k2 := 0) (n2 := 0) (As := [.int (nI g), .int (nI 2)]) (rest := []) (pc := 49) (c_X11_isBelowN (by decide) (by omega)) mlX11_69 mX11_isBelow ⟨Nat.le_of_ble_eq_true rfl, Nat.le_of_ble_eq_true rfl⟩ rfl rfl (Nat.le_of_ble_eq_true rfl) dX11_judge_49 (by decide) rfl rfl ?_
          refine g_if_ne_B (tgt := 57) (pc := 52) dX11_judge_52 (by decide) (fun c8 => ?_) (fun c8 => ?_)
          · -- T c8
            have c8 := of_decide_eq_true c8
            refine g_aload_n (q := 2) (pc := 57) dX11_judge_57 rfl rfl ?_
            refine gc_get_O_mind (pc := 58) hA flX11_16 dX11_judge_58 ?_
            refine g_iload (q := 0) (pc := 61) dX11_judge_61 rfl ?_
            refine g_aload_n (q := 4) (pc := 63) dX11_judge_63 rfl rfl ?_
            refine g_iload_n (q := 1) (pc := 64) dX11_judge_64 rfl rfl ?_
            refine g_iconst (v := nI 1) (pc := 65) dX11_judge_65 (by decide) ?_
            refine g_iadd_N (pc := 66) dX11_judge_66 ?_
            refine e_callV (k2 := 0) (n2 := 0) (As := [.int (nI (i + 1))]) (rest := [.int (nI g), .ref (cd 2)]) (pc := 67) (wC_sh hA hd) rfl (c_X7_at_s (x := nI s1) hA hd (by rw [h2.2.2.2.2.1]; omega) (by rw [h2.2.2.2.2.1]; exact h2.2.2.2.2.2.1) ((h2.2.2.2.2.2.2 (i + 1) (by omega)).trans e1)) mlX11_200 selX7_X7_at_X7_at mX7_at ⟨Nat.le_of_ble_eq_true rfl, Nat.le_of_ble_eq_true rfl⟩ rfl rfl (Nat.le_of_ble_eq_true rfl) dX11_judge_67 (by decide) rfl rfl ?_
            have tl := nbo_lt (c := pl2 g) (hpl2 g hg) hb
            refine e_callV (k2 := 0) (n2 := 0) (As := [.int (nI g), .int (nI s1)]) (rest := []) (pc := 70) (wC_2 hA) rfl (c_X5_advance_B_s hA hmB2 hgB (hpl2 g hg) hg hs1 hb) mlX11_106 selX5_X5_advance_X5_advance mX5_advance ⟨Nat.le_of_ble_eq_true rfl, Nat.le_of_ble_eq_true rfl⟩ rfl rfl (Nat.le_of_ble_eq_true rfl) dX11_judge_70 (by decide) rfl rfl ?_
            refine g_iconst (v := (-1)) (pc := 73) dX11_judge_73 (by decide) ?_
            refine g_icmp_ne (tgt := 81) (pc := 74) dX11_judge_74 (by decide) (fun c9 => ?_) (fun c9 => ?_)
            · -- T c9
              refine g_aload_n (q := 2) (pc := 81) dX11_judge_81 rfl rfl ?_
              refine gc_get_O_mind (pc := 82) hA flX11_16 dX11_judge_82 ?_
              refine gc_get_MB_hours (pc := 85) hA flX11_103 dX11_judge_85 ?_
              refine g_iload (q := 0) (pc := 88) dX11_judge_88 rfl ?_
              refine gc_ld_tB (pc := 90) (j := g) (x := hr2 g + nI (toilN (kd2 t) (fg2 t))) hA (by omega) (upd_eq _ _ _) dX11_judge_90 ?_
              refine g_aload_n (q := 4) (pc := 91) dX11_judge_91 rfl rfl ?_
              refine g_iload_n (q := 1) (pc := 92) dX11_judge_92 rfl rfl ?_
              refine g_iconst (v := nI 2) (pc := 93) dX11_judge_93 (by decide) ?_
              refine g_iadd_N (pc := 94) dX11_judge_94 ?_
              refine e_callV (k2 := 0) (n2 := 0) (As := [.int (nI (i + 2))]) (rest := [.int (hr2 g + nI (toilN (kd2 t) (fg2 t)))]) (pc := 95) (wC_sh hA hd) rfl (c_X7_at_s (x := el (100 * d + (i + 2))) hA hd (by rw [h2.2.2.2.2.1]; omega) (by rw [h2.2.2.2.2.1]; exact h2.2.2.2.2.2.1) (h2.2.2.2.2.2.2 (i + 2) (by omega))) mlX11_200 selX7_X7_at_X7_at mX7_at ⟨Nat.le_of_ble_eq_true rfl, Nat.le_of_ble_eq_true rfl⟩ rfl rfl (Nat.le_of_ble_eq_true rfl) dX11_judge_95 (by decide) rfl rfl ?_
              refine g_icmp_eq (tgt := 105) (pc := 98) dX11_judge_98 (by decide) (fun c10 => ?_) (fun c10 => ?_)
              · -- T c10
                exact absurd c10 hv
              · -- F c10
                refine g_iload_n (q := 1) (pc := 101) dX11_judge_101 rfl rfl ?_
                refine g_iconst (v := nI 2) (pc := 102) dX11_judge_102 (by decide) ?_
                refine g_iadd_N (pc := 103) dX11_judge_103 ?_
                exact g_iret (pc := 104) (by decide) (by decide) (gC hPo (by rw [spJudgeV, jF_st hjn (nI_nneg (by omega)) (sz d / 3) (by omega), if_neg (nI_nneg (by omega))]) (CI.mk ⟨hA, hE, hgA, hgB, hmA, hmC, hpl, hipl, hSh⟩)) dX11_judge_104
            · -- F c9
              exact absurd c9 (nI_m1 (by have := toilN_le (k := kd2 t) (hmB2 t tl).2.1; omega))
          · -- F c8
            have c8 := of_decide_eq_false c8
            exact absurd hg c8
        · -- alt
          have hjn := (jF_s hik hj (jd1_e hg hs1 e0 e1 hb hv)).trans (by rw [if_neg (by decide)])
          have hpn := hplU (g := g) hpl2 (nbo_lt (hpl2 g hg) hb)
          refine e_callV (k2 := 0) (n2 := 0) (As := [.int (nI i)]) (rest := []) (pc := 41) (wC_sh hA hd) rfl (c_X7_at_s (x := nI g) hA hd (by rw [h2.2.2.2.2.1]; omega) (by rw [h2.2.2.2.2.1]; exact h2.2.2.2.2.2.1) ((h2.2.2.2.2.2.2 i (by omega)).trans e0)) mlX11_200 selX7_X7_at_X7_at mX7_at ⟨Nat.le_of_ble_eq_true rfl, Nat.le_of_ble_eq_true rfl⟩ rfl rfl (Nat.le_of_ble_eq_true rfl) dX11_judge_41 (by decide) rfl rfl ?_
          refine g_istore (lv' := [(4, .int (nI g)), (3, .int (nI i)), (0, .ref (cd 0)), (1, .int (nI d)), (2, .ref (cd (30 + d)))]) (pc := 44) dX11_judge_44 (by decide) rfl ?_
          refine g_iload (q := 0) (pc := 46) dX11_judge_46 rfl ?_
          refine g_iconst (v := nI 2) (pc := 48) dX11_judge_48 (by decide) ?_
          refine e_callS (k2 := 0) (n2 := 0) (As := [.int (nI g), .int (nI 2)]) (rest := []) (pc := 49) (c_X11_isBelowN (by decide) (by omega)) mlX11_69 mX11_isBelow ⟨Nat.le_of_ble_eq_true rfl, Nat.le_of_ble_eq_true rfl⟩ rfl rfl (Nat.le_of_ble_eq_true rfl) dX11_judge_49 (by decide) rfl rfl ?_
          refine g_if_ne_B (tgt := 57) (pc := 52) dX11_judge_52 (by decide) (fun c11 => ?_) (fun c11 => ?_)
          · -- T c11
            have c11 := of_decide_eq_true c11
            refine g_aload_n (q := 2) (pc := 57) dX11_judge_57 rfl rfl ?_
            refine gc_get_O_mind (pc := 58) hA flX11_16 dX11_judge_58 ?_
            refine g_iload (q := 0) (pc := 61) dX11_judge_61 rfl ?_
            refine g_aload_n (q := 4) (pc := 63) dX11_judge_63 rfl rfl ?_
            refine g_iload_n (q := 1) (pc := 64) dX11_judge_64 rfl rfl ?_
            refine g_iconst (v := nI 1) (pc := 65) dX11_judge_65 (by decide) ?_
            refine g_iadd_N (pc := 66) dX11_judge_66 ?_
            refine e_callV (k2 := 0) (n2 := 0) (As := [.int (nI (i + 1))]) (rest := [.int (nI g), .ref (cd 2)]) (pc := 67) (wC_sh hA hd) rfl (c_X7_at_s (x := nI s1) hA hd (by rw [h2.2.2.2.2.1]; omega) (by rw [h2.2.2.2.2.1]; exact h2.2.2.2.2.2.1) ((h2.2.2.2.2.2.2 (i + 1) (by omega)).trans e1)) mlX11_200 selX7_X7_at_X7_at mX7_at ⟨Nat.le_of_ble_eq_true rfl, Nat.le_of_ble_eq_true rfl⟩ rfl rfl (Nat.le_of_ble_eq_true rfl) dX11_judge_67 (by decide) rfl rfl ?_
            have tl := nbo_lt (c := pl2 g) (hpl2 g hg) hb
            refine e_callV (k2 := 0) (n2 := 0) (As := [.int (nI g), .int (nI s1)]) (rest := []) (pc := 70) (wC_2 hA) rfl (c_X5_advance_B_s hA hmB2 hgB (hpl2 g hg) hg hs1 hb) mlX11_106 selX5_X5_advance_X5_advance mX5_advance ⟨Nat.le_of_ble_eq_true rfl, Nat.le_of_ble_eq_true rfl⟩ rfl rfl (Nat.le_of_ble_eq_true rfl) dX11_judge_70 (by decide) rfl rfl ?_
            refine g_iconst (v := (-1)) (pc := 73) dX11_judge_73 (by decide) ?_
            refine g_icmp_ne (tgt := 81) (pc := 74) dX11_judge_74 (by decide) (fun c12 => ?_) (fun c12 => ?_)
            · -- T c12
              refine g_aload_n (q := 2) (pc := 81) dX11_judge_81 rfl rfl ?_
              refine gc_get_O_mind (pc := 82) hA flX11_16 dX11_judge_82 ?_
              refine gc_get_MB_hours (pc := 85) hA flX11_103 dX11_judge_85 ?_
              refine g_iload (q := 0) (pc := 88) dX11_judge_88 rfl ?_
              refine gc_ld_tB (pc := 90) (j := g) (x := hr2 g + nI (toilN (kd2 t) (fg2 t))) hA (by omega) (upd_eq _ _ _) dX11_judge_90 ?_
              refine g_aload_n (q := 4) (pc := 91) dX11_judge_91 rfl rfl ?_
              refine g_iload_n (q := 1) (pc := 92) dX11_judge_92 rfl rfl ?_
              refine g_iconst (v := nI 2) (pc := 93) dX11_judge_93 (by decide) ?_
              refine g_iadd_N (pc := 94) dX11_judge_94 ?_
              refine e_callV (k2 := 0) (n2 := 0) (As := [.int (nI (i + 2))]) (rest := [.int (hr2 g + nI (toilN (kd2 t) (fg2 t)))]) (pc := 95) (wC_sh hA hd) rfl (c_X7_at_s (x := el (100 * d + (i + 2))) hA hd (by rw [h2.2.2.2.2.1]; omega) (by rw [h2.2.2.2.2.1]; exact h2.2.2.2.2.2.1) (h2.2.2.2.2.2.2 (i + 2) (by omega))) mlX11_200 selX7_X7_at_X7_at mX7_at ⟨Nat.le_of_ble_eq_true rfl, Nat.le_of_ble_eq_true rfl⟩ rfl rfl (Nat.le_of_ble_eq_true rfl) dX11_judge_95 (by decide) rfl rfl ?_
              refine g_icmp_eq (tgt := 105) (pc := 98) dX11_judge_98 (by decide) (fun c13 => ?_) (fun c13 => ?_)
              · -- T c13
                refine g_iinc (q := 1) (lv' := [(3, .int (nI (i + 3))), (4, .int (nI g)), (0, .ref (cd 0)), (1, .int (nI d)), (2, .ref (cd (30 + d)))]) (pc := 105) dX11_judge_105 rfl (nI_inc _ _) (by decide) rfl ?_
                refine g_goto (tgt := 29) (pc := 108) dX11_judge_108 (by decide) ?_
                refine G.locals (L' := [(3, .int (nI (i + 3))), (0, .ref (cd 0)), (1, .int (nI d)), (2, .ref (cd (30 + d)))]) [0, 2, 3, 4] rfl ?_
                exact ih29 (i + 3) (k + 1) (updN rB8 t ugB) (updN kd2 t 7) (updN fg2 t 0) (updN pl2 g t) (upd hr2 g (hr2 g + nI (toilN (kd2 t) (fg2 t)))) (by omega) (by omega) (by omega) hjn (mo.st hmB2 hgB) hpn
              · -- F c13
                exact absurd hv c13
            · -- F c12
              exact absurd c12 (nI_m1 (by have := toilN_le (k := kd2 t) (hmB2 t tl).2.1; omega))
          · -- F c11
            have c11 := of_decide_eq_false c11
            exact absurd hg c11
  refine G.locals (L' := [(3, .int (nI 0)), (0, .ref (cd 0)), (1, .int (nI d)), (2, .ref (cd (30 + d)))]) [0, 2, 3, 1] rfl ?_
  exact lp29 101 0 0 rA kd fg pl hr (by omega) rfl (by omega) rfl hmA hpl
theorem d_X11_judge_s {d : Nat} {V2 : HV} (hCI : CI Z b0 cd Vb ik kd fg pl hr ikd ifg ipl ihr kp so sz el ki kf V2) (hd : d < 8) (hk : kp d = 2) : KM l D Z b0 yX11_judge cX11_judge 5 (some .int) rmX11_judge [.ref (cd 0), .int (nI d)] V2 (fun v0 V' => v0 = some (.int (spJudgeV el d (sz d) (kd, fg, pl, hr))) ∧ CI Z b0 cd Vb ik kd fg pl hr ikd ifg ipl ihr kp so sz el ki kf V') := by
  obtain ⟨ugA, ugB, ugC, rA, rB, pB, tB, rC, cX, lX, oX, nX, sX, zX, cY, lY, oY, nY, sY, zY, tm, cl, KR, SO, SZ, EL, V, rfl, hA, hE, hgA, hgB, hmA, hmC, hpl, hipl, hSh⟩ := hCI
  exact c_X11_judge_s hA hE hgA hgB hmA hmC hpl hipl hSh hd hk
set_option maxHeartbeats 8000000 in
theorem c_X11_judge_n {d : Int32} (hA : oC b0 cd V) (hE : Ext Vb V) (hgA : Rk V ugA 7 0) (hgB : Rk V ugB 7 0) (hmA : mo V rA kd fg) (hmC : mo V rC ikd ifg) (hpl : ∀ g, g < 2 → pl g < 20) (hipl : ∀ g, g < 2 → ipl g < 20) (hSh : Sh V KR SO SZ EL kp so sz el ki kf) (h : ¬ spWR kp so d none = 0) : KM l D Z b0 yX11_judge cX11_judge 5 (some .int) rmX11_judge [.ref (cd 0), .int d] (wC Z cd ik ugA ugB ugC rA (nf pl) hr rB pB tB rC (nf ipl) ihr cX lX oX nX sX zX cY lY oY nY sY zY tm cl KR SO SZ EL V) (fun v0 V' => v0 = some (.int (spWR kp so d none)) ∧ CI Z b0 cd Vb ik kd fg pl hr ikd ifg ipl ihr kp so sz el ki kf V') := by
  refine KM.ofP (by decide) (Nat.le_of_ble_eq_true rfl) (fun Po hPo => ?_)
  refine G.locals (L' := [(0, .ref (cd 0)), (1, .int d)]) [0, 1] rfl ?_
  refine g_aload_n (q := 0) (pc := 0) dX11_judge_0 rfl rfl ?_
  refine g_iload_n (q := 1) (pc := 1) dX11_judge_1 rfl rfl ?_
  rcases Sh.k hSh d with ho | ⟨d, hd, rfl, h0⟩ | ⟨d, hd, rfl, h1, a, q, f, hk1, hr1, hi1, hf1, hs1⟩ | ⟨d, hd, rfl, h2⟩
  · -- alt
    refine e_callV (k2 := 0) (n2 := 0) (As := [.int d]) (rest := []) (pc := 2) (wC_0 hA) rfl (c_X11_rowOn_o hA ho) mlX11_197 selX11_X11_rowOn_X11_rowOn mX11_rowOn ⟨Nat.le_of_ble_eq_true rfl, Nat.le_of_ble_eq_true rfl⟩ rfl rfl (Nat.le_of_ble_eq_true rfl) dX11_judge_2 (by decide) rfl rfl ?_
    refine g_astore_nN (lv' := [(2, .null), (0, .ref (cd 0)), (1, .int d)]) (pc := 5) dX11_judge_5 rfl (by decide) rfl ?_
    refine g_aload_nN (q := 0) (pc := 6) dX11_judge_6 rfl rfl ?_
    refine g_ifnonnullN (pc := 7) dX11_judge_7 ?_
    refine g_aload_n (q := 1) (pc := 10) dX11_judge_10 rfl rfl ?_
    refine g_iload_n (q := 2) (pc := 11) dX11_judge_11 rfl rfl ?_
    refine e_callV (k2 := 0) (n2 := 0) (As := [.int d]) (rest := []) (pc := 12) (wC_0 hA) rfl (c_X11_whyNot_o hA ho) mlX11_54 selX11_X11_whyNot_X11_whyNot mX11_whyNot ⟨Nat.le_of_ble_eq_true rfl, Nat.le_of_ble_eq_true rfl⟩ rfl rfl (Nat.le_of_ble_eq_true rfl) dX11_judge_12 (by decide) rfl rfl ?_
    exact g_iret (pc := 15) (by decide) (by decide) (gC hPo (by first | exact spWR_o ho | exact spWR_0c hd h0.1 | exact spWR_1c hd h1) (CI.mk ⟨hA, hE, hgA, hgB, hmA, hmC, hpl, hipl, hSh⟩)) dX11_judge_15
  · -- alt
    refine e_callV (k2 := 0) (n2 := 0) (As := [.int (nI d)]) (rest := []) (pc := 2) (wC_0 hA) rfl (c_X11_rowOn_e hA hd h0.2.2) mlX11_197 selX11_X11_rowOn_X11_rowOn mX11_rowOn ⟨Nat.le_of_ble_eq_true rfl, Nat.le_of_ble_eq_true rfl⟩ rfl rfl (Nat.le_of_ble_eq_true rfl) dX11_judge_2 (by decide) rfl rfl ?_
    refine g_astore_nN (lv' := [(2, .null), (0, .ref (cd 0)), (1, .int (nI d))]) (pc := 5) dX11_judge_5 rfl (by decide) rfl ?_
    refine g_aload_nN (q := 0) (pc := 6) dX11_judge_6 rfl rfl ?_
    refine g_ifnonnullN (pc := 7) dX11_judge_7 ?_
    refine g_aload_n (q := 1) (pc := 10) dX11_judge_10 rfl rfl ?_
    refine g_iload_n (q := 2) (pc := 11) dX11_judge_11 rfl rfl ?_
    refine e_callV (k2 := 0) (n2 := 0) (As := [.int (nI d)]) (rest := []) (pc := 12) (wC_0 hA) rfl (c_X11_whyNot_0 hA hd h0.2.1 h0.2.2) mlX11_54 selX11_X11_whyNot_X11_whyNot mX11_whyNot ⟨Nat.le_of_ble_eq_true rfl, Nat.le_of_ble_eq_true rfl⟩ rfl rfl (Nat.le_of_ble_eq_true rfl) dX11_judge_12 (by decide) rfl rfl ?_
    exact g_iret (pc := 15) (by decide) (by decide) (gC hPo (by first | exact spWR_o ho | exact spWR_0c hd h0.1 | exact spWR_1c hd h1) (CI.mk ⟨hA, hE, hgA, hgB, hmA, hmC, hpl, hipl, hSh⟩)) dX11_judge_15
  · -- alt
    refine e_callV (k2 := 0) (n2 := 0) (As := [.int (nI d)]) (rest := []) (pc := 2) (wC_0 hA) rfl (c_X11_rowOn_e hA hd hs1) mlX11_197 selX11_X11_rowOn_X11_rowOn mX11_rowOn ⟨Nat.le_of_ble_eq_true rfl, Nat.le_of_ble_eq_true rfl⟩ rfl rfl (Nat.le_of_ble_eq_true rfl) dX11_judge_2 (by decide) rfl rfl ?_
    refine g_astore_nN (lv' := [(2, .null), (0, .ref (cd 0)), (1, .int (nI d))]) (pc := 5) dX11_judge_5 rfl (by decide) rfl ?_
    refine g_aload_nN (q := 0) (pc := 6) dX11_judge_6 rfl rfl ?_
    refine g_ifnonnullN (pc := 7) dX11_judge_7 ?_
    refine g_aload_n (q := 1) (pc := 10) dX11_judge_10 rfl rfl ?_
    refine g_iload_n (q := 2) (pc := 11) dX11_judge_11 rfl rfl ?_
    refine e_callV (k2 := 0) (n2 := 0) (As := [.int (nI d)]) (rest := []) (pc := 12) (wC_0 hA) rfl (c_X11_whyNot_1 hA hd hk1) mlX11_54 selX11_X11_whyNot_X11_whyNot mX11_whyNot ⟨Nat.le_of_ble_eq_true rfl, Nat.le_of_ble_eq_true rfl⟩ rfl rfl (Nat.le_of_ble_eq_true rfl) dX11_judge_12 (by decide) rfl rfl ?_
    exact g_iret (pc := 15) (by decide) (by decide) (gC hPo (by first | exact spWR_o ho | exact spWR_0c hd h0.1 | exact spWR_1c hd h1) (CI.mk ⟨hA, hE, hgA, hgB, hmA, hmC, hpl, hipl, hSh⟩)) dX11_judge_15
  · -- alt
    exact absurd (spWR_ok hd h2.1 rfl) h
theorem d_X11_judge_n {d : Int32} {V2 : HV} (hCI : CI Z b0 cd Vb ik kd fg pl hr ikd ifg ipl ihr kp so sz el ki kf V2) (h : ¬ spWR kp so d none = 0) : KM l D Z b0 yX11_judge cX11_judge 5 (some .int) rmX11_judge [.ref (cd 0), .int d] V2 (fun v0 V' => v0 = some (.int (spWR kp so d none)) ∧ CI Z b0 cd Vb ik kd fg pl hr ikd ifg ipl ihr kp so sz el ki kf V') := by
  obtain ⟨ugA, ugB, ugC, rA, rB, pB, tB, rC, cX, lX, oX, nX, sX, zX, cY, lY, oY, nY, sY, zY, tm, cl, KR, SO, SZ, EL, V, rfl, hA, hE, hgA, hgB, hmA, hmC, hpl, hipl, hSh⟩ := hCI
  exact c_X11_judge_n hA hE hgA hgB hmA hmC hpl hipl hSh h
end MS
