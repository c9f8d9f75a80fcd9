theorem rkS_t {kd fg : Nat → Nat} {c f a b k : Nat} {t h9 : Int32} (h : h9 = rkS kd fg c f a b t k) (e : nI (dT (updN kd c k) (updN fg c f) a b) = t) : h9 ||| nI 1 <<< (nI k &&& 31) = rkS kd fg c f a b t (k + 1) := by
  rw [rkS, if_pos e, h]
theorem rkS_f {kd fg : Nat → Nat} {c f a b k : Nat} {t h9 : Int32} (h : h9 = rkS kd fg c f a b t k) (e : ¬ nI (dT (updN kd c k) (updN fg c f) a b) = t) : h9 = rkS kd fg c f a b t (k + 1) := by
  rw [rkS, if_neg e, h]; exact Int32.or_zero.symm
theorem mo.re {V : HV} {r kB fB kd fg : Nat → Nat} {c q f : Nat} (h : mo V r (updN kB c q) (updN fB c f)) (hk : ∀ x, updN kB c x = updN kd c x) (hf : ∀ x, updN fB c x = updN fg c x) : mo V r (updN kd c q) (updN fg c f) := by rw [← hk, ← hf]; exact h
theorem upd2 {kd : Nat → Nat} {c q : Nat} : ∀ x, updN (updN kd c q) c x = updN kd c x := fun x => updN_updN _ _ _ _
section MS
variable {l : Launch} {D : va_G} {Z : Nat → ClassId} {b0 : Nat} {cd : Nat → Nat} {ik : Int32} {ugA ugB ugC : Nat} {rA : Nat → Nat} {pA tA : Nat → Int32} {rB : Nat → Nat} {pB tB : Nat → Int32} {rC : Nat → Nat} {pC tC cX lX oX nX sX zX cY lY oY nY sY zY tm cl : Nat → Int32} {KR : Nat → Option Nat} {SO : Nat → Int32} {SZ : Nat → Nat} {EL : Nat → Nat → Int32} {V Vb : HV} {kd fg pl ikd ifg ipl kp so sz : Nat → Nat} {hr ihr el ki kf : Nat → Int32}
def rmX11_rocks : Room := { frames := 5, cells := 8, slots := 8, locals := 96 }
set_option maxHeartbeats 8000000 in
theorem c_X11_rocks {c f a b t : Int32} (hA : oC b0 cd V) (hE : Ext Vb V) (hgA : Rk V ugA 7 0) (hgB : Rk V ugB 7 0) (hmA : mo V rA kd fg) (hmC : mo V rC ikd ifg) (hpl : ∀ g, g < 2 → pl g < 20) (hipl : ∀ g, g < 2 → ipl g < 20) (hSh : Sh V KR SO SZ EL kp so sz el ki kf) : KM l D Z b0 yX11_rocks cX11_rocks 8 (some .int) rmX11_rocks [.ref (cd 0), .int c, .int f, .int a, .int b, .int t] (wC Z cd ik ugA ugB ugC rA (nf pl) hr rB pB tB rC (nf ipl) ihr cX lX oX nX sX zX cY lY oY nY sY zY tm cl KR SO SZ EL V) (fun v0 V' => v0 = some (.int (spRocks kd fg c f a b t)) ∧ CI Z b0 cd Vb ik kd fg pl hr ikd ifg ipl ihr kp so sz el ki kf V') := by
  refine KM.ofP (by decide) (Nat.le_of_ble_eq_true rfl) (fun Po hPo => ?_)
  refine G.locals (L' := [(0, .ref (cd 0)), (1, .int c), (2, .int f), (3, .int a), (4, .int b), (5, .int t)]) [0, 1, 2, 3, 4, 5] rfl ?_
  refine g_iload_n (q := 1) (pc := 0) dX11_rocks_0 rfl rfl ?_
  refine g_bipush (v := nI 20) (pc := 1) dX11_rocks_1 (by decide) ?_
  refine e_callS (k2 := 0) (n2 := 0) (As := [.int c, .int (nI 20)]) (rest := []) (pc := 3) (c_X11_isBelow (by decide)) mlX11_69 mX11_isBelow ⟨Nat.le_of_ble_eq_true rfl, Nat.le_of_ble_eq_true rfl⟩ rfl rfl (Nat.le_of_ble_eq_true rfl) dX11_rocks_3 (by decide) rfl rfl ?_
  refine g_if_eq_B (tgt := 18) (pc := 6) dX11_rocks_6 (by decide) (fun c1 => ?_) (fun c1 => ?_)
  · -- T c1
    refine g_iconst (v := (-1)) (pc := 18) dX11_rocks_18 (by decide) ?_
    exact g_iret (pc := 19) (by decide) (by decide) (gC hPo (by rw [spRocks, if_neg (by simp [*])]) (CI.mk ⟨hA, hE, hgA, hgB, hmA, hmC, hpl, hipl, hSh⟩)) dX11_rocks_19
  · -- F c1
    obtain ⟨c, hc, rfl⟩ := inR_t c1
    refine g_iload_n (q := 2) (pc := 9) dX11_rocks_9 rfl rfl ?_
    refine g_bipush (v := nI 10) (pc := 10) dX11_rocks_10 (by decide) ?_
    refine e_callS (k2 := 0) (n2 := 0) (As := [.int f, .int (nI 10)]) (rest := []) (pc := 12) (c_X11_isBelow (by decide)) mlX11_69 mX11_isBelow ⟨Nat.le_of_ble_eq_true rfl, Nat.le_of_ble_eq_true rfl⟩ rfl rfl (Nat.le_of_ble_eq_true rfl) dX11_rocks_12 (by decide) rfl rfl ?_
    refine g_if_ne_B (tgt := 20) (pc := 15) dX11_rocks_15 (by decide) (fun c2 => ?_) (fun c2 => ?_)
    · -- T c2
      obtain ⟨f, hf, rfl⟩ := inR_t c2
      refine g_iload_n (q := 3) (pc := 20) dX11_rocks_20 rfl rfl ?_
      refine g_bipush (v := nI 20) (pc := 21) dX11_rocks_21 (by decide) ?_
      refine e_callS (k2 := 0) (n2 := 0) (As := [.int a, .int (nI 20)]) (rest := []) (pc := 23) (c_X11_isBelow (by decide)) mlX11_69 mX11_isBelow ⟨Nat.le_of_ble_eq_true rfl, Nat.le_of_ble_eq_true rfl⟩ rfl rfl (Nat.le_of_ble_eq_true rfl) dX11_rocks_23 (by decide) rfl rfl ?_
      refine g_if_eq_B (tgt := 39) (pc := 26) dX11_rocks_26 (by decide) (fun c3 => ?_) (fun c3 => ?_)
      · -- T c3
        refine g_iconst (v := (-1)) (pc := 39) dX11_rocks_39 (by decide) ?_
        exact g_iret (pc := 40) (by decide) (by decide) (gC hPo (by rw [spRocks, if_pos (by assumption), if_pos (by assumption), if_neg (by simp [*])]) (CI.mk ⟨hA, hE, hgA, hgB, hmA, hmC, hpl, hipl, hSh⟩)) dX11_rocks_40
      · -- F c3
        obtain ⟨a, ha, rfl⟩ := inR_t c3
        refine g_iload (q := 4) (pc := 29) dX11_rocks_29 rfl ?_
        refine g_bipush (v := nI 20) (pc := 31) dX11_rocks_31 (by decide) ?_
        refine e_callS (k2 := 0) (n2 := 0) (As := [.int b, .int (nI 20)]) (rest := []) (pc := 33) (c_X11_isBelow (by decide)) mlX11_69 mX11_isBelow ⟨Nat.le_of_ble_eq_true rfl, Nat.le_of_ble_eq_true rfl⟩ rfl rfl (Nat.le_of_ble_eq_true rfl) dX11_rocks_33 (by decide) rfl rfl ?_
        refine g_if_ne_B (tgt := 41) (pc := 36) dX11_rocks_36 (by decide) (fun c4 => ?_) (fun c4 => ?_)
        · -- T c4
          obtain ⟨b, hb, rfl⟩ := inR_t c4
          refine g_aload_n (q := 0) (pc := 41) dX11_rocks_41 rfl rfl ?_
          refine gc_get_O_mind (pc := 42) hA flX11_16 dX11_rocks_42 ?_
          refine g_aload_n (q := 0) (pc := 45) dX11_rocks_45 rfl rfl ?_
          refine gc_get_O_now (pc := 46) hA flX11_12 dX11_rocks_46 ?_
          refine e_callVv (k2 := 0) (n2 := 0) (As := [.ref (cd 1)]) (rest := []) (pc := 49) (wC_2 hA) rfl (c_X5_become_BA hA hmA) mlX11_62 selX5_X5_become_X5_become mX5_become ⟨Nat.le_of_ble_eq_true rfl, Nat.le_of_ble_eq_true rfl⟩ rfl rfl (Nat.le_of_ble_eq_true rfl) dX11_rocks_49 (by decide) rfl rfl ?_
          refine g_iconst (v := nI 0) (pc := 52) dX11_rocks_52 (by decide) ?_
          refine g_istore (lv' := [(6, .int (nI 0)), (0, .ref (cd 0)), (1, .int (nI c)), (2, .int (nI f)), (3, .int (nI a)), (4, .int (nI b)), (5, .int t)]) (pc := 53) dX11_rocks_53 (by decide) rfl ?_
          refine g_iconst (v := nI 0) (pc := 55) dX11_rocks_55 (by decide) ?_
          refine g_istore (lv' := [(7, .int (nI 0)), (6, .int (nI 0)), (0, .ref (cd 0)), (1, .int (nI c)), (2, .int (nI f)), (3, .int (nI a)), (4, .int (nI b)), (5, .int t)]) (pc := 56) dX11_rocks_56 (by decide) rfl ?_
          have lp58 : ∀ (d58 : Nat) (q9 : Nat) (V8 : HV) (h9 : Int32) (rB8 : Nat → Nat) (kB8 : Nat → Nat) (fB8 : Nat → Nat) (c8 : Nat → Int32) (l8 : Nat → Int32) (o8 : Nat → Int32) (n8 : Nat → Int32) (s8 : Nat → Int32) (z8 : Nat → Int32), q9 + d58 = 9 → (q9 ≤ 8) → (h9 = rkS kd fg c f a b t q9) → (CH b0 cd Vb V8 ugA ugB rA rC kd fg pl ikd ifg ipl KR SO SZ EL kp so sz el ki kf) → (mo V8 rB8 kB8 fB8) → (∀ x, updN kB8 c x = updN kd c x) → (∀ x, updN fB8 c x = updN fg c x) → G l D Z b0 rmX11_rocks RX11 cX11_rocks 8 (gE (some .int) "rocks") (gT D b0 Po rmX11_rocks.cells rmX11_rocks.slots) (wC Z cd ik ugA ugB ugC rA (nf pl) hr rB8 (nf pl) hr rC (nf ipl) ihr c8 l8 o8 n8 s8 z8 cY lY oY nY sY zY tm cl KR SO SZ EL V8) [(7, .int (nI q9)), (6, .int h9), (0, .ref (cd 0)), (1, .int (nI c)), (2, .int (nI f)), (3, .int (nI a)), (4, .int (nI b)), (5, .int t)] q9 q9 58 [] := by
            intro d58
            induction d58 with
            | zero =>
              intro q9 V8 h9 rB8 kB8 fB8 c8 l8 o8 n8 s8 z8 hd58 hq8 hr9 hCH8 hmB8 hkB hfB
              exact absurd hd58 (by omega)
            | succ d58 ih58 =>
              intro q9 V8 h9 rB8 kB8 fB8 c8 l8 o8 n8 s8 z8 hd58 hq8 hr9 hCH8 hmB8 hkB hfB
              refine g_iload (q := 0) (pc := 58) dX11_rocks_58 rfl ?_
              refine g_bipush (v := nI 8) (pc := 60) dX11_rocks_60 (by decide) ?_
              refine g_icmp_ge_N (tgt := 129) (pc := 62) (by omega) (by omega) dX11_rocks_62 (by decide) (fun c5 => ?_) (fun c5 => ?_)
              · -- T c5
                refine g_iload (q := 1) (pc := 129) dX11_rocks_129 rfl ?_
                exact g_iret (pc := 131) (show q9 ≤ 8 by omega) (show q9 ≤ 8 by omega) (gC hPo (by obtain rfl : q9 = 8 := (by omega); rw [spRocks, if_pos (by assumption), if_pos (by assumption), if_pos (by assumption), if_pos (by assumption), dN_N (by omega), dN_N (by omega), dN_N (by omega), dN_N (by omega)]; exact hr9.symm) (CI.mk ⟨hCH8.1, hCH8.2.1, hCH8.2.2.1, hCH8.2.2.2.1, hCH8.2.2.2.2.1, hCH8.2.2.2.2.2.1, hCH8.2.2.2.2.2.2.1, hCH8.2.2.2.2.2.2.2.1, hCH8.2.2.2.2.2.2.2.2⟩)) dX11_rocks_131
              · -- F c5
                refine g_aload_n (q := 2) (pc := 65) dX11_rocks_65 rfl rfl ?_
                refine gc_get_O_mind (pc := 66) hCH8.1 flX11_16 dX11_rocks_66 ?_
                refine gc_get_MB_cells (pc := 69) hCH8.1 flX11_73 dX11_rocks_69 ?_
                refine g_iload_n (q := 3) (pc := 72) dX11_rocks_72 rfl rfl ?_
                refine g_iload (q := 0) (pc := 73) dX11_rocks_73 rfl ?_
                refine g_iload_n (q := 4) (pc := 75) dX11_rocks_75 rfl rfl ?_
                refine g_callS (As := [.int (nI q9), .int (nI f)]) (rest := [.int (nI c), .ref (cd 7)]) (pc := 76) (c_X11_rockOf (by omega) (by omega)) mlX11_157 mX11_rockOf ⟨Nat.le_of_ble_eq_true rfl, Nat.le_of_ble_eq_true rfl⟩ rfl rfl (Nat.le_of_ble_eq_true rfl) dX11_rocks_76 ⟨(show q9 + 1 ≤ 8 by omega), (show q9 + 1 ≤ 8 by omega)⟩  (fun v9 V9 h9 => ?_)
                obtain ⟨a76, rfl, hb76, hn76, -, rfl⟩ := h9
                have hw76 := wC_none hCH8.1 hn76
                refine G.veq (wC_upv hCH8.1 hn76) ?_
                refine G.eqst (k2 := q9 + 1) (n2 := q9 + 1) (st2 := [.ref a76, .int (nI c), .ref (cd 7)]) rfl rfl rfl ?_
                refine gc_st_rB (pc := 79) (c := c) (a := a76) (q := q9) (f := f) (oC.new hCH8.1 hw76.2) (by omega) ⟨(by omega), (by omega), upv_eq _ _ _⟩ dX11_rocks_79 ?_
                refine g_aload_n (q := 2) (pc := 80) dX11_rocks_80 rfl rfl ?_
                refine gc_get_O_ways (pc := 81) (oC.new hCH8.1 hw76.2) flX11_35 dX11_rocks_81 ?_
                refine g_aload_n (q := 2) (pc := 84) dX11_rocks_84 rfl rfl ?_
                refine gc_get_O_mind (pc := 85) (oC.new hCH8.1 hw76.2) flX11_16 dX11_rocks_85 ?_
                refine e_callVv (k2 := q9 + 1) (n2 := q9 + 1) (As := [.ref (cd 2)]) (rest := []) (pc := 88) (wC_14 (oC.new hCH8.1 hw76.2)) rfl (c_X10_byKnocks_XB (oC.new hCH8.1 hw76.2) (mo.re (mo.st (mo.new hmB8 hw76.1) ⟨(by omega), (by omega), upv_eq _ _ _⟩) hkB hfB)) mlX11_139 selX10_X10_byKnocks_X10_byKnocks mX10_byKnocks ⟨Nat.le_of_ble_eq_true rfl, Nat.le_of_ble_eq_true rfl⟩ rfl rfl (Nat.le_of_ble_eq_true rfl) dX11_rocks_88 ⟨(show q9 + 1 ≤ 8 by omega), (show q9 + 1 ≤ 8 by omega)⟩ rfl rfl ?_
                refine g_aload_n (q := 2) (pc := 91) dX11_rocks_91 rfl rfl ?_
                refine gc_get_O_ways (pc := 92) (oC.new hCH8.1 hw76.2) flX11_35 dX11_rocks_92 ?_
                refine g_iload_n (q := 5) (pc := 95) dX11_rocks_95 rfl rfl ?_
                refine g_callV (As := [.int (nI a)]) (rest := []) (pc := 96) (wC_14 (oC.new hCH8.1 hw76.2)) rfl (c_X10_spread_X (oC.new hCH8.1 hw76.2) (by omega) (mo.sw (mo.re (mo.st (mo.new hmB8 hw76.1) ⟨(by omega), (by omega), upv_eq _ _ _⟩) hkB hfB)) (mo.lw (mo.re (mo.st (mo.new hmB8 hw76.1) ⟨(by omega), (by omega), upv_eq _ _ _⟩) hkB hfB))) mlX11_142 selX10_X10_spread_X10_spread mX10_spread ⟨Nat.le_of_ble_eq_true rfl, Nat.le_of_ble_eq_true rfl⟩ rfl rfl (Nat.le_of_ble_eq_true rfl) dX11_rocks_96 ⟨(show q9 + 1 ≤ 8 by omega), (show q9 + 1 ≤ 8 by omega)⟩  (fun v9 V9 h9 => ?_)
                obtain ⟨T96, L96, N96, rfl, hSP96, rfl⟩ := h9
                refine G.eqst (k2 := q9 + 1) (n2 := q9 + 1) (st2 := []) rfl rfl rfl ?_
                have hQ96 := SP.k (pl := fun _ => 0) (mo.ok (mo.re (mo.st (mo.new hmB8 hw76.1) ⟨(by omega), (by omega), upv_eq _ _ _⟩) hkB hfB)) (by omega) hSP96
                refine gc_eq_lX (f' := nf (dT (updN kd c q9) (updN fg c f) a)) (oC.new hCH8.1 hw76.2) hQ96.1 ?_
                refine gc_eq_oX (f' := nf (dL (updN kd c q9) (updN fg c f) a)) (oC.new hCH8.1 hw76.2) hQ96.2.1 ?_
                refine gc_eq_nX (f' := dC (updN kd c q9) (updN fg c f) a) (oC.new hCH8.1 hw76.2) hQ96.2.2 ?_
                refine g_aload_n (q := 2) (pc := 99) dX11_rocks_99 rfl rfl ?_
                refine gc_get_O_ways (pc := 100) (oC.new hCH8.1 hw76.2) flX11_35 dX11_rocks_100 ?_
                refine gc_get_WX_least (pc := 103) (oC.new hCH8.1 hw76.2) flX11_118 dX11_rocks_103 ?_
                refine g_iload (q := 6) (pc := 106) dX11_rocks_106 rfl ?_
                refine gc_ld_lX (pc := 108) (j := b) (x := nI ((dT (updN kd c q9) (updN fg c f) a) b)) (oC.new hCH8.1 hw76.2) (by omega) rfl dX11_rocks_108 ?_
                refine g_iload (q := 7) (pc := 109) dX11_rocks_109 rfl ?_
                refine g_icmp_ne (tgt := 123) (pc := 111) dX11_rocks_111 (by decide) (fun c6 => ?_) (fun c6 => ?_)
                · -- T c6
                  refine g_iinc (q := 0) (lv' := [(7, .int (nI (q9 + 1))), (6, .int h9), (0, .ref (cd 0)), (1, .int (nI c)), (2, .int (nI f)), (3, .int (nI a)), (4, .int (nI b)), (5, .int t)]) (pc := 123) dX11_rocks_123 rfl (nI_inc _ _) (by decide) rfl ?_
                  refine g_goto (tgt := 58) (pc := 126) dX11_rocks_126 (by decide) ?_
                  refine G.locals (L' := [(7, .int (nI (q9 + 1))), (6, .int h9), (0, .ref (cd 0)), (1, .int (nI c)), (2, .int (nI f)), (3, .int (nI a)), (4, .int (nI b)), (5, .int t)]) [0, 1, 2, 3, 4, 5, 6, 7] rfl ?_
                  exact ih58 (q9 + 1) (upv V8 a76 (vO (cK q9) [.int (nI f)])) h9 (updN rB8 c a76) (updN kd c q9) (updN fg c f) (nf (sw (updN kd c q9) (updN fg c f))) (nf (dT (updN kd c q9) (updN fg c f) a)) (nf (dL (updN kd c q9) (updN fg c f) a)) (dC (updN kd c q9) (updN fg c f) a) (nf (lw (updN kd c q9) (updN fg c f))) (bf (fun _ => true)) (by omega) (by omega) (by first | exact rkS_t hr9 (by assumption) | exact rkS_f hr9 (by assumption)) (⟨(oC.new hCH8.1 hw76.2), (Ext.new hCH8.2.1 hw76.1), (Rk.new hCH8.2.2.1 hw76.1), (Rk.new hCH8.2.2.2.1 hw76.1), (mo.new hCH8.2.2.2.2.1 hw76.1), (mo.new hCH8.2.2.2.2.2.1 hw76.1), hCH8.2.2.2.2.2.2.1, hCH8.2.2.2.2.2.2.2.1, (Sh.new hCH8.2.2.2.2.2.2.2.2 hw76.1)⟩) (mo.re (mo.st (mo.new hmB8 hw76.1) ⟨(by omega), (by omega), upv_eq _ _ _⟩) hkB hfB) upd2 upd2
                · -- F c6
                  refine g_iload (q := 1) (pc := 114) dX11_rocks_114 rfl ?_
                  refine g_iconst (v := nI 1) (pc := 116) dX11_rocks_116 (by decide) ?_
                  refine g_iload (q := 0) (pc := 117) dX11_rocks_117 rfl ?_
                  refine g_ishl (pc := 119) dX11_rocks_119 ?_
                  refine g_ior (pc := 120) dX11_rocks_120 ?_
                  refine g_istore (lv' := [(6, .int (h9 ||| ((nI 1) <<< ((nI q9) &&& 31)))), (7, .int (nI q9)), (0, .ref (cd 0)), (1, .int (nI c)), (2, .int (nI f)), (3, .int (nI a)), (4, .int (nI b)), (5, .int t)]) (pc := 121) dX11_rocks_121 (by decide) rfl ?_
                  refine g_iinc (q := 1) (lv' := [(7, .int (nI (q9 + 1))), (6, .int (h9 ||| ((nI 1) <<< ((nI q9) &&& 31)))), (0, .ref (cd 0)), (1, .int (nI c)), (2, .int (nI f)), (3, .int (nI a)), (4, .int (nI b)), (5, .int t)]) (pc := 123) dX11_rocks_123 rfl (nI_inc _ _) (by decide) rfl ?_
                  refine g_goto (tgt := 58) (pc := 126) dX11_rocks_126 (by decide) ?_
                  refine G.locals (L' := [(7, .int (nI (q9 + 1))), (6, .int (h9 ||| ((nI 1) <<< ((nI q9) &&& 31)))), (0, .ref (cd 0)), (1, .int (nI c)), (2, .int (nI f)), (3, .int (nI a)), (4, .int (nI b)), (5, .int t)]) [0, 1, 2, 3, 4, 5, 6, 7] rfl ?_
                  exact ih58 (q9 + 1) (upv V8 a76 (vO (cK q9) [.int (nI f)])) (h9 ||| ((nI 1) <<< ((nI q9) &&& 31))) (updN rB8 c a76) (updN kd c q9) (updN fg c f) (nf (sw (updN kd c q9) (updN fg c f))) (nf (dT (updN kd c q9) (updN fg c f) a)) (nf (dL (updN kd c q9) (updN fg c f) a)) (dC (updN kd c q9) (updN fg c f) a) (nf (lw (updN kd c q9) (updN fg c f))) (bf (fun _ => true)) (by omega) (by omega) (by first | exact rkS_t hr9 (by assumption) | exact rkS_f hr9 (by assumption)) (⟨(oC.new hCH8.1 hw76.2), (Ext.new hCH8.2.1 hw76.1), (Rk.new hCH8.2.2.1 hw76.1), (Rk.new hCH8.2.2.2.1 hw76.1), (mo.new hCH8.2.2.2.2.1 hw76.1), (mo.new hCH8.2.2.2.2.2.1 hw76.1), hCH8.2.2.2.2.2.2.1, hCH8.2.2.2.2.2.2.2.1, (Sh.new hCH8.2.2.2.2.2.2.2.2 hw76.1)⟩) (mo.re (mo.st (mo.new hmB8 hw76.1) ⟨(by omega), (by omega), upv_eq _ _ _⟩) hkB hfB) upd2 upd2
          refine G.locals (L' := [(7, .int (nI 0)), (6, .int (nI 0)), (0, .ref (cd 0)), (1, .int (nI c)), (2, .int (nI f)), (3, .int (nI a)), (4, .int (nI b)), (5, .int t)]) [0, 1, 2, 3, 4, 5, 6, 7] rfl ?_
          exact lp58 9 0 V (nI 0) rA kd fg cX lX oX nX sX zX (by omega) (by decide) rfl (⟨hA, hE, hgA, hgB, hmA, hmC, hpl, hipl, hSh⟩) hmA (fun _ => rfl) (fun _ => rfl)
        · -- F c4
          refine g_iconst (v := (-1)) (pc := 39) dX11_rocks_39 (by decide) ?_
          exact g_iret (pc := 40) (by decide) (by decide) (gC hPo (by rw [spRocks, if_pos (by assumption), if_pos (by assumption), if_pos (by assumption), if_neg (by simp [*])]) (CI.mk ⟨hA, hE, hgA, hgB, hmA, hmC, hpl, hipl, hSh⟩)) dX11_rocks_40
    · -- F c2
      refine g_iconst (v := (-1)) (pc := 18) dX11_rocks_18 (by decide) ?_
      exact g_iret (pc := 19) (by decide) (by decide) (gC hPo (by rw [spRocks, if_pos (by assumption), if_neg (by simp [*])]) (CI.mk ⟨hA, hE, hgA, hgB, hmA, hmC, hpl, hipl, hSh⟩)) dX11_rocks_19
theorem d_X11_rocks {c f a b t : Int32} {V2 : HV} (hCI : CI Z b0 cd Vb ik kd fg pl hr ikd ifg ipl ihr kp so sz el ki kf V2)  : KM l D Z b0 yX11_rocks cX11_rocks 8 (some .int) rmX11_rocks [.ref (cd 0), .int c, .int f, .int a, .int b, .int t] V2 (fun v0 V' => v0 = some (.int (spRocks kd fg c f a b t)) ∧ CI Z b0 cd Vb ik kd fg pl hr ikd ifg ipl ihr kp so sz el ki kf V') := by
  obtain ⟨ugA, ugB, ugC, rA, rB, pB, tB, rC, cX, lX, oX, nX, sX, zX, cY, lY, oY, nY, sY, zY, tm, cl, KR, SO, SZ, EL, V, rfl, hA, hE, hgA, hgB, hmA, hmC, hpl, hipl, hSh⟩ := hCI
  exact c_X11_rocks hA hE hgA hgB hmA hmC hpl hipl hSh 
theorem tc_1 {el : Nat → Int32} {d i st : Nat} (hs : st = 1 ∨ st = 2) (hm : i % st = 0) (h : ∀ j, j < i → j % st = 0 → inR (el (100 * d + j)) 20 = true) (h1 : inR (el (100 * d + i)) 20 = true) : ∀ j, j < i + st → j % st = 0 → inR (el (100 * d + j)) 20 = true := fun j hj hjm => by
  by_cases q : j = i
  · subst q; exact h1
  · refine h j ?_ hjm
    rcases hs with rfl | rfl <;> omega
def rmX11_tellsCells : Room := { frames := 2, cells := 0, slots := 0, locals := 42 }
set_option maxHeartbeats 8000000 in
theorem c_X11_tellsCells_1 {d : Nat} (hA : oC b0 cd V) (hd : d < 8) (hze : SZ d = sz d) (hz1 : sz d ≤ 100) (hel : ∀ i, i < sz d → EL d i = el (100 * d + i)) : KE l D Z b0 yX11_tellsCells cX11_tellsCells 3 (some .boolean) rmX11_tellsCells [.ref (cd (30 + d)), .int (nI 1)] (wC Z cd ik ugA ugB ugC rA (nf pl) hr rB pB tB rC (nf ipl) ihr cX lX oX nX sX zX cY lY oY nY sY zY tm cl KR SO SZ EL V) (some (.int (bI (cellsB el d 1 (sz d))))) (wC Z cd ik ugA ugB ugC rA (nf pl) hr rB pB tB rC (nf ipl) ihr cX lX oX nX sX zX cY lY oY nY sY zY tm cl KR SO SZ EL V) := by
  refine KE.of (by decide) (Nat.le_of_ble_eq_true rfl) (fun Po hPo => ?_)
  refine G.locals (L' := [(0, .ref (cd (30 + d))), (1, .int (nI 1))]) [0, 1] rfl ?_
  refine g_iconst (v := nI 0) (pc := 0) dX11_tellsCells_0 (by decide) ?_
  refine g_istore_n (lv' := [(2, .int (nI 0)), (0, .ref (cd (30 + d))), (1, .int (nI 1))]) (pc := 1) dX11_tellsCells_1 rfl (by decide) rfl ?_
  have lp2 : ∀ (d2 : Nat) (i : Nat), sz d + 2 ≤ i + d2 → (i ≤ sz d + 1) → (i % 1 = 0) → (∀ j, j < i → j % 1 = 0 → inR (el (100 * d + j)) 20 = true) → G l D Z b0 rmX11_tellsCells RX11 cX11_tellsCells 3 (gE (some .boolean) "tellsCells") (gT D b0 Po rmX11_tellsCells.cells rmX11_tellsCells.slots) (wC Z cd ik ugA ugB ugC rA (nf pl) hr rB pB tB rC (nf ipl) ihr cX lX oX nX sX zX cY lY oY nY sY zY tm cl KR SO SZ EL V) [(2, .int (nI i)), (0, .ref (cd (30 + d))), (1, .int (nI 1))] 0 0 2 [] := by
    intro d2
    induction d2 with
    | zero =>
      intro i hd2 hiN him hic
      exact absurd hd2 (by omega)
    | succ d2 ih2 =>
      intro i hd2 hiN him hic
      refine g_iload_n (q := 0) (pc := 2) dX11_tellsCells_2 rfl rfl ?_
      refine g_aload_n (q := 1) (pc := 3) dX11_tellsCells_3 rfl rfl ?_
      refine gc_get_S_size (pc := 4) (d := d) hA (by omega) flX11_132 dX11_tellsCells_4 ?_
      refine g_top (x := nI (SZ d)) (y := nI (sz d)) (congrArg nI hze) ?_
      refine g_icmp_ge_N (tgt := 32) (pc := 7) (by omega) (by omega) dX11_tellsCells_7 (by decide) (fun c1 => ?_) (fun c1 => ?_)
      · -- T c1
        refine g_iconst (v := nI 1) (pc := 32) dX11_tellsCells_32 (by decide) ?_
        exact g_zret (pc := 33) (by decide) (by decide) (by decide) (eqI hPo (congrArg bI (cellsB_of (fun j hj hst => hic j (by omega) hst)))) dX11_tellsCells_33
      · -- F c1
        refine g_aload_n (q := 1) (pc := 10) dX11_tellsCells_10 rfl rfl ?_
        refine g_iload_n (q := 0) (pc := 11) dX11_tellsCells_11 rfl rfl ?_
        refine e_callV (k2 := 0) (n2 := 0) (As := [.int (nI i)]) (rest := []) (pc := 12) (wC_sh hA hd) rfl (c_X7_at_s (x := el (100 * d + i)) hA hd (by rw [hze]; omega) (by rw [hze]; exact hz1) (hel i (by omega))) mlX11_200 selX7_X7_at_X7_at mX7_at ⟨Nat.le_of_ble_eq_true rfl, Nat.le_of_ble_eq_true rfl⟩ rfl rfl (Nat.le_of_ble_eq_true rfl) dX11_tellsCells_12 (by decide) rfl rfl ?_
        refine g_bipush (v := nI 20) (pc := 15) dX11_tellsCells_15 (by decide) ?_
        refine e_callS (k2 := 0) (n2 := 0) (As := [.int (el (100 * d + i)), .int (nI 20)]) (rest := []) (pc := 17) (c_X11_isBelow (by decide)) mlX11_69 mX11_isBelow ⟨Nat.le_of_ble_eq_true rfl, Nat.le_of_ble_eq_true rfl⟩ rfl rfl (Nat.le_of_ble_eq_true rfl) dX11_tellsCells_17 (by decide) rfl rfl ?_
        refine g_if_ne_B (tgt := 25) (pc := 20) dX11_tellsCells_20 (by decide) (fun c2 => ?_) (fun c2 => ?_)
        · -- T c2
          refine g_iload_n (q := 0) (pc := 25) dX11_tellsCells_25 rfl rfl ?_
          refine g_iload_n (q := 2) (pc := 26) dX11_tellsCells_26 rfl rfl ?_
          refine g_iadd_N (pc := 27) dX11_tellsCells_27 ?_
          refine g_istore_n (lv' := [(2, .int (nI (i + 1))), (0, .ref (cd (30 + d))), (1, .int (nI 1))]) (pc := 28) dX11_tellsCells_28 rfl (by decide) rfl ?_
          refine g_goto (tgt := 2) (pc := 29) dX11_tellsCells_29 (by decide) ?_
          refine G.locals (L' := [(2, .int (nI (i + 1))), (0, .ref (cd (30 + d))), (1, .int (nI 1))]) [0, 1, 2] rfl ?_
          exact ih2 (i + 1) (by omega) (by omega) (by omega) (tc_1 (by decide) him hic (by assumption))
        · -- F c2
          refine g_iconst (v := nI 0) (pc := 23) dX11_tellsCells_23 (by decide) ?_
          exact g_zret (pc := 24) (by decide) (by decide) (by decide) (eqI hPo (congrArg bI (cellsB_f (n := sz d) (by omega) him (by assumption)))) dX11_tellsCells_24
  refine G.locals (L' := [(2, .int (nI 0)), (0, .ref (cd (30 + d))), (1, .int (nI 1))]) [0, 1, 2] rfl ?_
  exact lp2 (sz d + 2) 0 (by omega) (by omega) rfl (fun j hj => absurd hj (Nat.not_lt_zero _))
set_option maxHeartbeats 8000000 in
theorem c_X11_tellsCells_2 {d : Nat} (hA : oC b0 cd V) (hd : d < 8) (hze : SZ d = sz d) (hz1 : sz d ≤ 100) (hel : ∀ i, i < sz d → EL d i = el (100 * d + i)) : KE l D Z b0 yX11_tellsCells cX11_tellsCells 3 (some .boolean) rmX11_tellsCells [.ref (cd (30 + d)), .int (nI 2)] (wC Z cd ik ugA ugB ugC rA (nf pl) hr rB pB tB rC (nf ipl) ihr cX lX oX nX sX zX cY lY oY nY sY zY tm cl KR SO SZ EL V) (some (.int (bI (cellsB el d 2 (sz d))))) (wC Z cd ik ugA ugB ugC rA (nf pl) hr rB pB tB rC (nf ipl) ihr cX lX oX nX sX zX cY lY oY nY sY zY tm cl KR SO SZ EL V) := by
  refine KE.of (by decide) (Nat.le_of_ble_eq_true rfl) (fun Po hPo => ?_)
  refine G.locals (L' := [(0, .ref (cd (30 + d))), (1, .int (nI 2))]) [0, 1] rfl ?_
  refine g_iconst (v := nI 0) (pc := 0) dX11_tellsCells_0 (by decide) ?_
  refine g_istore_n (lv' := [(2, .int (nI 0)), (0, .ref (cd (30 + d))), (1, .int (nI 2))]) (pc := 1) dX11_tellsCells_1 rfl (by decide) rfl ?_
  have lp2 : ∀ (d2 : Nat) (i : Nat), sz d + 2 ≤ i + d2 → (i ≤ sz d + 1) → (i % 2 = 0) → (∀ j, j < i → j % 2 = 0 → inR (el (100 * d + j)) 20 = true) → G l D Z b0 rmX11_tellsCells RX11 cX11_tellsCells 3 (gE (some .boolean) "tellsCells") (gT D b0 Po rmX11_tellsCells.cells rmX11_tellsCells.slots) (wC Z cd ik ugA ugB ugC rA (nf pl) hr rB pB tB rC (nf ipl) ihr cX lX oX nX sX zX cY lY oY nY sY zY tm cl KR SO SZ EL V) [(2, .int (nI i)), (0, .ref (cd (30 + d))), (1, .int (nI 2))] 0 0 2 [] := by
    intro d2
    induction d2 with
    | zero =>
      intro i hd2 hiN him hic
      exact absurd hd2 (by omega)
    | succ d2 ih2 =>
      intro i hd2 hiN him hic
      refine g_iload_n (q := 0) (pc := 2) dX11_tellsCells_2 rfl rfl ?_
      refine g_aload_n (q := 1) (pc := 3) dX11_tellsCells_3 rfl rfl ?_
      refine gc_get_S_size (pc := 4) (d := d) hA (by omega) flX11_132 dX11_tellsCells_4 ?_
      refine g_top (x := nI (SZ d)) (y := nI (sz d)) (congrArg nI hze) ?_
      refine g_icmp_ge_N (tgt := 32) (pc := 7) (by omega) (by omega) dX11_tellsCells_7 (by decide) (fun c1 => ?_) (fun c1 => ?_)
      · -- T c1
        refine g_iconst (v := nI 1) (pc := 32) dX11_tellsCells_32 (by decide) ?_
        exact g_zret (pc := 33) (by decide) (by decide) (by decide) (eqI hPo (congrArg bI (cellsB_of (fun j hj hst => hic j (by omega) hst)))) dX11_tellsCells_33
      · -- F c1
        refine g_aload_n (q := 1) (pc := 10) dX11_tellsCells_10 rfl rfl ?_
        refine g_iload_n (q := 0) (pc := 11) dX11_tellsCells_11 rfl rfl ?_
        refine e_callV (k2 := 0) (n2 := 0) (As := [.int (nI i)]) (rest := []) (pc := 12) (wC_sh hA hd) rfl (c_X7_at_s (x := el (100 * d + i)) hA hd (by rw [hze]; omega) (by rw [hze]; exact hz1) (hel i (by omega))) mlX11_200 selX7_X7_at_X7_at mX7_at ⟨Nat.le_of_ble_eq_true rfl, Nat.le_of_ble_eq_true rfl⟩ rfl rfl (Nat.le_of_ble_eq_true rfl) dX11_tellsCells_12 (by decide) rfl rfl ?_
        refine g_bipush (v := nI 20) (pc := 15) dX11_tellsCells_15 (by decide) ?_
        refine e_callS (k2 := 0) (n2 := 0) (As := [.int (el (100 * d + i)), .int (nI 20)]) (rest := []) (pc := 17) (c_X11_isBelow (by decide)) mlX11_69 mX11_isBelow ⟨Nat.le_of_ble_eq_true rfl, Nat.le_of_ble_eq_true rfl⟩ rfl rfl (Nat.le_of_ble_eq_true rfl) dX11_tellsCells_17 (by decide) rfl rfl ?_
        refine g_if_ne_B (tgt := 25) (pc := 20) dX11_tellsCells_20 (by decide) (fun c2 => ?_) (fun c2 => ?_)
        · -- T c2
          refine g_iload_n (q := 0) (pc := 25) dX11_tellsCells_25 rfl rfl ?_
          refine g_iload_n (q := 2) (pc := 26) dX11_tellsCells_26 rfl rfl ?_
          refine g_iadd_N (pc := 27) dX11_tellsCells_27 ?_
          refine g_istore_n (lv' := [(2, .int (nI (i + 2))), (0, .ref (cd (30 + d))), (1, .int (nI 2))]) (pc := 28) dX11_tellsCells_28 rfl (by decide) rfl ?_
          refine g_goto (tgt := 2) (pc := 29) dX11_tellsCells_29 (by decide) ?_
          refine G.locals (L' := [(2, .int (nI (i + 2))), (0, .ref (cd (30 + d))), (1, .int (nI 2))]) [0, 1, 2] rfl ?_
          exact ih2 (i + 2) (by omega) (by omega) (by omega) (tc_1 (by decide) him hic (by assumption))
        · -- F c2
          refine g_iconst (v := nI 0) (pc := 23) dX11_tellsCells_23 (by decide) ?_
          exact g_zret (pc := 24) (by decide) (by decide) (by decide) (eqI hPo (congrArg bI (cellsB_f (n := sz d) (by omega) him (by assumption)))) dX11_tellsCells_24
  refine G.locals (L' := [(2, .int (nI 0)), (0, .ref (cd (30 + d))), (1, .int (nI 2))]) [0, 1, 2] rfl ?_
  exact lp2 (sz d + 2) 0 (by omega) (by omega) rfl (fun j hj => absurd hj (Nat.not_lt_zero _))
def rmX11_hourOfKnock : Room := { frames := 2, cells := 0, slots := 0, locals := 42 }
set_option maxHeartbeats 8000000 in
theorem c_X11_hourOfKnock {d i u : Nat} {T : Nat → Nat} (hA : oC b0 cd V) (hd : d < 8) (hze : SZ d = sz d) (hz1 : sz d ≤ 100) (hel : ∀ i, i < sz d → EL d i = el (100 * d + i)) (hT : ∀ v, v < 20 → T v ≤ 494) (hi1 : i + 1 < sz d) (hu20 : u < 20) (hu : el (100 * d + i) = nI u) : KE l D Z b0 yX11_hourOfKnock cX11_hourOfKnock 3 (some .long) rmX11_hourOfKnock [.ref (cd 0), .ref (cd (30 + d)), .int (nI i)] (wC Z cd ik ugA ugB ugC rA (nf pl) hr rB pB tB rC (nf ipl) ihr cX (nf T) oX nX sX zX cY lY oY nY sY zY tm cl KR SO SZ EL V) (some (.long (hk el d T i))) (wC Z cd ik ugA ugB ugC rA (nf pl) hr rB pB tB rC (nf ipl) ihr cX (nf T) oX nX sX zX cY lY oY nY sY zY tm cl KR SO SZ EL V) := by
  refine KE.of (by decide) (Nat.le_of_ble_eq_true rfl) (fun Po hPo => ?_)
  refine G.locals (L' := [(0, .ref (cd 0)), (1, .ref (cd (30 + d))), (2, .int (nI i))]) [0, 1, 2] rfl ?_
  refine g_aload_n (q := 1) (pc := 0) dX11_hourOfKnock_0 rfl rfl ?_
  refine g_iload_n (q := 2) (pc := 1) dX11_hourOfKnock_1 rfl rfl ?_
  refine g_iconst (v := nI 1) (pc := 2) dX11_hourOfKnock_2 (by decide) ?_
  refine g_iadd_N (pc := 3) dX11_hourOfKnock_3 ?_
  refine e_callV (k2 := 0) (n2 := 0) (As := [.int (nI (i + 1))]) (rest := []) (pc := 4) (wC_sh hA hd) rfl (c_X7_at_s (x := el (100 * d + (i + 1))) hA hd (by rw [hze]; omega) (by rw [hze]; exact hz1) (hel (i + 1) (by omega))) mlX11_200 selX7_X7_at_X7_at mX7_at ⟨Nat.le_of_ble_eq_true rfl, Nat.le_of_ble_eq_true rfl⟩ rfl rfl (Nat.le_of_ble_eq_true rfl) dX11_hourOfKnock_4 (by decide) rfl rfl ?_
  refine g_i2l (v := (el (100 * d + (i + 1))).toInt64) (pc := 7) dX11_hourOfKnock_7 rfl ?_
  refine g_aload_n (q := 0) (pc := 8) dX11_hourOfKnock_8 rfl rfl ?_
  refine gc_get_O_ways (pc := 9) hA flX11_35 dX11_hourOfKnock_9 ?_
  refine gc_get_WX_least (pc := 12) hA flX11_118 dX11_hourOfKnock_12 ?_
  refine g_aload_n (q := 1) (pc := 15) dX11_hourOfKnock_15 rfl rfl ?_
  refine g_iload_n (q := 2) (pc := 16) dX11_hourOfKnock_16 rfl rfl ?_
  refine e_callV (k2 := 0) (n2 := 0) (As := [.int (nI i)]) (rest := [.ref (cd 17), .long ((el (100 * d + (i + 1))).toInt64)]) (pc := 17) (wC_sh hA hd) rfl (c_X7_at_s (x := nI u) hA hd (by rw [hze]; omega) (by rw [hze]; exact hz1) ((hel i (by omega)).trans hu)) mlX11_200 selX7_X7_at_X7_at mX7_at ⟨Nat.le_of_ble_eq_true rfl, Nat.le_of_ble_eq_true rfl⟩ rfl rfl (Nat.le_of_ble_eq_true rfl) dX11_hourOfKnock_17 (by decide) rfl rfl ?_
  refine gc_ld_lX (pc := 20) (j := u) (x := nI (T u)) hA (by omega) rfl dX11_hourOfKnock_20 ?_
  refine g_i2l (v := lN (T u)) (pc := 21) dX11_hourOfKnock_21 (nI_l (by have := hT u hu20; omega)) ?_
  refine g_lsub (pc := 22) dX11_hourOfKnock_22 ?_
  exact g_lret (pc := 23) (by decide) (by decide) (by rw [hk_e (u := u) (by rw [hu, dN_N (by omega)])] at hPo; exact hPo) dX11_hourOfKnock_23
def rmX11_mayHaveKnocked : Room := { frames := 3, cells := 0, slots := 0, locals := 64 }
set_option maxHeartbeats 8000000 in
theorem c_X11_mayHaveKnocked {d : Nat} {T : Nat → Nat} (hA : oC b0 cd V) (hd : d < 8) (hze : SZ d = sz d) (hz1 : sz d ≤ 100) (hel : ∀ i, i < sz d → EL d i = el (100 * d + i)) (hT : ∀ v, v < 20 → T v ≤ 494) (hev : sz d % 2 = 0) (hcl : cellsAt el d 2 (sz d)) : KE l D Z b0 yX11_mayHaveKnocked cX11_mayHaveKnocked 3 (some .boolean) rmX11_mayHaveKnocked [.ref (cd 0), .ref (cd (30 + d))] (wC Z cd ik ugA ugB ugC rA (nf pl) hr rB pB tB rC (nf ipl) ihr cX (nf T) oX nX sX zX cY lY oY nY sY zY tm cl KR SO SZ EL V) (some (.int (bI (frB el d T (sz d / 2 - 1))))) (wC Z cd ik ugA ugB ugC rA (nf pl) hr rB pB tB rC (nf ipl) ihr cX (nf T) oX nX sX zX cY lY oY nY sY zY tm cl KR SO SZ EL V) := by
  refine KE.of (by decide) (Nat.le_of_ble_eq_true rfl) (fun Po hPo => ?_)
  refine G.locals (L' := [(0, .ref (cd 0)), (1, .ref (cd (30 + d)))]) [0, 1] rfl ?_
  refine g_iconst (v := nI 2) (pc := 0) dX11_mayHaveKnocked_0 (by decide) ?_
  refine g_istore_n (lv' := [(2, .int (nI 2)), (0, .ref (cd 0)), (1, .ref (cd (30 + d)))]) (pc := 1) dX11_mayHaveKnocked_1 rfl (by decide) rfl ?_
  have lp2 : ∀ (d2 : Nat) (i : Nat) (j : Nat), sz d + 3 ≤ i + d2 → (i = 2 * (j + 1)) → (i ≤ sz d + 2) → (j ≤ sz d / 2 - 1) → (frB el d T j = true) → G l D Z b0 rmX11_mayHaveKnocked RX11 cX11_mayHaveKnocked 3 (gE (some .boolean) "mayHaveKnocked") (gT D b0 Po rmX11_mayHaveKnocked.cells rmX11_mayHaveKnocked.slots) (wC Z cd ik ugA ugB ugC rA (nf pl) hr rB pB tB rC (nf ipl) ihr cX (nf T) oX nX sX zX cY lY oY nY sY zY tm cl KR SO SZ EL V) [(2, .int (nI i)), (0, .ref (cd 0)), (1, .ref (cd (30 + d)))] 0 0 2 [] := by
    intro d2
    induction d2 with
    | zero =>
      intro i j hd2 hij hiN hjn hfb
      exact absurd hd2 (by omega)
    | succ d2 ih2 =>
      intro i j hd2 hij hiN hjn hfb
      refine g_iload_n (q := 0) (pc := 2) dX11_mayHaveKnocked_2 rfl rfl ?_
      refine g_iconst (v := nI 1) (pc := 3) dX11_mayHaveKnocked_3 (by decide) ?_
      refine g_iadd_N (pc := 4) dX11_mayHaveKnocked_4 ?_
      refine g_aload_n (q := 2) (pc := 5) dX11_mayHaveKnocked_5 rfl rfl ?_
      refine gc_get_S_size (pc := 6) (d := d) hA (by omega) flX11_132 dX11_mayHaveKnocked_6 ?_
      refine g_top (x := nI (SZ d)) (y := nI (sz d)) (congrArg nI hze) ?_
      refine g_icmp_ge_N (tgt := 36) (pc := 9) (by omega) (by omega) dX11_mayHaveKnocked_9 (by decide) (fun c1 => ?_) (fun c1 => ?_)
      · -- T c1
        refine g_iconst (v := nI 1) (pc := 36) dX11_mayHaveKnocked_36 (by decide) ?_
        exact g_zret (pc := 37) (by decide) (by decide) (by decide) (eqI hPo (congrArg bI (show frB el d T (sz d / 2 - 1) = true by rw [show sz d / 2 - 1 = j by omega]; exact hfb))) dX11_mayHaveKnocked_37
      · -- F c1
        refine g_aload_n (q := 1) (pc := 12) dX11_mayHaveKnocked_12 rfl rfl ?_
        refine g_aload_n (q := 2) (pc := 13) dX11_mayHaveKnocked_13 rfl rfl ?_
        refine g_iload_n (q := 0) (pc := 14) dX11_mayHaveKnocked_14 rfl rfl ?_
        obtain ⟨u15, hu15, hu15e, -⟩ := cellsAt_get hcl (i := i) (by omega) (by omega)
        refine e_callV (k2 := 0) (n2 := 0) (As := [.ref (cd (30 + d)), .int (nI i)]) (rest := []) (pc := 15) (wC_0 hA) rfl (c_X11_hourOfKnock hA hd hze hz1 hel hT (by omega) hu15 hu15e) mlX11_299 selX11_X11_hourOfKnock_X11_hourOfKnock mX11_hourOfKnock ⟨Nat.le_of_ble_eq_true rfl, Nat.le_of_ble_eq_true rfl⟩ rfl rfl (Nat.le_of_ble_eq_true rfl) dX11_mayHaveKnocked_15 (by decide) rfl rfl ?_
        refine g_aload_n (q := 1) (pc := 18) dX11_mayHaveKnocked_18 rfl rfl ?_
        refine g_aload_n (q := 2) (pc := 19) dX11_mayHaveKnocked_19 rfl rfl ?_
        refine g_iconst (v := nI 0) (pc := 20) dX11_mayHaveKnocked_20 (by decide) ?_
        obtain ⟨u21, hu21, hu21e, -⟩ := cellsAt_get hcl (i := 0) (by omega) (by omega)
        refine e_callV (k2 := 0) (n2 := 0) (As := [.ref (cd (30 + d)), .int (nI 0)]) (rest := [.long (hk el d T i)]) (pc := 21) (wC_0 hA) rfl (c_X11_hourOfKnock hA hd hze hz1 hel hT (by omega) hu21 hu21e) mlX11_299 selX11_X11_hourOfKnock_X11_hourOfKnock mX11_hourOfKnock ⟨Nat.le_of_ble_eq_true rfl, Nat.le_of_ble_eq_true rfl⟩ rfl rfl (Nat.le_of_ble_eq_true rfl) dX11_mayHaveKnocked_21 (by decide) rfl rfl ?_
        refine g_lcmp (pc := 24) dX11_mayHaveKnocked_24 ?_
        refine g_if_eq (tgt := 30) (pc := 25) dX11_mayHaveKnocked_25 (by decide) (fun c2 => ?_) (fun c2 => ?_)
        · -- T c2
          refine g_iinc (q := 0) (lv' := [(2, .int (nI (i + 2))), (0, .ref (cd 0)), (1, .ref (cd (30 + d)))]) (pc := 30) dX11_mayHaveKnocked_30 rfl (nI_inc _ _) (by decide) rfl ?_
          refine g_goto (tgt := 2) (pc := 33) dX11_mayHaveKnocked_33 (by decide) ?_
          refine G.locals (L' := [(2, .int (nI (i + 2))), (0, .ref (cd 0)), (1, .ref (cd (30 + d)))]) [0, 1, 2] rfl ?_
          exact ih2 (i + 2) (j + 1) (by omega) (by omega) (by omega) (by omega) (frB_s hfb (by rw [← hij]; exact lg_eq0.mp (by assumption)))
        · -- F c2
          refine g_iconst (v := nI 0) (pc := 28) dX11_mayHaveKnocked_28 (by decide) ?_
          exact g_zret (pc := 29) (by decide) (by decide) (by decide) (eqI hPo (congrArg bI (frB_f (j := j) (by rw [← hij]; exact fun q => (by assumption : ¬ lg_cmp _ _ = 0) (lg_eq0.mpr q)) _ (by omega)))) dX11_mayHaveKnocked_29
  refine G.locals (L' := [(2, .int (nI 2)), (0, .ref (cd 0)), (1, .ref (cd (30 + d)))]) [0, 1, 2] rfl ?_
  exact lp2 (sz d + 3) 2 0 (by omega) rfl (by omega) (by omega) rfl
end MS
