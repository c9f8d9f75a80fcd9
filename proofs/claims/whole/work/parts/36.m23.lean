section MS
variable {l : Launch} {D : va_G} {Z : Nat → ClassId} {b0 : Nat} {cd : Nat → Nat} {ik : Int32} {ugA ugB ugC : Nat} {rA : Nat → Nat} {pA tA : Nat → Int32} {rB : Nat → Nat} {pB tB : Nat → Int32} {rC : Nat → Nat} {pC tC cX lX oX nX sX zX cY lY oY nY sY zY tm cl : Nat → Int32} {KR : Nat → Option Nat} {SO : Nat → Int32} {SZ : Nat → Nat} {EL : Nat → Nat → Int32} {V : HV} {kA fA kB fB kC fC9 : Nat → Nat}
def rmX10_spread : Room := { frames := 2, cells := 0, slots := 0, locals := 45 }
set_option maxHeartbeats 8000000 in
theorem c_X10_spread_X {a : Nat} {w1 w2 : Nat → Nat} (hA : oC b0 cd V) (ha : a < 20) (hw : ∀ c, c < 20 → w1 c ≤ 30) (hw2 : ∀ c, c < 20 → w2 c ≤ 14) : KM l D Z b0 yX10_spread cX10_spread 5 none rmX10_spread [.ref (cd 14), .int (nI a)] (wC Z cd ik ugA ugB ugC rA pA tA rB pB tB rC pC tC (nf w1) lX oX nX (nf w2) zX cY lY oY nY sY zY tm cl KR SO SZ EL V) (fun v V' => ∃ (T L : Nat → Nat) (N : Nat → Int32), v = none ∧ SP w1 w2 a T L N ∧ V' = wC Z cd ik ugA ugB ugC rA pA tA rB pB tB rC pC tC (nf w1) (nf T) (nf L) N (nf w2) (bf (fun _ => true)) cY lY oY nY sY zY tm cl KR SO SZ EL V) := by
  refine KM.ofP (by decide) (Nat.le_of_ble_eq_true rfl) (fun Po hPo => ?_)
  refine G.locals (L' := [(0, .ref (cd 14)), (1, .int (nI a))]) [0, 1] rfl ?_
  refine g_iconst (v := nI 0) (pc := 0) dX10_spread_0 (by decide) ?_
  refine g_istore_n (lv' := [(2, .int (nI 0)), (0, .ref (cd 14)), (1, .int (nI a))]) (pc := 1) dX10_spread_1 rfl (by decide) rfl ?_
  have lp2 : ∀ (d2 : Nat) (i : Nat) (tt : Nat → Int32) (zz : Nat → Int32), i + d2 = 21 → (i ≤ 20) → (∀ j, j < i → tt j = (nf (fun _ => 1000000)) j) → (∀ j, j < i → zz j = (bf (fun _ => false)) j) → G l D Z b0 rmX10_spread RX10 cX10_spread 5 (gE none "spread") (gT D b0 Po rmX10_spread.cells rmX10_spread.slots) (wC Z cd ik ugA ugB ugC rA pA tA rB pB tB rC pC tC (nf w1) tt oX nX (nf w2) zz cY lY oY nY sY zY tm cl KR SO SZ EL V) [(2, .int (nI i)), (0, .ref (cd 14)), (1, .int (nI a))] 0 0 2 [] := by
    intro d2
    induction d2 with
    | zero =>
      intro i tt zz hd2 hiN het hez
      exact absurd hd2 (by omega)
    | succ d2 ih2 =>
      intro i tt zz hd2 hiN het hez
      refine g_iload_n (q := 0) (pc := 2) dX10_spread_2 rfl rfl ?_
      refine g_bipush (v := nI 20) (pc := 3) dX10_spread_3 (by decide) ?_
      refine g_icmp_ge_N (tgt := 29) (pc := 5) (by omega) (by omega) dX10_spread_5 (by decide) (fun c1 => ?_) (fun c1 => ?_)
      · -- T c1
        refine gc_eq_lX (f' := nf (fun _ => 1000000)) hA (fun j hj => het j (by omega)) ?_
        refine gc_eq_zX (f' := bf (fun _ => false)) hA (fun j hj => hez j (by omega)) ?_
        refine g_aload_n (q := 1) (pc := 29) dX10_spread_29 rfl rfl ?_
        refine gc_get_WX_least (pc := 30) hA flX10_15 dX10_spread_30 ?_
        refine g_iload_n (q := 2) (pc := 33) dX10_spread_33 rfl rfl ?_
        refine g_iconst (v := nI 0) (pc := 34) dX10_spread_34 (by decide) ?_
        refine gc_st_lX (pc := 35) (j := a) (f' := (nf (updN (fun _ => 1000000) a 0))) hA (by omega) (upd_nf _ _ _) dX10_spread_35 ?_
        refine g_aload_n (q := 1) (pc := 36) dX10_spread_36 rfl rfl ?_
        refine gc_get_WX_lost (pc := 37) hA flX10_18 dX10_spread_37 ?_
        refine g_iload_n (q := 2) (pc := 40) dX10_spread_40 rfl rfl ?_
        refine g_iconst (v := nI 0) (pc := 41) dX10_spread_41 (by decide) ?_
        refine gc_st_oX (pc := 42) (j := a) (f' := (upd oX a (nI 0))) hA (by omega) rfl dX10_spread_42 ?_
        refine g_aload_n (q := 1) (pc := 43) dX10_spread_43 rfl rfl ?_
        refine gc_get_WX_number (pc := 44) hA flX10_21 dX10_spread_44 ?_
        refine g_iload_n (q := 2) (pc := 47) dX10_spread_47 rfl rfl ?_
        refine g_iconst (v := nI 1) (pc := 48) dX10_spread_48 (by decide) ?_
        refine gc_st_nX (pc := 49) (j := a) (f' := (upd nX a (nI 1))) hA (by omega) rfl dX10_spread_49 ?_
        refine g_iconst (v := nI 0) (pc := 50) dX10_spread_50 (by decide) ?_
        refine g_istore_n (lv' := [(2, .int (nI 0)), (0, .ref (cd 14)), (1, .int (nI a))]) (pc := 51) dX10_spread_51 rfl (by decide) rfl ?_
        have lp52 : ∀ (d52 : Nat) (k : Nat) (S : Nat → Bool) (T : Nat → Nat) (L : Nat → Nat) (rk : Nat → Nat) (o : Nat → Int32) (N : Nat → Int32), k + d52 = 21 → (k ≤ 20) → (OU w1 w2 a k S T L rk o N) → G l D Z b0 rmX10_spread RX10 cX10_spread 5 (gE none "spread") (gT D b0 Po rmX10_spread.cells rmX10_spread.slots) (wC Z cd ik ugA ugB ugC rA pA tA rB pB tB rC pC tC (nf w1) (nf T) o N (nf w2) (bf S) cY lY oY nY sY zY tm cl KR SO SZ EL V) [(2, .int (nI k)), (0, .ref (cd 14)), (1, .int (nI a))] 0 0 52 [] := by
          intro d52
          induction d52 with
          | zero =>
            intro k S T L rk o N hd52 hk20 hOU
            exact absurd hd52 (by omega)
          | succ d52 ih52 =>
            intro k S T L rk o N hd52 hk20 hOU
            refine g_iload_n (q := 0) (pc := 52) dX10_spread_52 rfl rfl ?_
            refine g_bipush (v := nI 20) (pc := 53) dX10_spread_53 (by decide) ?_
            refine g_icmp_ge_N (tgt := 102) (pc := 55) (by omega) (by omega) dX10_spread_55 (by decide) (fun c2 => ?_) (fun c2 => ?_)
            · -- T c2
              have hfin := OU.fin hOU (by omega) hk20 ha
              refine gc_eq_oX (f' := nf L) hA hfin.2.2 ?_
              refine gc_eq_zX (f' := bf (fun _ => true)) hA (fun j hj => by show bI (S j) = bI true; rw [hfin.2.1 j hj]) ?_
              exact g_vret (pc := 102) (by decide) (by decide) (hPo _ _ ⟨T, L, N, rfl, hfin.1, rfl⟩) dX10_spread_102
            · -- F c2
              refine g_aload_n (q := 1) (pc := 58) dX10_spread_58 rfl rfl ?_
              refine g_callV (As := []) (rest := []) (pc := 59) (wC_14 hA) rfl (c_X10_nearest_X hA (OU.b hOU hk20) (OU.ex hOU (by omega))) mlX10_49 selX10_X10_nearest_X10_nearest mX10_nearest ⟨Nat.le_of_ble_eq_true rfl, Nat.le_of_ble_eq_true rfl⟩ rfl rfl (Nat.le_of_ble_eq_true rfl) dX10_spread_59 (by decide)  (fun v9 V9 h9 => ?_)
              obtain ⟨c, rfl, rfl, hc, hSc, hmin⟩ := h9
              refine G.eqst (k2 := 0) (n2 := 0) (st2 := [.int (nI c)]) rfl rfl rfl ?_
              refine g_istore_n (lv' := [(3, .int (nI c)), (2, .int (nI k)), (0, .ref (cd 14)), (1, .int (nI a))]) (pc := 62) dX10_spread_62 rfl (by decide) rfl ?_
              refine g_aload_n (q := 2) (pc := 63) dX10_spread_63 rfl rfl ?_
              refine gc_get_WX_isSettled (pc := 64) hA flX10_27 dX10_spread_64 ?_
              refine g_iload_n (q := 0) (pc := 67) dX10_spread_67 rfl rfl ?_
              refine g_iconst (v := nI 1) (pc := 68) dX10_spread_68 (by decide) ?_
              refine gc_st_zX (pc := 69) (j := c) (f' := (bf (updB S c))) hA (by omega) (by decide) upd_bf dX10_spread_69 ?_
              refine g_iconst (v := nI 0) (pc := 70) dX10_spread_70 (by decide) ?_
              refine g_istore (lv' := [(4, .int (nI 0)), (3, .int (nI c)), (2, .int (nI k)), (0, .ref (cd 14)), (1, .int (nI a))]) (pc := 71) dX10_spread_71 (by decide) rfl ?_
              have lp73 : ∀ (d73 : Nat) (s1 : Nat) (T3 : Nat → Nat) (L3 : Nat → Nat) (o3 : Nat → Int32) (N3 : Nat → Int32), s1 + d73 = 5 → (s1 ≤ 4) → (IN w1 w2 a k c s1 S T3 L3 rk o3 N3) → G l D Z b0 rmX10_spread RX10 cX10_spread 5 (gE none "spread") (gT D b0 Po rmX10_spread.cells rmX10_spread.slots) (wC Z cd ik ugA ugB ugC rA pA tA rB pB tB rC pC tC (nf w1) (nf T3) o3 N3 (nf w2) (bf (updB S c)) cY lY oY nY sY zY tm cl KR SO SZ EL V) [(4, .int (nI s1)), (3, .int (nI c)), (2, .int (nI k)), (0, .ref (cd 14)), (1, .int (nI a))] 0 0 73 [] := by
                intro d73
                induction d73 with
                | zero =>
                  intro s1 T3 L3 o3 N3 hd73 hs5 hIN
                  exact absurd hd73 (by omega)
                | succ d73 ih73 =>
                  intro s1 T3 L3 o3 N3 hd73 hs5 hIN
                  refine g_iload (q := 0) (pc := 73) dX10_spread_73 rfl ?_
                  refine g_iconst (v := nI 4) (pc := 75) dX10_spread_75 (by decide) ?_
                  refine g_icmp_ge_N (tgt := 96) (pc := 76) (by omega) (by omega) dX10_spread_76 (by decide) (fun c3 => ?_) (fun c3 => ?_)
                  · -- T c3
                    refine g_iinc (q := 2) (lv' := [(2, .int (nI (k + 1))), (4, .int (nI s1)), (3, .int (nI c)), (0, .ref (cd 14)), (1, .int (nI a))]) (pc := 96) dX10_spread_96 rfl (nI_inc _ _) (by decide) rfl ?_
                    refine g_goto (tgt := 52) (pc := 99) dX10_spread_99 (by decide) ?_
                    refine G.locals (L' := [(2, .int (nI (k + 1))), (0, .ref (cd 14)), (1, .int (nI a))]) [0, 3, 4] rfl ?_
                    exact ih52 (k + 1) (updB S c) T3 L3 (updN rk c k) o3 N3 (by omega) (by omega) (IN.out hIN (by omega))
                  · -- F c3
                    refine g_aload_n (q := 3) (pc := 79) dX10_spread_79 rfl rfl ?_
                    refine g_iload_n (q := 1) (pc := 80) dX10_spread_80 rfl rfl ?_
                    refine g_iload (q := 0) (pc := 81) dX10_spread_81 rfl ?_
                    rcases hn83 : nbo c s1 with _ | t83
                    · -- alt
                      refine e_callSN (k2 := 0) (n2 := 0) (As := [.int (nI c), .int (nI s1)]) (rest := [.ref (cd 14)]) (pc := 83) (host := RX11) (c_X11_neighbour_n (t := 0) (by omega) (by omega) hn83) (fun _ h => h.2.2.2.2.1) mX11_neighbour ⟨Nat.le_of_ble_eq_true rfl, Nat.le_of_ble_eq_true rfl⟩ rfl rfl (Nat.le_of_ble_eq_true rfl) dX10_spread_83 (by decide) rfl rfl ?_
                      refine g_iload_n (q := 1) (pc := 86) dX10_spread_86 rfl rfl ?_
                      refine e_callVv (k2 := 0) (n2 := 0) (As := [.int (-1), .int (nI c)]) (rest := []) (pc := 87) (wC_14 hA) rfl (c_X10_enter_X_n (L := L3) hA) mlX10_56 selX10_X10_enter_X10_enter mX10_enter ⟨Nat.le_of_ble_eq_true rfl, Nat.le_of_ble_eq_true rfl⟩ rfl rfl (Nat.le_of_ble_eq_true rfl) dX10_spread_87 (by decide) rfl rfl ?_
                      refine g_iinc (q := 0) (lv' := [(4, .int (nI (s1 + 1))), (3, .int (nI c)), (2, .int (nI k)), (0, .ref (cd 14)), (1, .int (nI a))]) (pc := 90) dX10_spread_90 rfl (nI_inc _ _) (by decide) rfl ?_
                      refine g_goto (tgt := 73) (pc := 93) dX10_spread_93 (by decide) ?_
                      refine G.locals (L' := [(4, .int (nI (s1 + 1))), (3, .int (nI c)), (2, .int (nI k)), (0, .ref (cd 14)), (1, .int (nI a))]) [0, 1, 2, 3, 4] rfl ?_
                      exact ih73 (s1 + 1) T3 L3 o3 N3 (by omega) (by omega) (IN.none hIN hc (by omega) hn83)
                    · -- alt
                      have t83l := nbo_lt (c := c) (by omega) hn83
                      refine e_callSN (k2 := 0) (n2 := 0) (As := [.int (nI c), .int (nI s1)]) (rest := [.ref (cd 14)]) (pc := 83) (host := RX11) (c_X11_neighbour_s (by omega) (by omega) hn83) (fun _ h => h.2.2.2.2.1) mX11_neighbour ⟨Nat.le_of_ble_eq_true rfl, Nat.le_of_ble_eq_true rfl⟩ rfl rfl (Nat.le_of_ble_eq_true rfl) dX10_spread_83 (by decide) rfl rfl ?_
                      refine g_iload_n (q := 1) (pc := 86) dX10_spread_86 rfl rfl ?_
                      rcases IN.cases (T := T3) (S := updB S c) (w1 := w1) c t83 with he | he | he | he
                      · -- alt
                        refine e_callVv (k2 := 0) (n2 := 0) (As := [.int (nI t83), .int (nI c)]) (rest := []) (pc := 87) (wC_14 hA) rfl (c_X10_enter_X_0 (L := L3) hA t83l hc he) mlX10_56 selX10_X10_enter_X10_enter mX10_enter ⟨Nat.le_of_ble_eq_true rfl, Nat.le_of_ble_eq_true rfl⟩ rfl rfl (Nat.le_of_ble_eq_true rfl) dX10_spread_87 (by decide) rfl rfl ?_
                        refine g_iinc (q := 0) (lv' := [(4, .int (nI (s1 + 1))), (3, .int (nI c)), (2, .int (nI k)), (0, .ref (cd 14)), (1, .int (nI a))]) (pc := 90) dX10_spread_90 rfl (nI_inc _ _) (by decide) rfl ?_
                        refine g_goto (tgt := 73) (pc := 93) dX10_spread_93 (by decide) ?_
                        refine G.locals (L' := [(4, .int (nI (s1 + 1))), (3, .int (nI c)), (2, .int (nI k)), (0, .ref (cd 14)), (1, .int (nI a))]) [0, 1, 2, 3, 4] rfl ?_
                        exact ih73 (s1 + 1) T3 L3 o3 N3 (by omega) (by omega) (IN.set hIN hc (by omega) hn83 he)
                      · -- alt
                        have hTv9 : T3 t83 ≤ 1000000 := by rcases hIN.1.2.1 t83 t83l with q | q <;> omega
                        have hTc9 := hIN.2.2.2.1
                        have hLc9 := hIN.2.2.2.2.2
                        have hoc9 := hIN.2.2.1 c hc (by omega)
                        refine e_callVv (k2 := 0) (n2 := 0) (As := [.int (nI t83), .int (nI c)]) (rest := []) (pc := 87) (wC_14 hA) rfl (c_X10_enter_X_1 (L := L3) hA t83l hc he.1 (by omega) (hw t83 t83l) hTv9 (by omega) (hw2 t83 t83l) hoc9 he.2) mlX10_56 selX10_X10_enter_X10_enter mX10_enter ⟨Nat.le_of_ble_eq_true rfl, Nat.le_of_ble_eq_true rfl⟩ rfl rfl (Nat.le_of_ble_eq_true rfl) dX10_spread_87 (by decide) rfl rfl ?_
                        refine g_iinc (q := 0) (lv' := [(4, .int (nI (s1 + 1))), (3, .int (nI c)), (2, .int (nI k)), (0, .ref (cd 14)), (1, .int (nI a))]) (pc := 90) dX10_spread_90 rfl (nI_inc _ _) (by decide) rfl ?_
                        refine g_goto (tgt := 73) (pc := 93) dX10_spread_93 (by decide) ?_
                        refine G.locals (L' := [(4, .int (nI (s1 + 1))), (3, .int (nI c)), (2, .int (nI k)), (0, .ref (cd 14)), (1, .int (nI a))]) [0, 1, 2, 3, 4] rfl ?_
                        exact ih73 (s1 + 1) (updN T3 t83 (T3 c + w1 t83)) (updN L3 t83 (L3 c + w2 t83)) (upd o3 t83 (nI (L3 c + w2 t83))) (upd N3 t83 (N3 c)) (by omega) (by omega) (IN.less hIN hw hw2 (by omega) hc (by omega) hn83 he.1 he.2)
                      · -- alt
                        have hTv9 : T3 t83 ≤ 1000000 := by rcases hIN.1.2.1 t83 t83l with q | q <;> omega
                        have hTc9 := hIN.2.2.2.1
                        have hLc9 := hIN.2.2.2.2.2
                        have hoc9 := hIN.2.2.1 c hc (by omega)
                        have hLv9 := hIN.2.1.2.2.1 t83 t83l (by have := hw t83 t83l; omega)
                        have hov9 := hIN.2.2.1 t83 t83l (by have := hw t83 t83l; omega)
                        refine e_callVv (k2 := 0) (n2 := 0) (As := [.int (nI t83), .int (nI c)]) (rest := []) (pc := 87) (wC_14 hA) rfl (c_X10_enter_X_2 (L := L3) hA t83l hc he.1 (by omega) (hw t83 t83l) hTv9 (by omega) (hw2 t83 t83l) hoc9 (by omega) hov9 he.2) mlX10_56 selX10_X10_enter_X10_enter mX10_enter ⟨Nat.le_of_ble_eq_true rfl, Nat.le_of_ble_eq_true rfl⟩ rfl rfl (Nat.le_of_ble_eq_true rfl) dX10_spread_87 (by decide) rfl rfl ?_
                        refine g_iinc (q := 0) (lv' := [(4, .int (nI (s1 + 1))), (3, .int (nI c)), (2, .int (nI k)), (0, .ref (cd 14)), (1, .int (nI a))]) (pc := 90) dX10_spread_90 rfl (nI_inc _ _) (by decide) rfl ?_
                        refine g_goto (tgt := 73) (pc := 93) dX10_spread_93 (by decide) ?_
                        refine G.locals (L' := [(4, .int (nI (s1 + 1))), (3, .int (nI c)), (2, .int (nI k)), (0, .ref (cd 14)), (1, .int (nI a))]) [0, 1, 2, 3, 4] rfl ?_
                        exact ih73 (s1 + 1) T3 (updN L3 t83 (if L3 c + w2 t83 < L3 t83 then L3 c + w2 t83 else L3 t83)) (upd o3 t83 (nI (if L3 c + w2 t83 < L3 t83 then L3 c + w2 t83 else L3 t83))) (upd N3 t83 (N3 t83 + N3 c)) (by omega) (by omega) (IN.same hIN hw hw2 (by omega) hc (by omega) hn83 he.1 he.2)
                      · -- alt
                        have hTv9 : T3 t83 ≤ 1000000 := by rcases hIN.1.2.1 t83 t83l with q | q <;> omega
                        have hTc9 := hIN.2.2.2.1
                        have hLc9 := hIN.2.2.2.2.2
                        have hoc9 := hIN.2.2.1 c hc (by omega)
                        refine e_callVv (k2 := 0) (n2 := 0) (As := [.int (nI t83), .int (nI c)]) (rest := []) (pc := 87) (wC_14 hA) rfl (c_X10_enter_X_3 (L := L3) hA t83l hc he.1 (by omega) (hw t83 t83l) hTv9 (by omega) (hw2 t83 t83l) hoc9 he.2) mlX10_56 selX10_X10_enter_X10_enter mX10_enter ⟨Nat.le_of_ble_eq_true rfl, Nat.le_of_ble_eq_true rfl⟩ rfl rfl (Nat.le_of_ble_eq_true rfl) dX10_spread_87 (by decide) rfl rfl ?_
                        refine g_iinc (q := 0) (lv' := [(4, .int (nI (s1 + 1))), (3, .int (nI c)), (2, .int (nI k)), (0, .ref (cd 14)), (1, .int (nI a))]) (pc := 90) dX10_spread_90 rfl (nI_inc _ _) (by decide) rfl ?_
                        refine g_goto (tgt := 73) (pc := 93) dX10_spread_93 (by decide) ?_
                        refine G.locals (L' := [(4, .int (nI (s1 + 1))), (3, .int (nI c)), (2, .int (nI k)), (0, .ref (cd 14)), (1, .int (nI a))]) [0, 1, 2, 3, 4] rfl ?_
                        exact ih73 (s1 + 1) T3 L3 o3 N3 (by omega) (by omega) (IN.more hIN hc (by omega) hn83 he.2)
              refine G.locals (L' := [(4, .int (nI 0)), (3, .int (nI c)), (2, .int (nI k)), (0, .ref (cd 14)), (1, .int (nI a))]) [0, 1, 2, 3, 4] rfl ?_
              exact lp73 5 0 T L o N (by omega) (by decide) (OU.into hOU hw ha (by omega) hc hSc hmin)
        refine G.locals (L' := [(2, .int (nI 0)), (0, .ref (cd 14)), (1, .int (nI a))]) [0, 1, 2] rfl ?_
        exact lp52 21 0 (fun _ => false) (updN (fun _ => 1000000) a 0) (fun _ => 0) (fun _ => 0) (upd oX a (nI 0)) (upd nX a (nI 1)) (by omega) (by decide) (OU.ini ha)
      · -- F c1
        refine g_aload_n (q := 1) (pc := 8) dX10_spread_8 rfl rfl ?_
        refine gc_get_WX_least (pc := 9) hA flX10_15 dX10_spread_9 ?_
        refine g_iload_n (q := 0) (pc := 12) dX10_spread_12 rfl rfl ?_
        refine g_ldc (v := nI 1000000) (pc := 13) ctX10_48 dX10_spread_13 ?_
        refine gc_st_lX (pc := 15) (j := i) (f' := (upd tt i (nI 1000000))) hA (by omega) rfl dX10_spread_15 ?_
        refine g_aload_n (q := 1) (pc := 16) dX10_spread_16 rfl rfl ?_
        refine gc_get_WX_isSettled (pc := 17) hA flX10_27 dX10_spread_17 ?_
        refine g_iload_n (q := 0) (pc := 20) dX10_spread_20 rfl rfl ?_
        refine g_iconst (v := nI 0) (pc := 21) dX10_spread_21 (by decide) ?_
        refine gc_st_zX (pc := 22) (j := i) (f' := (upd zz i (nI 0))) hA (by omega) (by decide) rfl dX10_spread_22 ?_
        refine g_iinc (q := 0) (lv' := [(2, .int (nI (i + 1))), (0, .ref (cd 14)), (1, .int (nI a))]) (pc := 23) dX10_spread_23 rfl (nI_inc _ _) (by decide) rfl ?_
        refine g_goto (tgt := 2) (pc := 26) dX10_spread_26 (by decide) ?_
        refine G.locals (L' := [(2, .int (nI (i + 1))), (0, .ref (cd 14)), (1, .int (nI a))]) [0, 1, 2] rfl ?_
        exact ih2 (i + 1) (upd tt i ((nf (fun _ => 1000000)) i)) (upd zz i ((bf (fun _ => false)) i)) (by omega) (by omega) (cpI het) (cpI hez)
  refine G.locals (L' := [(2, .int (nI 0)), (0, .ref (cd 14)), (1, .int (nI a))]) [0, 1, 2] rfl ?_
  exact lp2 21 0 lX zX (by omega) (by decide) (fun j hj => absurd hj (Nat.not_lt_zero _)) (fun j hj => absurd hj (Nat.not_lt_zero _))
set_option maxHeartbeats 8000000 in
theorem c_X10_spread_Y {a : Nat} {w1 w2 : Nat → Nat} (hA : oC b0 cd V) (ha : a < 20) (hw : ∀ c, c < 20 → w1 c ≤ 30) (hw2 : ∀ c, c < 20 → w2 c ≤ 14) : KM l D Z b0 yX10_spread cX10_spread 5 none rmX10_spread [.ref (cd 15), .int (nI a)] (wC Z cd ik ugA ugB ugC rA pA tA rB pB tB rC pC tC cX lX oX nX sX zX (nf w1) lY oY nY (nf w2) zY tm cl KR SO SZ EL V) (fun v V' => ∃ (T L : Nat → Nat) (N : Nat → Int32), v = none ∧ SP w1 w2 a T L N ∧ V' = wC Z cd ik ugA ugB ugC rA pA tA rB pB tB rC pC tC cX lX oX nX sX zX (nf w1) (nf T) (nf L) N (nf w2) (bf (fun _ => true)) tm cl KR SO SZ EL V) := by
  refine KM.ofP (by decide) (Nat.le_of_ble_eq_true rfl) (fun Po hPo => ?_)
  refine G.locals (L' := [(0, .ref (cd 15)), (1, .int (nI a))]) [0, 1] rfl ?_
  refine g_iconst (v := nI 0) (pc := 0) dX10_spread_0 (by decide) ?_
  refine g_istore_n (lv' := [(2, .int (nI 0)), (0, .ref (cd 15)), (1, .int (nI a))]) (pc := 1) dX10_spread_1 rfl (by decide) rfl ?_
  have lp2 : ∀ (d2 : Nat) (i : Nat) (tt : Nat → Int32) (zz : Nat → Int32), i + d2 = 21 → (i ≤ 20) → (∀ j, j < i → tt j = (nf (fun _ => 1000000)) j) → (∀ j, j < i → zz j = (bf (fun _ => false)) j) → G l D Z b0 rmX10_spread RX10 cX10_spread 5 (gE none "spread") (gT D b0 Po rmX10_spread.cells rmX10_spread.slots) (wC Z cd ik ugA ugB ugC rA pA tA rB pB tB rC pC tC cX lX oX nX sX zX (nf w1) tt oY nY (nf w2) zz tm cl KR SO SZ EL V) [(2, .int (nI i)), (0, .ref (cd 15)), (1, .int (nI a))] 0 0 2 [] := by
    intro d2
    induction d2 with
    | zero =>
      intro i tt zz hd2 hiN het hez
      exact absurd hd2 (by omega)
    | succ d2 ih2 =>
      intro i tt zz hd2 hiN het hez
      refine g_iload_n (q := 0) (pc := 2) dX10_spread_2 rfl rfl ?_
      refine g_bipush (v := nI 20) (pc := 3) dX10_spread_3 (by decide) ?_
      refine g_icmp_ge_N (tgt := 29) (pc := 5) (by omega) (by omega) dX10_spread_5 (by decide) (fun c1 => ?_) (fun c1 => ?_)
      · -- T c1
        refine gc_eq_lY (f' := nf (fun _ => 1000000)) hA (fun j hj => het j (by omega)) ?_
        refine gc_eq_zY (f' := bf (fun _ => false)) hA (fun j hj => hez j (by omega)) ?_
        refine g_aload_n (q := 1) (pc := 29) dX10_spread_29 rfl rfl ?_
        refine gc_get_WY_least (pc := 30) hA flX10_15 dX10_spread_30 ?_
        refine g_iload_n (q := 2) (pc := 33) dX10_spread_33 rfl rfl ?_
        refine g_iconst (v := nI 0) (pc := 34) dX10_spread_34 (by decide) ?_
        refine gc_st_lY (pc := 35) (j := a) (f' := (nf (updN (fun _ => 1000000) a 0))) hA (by omega) (upd_nf _ _ _) dX10_spread_35 ?_
        refine g_aload_n (q := 1) (pc := 36) dX10_spread_36 rfl rfl ?_
        refine gc_get_WY_lost (pc := 37) hA flX10_18 dX10_spread_37 ?_
        refine g_iload_n (q := 2) (pc := 40) dX10_spread_40 rfl rfl ?_
        refine g_iconst (v := nI 0) (pc := 41) dX10_spread_41 (by decide) ?_
        refine gc_st_oY (pc := 42) (j := a) (f' := (upd oY a (nI 0))) hA (by omega) rfl dX10_spread_42 ?_
        refine g_aload_n (q := 1) (pc := 43) dX10_spread_43 rfl rfl ?_
        refine gc_get_WY_number (pc := 44) hA flX10_21 dX10_spread_44 ?_
        refine g_iload_n (q := 2) (pc := 47) dX10_spread_47 rfl rfl ?_
        refine g_iconst (v := nI 1) (pc := 48) dX10_spread_48 (by decide) ?_
        refine gc_st_nY (pc := 49) (j := a) (f' := (upd nY a (nI 1))) hA (by omega) rfl dX10_spread_49 ?_
        refine g_iconst (v := nI 0) (pc := 50) dX10_spread_50 (by decide) ?_
        refine g_istore_n (lv' := [(2, .int (nI 0)), (0, .ref (cd 15)), (1, .int (nI a))]) (pc := 51) dX10_spread_51 rfl (by decide) rfl ?_
        have lp52 : ∀ (d52 : Nat) (k : Nat) (S : Nat → Bool) (T : Nat → Nat) (L : Nat → Nat) (rk : Nat → Nat) (o : Nat → Int32) (N : Nat → Int32), k + d52 = 21 → (k ≤ 20) → (OU w1 w2 a k S T L rk o N) → G l D Z b0 rmX10_spread RX10 cX10_spread 5 (gE none "spread") (gT D b0 Po rmX10_spread.cells rmX10_spread.slots) (wC Z cd ik ugA ugB ugC rA pA tA rB pB tB rC pC tC cX lX oX nX sX zX (nf w1) (nf T) o N (nf w2) (bf S) tm cl KR SO SZ EL V) [(2, .int (nI k)), (0, .ref (cd 15)), (1, .int (nI a))] 0 0 52 [] := by
          intro d52
          induction d52 with
          | zero =>
            intro k S T L rk o N hd52 hk20 hOU
            exact absurd hd52 (by omega)
          | succ d52 ih52 =>
            intro k S T L rk o N hd52 hk20 hOU
            refine g_iload_n (q := 0) (pc := 52) dX10_spread_52 rfl rfl ?_
            refine g_bipush (v := nI 20) (pc := 53) dX10_spread_53 (by decide) ?_
            refine g_icmp_ge_N (tgt := 102) (pc := 55) (by omega) (by omega) dX10_spread_55 (by decide) (fun c2 => ?_) (fun c2 => ?_)
            · -- T c2
              have hfin := OU.fin hOU (by omega) hk20 ha
              refine gc_eq_oY (f' := nf L) hA hfin.2.2 ?_
              refine gc_eq_zY (f' := bf (fun _ => true)) hA (fun j hj => by show bI (S j) = bI true; rw [hfin.2.1 j hj]) ?_
              exact g_vret (pc := 102) (by decide) (by decide) (hPo _ _ ⟨T, L, N, rfl, hfin.1, rfl⟩) dX10_spread_102
            · -- F c2
              refine g_aload_n (q := 1) (pc := 58) dX10_spread_58 rfl rfl ?_
              refine g_callV (As := []) (rest := []) (pc := 59) (wC_15 hA) rfl (c_X10_nearest_Y hA (OU.b hOU hk20) (OU.ex hOU (by omega))) mlX10_49 selX10_X10_nearest_X10_nearest mX10_nearest ⟨Nat.le_of_ble_eq_true rfl, Nat.le_of_ble_eq_true rfl⟩ rfl rfl (Nat.le_of_ble_eq_true rfl) dX10_spread_59 (by decide)  (fun v9 V9 h9 => ?_)
              obtain ⟨c, rfl, rfl, hc, hSc, hmin⟩ := h9
              refine G.eqst (k2 := 0) (n2 := 0) (st2 := [.int (nI c)]) rfl rfl rfl ?_
              refine g_istore_n (lv' := [(3, .int (nI c)), (2, .int (nI k)), (0, .ref (cd 15)), (1, .int (nI a))]) (pc := 62) dX10_spread_62 rfl (by decide) rfl ?_
              refine g_aload_n (q := 2) (pc := 63) dX10_spread_63 rfl rfl ?_
              refine gc_get_WY_isSettled (pc := 64) hA flX10_27 dX10_spread_64 ?_
              refine g_iload_n (q := 0) (pc := 67) dX10_spread_67 rfl rfl ?_
              refine g_iconst (v := nI 1) (pc := 68) dX10_spread_68 (by decide) ?_
              refine gc_st_zY (pc := 69) (j := c) (f' := (bf (updB S c))) hA (by omega) (by decide) upd_bf dX10_spread_69 ?_
              refine g_iconst (v := nI 0) (pc := 70) dX10_spread_70 (by decide) ?_
              refine g_istore (lv' := [(4, .int (nI 0)), (3, .int (nI c)), (2, .int (nI k)), (0, .ref (cd 15)), (1, .int (nI a))]) (pc := 71) dX10_spread_71 (by decide) rfl ?_
              have lp73 : ∀ (d73 : Nat) (s1 : Nat) (T3 : Nat → Nat) (L3 : Nat → Nat) (o3 : Nat → Int32) (N3 : Nat → Int32), s1 + d73 = 5 → (s1 ≤ 4) → (IN w1 w2 a k c s1 S T3 L3 rk o3 N3) → G l D Z b0 rmX10_spread RX10 cX10_spread 5 (gE none "spread") (gT D b0 Po rmX10_spread.cells rmX10_spread.slots) (wC Z cd ik ugA ugB ugC rA pA tA rB pB tB rC pC tC cX lX oX nX sX zX (nf w1) (nf T3) o3 N3 (nf w2) (bf (updB S c)) tm cl KR SO SZ EL V) [(4, .int (nI s1)), (3, .int (nI c)), (2, .int (nI k)), (0, .ref (cd 15)), (1, .int (nI a))] 0 0 73 [] := by
                intro d73
                induction d73 with
                | zero =>
                  intro s1 T3 L3 o3 N3 hd73 hs5 hIN
                  exact absurd hd73 (by omega)
                | succ d73 ih73 =>
                  intro s1 T3 L3 o3 N3 hd73 hs5 hIN
                  refine g_iload (q := 0) (pc := 73) dX10_spread_73 rfl ?_
                  refine g_iconst (v := nI 4) (pc := 75) dX10_spread_75 (by decide) ?_
                  refine g_icmp_ge_N (tgt := 96) (pc := 76) (by omega) (by omega) dX10_spread_76 (by decide) (fun c3 => ?_) (fun c3 => ?_)
                  · -- T c3
                    refine g_iinc (q := 2) (lv' := [(2, .int (nI (k + 1))), (4, .int (nI s1)), (3, .int (nI c)), (0, .ref (cd 15)), (1, .int (nI a))]) (pc := 96) dX10_spread_96 rfl (nI_inc _ _) (by decide) rfl ?_
                    refine g_goto (tgt := 52) (pc := 99) dX10_spread_99 (by decide) ?_
                    refine G.locals (L' := [(2, .int (nI (k + 1))), (0, .ref (cd 15)), (1, .int (nI a))]) [0, 3, 4] rfl ?_
                    exact ih52 (k + 1) (updB S c) T3 L3 (updN rk c k) o3 N3 (by omega) (by omega) (IN.out hIN (by omega))
                  · -- F c3
                    refine g_aload_n (q := 3) (pc := 79) dX10_spread_79 rfl rfl ?_
                    refine g_iload_n (q := 1) (pc := 80) dX10_spread_80 rfl rfl ?_
                    refine g_iload (q := 0) (pc := 81) dX10_spread_81 rfl ?_
                    rcases hn83 : nbo c s1 with _ | t83
                    · -- alt
                      refine e_callSN (k2 := 0) (n2 := 0) (As := [.int (nI c), .int (nI s1)]) (rest := [.ref (cd 15)]) (pc := 83) (host := RX11) (c_X11_neighbour_n (t := 0) (by omega) (by omega) hn83) (fun _ h => h.2.2.2.2.1) mX11_neighbour ⟨Nat.le_of_ble_eq_true rfl, Nat.le_of_ble_eq_true rfl⟩ rfl rfl (Nat.le_of_ble_eq_true rfl) dX10_spread_83 (by decide) rfl rfl ?_
                      refine g_iload_n (q := 1) (pc := 86) dX10_spread_86 rfl rfl ?_
                      refine e_callVv (k2 := 0) (n2 := 0) (As := [.int (-1), .int (nI c)]) (rest := []) (pc := 87) (wC_15 hA) rfl (c_X10_enter_Y_n (L := L3) hA) mlX10_56 selX10_X10_enter_X10_enter mX10_enter ⟨Nat.le_of_ble_eq_true rfl, Nat.le_of_ble_eq_true rfl⟩ rfl rfl (Nat.le_of_ble_eq_true rfl) dX10_spread_87 (by decide) rfl rfl ?_
                      refine g_iinc (q := 0) (lv' := [(4, .int (nI (s1 + 1))), (3, .int (nI c)), (2, .int (nI k)), (0, .ref (cd 15)), (1, .int (nI a))]) (pc := 90) dX10_spread_90 rfl (nI_inc _ _) (by decide) rfl ?_
                      refine g_goto (tgt := 73) (pc := 93) dX10_spread_93 (by decide) ?_
                      refine G.locals (L' := [(4, .int (nI (s1 + 1))), (3, .int (nI c)), (2, .int (nI k)), (0, .ref (cd 15)), (1, .int (nI a))]) [0, 1, 2, 3, 4] rfl ?_
                      exact ih73 (s1 + 1) T3 L3 o3 N3 (by omega) (by omega) (IN.none hIN hc (by omega) hn83)
                    · -- alt
                      have t83l := nbo_lt (c := c) (by omega) hn83
                      refine e_callSN (k2 := 0) (n2 := 0) (As := [.int (nI c), .int (nI s1)]) (rest := [.ref (cd 15)]) (pc := 83) (host := RX11) (c_X11_neighbour_s (by omega) (by omega) hn83) (fun _ h => h.2.2.2.2.1) mX11_neighbour ⟨Nat.le_of_ble_eq_true rfl, Nat.le_of_ble_eq_true rfl⟩ rfl rfl (Nat.le_of_ble_eq_true rfl) dX10_spread_83 (by decide) rfl rfl ?_
                      refine g_iload_n (q := 1) (pc := 86) dX10_spread_86 rfl rfl ?_
                      rcases IN.cases (T := T3) (S := updB S c) (w1 := w1) c t83 with he | he | he | he
                      · -- alt
                        refine e_callVv (k2 := 0) (n2 := 0) (As := [.int (nI t83), .int (nI c)]) (rest := []) (pc := 87) (wC_15 hA) rfl (c_X10_enter_Y_0 (L := L3) hA t83l hc he) mlX10_56 selX10_X10_enter_X10_enter mX10_enter ⟨Nat.le_of_ble_eq_true rfl, Nat.le_of_ble_eq_true rfl⟩ rfl rfl (Nat.le_of_ble_eq_true rfl) dX10_spread_87 (by decide) rfl rfl ?_
                        refine g_iinc (q := 0) (lv' := [(4, .int (nI (s1 + 1))), (3, .int (nI c)), (2, .int (nI k)), (0, .ref (cd 15)), (1, .int (nI a))]) (pc := 90) dX10_spread_90 rfl (nI_inc _ _) (by decide) rfl ?_
                        refine g_goto (tgt := 73) (pc := 93) dX10_spread_93 (by decide) ?_
                        refine G.locals (L' := [(4, .int (nI (s1 + 1))), (3, .int (nI c)), (2, .int (nI k)), (0, .ref (cd 15)), (1, .int (nI a))]) [0, 1, 2, 3, 4] rfl ?_
                        exact ih73 (s1 + 1) T3 L3 o3 N3 (by omega) (by omega) (IN.set hIN hc (by omega) hn83 he)
                      · -- alt
                        have hTv9 : T3 t83 ≤ 1000000 := by rcases hIN.1.2.1 t83 t83l with q | q <;> omega
                        have hTc9 := hIN.2.2.2.1
                        have hLc9 := hIN.2.2.2.2.2
                        have hoc9 := hIN.2.2.1 c hc (by omega)
                        refine e_callVv (k2 := 0) (n2 := 0) (As := [.int (nI t83), .int (nI c)]) (rest := []) (pc := 87) (wC_15 hA) rfl (c_X10_enter_Y_1 (L := L3) hA t83l hc he.1 (by omega) (hw t83 t83l) hTv9 (by omega) (hw2 t83 t83l) hoc9 he.2) mlX10_56 selX10_X10_enter_X10_enter mX10_enter ⟨Nat.le_of_ble_eq_true rfl, Nat.le_of_ble_eq_true rfl⟩ rfl rfl (Nat.le_of_ble_eq_true rfl) dX10_spread_87 (by decide) rfl rfl ?_
                        refine g_iinc (q := 0) (lv' := [(4, .int (nI (s1 + 1))), (3, .int (nI c)), (2, .int (nI k)), (0, .ref (cd 15)), (1, .int (nI a))]) (pc := 90) dX10_spread_90 rfl (nI_inc _ _) (by decide) rfl ?_
                        refine g_goto (tgt := 73) (pc := 93) dX10_spread_93 (by decide) ?_
                        refine G.locals (L' := [(4, .int (nI (s1 + 1))), (3, .int (nI c)), (2, .int (nI k)), (0, .ref (cd 15)), (1, .int (nI a))]) [0, 1, 2, 3, 4] rfl ?_
                        exact ih73 (s1 + 1) (updN T3 t83 (T3 c + w1 t83)) (updN L3 t83 (L3 c + w2 t83)) (upd o3 t83 (nI (L3 c + w2 t83))) (upd N3 t83 (N3 c)) (by omega) (by omega) (IN.less hIN hw hw2 (by omega) hc (by omega) hn83 he.1 he.2)
                      · -- alt
                        have hTv9 : T3 t83 ≤ 1000000 := by rcases hIN.1.2.1 t83 t83l with q | q <;> omega
                        have hTc9 := hIN.2.2.2.1
                        have hLc9 := hIN.2.2.2.2.2
                        have hoc9 := hIN.2.2.1 c hc (by omega)
                        have hLv9 := hIN.2.1.2.2.1 t83 t83l (by have := hw t83 t83l; omega)
                        have hov9 := hIN.2.2.1 t83 t83l (by have := hw t83 t83l; omega)
                        refine e_callVv (k2 := 0) (n2 := 0) (As := [.int (nI t83), .int (nI c)]) (rest := []) (pc := 87) (wC_15 hA) rfl (c_X10_enter_Y_2 (L := L3) hA t83l hc he.1 (by omega) (hw t83 t83l) hTv9 (by omega) (hw2 t83 t83l) hoc9 (by omega) hov9 he.2) mlX10_56 selX10_X10_enter_X10_enter mX10_enter ⟨Nat.le_of_ble_eq_true rfl, Nat.le_of_ble_eq_true rfl⟩ rfl rfl (Nat.le_of_ble_eq_true rfl) dX10_spread_87 (by decide) rfl rfl ?_
                        refine g_iinc (q := 0) (lv' := [(4, .int (nI (s1 + 1))), (3, .int (nI c)), (2, .int (nI k)), (0, .ref (cd 15)), (1, .int (nI a))]) (pc := 90) dX10_spread_90 rfl (nI_inc _ _) (by decide) rfl ?_
                        refine g_goto (tgt := 73) (pc := 93) dX10_spread_93 (by decide) ?_
                        refine G.locals (L' := [(4, .int (nI (s1 + 1))), (3, .int (nI c)), (2, .int (nI k)), (0, .ref (cd 15)), (1, .int (nI a))]) [0, 1, 2, 3, 4] rfl ?_
                        exact ih73 (s1 + 1) T3 (updN L3 t83 (if L3 c + w2 t83 < L3 t83 then L3 c + w2 t83 else L3 t83)) (upd o3 t83 (nI (if L3 c + w2 t83 < L3 t83 then L3 c + w2 t83 else L3 t83))) (upd N3 t83 (N3 t83 + N3 c)) (by omega) (by omega) (IN.same hIN hw hw2 (by omega) hc (by omega) hn83 he.1 he.2)
                      · -- alt
                        have hTv9 : T3 t83 ≤ 1000000 := by rcases hIN.1.2.1 t83 t83l with q | q <;> omega
                        have hTc9 := hIN.2.2.2.1
                        have hLc9 := hIN.2.2.2.2.2
                        have hoc9 := hIN.2.2.1 c hc (by omega)
                        refine e_callVv (k2 := 0) (n2 := 0) (As := [.int (nI t83), .int (nI c)]) (rest := []) (pc := 87) (wC_15 hA) rfl (c_X10_enter_Y_3 (L := L3) hA t83l hc he.1 (by omega) (hw t83 t83l) hTv9 (by omega) (hw2 t83 t83l) hoc9 he.2) mlX10_56 selX10_X10_enter_X10_enter mX10_enter ⟨Nat.le_of_ble_eq_true rfl, Nat.le_of_ble_eq_true rfl⟩ rfl rfl (Nat.le_of_ble_eq_true rfl) dX10_spread_87 (by decide) rfl rfl ?_
                        refine g_iinc (q := 0) (lv' := [(4, .int (nI (s1 + 1))), (3, .int (nI c)), (2, .int (nI k)), (0, .ref (cd 15)), (1, .int (nI a))]) (pc := 90) dX10_spread_90 rfl (nI_inc _ _) (by decide) rfl ?_
                        refine g_goto (tgt := 73) (pc := 93) dX10_spread_93 (by decide) ?_
                        refine G.locals (L' := [(4, .int (nI (s1 + 1))), (3, .int (nI c)), (2, .int (nI k)), (0, .ref (cd 15)), (1, .int (nI a))]) [0, 1, 2, 3, 4] rfl ?_
                        exact ih73 (s1 + 1) T3 L3 o3 N3 (by omega) (by omega) (IN.more hIN hc (by omega) hn83 he.2)
              refine G.locals (L' := [(4, .int (nI 0)), (3, .int (nI c)), (2, .int (nI k)), (0, .ref (cd 15)), (1, .int (nI a))]) [0, 1, 2, 3, 4] rfl ?_
              exact lp73 5 0 T L o N (by omega) (by decide) (OU.into hOU hw ha (by omega) hc hSc hmin)
        refine G.locals (L' := [(2, .int (nI 0)), (0, .ref (cd 15)), (1, .int (nI a))]) [0, 1, 2] rfl ?_
        exact lp52 21 0 (fun _ => false) (updN (fun _ => 1000000) a 0) (fun _ => 0) (fun _ => 0) (upd oY a (nI 0)) (upd nY a (nI 1)) (by omega) (by decide) (OU.ini ha)
      · -- F c1
        refine g_aload_n (q := 1) (pc := 8) dX10_spread_8 rfl rfl ?_
        refine gc_get_WY_least (pc := 9) hA flX10_15 dX10_spread_9 ?_
        refine g_iload_n (q := 0) (pc := 12) dX10_spread_12 rfl rfl ?_
        refine g_ldc (v := nI 1000000) (pc := 13) ctX10_48 dX10_spread_13 ?_
        refine gc_st_lY (pc := 15) (j := i) (f' := (upd tt i (nI 1000000))) hA (by omega) rfl dX10_spread_15 ?_
        refine g_aload_n (q := 1) (pc := 16) dX10_spread_16 rfl rfl ?_
        refine gc_get_WY_isSettled (pc := 17) hA flX10_27 dX10_spread_17 ?_
        refine g_iload_n (q := 0) (pc := 20) dX10_spread_20 rfl rfl ?_
        refine g_iconst (v := nI 0) (pc := 21) dX10_spread_21 (by decide) ?_
        refine gc_st_zY (pc := 22) (j := i) (f' := (upd zz i (nI 0))) hA (by omega) (by decide) rfl dX10_spread_22 ?_
        refine g_iinc (q := 0) (lv' := [(2, .int (nI (i + 1))), (0, .ref (cd 15)), (1, .int (nI a))]) (pc := 23) dX10_spread_23 rfl (nI_inc _ _) (by decide) rfl ?_
        refine g_goto (tgt := 2) (pc := 26) dX10_spread_26 (by decide) ?_
        refine G.locals (L' := [(2, .int (nI (i + 1))), (0, .ref (cd 15)), (1, .int (nI a))]) [0, 1, 2] rfl ?_
        exact ih2 (i + 1) (upd tt i ((nf (fun _ => 1000000)) i)) (upd zz i ((bf (fun _ => false)) i)) (by omega) (by omega) (cpI het) (cpI hez)
  refine G.locals (L' := [(2, .int (nI 0)), (0, .ref (cd 15)), (1, .int (nI a))]) [0, 1, 2] rfl ?_
  exact lp2 21 0 lY zY (by omega) (by decide) (fun j hj => absurd hj (Nat.not_lt_zero _)) (fun j hj => absurd hj (Nat.not_lt_zero _))
theorem SP.k {kd fg pl : Nat → Nat} (ho : ∀ c, c < 20 → kd c < 8 ∧ fg c < 10) {a : Nat} (ha : a < 20) {T L : Nat → Nat} {N : Nat → Int32} (h : SP (sw kd fg) (lw kd fg) a T L N) : (∀ v, v < 20 → nf T v = nf (dT kd fg a) v) ∧ (∀ v, v < 20 → nf L v = nf (dL kd fg a) v) ∧ ∀ v, v < 20 → N v = dC kd fg a v := by
  have h1 := h.2.1 (fun c _ => slowN_pos _ _)
  have hT : ∀ v, v < 20 → T v = dT kd fg a v := fun v hv => (h1.1.d hv).1
  refine ⟨fun v hv => congrArg nI (hT v hv), fun v hv => congrArg nI (h1.1.d hv).2, fun v hv => ?_⟩
  refine dC_uq h1.2.1 (fun x hx hxa => ?_) _ v hv rfl
  rw [h1.2.2 x hx hxa]
  have key : ∀ n, n ≤ 4 → psm (sw kd fg) T N x n = psm (sw kd fg) (dT kd fg a) N x n := by
    intro n
    induction n with
    | zero => intro _; rfl
    | succ n ih =>
      intro hn
      show psm _ _ N x n + trm _ _ N x n = psm _ _ N x n + trm _ _ N x n
      rw [ih (by omega)]
      congr 1
      unfold trm
      cases hb : nbo x n with
      | none => rfl
      | some u =>
        show (if T u + sw kd fg x = T x then N u else nI 0) = (if dT kd fg a u + sw kd fg x = dT kd fg a x then N u else nI 0)
        rw [hT u (nbo_lt hx hb), hT x hx]
  exact key 4 (Nat.le_refl _)
theorem SP.o {kd fg : Nat → Nat} {w2 : Nat → Nat} {a : Nat} {T L : Nat → Nat} {N : Nat → Int32} (h : SP (tw kd fg) w2 a T L N) : ∀ v, v < 20 → nf T v = nf (dO kd fg a) v := fun v hv => congrArg nI (SolO.d h.1 hv)
theorem mo.sw {V : HV} {r kd fg : Nat → Nat} (h : mo V r kd fg) : ∀ c, c < 20 → sw kd fg c ≤ 30 := fun c hc => Nat.le_trans (slowN_le (h c hc).2.1) (by decide)
theorem mo.lw {V : HV} {r kd fg : Nat → Nat} (h : mo V r kd fg) : ∀ c, c < 20 → lw kd fg c ≤ 14 := fun c hc => lossN_le (h c hc).2.1
theorem mo.tw {V : HV} {r kd fg : Nat → Nat} (h : mo V r kd fg) : ∀ c, c < 20 → tw kd fg c ≤ 30 := fun c hc => toilN_le (h c hc).2.1
theorem mo.ok {V : HV} {r kd fg : Nat → Nat} (h : mo V r kd fg) : ∀ c, c < 20 → kd c < 8 ∧ fg c < 10 := fun c hc => ⟨(h c hc).1, (h c hc).2.1⟩
end MS
