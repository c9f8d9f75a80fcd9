section MS
variable {l : Launch} {D : va_G} {Z : Nat → ClassId} {b0 : Nat} {cd : Nat → Nat} {ik : Int32} {ugA ugB ugC : Nat} {rA : Nat → Nat} {pA tA : Nat → Int32} {rB : Nat → Nat} {pB tB : Nat → Int32} {rC : Nat → Nat} {pC tC cX lX oX nX sX zX cY lY oY nY sY zY tm cl : Nat → Int32} {KR : Nat → Option Nat} {SO : Nat → Int32} {SZ : Nat → Nat} {EL : Nat → Nat → Int32} {V : HV} {kA fA kB fB kC fC9 : Nat → Nat} {plA plB plC : Nat → Nat}
theorem cpN {f g : Nat → Nat} {i : Nat} (h : ∀ j, j < i → f j = g j) : ∀ j, j < i + 1 → updN f i (g i) j = g j := fun j hj => by
  by_cases q : j = i
  · subst q; exact updN_eq _ _ _
  · rw [updN_ne q]; exact h j (by omega)
theorem cpI {f g : Nat → Int32} {i : Nat} (h : ∀ j, j < i → f j = g j) : ∀ j, j < i + 1 → upd f i (g i) j = g j := fun j hj => by
  by_cases q : j = i
  · subst q; exact upd_eq _ _ _
  · rw [upd_ne q]; exact h j (by omega)
theorem mB_mono {a b i : Nat} (h : mB a b i = true) : ∀ k, mB a b (i + k) = true
  | 0 => h
  | k + 1 => by rw [← Nat.add_assoc, mB, mB_mono h k]; rfl
theorem metB_0 {a b : Nat} (h : a = b) : nI 1 = bI (metB a b) := by
  have h1 : mB a b 0 = true := decide_eq_true h
  have h2 := mB_mono h1 4
  unfold metB; rw [Nat.zero_add] at h2; rw [h2]; rfl
theorem metB_1 {a b i : Nat} (ha : a < 20) (hb : b < 20) (hi4 : i < 4) (h : nbI a i = nI b) : nI 1 = bI (metB a b) := by
  have h1 : mB a b (i + 1) = true := by rw [mB, decide_eq_true ((nbI_eq ha hb).mp h)]; simp
  have h2 := mB_mono h1 (4 - (i + 1))
  rw [show i + 1 + (4 - (i + 1)) = 4 by omega] at h2
  unfold metB; rw [h2]; rfl
theorem mB_S {a b i : Nat} (ha : a < 20) (hb : b < 20) (h1 : mB a b i = false) (h : ¬ nbI a i = nI b) : mB a b (i + 1) = false := by
  have : ¬ nbo a i = some b := fun q => h ((nbI_eq ha hb).mpr q)
  rw [mB, h1, decide_eq_false this]; rfl
theorem mB_start {a b : Nat} (h : ¬ a = b) : mB a b 0 = false := decide_eq_false h
theorem metB_n {a b i : Nat} (hi4 : 4 ≤ i) (hi5 : i ≤ 4) (h : mB a b i = false) : nI 0 = bI (metB a b) := by
  obtain rfl : i = 4 := by omega
  unfold metB; rw [h]; rfl
def rmX5_become : Room := { frames := 0, cells := 0, slots := 0, locals := 0 }
set_option maxHeartbeats 8000000 in
theorem c_X5_become_AB  (hA : oC b0 cd V) (hmB : mo V rB kB fB) : KE l D Z b0 yX5_become cX5_become 3 none rmX5_become [.ref (cd 1), .ref (cd 2)] (wC Z cd ik ugA ugB ugC rA pA tA rB pB tB rC pC tC cX lX oX nX sX zX cY lY oY nY sY zY tm cl KR SO SZ EL V) none (wC Z cd ik ugA ugB ugC rB pB tB rB pB tB rC pC tC cX lX oX nX sX zX cY lY oY nY sY zY tm cl KR SO SZ EL V) := by
  refine KE.of (by decide) (Nat.le_of_ble_eq_true rfl) (fun Po hPo => ?_)
  refine G.locals (L' := [(0, .ref (cd 1)), (1, .ref (cd 2))]) [0, 1] rfl ?_
  refine g_iconst (v := nI 0) (pc := 0) dX5_become_0 (by decide) ?_
  refine g_istore_n (lv' := [(2, .int (nI 0)), (0, .ref (cd 1)), (1, .ref (cd 2))]) (pc := 1) dX5_become_1 rfl (by decide) rfl ?_
  have lp2 : ∀ (d2 : Nat) (i : Nat) (hh : Nat → Nat), i + d2 = 21 → (i ≤ 20) → (∀ j, j < i → hh j = rB j) → G l D Z b0 rmX5_become RX5 cX5_become 3 (gE none "become") (gT D b0 Po rmX5_become.cells rmX5_become.slots) (wC Z cd ik ugA ugB ugC hh pA tA rB pB tB rC pC tC cX lX oX nX sX zX cY lY oY nY sY zY tm cl KR SO SZ EL V) [(2, .int (nI i)), (0, .ref (cd 1)), (1, .ref (cd 2))] 0 0 2 [] := by
    intro d2
    induction d2 with
    | zero =>
      intro i hh hd2 hiN heq
      exact absurd hd2 (by omega)
    | succ d2 ih2 =>
      intro i hh hd2 hiN heq
      refine g_iload_n (q := 0) (pc := 2) dX5_become_2 rfl rfl ?_
      refine g_bipush (v := nI 20) (pc := 3) dX5_become_3 (by decide) ?_
      refine g_icmp_ge_N (tgt := 26) (pc := 5) (by omega) (by omega) dX5_become_5 (by decide) (fun c1 => ?_) (fun c1 => ?_)
      · -- T c1
        refine gc_eq_rA (f' := rB) hA (fun j hj => heq j (by omega)) ?_
        refine g_iconst (v := nI 0) (pc := 26) dX5_become_26 (by decide) ?_
        refine g_istore_n (lv' := [(2, .int (nI 0)), (0, .ref (cd 1)), (1, .ref (cd 2))]) (pc := 27) dX5_become_27 rfl (by decide) rfl ?_
        have lp28 : ∀ (d28 : Nat) (i : Nat) (pp : Nat → Int32) (tt : Nat → Int32), i + d28 = 3 → (i ≤ 2) → (∀ j, j < i → pp j = pB j) → (∀ j, j < i → tt j = tB j) → G l D Z b0 rmX5_become RX5 cX5_become 3 (gE none "become") (gT D b0 Po rmX5_become.cells rmX5_become.slots) (wC Z cd ik ugA ugB ugC rB pp tt rB pB tB rC pC tC cX lX oX nX sX zX cY lY oY nY sY zY tm cl KR SO SZ EL V) [(2, .int (nI i)), (0, .ref (cd 1)), (1, .ref (cd 2))] 0 0 28 [] := by
          intro d28
          induction d28 with
          | zero =>
            intro i pp tt hd28 hiN hep het
            exact absurd hd28 (by omega)
          | succ d28 ih28 =>
            intro i pp tt hd28 hiN hep het
            refine g_iload_n (q := 0) (pc := 28) dX5_become_28 rfl rfl ?_
            refine g_iconst (v := nI 2) (pc := 29) dX5_become_29 (by decide) ?_
            refine g_icmp_ge_N (tgt := 63) (pc := 30) (by omega) (by omega) dX5_become_30 (by decide) (fun c2 => ?_) (fun c2 => ?_)
            · -- T c2
              refine gc_eq_pA (f' := pB) hA (fun j hj => hep j (by omega)) ?_
              refine gc_eq_tA (f' := tB) hA (fun j hj => het j (by omega)) ?_
              exact g_vret (pc := 63) (by decide) (by decide) (hPo) dX5_become_63
            · -- F c2
              refine g_aload_n (q := 1) (pc := 33) dX5_become_33 rfl rfl ?_
              refine gc_get_MA_places (pc := 34) hA flX5_17 dX5_become_34 ?_
              refine g_iload_n (q := 0) (pc := 37) dX5_become_37 rfl rfl ?_
              refine g_aload_n (q := 2) (pc := 38) dX5_become_38 rfl rfl ?_
              refine gc_get_MB_places (pc := 39) hA flX5_17 dX5_become_39 ?_
              refine g_iload_n (q := 0) (pc := 42) dX5_become_42 rfl rfl ?_
              refine gc_ld_pB (pc := 43) (j := i) (x := pB i) hA (by omega) rfl dX5_become_43 ?_
              refine gc_st_pA (pc := 44) (j := i) (f' := (upd pp i (pB i))) hA (by omega) rfl dX5_become_44 ?_
              refine g_aload_n (q := 1) (pc := 45) dX5_become_45 rfl rfl ?_
              refine gc_get_MA_hours (pc := 46) hA flX5_21 dX5_become_46 ?_
              refine g_iload_n (q := 0) (pc := 49) dX5_become_49 rfl rfl ?_
              refine g_aload_n (q := 2) (pc := 50) dX5_become_50 rfl rfl ?_
              refine gc_get_MB_hours (pc := 51) hA flX5_21 dX5_become_51 ?_
              refine g_iload_n (q := 0) (pc := 54) dX5_become_54 rfl rfl ?_
              refine gc_ld_tB (pc := 55) (j := i) (x := tB i) hA (by omega) rfl dX5_become_55 ?_
              refine gc_st_tA (pc := 56) (j := i) (f' := (upd tt i (tB i))) hA (by omega) rfl dX5_become_56 ?_
              refine g_iinc (q := 0) (lv' := [(2, .int (nI (i + 1))), (0, .ref (cd 1)), (1, .ref (cd 2))]) (pc := 57) dX5_become_57 rfl (nI_inc _ _) (by decide) rfl ?_
              refine g_goto (tgt := 28) (pc := 60) dX5_become_60 (by decide) ?_
              refine G.locals (L' := [(2, .int (nI (i + 1))), (0, .ref (cd 1)), (1, .ref (cd 2))]) [0, 1, 2] rfl ?_
              exact ih28 (i + 1) (upd pp i (pB i)) (upd tt i (tB i)) (by omega) (by omega) (cpI hep) (cpI het)
        refine G.locals (L' := [(2, .int (nI 0)), (0, .ref (cd 1)), (1, .ref (cd 2))]) [0, 1, 2] rfl ?_
        exact lp28 3 0 pA tA (by omega) (by decide) (fun j hj => absurd hj (Nat.not_lt_zero _)) (fun j hj => absurd hj (Nat.not_lt_zero _))
      · -- F c1
        refine g_aload_n (q := 1) (pc := 8) dX5_become_8 rfl rfl ?_
        refine gc_get_MA_cells (pc := 9) hA flX5_11 dX5_become_9 ?_
        refine g_iload_n (q := 0) (pc := 12) dX5_become_12 rfl rfl ?_
        refine g_aload_n (q := 2) (pc := 13) dX5_become_13 rfl rfl ?_
        refine gc_get_MB_cells (pc := 14) hA flX5_11 dX5_become_14 ?_
        refine g_iload_n (q := 0) (pc := 17) dX5_become_17 rfl rfl ?_
        refine gc_ld_rB (pc := 18) (c := i) hA (by omega) dX5_become_18 ?_
        refine gc_st_rA (pc := 19) (c := i) (a := rB i) (q := kB i) (f := fB i) hA (by omega) (hmB i (by omega)) dX5_become_19 ?_
        refine g_iinc (q := 0) (lv' := [(2, .int (nI (i + 1))), (0, .ref (cd 1)), (1, .ref (cd 2))]) (pc := 20) dX5_become_20 rfl (nI_inc _ _) (by decide) rfl ?_
        refine g_goto (tgt := 2) (pc := 23) dX5_become_23 (by decide) ?_
        refine G.locals (L' := [(2, .int (nI (i + 1))), (0, .ref (cd 1)), (1, .ref (cd 2))]) [0, 1, 2] rfl ?_
        exact ih2 (i + 1) (updN hh i (rB i)) (by omega) (by omega) (cpN heq)
  refine G.locals (L' := [(2, .int (nI 0)), (0, .ref (cd 1)), (1, .ref (cd 2))]) [0, 1, 2] rfl ?_
  exact lp2 21 0 rA (by omega) (by decide) (fun j hj => absurd hj (Nat.not_lt_zero _))
set_option maxHeartbeats 8000000 in
theorem c_X5_become_BA  (hA : oC b0 cd V) (hmA : mo V rA kA fA) : KE l D Z b0 yX5_become cX5_become 3 none rmX5_become [.ref (cd 2), .ref (cd 1)] (wC Z cd ik ugA ugB ugC rA pA tA rB pB tB rC pC tC cX lX oX nX sX zX cY lY oY nY sY zY tm cl KR SO SZ EL V) none (wC Z cd ik ugA ugB ugC rA pA tA rA pA tA rC pC tC cX lX oX nX sX zX cY lY oY nY sY zY tm cl KR SO SZ EL V) := by
  refine KE.of (by decide) (Nat.le_of_ble_eq_true rfl) (fun Po hPo => ?_)
  refine G.locals (L' := [(0, .ref (cd 2)), (1, .ref (cd 1))]) [0, 1] rfl ?_
  refine g_iconst (v := nI 0) (pc := 0) dX5_become_0 (by decide) ?_
  refine g_istore_n (lv' := [(2, .int (nI 0)), (0, .ref (cd 2)), (1, .ref (cd 1))]) (pc := 1) dX5_become_1 rfl (by decide) rfl ?_
  have lp2 : ∀ (d2 : Nat) (i : Nat) (hh : Nat → Nat), i + d2 = 21 → (i ≤ 20) → (∀ j, j < i → hh j = rA j) → G l D Z b0 rmX5_become RX5 cX5_become 3 (gE none "become") (gT D b0 Po rmX5_become.cells rmX5_become.slots) (wC Z cd ik ugA ugB ugC rA pA tA hh pB tB rC pC tC cX lX oX nX sX zX cY lY oY nY sY zY tm cl KR SO SZ EL V) [(2, .int (nI i)), (0, .ref (cd 2)), (1, .ref (cd 1))] 0 0 2 [] := by
    intro d2
    induction d2 with
    | zero =>
      intro i hh hd2 hiN heq
      exact absurd hd2 (by omega)
    | succ d2 ih2 =>
      intro i hh hd2 hiN heq
      refine g_iload_n (q := 0) (pc := 2) dX5_become_2 rfl rfl ?_
      refine g_bipush (v := nI 20) (pc := 3) dX5_become_3 (by decide) ?_
      refine g_icmp_ge_N (tgt := 26) (pc := 5) (by omega) (by omega) dX5_become_5 (by decide) (fun c1 => ?_) (fun c1 => ?_)
      · -- T c1
        refine gc_eq_rB (f' := rA) hA (fun j hj => heq j (by omega)) ?_
        refine g_iconst (v := nI 0) (pc := 26) dX5_become_26 (by decide) ?_
        refine g_istore_n (lv' := [(2, .int (nI 0)), (0, .ref (cd 2)), (1, .ref (cd 1))]) (pc := 27) dX5_become_27 rfl (by decide) rfl ?_
        have lp28 : ∀ (d28 : Nat) (i : Nat) (pp : Nat → Int32) (tt : Nat → Int32), i + d28 = 3 → (i ≤ 2) → (∀ j, j < i → pp j = pA j) → (∀ j, j < i → tt j = tA j) → G l D Z b0 rmX5_become RX5 cX5_become 3 (gE none "become") (gT D b0 Po rmX5_become.cells rmX5_become.slots) (wC Z cd ik ugA ugB ugC rA pA tA rA pp tt rC pC tC cX lX oX nX sX zX cY lY oY nY sY zY tm cl KR SO SZ EL V) [(2, .int (nI i)), (0, .ref (cd 2)), (1, .ref (cd 1))] 0 0 28 [] := by
          intro d28
          induction d28 with
          | zero =>
            intro i pp tt hd28 hiN hep het
            exact absurd hd28 (by omega)
          | succ d28 ih28 =>
            intro i pp tt hd28 hiN hep het
            refine g_iload_n (q := 0) (pc := 28) dX5_become_28 rfl rfl ?_
            refine g_iconst (v := nI 2) (pc := 29) dX5_become_29 (by decide) ?_
            refine g_icmp_ge_N (tgt := 63) (pc := 30) (by omega) (by omega) dX5_become_30 (by decide) (fun c2 => ?_) (fun c2 => ?_)
            · -- T c2
              refine gc_eq_pB (f' := pA) hA (fun j hj => hep j (by omega)) ?_
              refine gc_eq_tB (f' := tA) hA (fun j hj => het j (by omega)) ?_
              exact g_vret (pc := 63) (by decide) (by decide) (hPo) dX5_become_63
            · -- F c2
              refine g_aload_n (q := 1) (pc := 33) dX5_become_33 rfl rfl ?_
              refine gc_get_MB_places (pc := 34) hA flX5_17 dX5_become_34 ?_
              refine g_iload_n (q := 0) (pc := 37) dX5_become_37 rfl rfl ?_
              refine g_aload_n (q := 2) (pc := 38) dX5_become_38 rfl rfl ?_
              refine gc_get_MA_places (pc := 39) hA flX5_17 dX5_become_39 ?_
              refine g_iload_n (q := 0) (pc := 42) dX5_become_42 rfl rfl ?_
              refine gc_ld_pA (pc := 43) (j := i) (x := pA i) hA (by omega) rfl dX5_become_43 ?_
              refine gc_st_pB (pc := 44) (j := i) (f' := (upd pp i (pA i))) hA (by omega) rfl dX5_become_44 ?_
              refine g_aload_n (q := 1) (pc := 45) dX5_become_45 rfl rfl ?_
              refine gc_get_MB_hours (pc := 46) hA flX5_21 dX5_become_46 ?_
              refine g_iload_n (q := 0) (pc := 49) dX5_become_49 rfl rfl ?_
              refine g_aload_n (q := 2) (pc := 50) dX5_become_50 rfl rfl ?_
              refine gc_get_MA_hours (pc := 51) hA flX5_21 dX5_become_51 ?_
              refine g_iload_n (q := 0) (pc := 54) dX5_become_54 rfl rfl ?_
              refine gc_ld_tA (pc := 55) (j := i) (x := tA i) hA (by omega) rfl dX5_become_55 ?_
              refine gc_st_tB (pc := 56) (j := i) (f' := (upd tt i (tA i))) hA (by omega) rfl dX5_become_56 ?_
              refine g_iinc (q := 0) (lv' := [(2, .int (nI (i + 1))), (0, .ref (cd 2)), (1, .ref (cd 1))]) (pc := 57) dX5_become_57 rfl (nI_inc _ _) (by decide) rfl ?_
              refine g_goto (tgt := 28) (pc := 60) dX5_become_60 (by decide) ?_
              refine G.locals (L' := [(2, .int (nI (i + 1))), (0, .ref (cd 2)), (1, .ref (cd 1))]) [0, 1, 2] rfl ?_
              exact ih28 (i + 1) (upd pp i (pA i)) (upd tt i (tA i)) (by omega) (by omega) (cpI hep) (cpI het)
        refine G.locals (L' := [(2, .int (nI 0)), (0, .ref (cd 2)), (1, .ref (cd 1))]) [0, 1, 2] rfl ?_
        exact lp28 3 0 pB tB (by omega) (by decide) (fun j hj => absurd hj (Nat.not_lt_zero _)) (fun j hj => absurd hj (Nat.not_lt_zero _))
      · -- F c1
        refine g_aload_n (q := 1) (pc := 8) dX5_become_8 rfl rfl ?_
        refine gc_get_MB_cells (pc := 9) hA flX5_11 dX5_become_9 ?_
        refine g_iload_n (q := 0) (pc := 12) dX5_become_12 rfl rfl ?_
        refine g_aload_n (q := 2) (pc := 13) dX5_become_13 rfl rfl ?_
        refine gc_get_MA_cells (pc := 14) hA flX5_11 dX5_become_14 ?_
        refine g_iload_n (q := 0) (pc := 17) dX5_become_17 rfl rfl ?_
        refine gc_ld_rA (pc := 18) (c := i) hA (by omega) dX5_become_18 ?_
        refine gc_st_rB (pc := 19) (c := i) (a := rA i) (q := kA i) (f := fA i) hA (by omega) (hmA i (by omega)) dX5_become_19 ?_
        refine g_iinc (q := 0) (lv' := [(2, .int (nI (i + 1))), (0, .ref (cd 2)), (1, .ref (cd 1))]) (pc := 20) dX5_become_20 rfl (nI_inc _ _) (by decide) rfl ?_
        refine g_goto (tgt := 2) (pc := 23) dX5_become_23 (by decide) ?_
        refine G.locals (L' := [(2, .int (nI (i + 1))), (0, .ref (cd 2)), (1, .ref (cd 1))]) [0, 1, 2] rfl ?_
        exact ih2 (i + 1) (updN hh i (rA i)) (by omega) (by omega) (cpN heq)
  refine G.locals (L' := [(2, .int (nI 0)), (0, .ref (cd 2)), (1, .ref (cd 1))]) [0, 1, 2] rfl ?_
  exact lp2 21 0 rB (by omega) (by decide) (fun j hj => absurd hj (Nat.not_lt_zero _))
set_option maxHeartbeats 8000000 in
theorem c_X5_become_CA  (hA : oC b0 cd V) (hmA : mo V rA kA fA) : KE l D Z b0 yX5_become cX5_become 3 none rmX5_become [.ref (cd 3), .ref (cd 1)] (wC Z cd ik ugA ugB ugC rA pA tA rB pB tB rC pC tC cX lX oX nX sX zX cY lY oY nY sY zY tm cl KR SO SZ EL V) none (wC Z cd ik ugA ugB ugC rA pA tA rB pB tB rA pA tA cX lX oX nX sX zX cY lY oY nY sY zY tm cl KR SO SZ EL V) := by
  refine KE.of (by decide) (Nat.le_of_ble_eq_true rfl) (fun Po hPo => ?_)
  refine G.locals (L' := [(0, .ref (cd 3)), (1, .ref (cd 1))]) [0, 1] rfl ?_
  refine g_iconst (v := nI 0) (pc := 0) dX5_become_0 (by decide) ?_
  refine g_istore_n (lv' := [(2, .int (nI 0)), (0, .ref (cd 3)), (1, .ref (cd 1))]) (pc := 1) dX5_become_1 rfl (by decide) rfl ?_
  have lp2 : ∀ (d2 : Nat) (i : Nat) (hh : Nat → Nat), i + d2 = 21 → (i ≤ 20) → (∀ j, j < i → hh j = rA j) → G l D Z b0 rmX5_become RX5 cX5_become 3 (gE none "become") (gT D b0 Po rmX5_become.cells rmX5_become.slots) (wC Z cd ik ugA ugB ugC rA pA tA rB pB tB hh pC tC cX lX oX nX sX zX cY lY oY nY sY zY tm cl KR SO SZ EL V) [(2, .int (nI i)), (0, .ref (cd 3)), (1, .ref (cd 1))] 0 0 2 [] := by
    intro d2
    induction d2 with
    | zero =>
      intro i hh hd2 hiN heq
      exact absurd hd2 (by omega)
    | succ d2 ih2 =>
      intro i hh hd2 hiN heq
      refine g_iload_n (q := 0) (pc := 2) dX5_become_2 rfl rfl ?_
      refine g_bipush (v := nI 20) (pc := 3) dX5_become_3 (by decide) ?_
      refine g_icmp_ge_N (tgt := 26) (pc := 5) (by omega) (by omega) dX5_become_5 (by decide) (fun c1 => ?_) (fun c1 => ?_)
      · -- T c1
        refine gc_eq_rC (f' := rA) hA (fun j hj => heq j (by omega)) ?_
        refine g_iconst (v := nI 0) (pc := 26) dX5_become_26 (by decide) ?_
        refine g_istore_n (lv' := [(2, .int (nI 0)), (0, .ref (cd 3)), (1, .ref (cd 1))]) (pc := 27) dX5_become_27 rfl (by decide) rfl ?_
        have lp28 : ∀ (d28 : Nat) (i : Nat) (pp : Nat → Int32) (tt : Nat → Int32), i + d28 = 3 → (i ≤ 2) → (∀ j, j < i → pp j = pA j) → (∀ j, j < i → tt j = tA j) → G l D Z b0 rmX5_become RX5 cX5_become 3 (gE none "become") (gT D b0 Po rmX5_become.cells rmX5_become.slots) (wC Z cd ik ugA ugB ugC rA pA tA rB pB tB rA pp tt cX lX oX nX sX zX cY lY oY nY sY zY tm cl KR SO SZ EL V) [(2, .int (nI i)), (0, .ref (cd 3)), (1, .ref (cd 1))] 0 0 28 [] := by
          intro d28
          induction d28 with
          | zero =>
            intro i pp tt hd28 hiN hep het
            exact absurd hd28 (by omega)
          | succ d28 ih28 =>
            intro i pp tt hd28 hiN hep het
            refine g_iload_n (q := 0) (pc := 28) dX5_become_28 rfl rfl ?_
            refine g_iconst (v := nI 2) (pc := 29) dX5_become_29 (by decide) ?_
            refine g_icmp_ge_N (tgt := 63) (pc := 30) (by omega) (by omega) dX5_become_30 (by decide) (fun c2 => ?_) (fun c2 => ?_)
            · -- T c2
              refine gc_eq_pC (f' := pA) hA (fun j hj => hep j (by omega)) ?_
              refine gc_eq_tC (f' := tA) hA (fun j hj => het j (by omega)) ?_
              exact g_vret (pc := 63) (by decide) (by decide) (hPo) dX5_become_63
            · -- F c2
              refine g_aload_n (q := 1) (pc := 33) dX5_become_33 rfl rfl ?_
              refine gc_get_MC_places (pc := 34) hA flX5_17 dX5_become_34 ?_
              refine g_iload_n (q := 0) (pc := 37) dX5_become_37 rfl rfl ?_
              refine g_aload_n (q := 2) (pc := 38) dX5_become_38 rfl rfl ?_
              refine gc_get_MA_places (pc := 39) hA flX5_17 dX5_become_39 ?_
              refine g_iload_n (q := 0) (pc := 42) dX5_become_42 rfl rfl ?_
              refine gc_ld_pA (pc := 43) (j := i) (x := pA i) hA (by omega) rfl dX5_become_43 ?_
              refine gc_st_pC (pc := 44) (j := i) (f' := (upd pp i (pA i))) hA (by omega) rfl dX5_become_44 ?_
              refine g_aload_n (q := 1) (pc := 45) dX5_become_45 rfl rfl ?_
              refine gc_get_MC_hours (pc := 46) hA flX5_21 dX5_become_46 ?_
              refine g_iload_n (q := 0) (pc := 49) dX5_become_49 rfl rfl ?_
              refine g_aload_n (q := 2) (pc := 50) dX5_become_50 rfl rfl ?_
              refine gc_get_MA_hours (pc := 51) hA flX5_21 dX5_become_51 ?_
              refine g_iload_n (q := 0) (pc := 54) dX5_become_54 rfl rfl ?_
              refine gc_ld_tA (pc := 55) (j := i) (x := tA i) hA (by omega) rfl dX5_become_55 ?_
              refine gc_st_tC (pc := 56) (j := i) (f' := (upd tt i (tA i))) hA (by omega) rfl dX5_become_56 ?_
              refine g_iinc (q := 0) (lv' := [(2, .int (nI (i + 1))), (0, .ref (cd 3)), (1, .ref (cd 1))]) (pc := 57) dX5_become_57 rfl (nI_inc _ _) (by decide) rfl ?_
              refine g_goto (tgt := 28) (pc := 60) dX5_become_60 (by decide) ?_
              refine G.locals (L' := [(2, .int (nI (i + 1))), (0, .ref (cd 3)), (1, .ref (cd 1))]) [0, 1, 2] rfl ?_
              exact ih28 (i + 1) (upd pp i (pA i)) (upd tt i (tA i)) (by omega) (by omega) (cpI hep) (cpI het)
        refine G.locals (L' := [(2, .int (nI 0)), (0, .ref (cd 3)), (1, .ref (cd 1))]) [0, 1, 2] rfl ?_
        exact lp28 3 0 pC tC (by omega) (by decide) (fun j hj => absurd hj (Nat.not_lt_zero _)) (fun j hj => absurd hj (Nat.not_lt_zero _))
      · -- F c1
        refine g_aload_n (q := 1) (pc := 8) dX5_become_8 rfl rfl ?_
        refine gc_get_MC_cells (pc := 9) hA flX5_11 dX5_become_9 ?_
        refine g_iload_n (q := 0) (pc := 12) dX5_become_12 rfl rfl ?_
        refine g_aload_n (q := 2) (pc := 13) dX5_become_13 rfl rfl ?_
        refine gc_get_MA_cells (pc := 14) hA flX5_11 dX5_become_14 ?_
        refine g_iload_n (q := 0) (pc := 17) dX5_become_17 rfl rfl ?_
        refine gc_ld_rA (pc := 18) (c := i) hA (by omega) dX5_become_18 ?_
        refine gc_st_rC (pc := 19) (c := i) (a := rA i) (q := kA i) (f := fA i) hA (by omega) (hmA i (by omega)) dX5_become_19 ?_
        refine g_iinc (q := 0) (lv' := [(2, .int (nI (i + 1))), (0, .ref (cd 3)), (1, .ref (cd 1))]) (pc := 20) dX5_become_20 rfl (nI_inc _ _) (by decide) rfl ?_
        refine g_goto (tgt := 2) (pc := 23) dX5_become_23 (by decide) ?_
        refine G.locals (L' := [(2, .int (nI (i + 1))), (0, .ref (cd 3)), (1, .ref (cd 1))]) [0, 1, 2] rfl ?_
        exact ih2 (i + 1) (updN hh i (rA i)) (by omega) (by omega) (cpN heq)
  refine G.locals (L' := [(2, .int (nI 0)), (0, .ref (cd 3)), (1, .ref (cd 1))]) [0, 1, 2] rfl ?_
  exact lp2 21 0 rC (by omega) (by decide) (fun j hj => absurd hj (Nat.not_lt_zero _))
set_option maxHeartbeats 8000000 in
theorem c_X5_become_AC  (hA : oC b0 cd V) (hmC : mo V rC kC fC9) : KE l D Z b0 yX5_become cX5_become 3 none rmX5_become [.ref (cd 1), .ref (cd 3)] (wC Z cd ik ugA ugB ugC rA pA tA rB pB tB rC pC tC cX lX oX nX sX zX cY lY oY nY sY zY tm cl KR SO SZ EL V) none (wC Z cd ik ugA ugB ugC rC pC tC rB pB tB rC pC tC cX lX oX nX sX zX cY lY oY nY sY zY tm cl KR SO SZ EL V) := by
  refine KE.of (by decide) (Nat.le_of_ble_eq_true rfl) (fun Po hPo => ?_)
  refine G.locals (L' := [(0, .ref (cd 1)), (1, .ref (cd 3))]) [0, 1] rfl ?_
  refine g_iconst (v := nI 0) (pc := 0) dX5_become_0 (by decide) ?_
  refine g_istore_n (lv' := [(2, .int (nI 0)), (0, .ref (cd 1)), (1, .ref (cd 3))]) (pc := 1) dX5_become_1 rfl (by decide) rfl ?_
  have lp2 : ∀ (d2 : Nat) (i : Nat) (hh : Nat → Nat), i + d2 = 21 → (i ≤ 20) → (∀ j, j < i → hh j = rC j) → G l D Z b0 rmX5_become RX5 cX5_become 3 (gE none "become") (gT D b0 Po rmX5_become.cells rmX5_become.slots) (wC Z cd ik ugA ugB ugC hh pA tA rB pB tB rC pC tC cX lX oX nX sX zX cY lY oY nY sY zY tm cl KR SO SZ EL V) [(2, .int (nI i)), (0, .ref (cd 1)), (1, .ref (cd 3))] 0 0 2 [] := by
    intro d2
    induction d2 with
    | zero =>
      intro i hh hd2 hiN heq
      exact absurd hd2 (by omega)
    | succ d2 ih2 =>
      intro i hh hd2 hiN heq
      refine g_iload_n (q := 0) (pc := 2) dX5_become_2 rfl rfl ?_
      refine g_bipush (v := nI 20) (pc := 3) dX5_become_3 (by decide) ?_
      refine g_icmp_ge_N (tgt := 26) (pc := 5) (by omega) (by omega) dX5_become_5 (by decide) (fun c1 => ?_) (fun c1 => ?_)
      · -- T c1
        refine gc_eq_rA (f' := rC) hA (fun j hj => heq j (by omega)) ?_
        refine g_iconst (v := nI 0) (pc := 26) dX5_become_26 (by decide) ?_
        refine g_istore_n (lv' := [(2, .int (nI 0)), (0, .ref (cd 1)), (1, .ref (cd 3))]) (pc := 27) dX5_become_27 rfl (by decide) rfl ?_
        have lp28 : ∀ (d28 : Nat) (i : Nat) (pp : Nat → Int32) (tt : Nat → Int32), i + d28 = 3 → (i ≤ 2) → (∀ j, j < i → pp j = pC j) → (∀ j, j < i → tt j = tC j) → G l D Z b0 rmX5_become RX5 cX5_become 3 (gE none "become") (gT D b0 Po rmX5_become.cells rmX5_become.slots) (wC Z cd ik ugA ugB ugC rC pp tt rB pB tB rC pC tC cX lX oX nX sX zX cY lY oY nY sY zY tm cl KR SO SZ EL V) [(2, .int (nI i)), (0, .ref (cd 1)), (1, .ref (cd 3))] 0 0 28 [] := by
          intro d28
          induction d28 with
          | zero =>
            intro i pp tt hd28 hiN hep het
            exact absurd hd28 (by omega)
          | succ d28 ih28 =>
            intro i pp tt hd28 hiN hep het
            refine g_iload_n (q := 0) (pc := 28) dX5_become_28 rfl rfl ?_
            refine g_iconst (v := nI 2) (pc := 29) dX5_become_29 (by decide) ?_
            refine g_icmp_ge_N (tgt := 63) (pc := 30) (by omega) (by omega) dX5_become_30 (by decide) (fun c2 => ?_) (fun c2 => ?_)
            · -- T c2
              refine gc_eq_pA (f' := pC) hA (fun j hj => hep j (by omega)) ?_
              refine gc_eq_tA (f' := tC) hA (fun j hj => het j (by omega)) ?_
              exact g_vret (pc := 63) (by decide) (by decide) (hPo) dX5_become_63
            · -- F c2
              refine g_aload_n (q := 1) (pc := 33) dX5_become_33 rfl rfl ?_
              refine gc_get_MA_places (pc := 34) hA flX5_17 dX5_become_34 ?_
              refine g_iload_n (q := 0) (pc := 37) dX5_become_37 rfl rfl ?_
              refine g_aload_n (q := 2) (pc := 38) dX5_become_38 rfl rfl ?_
              refine gc_get_MC_places (pc := 39) hA flX5_17 dX5_become_39 ?_
              refine g_iload_n (q := 0) (pc := 42) dX5_become_42 rfl rfl ?_
              refine gc_ld_pC (pc := 43) (j := i) (x := pC i) hA (by omega) rfl dX5_become_43 ?_
              refine gc_st_pA (pc := 44) (j := i) (f' := (upd pp i (pC i))) hA (by omega) rfl dX5_become_44 ?_
              refine g_aload_n (q := 1) (pc := 45) dX5_become_45 rfl rfl ?_
              refine gc_get_MA_hours (pc := 46) hA flX5_21 dX5_become_46 ?_
              refine g_iload_n (q := 0) (pc := 49) dX5_become_49 rfl rfl ?_
              refine g_aload_n (q := 2) (pc := 50) dX5_become_50 rfl rfl ?_
              refine gc_get_MC_hours (pc := 51) hA flX5_21 dX5_become_51 ?_
              refine g_iload_n (q := 0) (pc := 54) dX5_become_54 rfl rfl ?_
              refine gc_ld_tC (pc := 55) (j := i) (x := tC i) hA (by omega) rfl dX5_become_55 ?_
              refine gc_st_tA (pc := 56) (j := i) (f' := (upd tt i (tC i))) hA (by omega) rfl dX5_become_56 ?_
              refine g_iinc (q := 0) (lv' := [(2, .int (nI (i + 1))), (0, .ref (cd 1)), (1, .ref (cd 3))]) (pc := 57) dX5_become_57 rfl (nI_inc _ _) (by decide) rfl ?_
              refine g_goto (tgt := 28) (pc := 60) dX5_become_60 (by decide) ?_
              refine G.locals (L' := [(2, .int (nI (i + 1))), (0, .ref (cd 1)), (1, .ref (cd 3))]) [0, 1, 2] rfl ?_
              exact ih28 (i + 1) (upd pp i (pC i)) (upd tt i (tC i)) (by omega) (by omega) (cpI hep) (cpI het)
        refine G.locals (L' := [(2, .int (nI 0)), (0, .ref (cd 1)), (1, .ref (cd 3))]) [0, 1, 2] rfl ?_
        exact lp28 3 0 pA tA (by omega) (by decide) (fun j hj => absurd hj (Nat.not_lt_zero _)) (fun j hj => absurd hj (Nat.not_lt_zero _))
      · -- F c1
        refine g_aload_n (q := 1) (pc := 8) dX5_become_8 rfl rfl ?_
        refine gc_get_MA_cells (pc := 9) hA flX5_11 dX5_become_9 ?_
        refine g_iload_n (q := 0) (pc := 12) dX5_become_12 rfl rfl ?_
        refine g_aload_n (q := 2) (pc := 13) dX5_become_13 rfl rfl ?_
        refine gc_get_MC_cells (pc := 14) hA flX5_11 dX5_become_14 ?_
        refine g_iload_n (q := 0) (pc := 17) dX5_become_17 rfl rfl ?_
        refine gc_ld_rC (pc := 18) (c := i) hA (by omega) dX5_become_18 ?_
        refine gc_st_rA (pc := 19) (c := i) (a := rC i) (q := kC i) (f := fC9 i) hA (by omega) (hmC i (by omega)) dX5_become_19 ?_
        refine g_iinc (q := 0) (lv' := [(2, .int (nI (i + 1))), (0, .ref (cd 1)), (1, .ref (cd 3))]) (pc := 20) dX5_become_20 rfl (nI_inc _ _) (by decide) rfl ?_
        refine g_goto (tgt := 2) (pc := 23) dX5_become_23 (by decide) ?_
        refine G.locals (L' := [(2, .int (nI (i + 1))), (0, .ref (cd 1)), (1, .ref (cd 3))]) [0, 1, 2] rfl ?_
        exact ih2 (i + 1) (updN hh i (rC i)) (by omega) (by omega) (cpN heq)
  refine G.locals (L' := [(2, .int (nI 0)), (0, .ref (cd 1)), (1, .ref (cd 3))]) [0, 1, 2] rfl ?_
  exact lp2 21 0 rA (by omega) (by decide) (fun j hj => absurd hj (Nat.not_lt_zero _))
def rmX5_advance : Room := { frames := 3, cells := 0, slots := 0, locals := 60 }
set_option maxHeartbeats 8000000 in
theorem c_X5_advance_A_s {g s1 t : Nat} (hA : oC b0 cd V) (hmA : mo V rA kA fA) (hdA : Rk V ugA 7 0) (hp : plA g < 20) (hg : g < 2) (hs : s1 < 4) (h : nbo (plA g) s1 = some t) : KE l D Z b0 yX5_advance cX5_advance 5 (some .int) rmX5_advance [.ref (cd 1), .int (nI g), .int (nI s1)] (wC Z cd ik ugA ugB ugC rA (nf plA) tA rB pB tB rC pC tC cX lX oX nX sX zX cY lY oY nY sY zY tm cl KR SO SZ EL V) (some (.int (nI (toilN (kA t) (fA t))))) (wC Z cd ik ugA ugB ugC (updN rA t ugA) (nf (updN plA g t)) (upd tA g (tA g + nI (toilN (kA t) (fA t)))) rB pB tB rC pC tC cX lX oX nX sX zX cY lY oY nY sY zY tm cl KR SO SZ EL V) := by
  refine KE.of (by decide) (Nat.le_of_ble_eq_true rfl) (fun Po hPo => ?_)
  refine G.locals (L' := [(0, .ref (cd 1)), (1, .int (nI g)), (2, .int (nI s1))]) [0, 1, 2] rfl ?_
  refine g_aload_n (q := 0) (pc := 0) dX5_advance_0 rfl rfl ?_
  refine gc_get_MA_places (pc := 1) hA flX5_17 dX5_advance_1 ?_
  refine g_iload_n (q := 1) (pc := 4) dX5_advance_4 rfl rfl ?_
  refine gc_ld_pA (pc := 5) (j := g) (x := nI (plA g)) hA (by omega) rfl dX5_advance_5 ?_
  refine g_iload_n (q := 2) (pc := 6) dX5_advance_6 rfl rfl ?_
  have tl := nbo_lt (c := (plA g)) (by omega) h
  refine e_callSN (k2 := 0) (n2 := 0) (As := [.int (nI (plA g)), .int (nI s1)]) (rest := []) (pc := 7) (host := RX11) (c_X11_neighbour_s (by omega) (by omega) h) (fun _ h => h.2.2.1) mX11_neighbour ⟨Nat.le_of_ble_eq_true rfl, Nat.le_of_ble_eq_true rfl⟩ rfl rfl (Nat.le_of_ble_eq_true rfl) dX5_advance_7 (by decide) rfl rfl ?_
  refine g_istore_n (lv' := [(3, .int (nI t)), (0, .ref (cd 1)), (1, .int (nI g)), (2, .int (nI s1))]) (pc := 10) dX5_advance_10 rfl (by decide) rfl ?_
  refine g_iload_n (q := 0) (pc := 11) dX5_advance_11 rfl rfl ?_
  refine g_iconst (v := (-1)) (pc := 12) dX5_advance_12 (by decide) ?_
  refine g_icmp_ne (tgt := 18) (pc := 13) dX5_advance_13 (by decide) (fun c1 => ?_) (fun c1 => ?_)
  · -- T c1
    refine g_aload_n (q := 1) (pc := 18) dX5_advance_18 rfl rfl ?_
    refine gc_get_MA_cells (pc := 19) hA flX5_11 dX5_advance_19 ?_
    refine g_iload_n (q := 0) (pc := 22) dX5_advance_22 rfl rfl ?_
    refine gc_ld_rA (pc := 23) (c := t) hA (by omega) dX5_advance_23 ?_
    refine g_rk_toil (pc := 24) (q := kA t) (f := fA t) (wC_rk hA (hmA t (by omega))) mlX5_38 ⟨Nat.le_of_ble_eq_true rfl, Nat.le_of_ble_eq_true rfl⟩ (Nat.le_of_ble_eq_true rfl) dX5_advance_24 ⟨Nat.zero_le _, Nat.zero_le _⟩ ?_
    refine g_istore (lv' := [(4, .int (nI (toilN (kA t) (fA t)))), (3, .int (nI t)), (0, .ref (cd 1)), (1, .int (nI g)), (2, .int (nI s1))]) (pc := 27) dX5_advance_27 (by decide) rfl ?_
    refine g_aload_n (q := 2) (pc := 29) dX5_advance_29 rfl rfl ?_
    refine gc_get_MA_places (pc := 30) hA flX5_17 dX5_advance_30 ?_
    refine g_iload_n (q := 3) (pc := 33) dX5_advance_33 rfl rfl ?_
    refine g_iload_n (q := 1) (pc := 34) dX5_advance_34 rfl rfl ?_
    refine gc_st_pA (pc := 35) (j := g) (f' := (nf (updN plA g t))) hA (by omega) (upd_nf _ _ _) dX5_advance_35 ?_
    refine g_aload_n (q := 2) (pc := 36) dX5_advance_36 rfl rfl ?_
    refine gc_get_MA_hours (pc := 37) hA flX5_21 dX5_advance_37 ?_
    refine g_iload_n (q := 3) (pc := 40) dX5_advance_40 rfl rfl ?_
    refine g_dup2_11 (pc := 41) dX5_advance_41 rfl rfl ?_
    refine gc_ld_tA (pc := 42) (j := g) (x := tA g) hA (by omega) rfl dX5_advance_42 ?_
    refine g_iload (q := 0) (pc := 43) dX5_advance_43 rfl ?_
    refine g_iadd (pc := 45) dX5_advance_45 ?_
    refine gc_st_tA (pc := 46) (j := g) (f' := (upd tA g ((tA g) + (nI (toilN (kA t) (fA t)))))) hA (by omega) rfl dX5_advance_46 ?_
    refine g_aload_n (q := 2) (pc := 47) dX5_advance_47 rfl rfl ?_
    refine gc_get_MA_cells (pc := 48) hA flX5_11 dX5_advance_48 ?_
    refine g_iload_n (q := 1) (pc := 51) dX5_advance_51 rfl rfl ?_
    refine g_aload_n (q := 2) (pc := 52) dX5_advance_52 rfl rfl ?_
    refine gc_get_MA_dug (pc := 53) hA flX5_29 dX5_advance_53 ?_
    refine gc_st_rA (pc := 56) (c := t) (a := ugA) (q := 7) (f := 0) hA (by omega) hdA dX5_advance_56 ?_
    refine g_iload (q := 0) (pc := 57) dX5_advance_57 rfl ?_
    exact g_iret (pc := 59) (by decide) (by decide) (hPo) dX5_advance_59
  · -- F c1
    exact absurd c1 (nI_m1 (by omega))
set_option maxHeartbeats 8000000 in
theorem c_X5_advance_A_n {g s1 : Nat} (hA : oC b0 cd V) (hmA : mo V rA kA fA) (hdA : Rk V ugA 7 0) (hp : plA g < 20) (hg : g < 2) (hs : s1 < 4) (h : nbo (plA g) s1 = none) : KE l D Z b0 yX5_advance cX5_advance 5 (some .int) rmX5_advance [.ref (cd 1), .int (nI g), .int (nI s1)] (wC Z cd ik ugA ugB ugC rA (nf plA) tA rB pB tB rC pC tC cX lX oX nX sX zX cY lY oY nY sY zY tm cl KR SO SZ EL V) (some (.int (-1))) (wC Z cd ik ugA ugB ugC rA (nf plA) tA rB pB tB rC pC tC cX lX oX nX sX zX cY lY oY nY sY zY tm cl KR SO SZ EL V) := by
  refine KE.of (by decide) (Nat.le_of_ble_eq_true rfl) (fun Po hPo => ?_)
  refine G.locals (L' := [(0, .ref (cd 1)), (1, .int (nI g)), (2, .int (nI s1))]) [0, 1, 2] rfl ?_
  refine g_aload_n (q := 0) (pc := 0) dX5_advance_0 rfl rfl ?_
  refine gc_get_MA_places (pc := 1) hA flX5_17 dX5_advance_1 ?_
  refine g_iload_n (q := 1) (pc := 4) dX5_advance_4 rfl rfl ?_
  refine gc_ld_pA (pc := 5) (j := g) (x := nI (plA g)) hA (by omega) rfl dX5_advance_5 ?_
  refine g_iload_n (q := 2) (pc := 6) dX5_advance_6 rfl rfl ?_
  refine e_callSN (k2 := 0) (n2 := 0) (As := [.int (nI (plA g)), .int (nI s1)]) (rest := []) (pc := 7) (host := RX11) (c_X11_neighbour_n (t := 0) (by omega) (by omega) h) (fun _ h => h.2.2.1) mX11_neighbour ⟨Nat.le_of_ble_eq_true rfl, Nat.le_of_ble_eq_true rfl⟩ rfl rfl (Nat.le_of_ble_eq_true rfl) dX5_advance_7 (by decide) rfl rfl ?_
  refine g_istore_n (lv' := [(3, .int (-1)), (0, .ref (cd 1)), (1, .int (nI g)), (2, .int (nI s1))]) (pc := 10) dX5_advance_10 rfl (by decide) rfl ?_
  refine g_iload_n (q := 0) (pc := 11) dX5_advance_11 rfl rfl ?_
  refine g_iconst (v := (-1)) (pc := 12) dX5_advance_12 (by decide) ?_
  refine g_icmp_ne (tgt := 18) (pc := 13) dX5_advance_13 (by decide) (fun c1 => ?_) (fun c1 => ?_)
  · -- T c1
    exact absurd rfl c1
  · -- F c1
    refine g_iconst (v := (-1)) (pc := 16) dX5_advance_16 (by decide) ?_
    exact g_iret (pc := 17) (by decide) (by decide) (hPo) dX5_advance_17
set_option maxHeartbeats 8000000 in
theorem c_X5_advance_A_o {g : Nat} {s1 : Int32} (hA : oC b0 cd V) (hmA : mo V rA kA fA) (hdA : Rk V ugA 7 0) (hp : plA g < 20) (hg : g < 2) (hs : inR s1 4 = false) : KE l D Z b0 yX5_advance cX5_advance 5 (some .int) rmX5_advance [.ref (cd 1), .int (nI g), .int s1] (wC Z cd ik ugA ugB ugC rA (nf plA) tA rB pB tB rC pC tC cX lX oX nX sX zX cY lY oY nY sY zY tm cl KR SO SZ EL V) (some (.int (-1))) (wC Z cd ik ugA ugB ugC rA (nf plA) tA rB pB tB rC pC tC cX lX oX nX sX zX cY lY oY nY sY zY tm cl KR SO SZ EL V) := by
  refine KE.of (by decide) (Nat.le_of_ble_eq_true rfl) (fun Po hPo => ?_)
  refine G.locals (L' := [(0, .ref (cd 1)), (1, .int (nI g)), (2, .int s1)]) [0, 1, 2] rfl ?_
  refine g_aload_n (q := 0) (pc := 0) dX5_advance_0 rfl rfl ?_
  refine gc_get_MA_places (pc := 1) hA flX5_17 dX5_advance_1 ?_
  refine g_iload_n (q := 1) (pc := 4) dX5_advance_4 rfl rfl ?_
  refine gc_ld_pA (pc := 5) (j := g) (x := nI (plA g)) hA (by omega) rfl dX5_advance_5 ?_
  refine g_iload_n (q := 2) (pc := 6) dX5_advance_6 rfl rfl ?_
  refine e_callSN (k2 := 0) (n2 := 0) (As := [.int (nI (plA g)), .int s1]) (rest := []) (pc := 7) (host := RX11) (c_X11_neighbour_o (by omega) hs) (fun _ h => h.2.2.1) mX11_neighbour ⟨Nat.le_of_ble_eq_true rfl, Nat.le_of_ble_eq_true rfl⟩ rfl rfl (Nat.le_of_ble_eq_true rfl) dX5_advance_7 (by decide) rfl rfl ?_
  refine g_istore_n (lv' := [(3, .int (-1)), (0, .ref (cd 1)), (1, .int (nI g)), (2, .int s1)]) (pc := 10) dX5_advance_10 rfl (by decide) rfl ?_
  refine g_iload_n (q := 0) (pc := 11) dX5_advance_11 rfl rfl ?_
  refine g_iconst (v := (-1)) (pc := 12) dX5_advance_12 (by decide) ?_
  refine g_icmp_ne (tgt := 18) (pc := 13) dX5_advance_13 (by decide) (fun c1 => ?_) (fun c1 => ?_)
  · -- T c1
    exact absurd rfl c1
  · -- F c1
    refine g_iconst (v := (-1)) (pc := 16) dX5_advance_16 (by decide) ?_
    exact g_iret (pc := 17) (by decide) (by decide) (hPo) dX5_advance_17
set_option maxHeartbeats 8000000 in
theorem c_X5_advance_B_s {g s1 t : Nat} (hA : oC b0 cd V) (hmB : mo V rB kB fB) (hdB : Rk V ugB 7 0) (hp : plB g < 20) (hg : g < 2) (hs : s1 < 4) (h : nbo (plB g) s1 = some t) : KE l D Z b0 yX5_advance cX5_advance 5 (some .int) rmX5_advance [.ref (cd 2), .int (nI g), .int (nI s1)] (wC Z cd ik ugA ugB ugC rA pA tA rB (nf plB) tB rC pC tC cX lX oX nX sX zX cY lY oY nY sY zY tm cl KR SO SZ EL V) (some (.int (nI (toilN (kB t) (fB t))))) (wC Z cd ik ugA ugB ugC rA pA tA (updN rB t ugB) (nf (updN plB g t)) (upd tB g (tB g + nI (toilN (kB t) (fB t)))) rC pC tC cX lX oX nX sX zX cY lY oY nY sY zY tm cl KR SO SZ EL V) := by
  refine KE.of (by decide) (Nat.le_of_ble_eq_true rfl) (fun Po hPo => ?_)
  refine G.locals (L' := [(0, .ref (cd 2)), (1, .int (nI g)), (2, .int (nI s1))]) [0, 1, 2] rfl ?_
  refine g_aload_n (q := 0) (pc := 0) dX5_advance_0 rfl rfl ?_
  refine gc_get_MB_places (pc := 1) hA flX5_17 dX5_advance_1 ?_
  refine g_iload_n (q := 1) (pc := 4) dX5_advance_4 rfl rfl ?_
  refine gc_ld_pB (pc := 5) (j := g) (x := nI (plB g)) hA (by omega) rfl dX5_advance_5 ?_
  refine g_iload_n (q := 2) (pc := 6) dX5_advance_6 rfl rfl ?_
  have tl := nbo_lt (c := (plB g)) (by omega) h
  refine e_callSN (k2 := 0) (n2 := 0) (As := [.int (nI (plB g)), .int (nI s1)]) (rest := []) (pc := 7) (host := RX11) (c_X11_neighbour_s (by omega) (by omega) h) (fun _ h => h.2.2.1) mX11_neighbour ⟨Nat.le_of_ble_eq_true rfl, Nat.le_of_ble_eq_true rfl⟩ rfl rfl (Nat.le_of_ble_eq_true rfl) dX5_advance_7 (by decide) rfl rfl ?_
  refine g_istore_n (lv' := [(3, .int (nI t)), (0, .ref (cd 2)), (1, .int (nI g)), (2, .int (nI s1))]) (pc := 10) dX5_advance_10 rfl (by decide) rfl ?_
  refine g_iload_n (q := 0) (pc := 11) dX5_advance_11 rfl rfl ?_
  refine g_iconst (v := (-1)) (pc := 12) dX5_advance_12 (by decide) ?_
  refine g_icmp_ne (tgt := 18) (pc := 13) dX5_advance_13 (by decide) (fun c1 => ?_) (fun c1 => ?_)
  · -- T c1
    refine g_aload_n (q := 1) (pc := 18) dX5_advance_18 rfl rfl ?_
    refine gc_get_MB_cells (pc := 19) hA flX5_11 dX5_advance_19 ?_
    refine g_iload_n (q := 0) (pc := 22) dX5_advance_22 rfl rfl ?_
    refine gc_ld_rB (pc := 23) (c := t) hA (by omega) dX5_advance_23 ?_
    refine g_rk_toil (pc := 24) (q := kB t) (f := fB t) (wC_rk hA (hmB t (by omega))) mlX5_38 ⟨Nat.le_of_ble_eq_true rfl, Nat.le_of_ble_eq_true rfl⟩ (Nat.le_of_ble_eq_true rfl) dX5_advance_24 ⟨Nat.zero_le _, Nat.zero_le _⟩ ?_
    refine g_istore (lv' := [(4, .int (nI (toilN (kB t) (fB t)))), (3, .int (nI t)), (0, .ref (cd 2)), (1, .int (nI g)), (2, .int (nI s1))]) (pc := 27) dX5_advance_27 (by decide) rfl ?_
    refine g_aload_n (q := 2) (pc := 29) dX5_advance_29 rfl rfl ?_
    refine gc_get_MB_places (pc := 30) hA flX5_17 dX5_advance_30 ?_
    refine g_iload_n (q := 3) (pc := 33) dX5_advance_33 rfl rfl ?_
    refine g_iload_n (q := 1) (pc := 34) dX5_advance_34 rfl rfl ?_
    refine gc_st_pB (pc := 35) (j := g) (f' := (nf (updN plB g t))) hA (by omega) (upd_nf _ _ _) dX5_advance_35 ?_
    refine g_aload_n (q := 2) (pc := 36) dX5_advance_36 rfl rfl ?_
    refine gc_get_MB_hours (pc := 37) hA flX5_21 dX5_advance_37 ?_
    refine g_iload_n (q := 3) (pc := 40) dX5_advance_40 rfl rfl ?_
    refine g_dup2_11 (pc := 41) dX5_advance_41 rfl rfl ?_
    refine gc_ld_tB (pc := 42) (j := g) (x := tB g) hA (by omega) rfl dX5_advance_42 ?_
    refine g_iload (q := 0) (pc := 43) dX5_advance_43 rfl ?_
    refine g_iadd (pc := 45) dX5_advance_45 ?_
    refine gc_st_tB (pc := 46) (j := g) (f' := (upd tB g ((tB g) + (nI (toilN (kB t) (fB t)))))) hA (by omega) rfl dX5_advance_46 ?_
    refine g_aload_n (q := 2) (pc := 47) dX5_advance_47 rfl rfl ?_
    refine gc_get_MB_cells (pc := 48) hA flX5_11 dX5_advance_48 ?_
    refine g_iload_n (q := 1) (pc := 51) dX5_advance_51 rfl rfl ?_
    refine g_aload_n (q := 2) (pc := 52) dX5_advance_52 rfl rfl ?_
    refine gc_get_MB_dug (pc := 53) hA flX5_29 dX5_advance_53 ?_
    refine gc_st_rB (pc := 56) (c := t) (a := ugB) (q := 7) (f := 0) hA (by omega) hdB dX5_advance_56 ?_
    refine g_iload (q := 0) (pc := 57) dX5_advance_57 rfl ?_
    exact g_iret (pc := 59) (by decide) (by decide) (hPo) dX5_advance_59
  · -- F c1
    exact absurd c1 (nI_m1 (by omega))
set_option maxHeartbeats 8000000 in
theorem c_X5_advance_B_n {g s1 : Nat} (hA : oC b0 cd V) (hmB : mo V rB kB fB) (hdB : Rk V ugB 7 0) (hp : plB g < 20) (hg : g < 2) (hs : s1 < 4) (h : nbo (plB g) s1 = none) : KE l D Z b0 yX5_advance cX5_advance 5 (some .int) rmX5_advance [.ref (cd 2), .int (nI g), .int (nI s1)] (wC Z cd ik ugA ugB ugC rA pA tA rB (nf plB) tB rC pC tC cX lX oX nX sX zX cY lY oY nY sY zY tm cl KR SO SZ EL V) (some (.int (-1))) (wC Z cd ik ugA ugB ugC rA pA tA rB (nf plB) tB rC pC tC cX lX oX nX sX zX cY lY oY nY sY zY tm cl KR SO SZ EL V) := by
  refine KE.of (by decide) (Nat.le_of_ble_eq_true rfl) (fun Po hPo => ?_)
  refine G.locals (L' := [(0, .ref (cd 2)), (1, .int (nI g)), (2, .int (nI s1))]) [0, 1, 2] rfl ?_
  refine g_aload_n (q := 0) (pc := 0) dX5_advance_0 rfl rfl ?_
  refine gc_get_MB_places (pc := 1) hA flX5_17 dX5_advance_1 ?_
  refine g_iload_n (q := 1) (pc := 4) dX5_advance_4 rfl rfl ?_
  refine gc_ld_pB (pc := 5) (j := g) (x := nI (plB g)) hA (by omega) rfl dX5_advance_5 ?_
  refine g_iload_n (q := 2) (pc := 6) dX5_advance_6 rfl rfl ?_
  refine e_callSN (k2 := 0) (n2 := 0) (As := [.int (nI (plB g)), .int (nI s1)]) (rest := []) (pc := 7) (host := RX11) (c_X11_neighbour_n (t := 0) (by omega) (by omega) h) (fun _ h => h.2.2.1) mX11_neighbour ⟨Nat.le_of_ble_eq_true rfl, Nat.le_of_ble_eq_true rfl⟩ rfl rfl (Nat.le_of_ble_eq_true rfl) dX5_advance_7 (by decide) rfl rfl ?_
  refine g_istore_n (lv' := [(3, .int (-1)), (0, .ref (cd 2)), (1, .int (nI g)), (2, .int (nI s1))]) (pc := 10) dX5_advance_10 rfl (by decide) rfl ?_
  refine g_iload_n (q := 0) (pc := 11) dX5_advance_11 rfl rfl ?_
  refine g_iconst (v := (-1)) (pc := 12) dX5_advance_12 (by decide) ?_
  refine g_icmp_ne (tgt := 18) (pc := 13) dX5_advance_13 (by decide) (fun c1 => ?_) (fun c1 => ?_)
  · -- T c1
    exact absurd rfl c1
  · -- F c1
    refine g_iconst (v := (-1)) (pc := 16) dX5_advance_16 (by decide) ?_
    exact g_iret (pc := 17) (by decide) (by decide) (hPo) dX5_advance_17
set_option maxHeartbeats 8000000 in
theorem c_X5_advance_B_o {g : Nat} {s1 : Int32} (hA : oC b0 cd V) (hmB : mo V rB kB fB) (hdB : Rk V ugB 7 0) (hp : plB g < 20) (hg : g < 2) (hs : inR s1 4 = false) : KE l D Z b0 yX5_advance cX5_advance 5 (some .int) rmX5_advance [.ref (cd 2), .int (nI g), .int s1] (wC Z cd ik ugA ugB ugC rA pA tA rB (nf plB) tB rC pC tC cX lX oX nX sX zX cY lY oY nY sY zY tm cl KR SO SZ EL V) (some (.int (-1))) (wC Z cd ik ugA ugB ugC rA pA tA rB (nf plB) tB rC pC tC cX lX oX nX sX zX cY lY oY nY sY zY tm cl KR SO SZ EL V) := by
  refine KE.of (by decide) (Nat.le_of_ble_eq_true rfl) (fun Po hPo => ?_)
  refine G.locals (L' := [(0, .ref (cd 2)), (1, .int (nI g)), (2, .int s1)]) [0, 1, 2] rfl ?_
  refine g_aload_n (q := 0) (pc := 0) dX5_advance_0 rfl rfl ?_
  refine gc_get_MB_places (pc := 1) hA flX5_17 dX5_advance_1 ?_
  refine g_iload_n (q := 1) (pc := 4) dX5_advance_4 rfl rfl ?_
  refine gc_ld_pB (pc := 5) (j := g) (x := nI (plB g)) hA (by omega) rfl dX5_advance_5 ?_
  refine g_iload_n (q := 2) (pc := 6) dX5_advance_6 rfl rfl ?_
  refine e_callSN (k2 := 0) (n2 := 0) (As := [.int (nI (plB g)), .int s1]) (rest := []) (pc := 7) (host := RX11) (c_X11_neighbour_o (by omega) hs) (fun _ h => h.2.2.1) mX11_neighbour ⟨Nat.le_of_ble_eq_true rfl, Nat.le_of_ble_eq_true rfl⟩ rfl rfl (Nat.le_of_ble_eq_true rfl) dX5_advance_7 (by decide) rfl rfl ?_
  refine g_istore_n (lv' := [(3, .int (-1)), (0, .ref (cd 2)), (1, .int (nI g)), (2, .int s1)]) (pc := 10) dX5_advance_10 rfl (by decide) rfl ?_
  refine g_iload_n (q := 0) (pc := 11) dX5_advance_11 rfl rfl ?_
  refine g_iconst (v := (-1)) (pc := 12) dX5_advance_12 (by decide) ?_
  refine g_icmp_ne (tgt := 18) (pc := 13) dX5_advance_13 (by decide) (fun c1 => ?_) (fun c1 => ?_)
  · -- T c1
    exact absurd rfl c1
  · -- F c1
    refine g_iconst (v := (-1)) (pc := 16) dX5_advance_16 (by decide) ?_
    exact g_iret (pc := 17) (by decide) (by decide) (hPo) dX5_advance_17
def rmX5_gangsMet : Room := { frames := 1, cells := 0, slots := 0, locals := 23 }
set_option maxHeartbeats 8000000 in
theorem c_X5_gangsMet_A  (hA : oC b0 cd V) (h0 : plA 0 < 20) (h1 : plA 1 < 20) : KE l D Z b0 yX5_gangsMet cX5_gangsMet 2 (some .boolean) rmX5_gangsMet [.ref (cd 1)] (wC Z cd ik ugA ugB ugC rA (nf plA) tA rB pB tB rC pC tC cX lX oX nX sX zX cY lY oY nY sY zY tm cl KR SO SZ EL V) (some (.int (bI (metB (plA 0) (plA 1))))) (wC Z cd ik ugA ugB ugC rA (nf plA) tA rB pB tB rC pC tC cX lX oX nX sX zX cY lY oY nY sY zY tm cl KR SO SZ EL V) := by
  refine KE.of (by decide) (Nat.le_of_ble_eq_true rfl) (fun Po hPo => ?_)
  refine G.locals (L' := [(0, .ref (cd 1))]) [0] rfl ?_
  refine g_aload_n (q := 0) (pc := 0) dX5_gangsMet_0 rfl rfl ?_
  refine gc_get_MA_places (pc := 1) hA flX5_17 dX5_gangsMet_1 ?_
  refine g_iconst (v := nI 0) (pc := 4) dX5_gangsMet_4 (by decide) ?_
  refine gc_ld_pA (pc := 5) (j := 0) (x := nI (plA 0)) hA (by omega) rfl dX5_gangsMet_5 ?_
  refine g_aload_n (q := 0) (pc := 6) dX5_gangsMet_6 rfl rfl ?_
  refine gc_get_MA_places (pc := 7) hA flX5_17 dX5_gangsMet_7 ?_
  refine g_iconst (v := nI 1) (pc := 10) dX5_gangsMet_10 (by decide) ?_
  refine gc_ld_pA (pc := 11) (j := 1) (x := nI (plA 1)) hA (by omega) rfl dX5_gangsMet_11 ?_
  refine g_icmp_ne_N (tgt := 17) (pc := 12) (by omega) (by omega) dX5_gangsMet_12 (by decide) (fun c1 => ?_) (fun c1 => ?_)
  · -- T c1
    refine g_iconst (v := nI 0) (pc := 17) dX5_gangsMet_17 (by decide) ?_
    refine g_istore_n (lv' := [(1, .int (nI 0)), (0, .ref (cd 1))]) (pc := 18) dX5_gangsMet_18 rfl (by decide) rfl ?_
    have lp19 : ∀ (d19 : Nat) (i : Nat), i + d19 = 5 → (i ≤ 4) → (mB (plA 0) (plA 1) i = false) → G l D Z b0 rmX5_gangsMet RX5 cX5_gangsMet 2 (gE (some .boolean) "gangsMet") (gT D b0 Po rmX5_gangsMet.cells rmX5_gangsMet.slots) (wC Z cd ik ugA ugB ugC rA (nf plA) tA rB pB tB rC pC tC cX lX oX nX sX zX cY lY oY nY sY zY tm cl KR SO SZ EL V) [(1, .int (nI i)), (0, .ref (cd 1))] 0 0 19 [] := by
      intro d19
      induction d19 with
      | zero =>
        intro i hd19 hiN hm
        exact absurd hd19 (by omega)
      | succ d19 ih19 =>
        intro i hd19 hiN hm
        refine g_iload_n (q := 0) (pc := 19) dX5_gangsMet_19 rfl rfl ?_
        refine g_iconst (v := nI 4) (pc := 20) dX5_gangsMet_20 (by decide) ?_
        refine g_icmp_ge_N (tgt := 51) (pc := 21) (by omega) (by omega) dX5_gangsMet_21 (by decide) (fun c2 => ?_) (fun c2 => ?_)
        · -- T c2
          refine g_iconst (v := nI 0) (pc := 51) dX5_gangsMet_51 (by decide) ?_
          exact g_zret (pc := 52) (by decide) (by decide) (by decide) (eqI hPo (metB_n (by omega) (by omega) hm).symm) dX5_gangsMet_52
        · -- F c2
          refine g_aload_n (q := 1) (pc := 24) dX5_gangsMet_24 rfl rfl ?_
          refine gc_get_MA_places (pc := 25) hA flX5_17 dX5_gangsMet_25 ?_
          refine g_iconst (v := nI 0) (pc := 28) dX5_gangsMet_28 (by decide) ?_
          refine gc_ld_pA (pc := 29) (j := 0) (x := nI (plA 0)) hA (by omega) rfl dX5_gangsMet_29 ?_
          refine g_iload_n (q := 0) (pc := 30) dX5_gangsMet_30 rfl rfl ?_
          refine e_callSN (k2 := 0) (n2 := 0) (As := [.int (nI (plA 0)), .int (nI i)]) (rest := []) (pc := 31) (host := RX11) (c_X11_neighbour (by omega) (by omega)) (fun _ h => h.2.2.1) mX11_neighbour ⟨Nat.le_of_ble_eq_true rfl, Nat.le_of_ble_eq_true rfl⟩ rfl rfl (Nat.le_of_ble_eq_true rfl) dX5_gangsMet_31 (by decide) rfl rfl ?_
          refine g_aload_n (q := 1) (pc := 34) dX5_gangsMet_34 rfl rfl ?_
          refine gc_get_MA_places (pc := 35) hA flX5_17 dX5_gangsMet_35 ?_
          refine g_iconst (v := nI 1) (pc := 38) dX5_gangsMet_38 (by decide) ?_
          refine gc_ld_pA (pc := 39) (j := 1) (x := nI (plA 1)) hA (by omega) rfl dX5_gangsMet_39 ?_
          refine g_icmp_ne (tgt := 45) (pc := 40) dX5_gangsMet_40 (by decide) (fun c3 => ?_) (fun c3 => ?_)
          · -- T c3
            refine g_iinc (q := 0) (lv' := [(1, .int (nI (i + 1))), (0, .ref (cd 1))]) (pc := 45) dX5_gangsMet_45 rfl (nI_inc _ _) (by decide) rfl ?_
            refine g_goto (tgt := 19) (pc := 48) dX5_gangsMet_48 (by decide) ?_
            refine G.locals (L' := [(1, .int (nI (i + 1))), (0, .ref (cd 1))]) [0, 1] rfl ?_
            exact ih19 (i + 1) (by omega) (by omega) (mB_S h0 h1 hm (by assumption))
          · -- F c3
            refine g_iconst (v := nI 1) (pc := 43) dX5_gangsMet_43 (by decide) ?_
            exact g_zret (pc := 44) (by decide) (by decide) (by decide) (eqI hPo (metB_1 h0 h1 (by omega) (by assumption)).symm) dX5_gangsMet_44
    refine G.locals (L' := [(1, .int (nI 0)), (0, .ref (cd 1))]) [0, 1] rfl ?_
    exact lp19 5 0 (by omega) (by decide) (mB_start (by assumption))
  · -- F c1
    refine g_iconst (v := nI 1) (pc := 15) dX5_gangsMet_15 (by decide) ?_
    exact g_zret (pc := 16) (by decide) (by decide) (by decide) (eqI hPo (metB_0 (by assumption)).symm) dX5_gangsMet_16
set_option maxHeartbeats 8000000 in
theorem c_X5_gangsMet_B  (hA : oC b0 cd V) (h0 : plB 0 < 20) (h1 : plB 1 < 20) : KE l D Z b0 yX5_gangsMet cX5_gangsMet 2 (some .boolean) rmX5_gangsMet [.ref (cd 2)] (wC Z cd ik ugA ugB ugC rA pA tA rB (nf plB) tB rC pC tC cX lX oX nX sX zX cY lY oY nY sY zY tm cl KR SO SZ EL V) (some (.int (bI (metB (plB 0) (plB 1))))) (wC Z cd ik ugA ugB ugC rA pA tA rB (nf plB) tB rC pC tC cX lX oX nX sX zX cY lY oY nY sY zY tm cl KR SO SZ EL V) := by
  refine KE.of (by decide) (Nat.le_of_ble_eq_true rfl) (fun Po hPo => ?_)
  refine G.locals (L' := [(0, .ref (cd 2))]) [0] rfl ?_
  refine g_aload_n (q := 0) (pc := 0) dX5_gangsMet_0 rfl rfl ?_
  refine gc_get_MB_places (pc := 1) hA flX5_17 dX5_gangsMet_1 ?_
  refine g_iconst (v := nI 0) (pc := 4) dX5_gangsMet_4 (by decide) ?_
  refine gc_ld_pB (pc := 5) (j := 0) (x := nI (plB 0)) hA (by omega) rfl dX5_gangsMet_5 ?_
  refine g_aload_n (q := 0) (pc := 6) dX5_gangsMet_6 rfl rfl ?_
  refine gc_get_MB_places (pc := 7) hA flX5_17 dX5_gangsMet_7 ?_
  refine g_iconst (v := nI 1) (pc := 10) dX5_gangsMet_10 (by decide) ?_
  refine gc_ld_pB (pc := 11) (j := 1) (x := nI (plB 1)) hA (by omega) rfl dX5_gangsMet_11 ?_
  refine g_icmp_ne_N (tgt := 17) (pc := 12) (by omega) (by omega) dX5_gangsMet_12 (by decide) (fun c1 => ?_) (fun c1 => ?_)
  · -- T c1
    refine g_iconst (v := nI 0) (pc := 17) dX5_gangsMet_17 (by decide) ?_
    refine g_istore_n (lv' := [(1, .int (nI 0)), (0, .ref (cd 2))]) (pc := 18) dX5_gangsMet_18 rfl (by decide) rfl ?_
    have lp19 : ∀ (d19 : Nat) (i : Nat), i + d19 = 5 → (i ≤ 4) → (mB (plB 0) (plB 1) i = false) → G l D Z b0 rmX5_gangsMet RX5 cX5_gangsMet 2 (gE (some .boolean) "gangsMet") (gT D b0 Po rmX5_gangsMet.cells rmX5_gangsMet.slots) (wC Z cd ik ugA ugB ugC rA pA tA rB (nf plB) tB rC pC tC cX lX oX nX sX zX cY lY oY nY sY zY tm cl KR SO SZ EL V) [(1, .int (nI i)), (0, .ref (cd 2))] 0 0 19 [] := by
      intro d19
      induction d19 with
      | zero =>
        intro i hd19 hiN hm
        exact absurd hd19 (by omega)
      | succ d19 ih19 =>
        intro i hd19 hiN hm
        refine g_iload_n (q := 0) (pc := 19) dX5_gangsMet_19 rfl rfl ?_
        refine g_iconst (v := nI 4) (pc := 20) dX5_gangsMet_20 (by decide) ?_
        refine g_icmp_ge_N (tgt := 51) (pc := 21) (by omega) (by omega) dX5_gangsMet_21 (by decide) (fun c2 => ?_) (fun c2 => ?_)
        · -- T c2
          refine g_iconst (v := nI 0) (pc := 51) dX5_gangsMet_51 (by decide) ?_
          exact g_zret (pc := 52) (by decide) (by decide) (by decide) (eqI hPo (metB_n (by omega) (by omega) hm).symm) dX5_gangsMet_52
        · -- F c2
          refine g_aload_n (q := 1) (pc := 24) dX5_gangsMet_24 rfl rfl ?_
          refine gc_get_MB_places (pc := 25) hA flX5_17 dX5_gangsMet_25 ?_
          refine g_iconst (v := nI 0) (pc := 28) dX5_gangsMet_28 (by decide) ?_
          refine gc_ld_pB (pc := 29) (j := 0) (x := nI (plB 0)) hA (by omega) rfl dX5_gangsMet_29 ?_
          refine g_iload_n (q := 0) (pc := 30) dX5_gangsMet_30 rfl rfl ?_
          refine e_callSN (k2 := 0) (n2 := 0) (As := [.int (nI (plB 0)), .int (nI i)]) (rest := []) (pc := 31) (host := RX11) (c_X11_neighbour (by omega) (by omega)) (fun _ h => h.2.2.1) mX11_neighbour ⟨Nat.le_of_ble_eq_true rfl, Nat.le_of_ble_eq_true rfl⟩ rfl rfl (Nat.le_of_ble_eq_true rfl) dX5_gangsMet_31 (by decide) rfl rfl ?_
          refine g_aload_n (q := 1) (pc := 34) dX5_gangsMet_34 rfl rfl ?_
          refine gc_get_MB_places (pc := 35) hA flX5_17 dX5_gangsMet_35 ?_
          refine g_iconst (v := nI 1) (pc := 38) dX5_gangsMet_38 (by decide) ?_
          refine gc_ld_pB (pc := 39) (j := 1) (x := nI (plB 1)) hA (by omega) rfl dX5_gangsMet_39 ?_
          refine g_icmp_ne (tgt := 45) (pc := 40) dX5_gangsMet_40 (by decide) (fun c3 => ?_) (fun c3 => ?_)
          · -- T c3
            refine g_iinc (q := 0) (lv' := [(1, .int (nI (i + 1))), (0, .ref (cd 2))]) (pc := 45) dX5_gangsMet_45 rfl (nI_inc _ _) (by decide) rfl ?_
            refine g_goto (tgt := 19) (pc := 48) dX5_gangsMet_48 (by decide) ?_
            refine G.locals (L' := [(1, .int (nI (i + 1))), (0, .ref (cd 2))]) [0, 1] rfl ?_
            exact ih19 (i + 1) (by omega) (by omega) (mB_S h0 h1 hm (by assumption))
          · -- F c3
            refine g_iconst (v := nI 1) (pc := 43) dX5_gangsMet_43 (by decide) ?_
            exact g_zret (pc := 44) (by decide) (by decide) (by decide) (eqI hPo (metB_1 h0 h1 (by omega) (by assumption)).symm) dX5_gangsMet_44
    refine G.locals (L' := [(1, .int (nI 0)), (0, .ref (cd 2))]) [0, 1] rfl ?_
    exact lp19 5 0 (by omega) (by decide) (mB_start (by assumption))
  · -- F c1
    refine g_iconst (v := nI 1) (pc := 15) dX5_gangsMet_15 (by decide) ?_
    exact g_zret (pc := 16) (by decide) (by decide) (by decide) (eqI hPo (metB_0 (by assumption)).symm) dX5_gangsMet_16
def rmX5_allHours : Room := { frames := 0, cells := 0, slots := 0, locals := 0 }
set_option maxHeartbeats 8000000 in
theorem c_X5_allHours_A  (hA : oC b0 cd V) : KE l D Z b0 yX5_allHours cX5_allHours 1 (some .int) rmX5_allHours [.ref (cd 1)] (wC Z cd ik ugA ugB ugC rA pA tA rB pB tB rC pC tC cX lX oX nX sX zX cY lY oY nY sY zY tm cl KR SO SZ EL V) (some (.int (tA 0 + tA 1))) (wC Z cd ik ugA ugB ugC rA pA tA rB pB tB rC pC tC cX lX oX nX sX zX cY lY oY nY sY zY tm cl KR SO SZ EL V) := by
  refine KE.of (by decide) (Nat.le_of_ble_eq_true rfl) (fun Po hPo => ?_)
  refine G.locals (L' := [(0, .ref (cd 1))]) [0] rfl ?_
  refine g_aload_n (q := 0) (pc := 0) dX5_allHours_0 rfl rfl ?_
  refine gc_get_MA_hours (pc := 1) hA flX5_21 dX5_allHours_1 ?_
  refine g_iconst (v := nI 0) (pc := 4) dX5_allHours_4 (by decide) ?_
  refine gc_ld_tA (pc := 5) (j := 0) (x := tA 0) hA (by omega) rfl dX5_allHours_5 ?_
  refine g_aload_n (q := 0) (pc := 6) dX5_allHours_6 rfl rfl ?_
  refine gc_get_MA_hours (pc := 7) hA flX5_21 dX5_allHours_7 ?_
  refine g_iconst (v := nI 1) (pc := 10) dX5_allHours_10 (by decide) ?_
  refine gc_ld_tA (pc := 11) (j := 1) (x := tA 1) hA (by omega) rfl dX5_allHours_11 ?_
  refine g_iadd (pc := 12) dX5_allHours_12 ?_
  exact g_iret (pc := 13) (by decide) (by decide) (hPo) dX5_allHours_13
set_option maxHeartbeats 8000000 in
theorem c_X5_allHours_B  (hA : oC b0 cd V) : KE l D Z b0 yX5_allHours cX5_allHours 1 (some .int) rmX5_allHours [.ref (cd 2)] (wC Z cd ik ugA ugB ugC rA pA tA rB pB tB rC pC tC cX lX oX nX sX zX cY lY oY nY sY zY tm cl KR SO SZ EL V) (some (.int (tB 0 + tB 1))) (wC Z cd ik ugA ugB ugC rA pA tA rB pB tB rC pC tC cX lX oX nX sX zX cY lY oY nY sY zY tm cl KR SO SZ EL V) := by
  refine KE.of (by decide) (Nat.le_of_ble_eq_true rfl) (fun Po hPo => ?_)
  refine G.locals (L' := [(0, .ref (cd 2))]) [0] rfl ?_
  refine g_aload_n (q := 0) (pc := 0) dX5_allHours_0 rfl rfl ?_
  refine gc_get_MB_hours (pc := 1) hA flX5_21 dX5_allHours_1 ?_
  refine g_iconst (v := nI 0) (pc := 4) dX5_allHours_4 (by decide) ?_
  refine gc_ld_tB (pc := 5) (j := 0) (x := tB 0) hA (by omega) rfl dX5_allHours_5 ?_
  refine g_aload_n (q := 0) (pc := 6) dX5_allHours_6 rfl rfl ?_
  refine gc_get_MB_hours (pc := 7) hA flX5_21 dX5_allHours_7 ?_
  refine g_iconst (v := nI 1) (pc := 10) dX5_allHours_10 (by decide) ?_
  refine gc_ld_tB (pc := 11) (j := 1) (x := tB 1) hA (by omega) rfl dX5_allHours_11 ?_
  refine g_iadd (pc := 12) dX5_allHours_12 ?_
  exact g_iret (pc := 13) (by decide) (by decide) (hPo) dX5_allHours_13
set_option maxHeartbeats 8000000 in
theorem c_X5_allHours_C  (hA : oC b0 cd V) : KE l D Z b0 yX5_allHours cX5_allHours 1 (some .int) rmX5_allHours [.ref (cd 3)] (wC Z cd ik ugA ugB ugC rA pA tA rB pB tB rC pC tC cX lX oX nX sX zX cY lY oY nY sY zY tm cl KR SO SZ EL V) (some (.int (tC 0 + tC 1))) (wC Z cd ik ugA ugB ugC rA pA tA rB pB tB rC pC tC cX lX oX nX sX zX cY lY oY nY sY zY tm cl KR SO SZ EL V) := by
  refine KE.of (by decide) (Nat.le_of_ble_eq_true rfl) (fun Po hPo => ?_)
  refine G.locals (L' := [(0, .ref (cd 3))]) [0] rfl ?_
  refine g_aload_n (q := 0) (pc := 0) dX5_allHours_0 rfl rfl ?_
  refine gc_get_MC_hours (pc := 1) hA flX5_21 dX5_allHours_1 ?_
  refine g_iconst (v := nI 0) (pc := 4) dX5_allHours_4 (by decide) ?_
  refine gc_ld_tC (pc := 5) (j := 0) (x := tC 0) hA (by omega) rfl dX5_allHours_5 ?_
  refine g_aload_n (q := 0) (pc := 6) dX5_allHours_6 rfl rfl ?_
  refine gc_get_MC_hours (pc := 7) hA flX5_21 dX5_allHours_7 ?_
  refine g_iconst (v := nI 1) (pc := 10) dX5_allHours_10 (by decide) ?_
  refine gc_ld_tC (pc := 11) (j := 1) (x := tC 1) hA (by omega) rfl dX5_allHours_11 ?_
  refine g_iadd (pc := 12) dX5_allHours_12 ?_
  exact g_iret (pc := 13) (by decide) (by decide) (hPo) dX5_allHours_13
end MS
