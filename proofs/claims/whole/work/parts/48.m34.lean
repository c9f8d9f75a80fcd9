def wdI (x : Int32) : Int32 := if wdL x = 0 then (-1) else nI (wdL x)
theorem wdI_z {x : Int32} (h : wdL x = 0) : wdI x = (-1) := if_pos h
theorem wdI_s {x : Int32} (h : wdL x ≠ 0) : wdI x = nI (wdL x) := if_neg h
theorem wdI_m {x : Int32} : wdI x = (-1) ↔ wdL x = 0 := by
  by_cases h : wdL x = 0
  · exact ⟨fun _ => h, fun _ => wdI_z h⟩
  · rw [wdI_s h]; exact ⟨fun q => absurd q (nI_m1 (by have := wdL_le x; omega)), fun q => absurd q h⟩
def sdI (a : Nat) : Int32 := if a = 99 then (-1) else nI a
theorem sdI_n {a : Nat} (h : a ≠ 99) : sdI a = nI a := if_neg h
theorem sdI_9 {a : Nat} (h : sdI a = (-1)) (ha : a ≤ 4 ∨ a = 99) : a = 99 := by
  by_cases q : a = 99
  · exact q
  · rw [sdI_n q] at h; exact absurd h (nI_m1 (by omega))
theorem sdI_ne {a : Nat} (h : ¬ sdI a = (-1)) : a ≠ 99 := fun q => h (by rw [q]; rfl)
theorem inR_dig {x : Int32} : inR (x - nI 48) 10 = inB x 48 57 := by
  unfold inR inB
  refine decide_eq_decide.mpr ?_
  have h1 := Int32.toInt_lt x
  have h2 := Int32.le_toInt x
  rw [Int32.toInt_sub, nI_toInt (n := 48) (by omega)]
  have e : (x.toInt - (48 : Nat)).bmod (2 ^ 32) = x.toInt - 48 ∨ x.toInt < -2147483600 := by
    by_cases q : x.toInt < -2147483600
    · exact Or.inr q
    · left; rw [Int.bmod_eq_of_le_mul_two] <;> omega
  rcases e with e | e
  · rw [e]; omega
  · have e2 : (x.toInt - (48 : Nat)).bmod (2 ^ 32) = x.toInt - 48 + 4294967296 := by
      rw [← Int.add_bmod_right (x.toInt - (48 : Nat)) (2 ^ 32), Int.bmod_eq_of_le_mul_two] <;> omega
    by_cases q : x.toInt - 48 < -2147483648
    · rw [e2]; omega
    · have e3 : (x.toInt - (48 : Nat)).bmod (2 ^ 32) = x.toInt - 48 := by rw [Int.bmod_eq_of_le_mul_two] <;> omega
      rw [e3]; omega
theorem dig_N {f : Nat → Int32} {q : Nat} (h : inB (f q) 48 57 = true) : f q = nI (dgN f q + 48) ∧ dgN f q < 10 := by
  obtain ⟨j, h1, h2, h3⟩ := inB_t h
  have h4 : dgN f q = j - 48 := by unfold dgN; rw [h3, nI_toInt (by omega)]; omega
  rw [h4, h3]; exact ⟨by congr 1; omega, by omega⟩
/-- the state of a reading that is in order so far -/
def SY (f : Nat → Int32) (i a : Nat) : Prop := Cln f i ∧ stA f i = a ∧ (a ≤ 4 ∨ a = 99)
theorem SY.z {f : Nat → Int32} : SY f 0 99 := ⟨Cln.z, rfl, Or.inr rfl⟩
theorem SY.l {f : Nat → Int32} {i : Nat} (h : SY f i 99) (hw : wdL (f i) ≠ 0) : SY f (i + 1) (wdL (f i)) := by
  have e := st_let h.2.1 hw
  have := wdL_le (f i)
  exact ⟨h.1.st (by rw [e]; omega), e, Or.inl this⟩
theorem SY.d {f : Nat → Int32} {i a : Nat} (h : SY f i a) (h1 : 0 < a) (h9 : a ≠ 99) (hd : inB (f i) 48 57 = true) : SY f (i + 1) (a - 1) := by
  have h4 : a ≤ 4 := h.2.2.resolve_right h9
  have e := st_dig h.2.1 h1 h4 hd
  exact ⟨h.1.st (by rw [e]; omega), e, Or.inl (by omega)⟩
theorem SY.s {f : Nat → Int32} {i : Nat} (h : SY f i 0) (hd : f i = nI 59) : SY f (i + 1) 99 := by
  have e := st_semi h.2.1 hd
  exact ⟨h.1.st (by rw [e]; omega), e, Or.inr rfl⟩
theorem SY.fl {f : Nat → Int32} {i m : Nat} (h : SY f i 99) (hi : i < m) (hw : wdL (f i) = 0) : FailAt f m i := ⟨by omega, h.1, fun _ => by rw [stA, h.2.1, okA, if_pos rfl, if_pos hw], fun q => by omega⟩
theorem SY.fd {f : Nat → Int32} {i a m : Nat} (h : SY f i a) (hi : i < m) (h1 : 0 < a) (h9 : a ≠ 99) (hd : inB (f i) 48 57 = false) : FailAt f m i := ⟨by omega, h.1, fun _ => by rw [stA, h.2.1, okA, if_neg h9, if_neg (by omega), if_neg (by rw [hd]; decide)], fun q => by omega⟩
theorem SY.fs {f : Nat → Int32} {i m : Nat} (h : SY f i 0) (hi : i < m) (hd : ¬ f i = nI 59) : FailAt f m i := ⟨by omega, h.1, fun _ => by rw [stA, h.2.1, okA, if_neg (by decide), if_pos rfl, if_neg hd], fun q => by omega⟩
theorem SY.fe {f : Nat → Int32} {i a m : Nat} (h : SY f i a) (hi : m ≤ i) (hi2 : i ≤ m) (hz : m = 0 ∨ a ≠ 99) : FailAt f m m := by
  obtain rfl : i = m := by omega
  exact ⟨Nat.le_refl _, h.1, fun q => absurd q (Nat.lt_irrefl _), fun _ => hz.imp id (fun z => by rw [h.2.1]; exact z)⟩
theorem SY.ok {f : Nat → Int32} {i a m : Nat} (h : SY f i a) (hi : m ≤ i) (hi2 : i ≤ m) (hm : 0 < m) (ha : a = 99) : OkT f m := by
  obtain rfl : i = m := by omega
  exact ⟨hm, h.1, h.2.1.trans ha⟩
/-- in a text in order a letter stands just where a statement begins -/
theorem OkT.let {f : Nat → Int32} {m i : Nat} (h : OkT f m) (hi : i < m) : wdL (f i) = 0 ↔ ¬ stA f i = 99 := by
  have h1 := h.2.1 i hi
  rw [stA, okA] at h1
  by_cases q : stA f i = 99
  · rw [if_pos q] at h1
    refine ⟨fun z => ?_, fun z => absurd q z⟩
    rw [if_pos z] at h1; exact absurd rfl h1
  · rw [if_neg q] at h1
    refine ⟨fun _ => q, fun _ => ?_⟩
    by_cases z : stA f i = 0
    · rw [if_pos z] at h1
      by_cases y : f i = nI 59
      · rw [y]; exact wdL_n (by decide) (by decide) (by decide)
      · rw [if_neg y] at h1; exact absurd rfl h1
    · rw [if_neg z] at h1
      by_cases y : inB (f i) 48 57 = true
      · obtain ⟨j, g1, g2, g3⟩ := inB_t y
        rw [g3]
        refine wdL_n ?_ ?_ ?_ <;> (intro w; have := nI_inj (by omega) (by decide) w; omega)
      · rw [if_neg y] at h1; exact absurd rfl h1
/-- behind a letter its digits -/
theorem OkT.dig {f : Nat → Int32} {m i : Nat} (h : OkT f m) (hi : i < m) (hs : stA f i = 99) : ∀ k, k ≤ wdL (f i) → i + 1 + k < m ∧ stA f (i + 1 + k) = wdL (f i) - k ∧ ∀ j, j < k → inB (f (i + 1 + j)) 48 57 = true := by
  have hw : wdL (f i) ≠ 0 := fun z => (h.let hi).mp z hs
  have hw4 := wdL_le (f i)
  have key : ∀ k, k ≤ wdL (f i) → i + 1 + k ≤ m → stA f (i + 1 + k) = wdL (f i) - k ∧ ∀ j, j < k → inB (f (i + 1 + j)) 48 57 = true := by
    intro k
    induction k with
    | zero => intro _ _; exact ⟨st_let hs hw, fun j hj => absurd hj (Nat.not_lt_zero _)⟩
    | succ k ih =>
      intro hk hm
      have g := ih (by omega) (by omega)
      have g2 := h.2.1 (i + 1 + k) (by omega)
      have hd : inB (f (i + 1 + k)) 48 57 = true := by
        rw [stA, g.1, okA, if_neg (by omega), if_neg (by omega)] at g2
        by_cases y : inB (f (i + 1 + k)) 48 57 = true
        · exact y
        · rw [if_neg y] at g2; exact absurd rfl g2
      refine ⟨(st_dig g.1 (by omega) (by omega) hd).trans (by omega), fun j hj => ?_⟩
      by_cases z : j = k
      · subst z; exact hd
      · exact g.2 j (by omega)
  have lt : ∀ k, k ≤ wdL (f i) → i + 1 + k < m := by
    intro k
    induction k with
    | zero => 
      intro _
      by_cases z : i + 1 = m
      · have := h.2.2; rw [← z, st_let hs hw] at this; omega
      · omega
    | succ k ih =>
      intro hk
      have g := ih (by omega)
      by_cases z : i + 1 + k + 1 = m
      · have g2 := (key (k + 1) hk (by omega)).1
        have g3 := h.2.2
        rw [show i + 1 + (k + 1) = m by omega, g3] at g2; omega
      · omega
  exact fun k hk => ⟨lt k hk, key k hk (by have := lt k hk; omega)⟩
theorem cnA_pos {f : Nat → Int32} : ∀ m, 0 < m → 0 < cnA f m
  | 0, h => absurd h (Nat.lt_irrefl _)
  | 1, _ => by rw [cnA_x rfl]; omega
  | m + 2, _ => by have := cnA_pos (f := f) (m + 1) (by omega); rw [cnA]; split <;> omega
theorem fltI {i : Nat} (h : i < 1000) : (-2000) - nI i ≤ 0 := by
  have h0 : (0 : Int32).toInt = 0 := by decide
  have h1 : ((-2000 : Int32)).toInt = -2000 := by decide
  rw [Int32.le_iff_toInt_le, Int32.toInt_sub, nI_toInt (by omega), h0, h1, Int.bmod_eq_of_le_mul_two] <;> omega
section MS
variable {l : Launch} {D : va_G} {Z : Nat → ClassId} {b0 : Nat} {cd : Nat → Nat} {ik : Int32} {ugA ugB ugC : Nat} {rA : Nat → Nat} {pA tA : Nat → Int32} {rB : Nat → Nat} {pB tB : Nat → Int32} {rC : Nat → Nat} {pC tC cX lX oX nX sX zX cY lY oY nY sY zY tm cl : Nat → Int32} {KR : Nat → Option Nat} {SO : Nat → Int32} {SZ : Nat → Nat} {EL : Nat → Nat → Int32} {V Vb : HV} {kd fg pl ikd ifg ipl kp so sz : Nat → Nat} {hr ihr el ki kf : Nat → Int32}
def rmX11_digitsBehind : Room := { frames := 0, cells := 0, slots := 0, locals := 0 }
set_option maxHeartbeats 8000000 in
theorem c_X11_digitsBehind {x : Int32}  : KE l D Z b0 yX11_digitsBehind cX11_digitsBehind 1 (some .int) rmX11_digitsBehind [.int x] (V) (some (.int (wdI x))) (V) := by
  refine KE.of (by decide) (Nat.le_of_ble_eq_true rfl) (fun Po hPo => ?_)
  refine G.locals (L' := [(0, .int x)]) [0] rfl ?_
  refine g_iload_n (q := 0) (pc := 0) dX11_digitsBehind_0 rfl rfl ?_
  by_cases k1 : x = nI 100
  · subst k1
    refine g_lookup (tgt := 40) (off := 39) (pc := 1) dX11_digitsBehind_1 (by decide) (by decide) (by decide) ?_
    refine g_iconst (v := nI 2) (pc := 40) dX11_digitsBehind_40 (by decide) ?_
    exact g_iret (pc := 41) (by decide) (by decide) (eqI hPo (by first | rfl | decide | exact wdI_z (wdL_n (by assumption) (by assumption) (by assumption)))) dX11_digitsBehind_41
  by_cases k2 : x = nI 103
  · subst k2
    refine g_lookup (tgt := 38) (off := 37) (pc := 1) dX11_digitsBehind_1 (by decide) (by decide) (by decide) ?_
    refine g_iconst (v := nI 3) (pc := 38) dX11_digitsBehind_38 (by decide) ?_
    exact g_iret (pc := 39) (by decide) (by decide) (eqI hPo (by first | rfl | decide | exact wdI_z (wdL_n (by assumption) (by assumption) (by assumption)))) dX11_digitsBehind_39
  by_cases k3 : x = nI 107
  · subst k3
    refine g_lookup (tgt := 36) (off := 35) (pc := 1) dX11_digitsBehind_1 (by decide) (by decide) (by decide) ?_
    refine g_iconst (v := nI 4) (pc := 36) dX11_digitsBehind_36 (by decide) ?_
    exact g_iret (pc := 37) (by decide) (by decide) (eqI hPo (by first | rfl | decide | exact wdI_z (wdL_n (by assumption) (by assumption) (by assumption)))) dX11_digitsBehind_37
  refine g_lookup (tgt := 42) (off := 41) (pc := 1) dX11_digitsBehind_1 (by decide) (by rw [lv_osw (a := 100) (k := nI 100) k1 (by decide)]; rw [lv_osw (a := 103) (k := nI 103) k2 (by decide)]; rw [lv_osw (a := 107) (k := nI 107) k3 (by decide)]; rfl) (by decide) ?_
  refine g_iconst (v := (-1)) (pc := 42) dX11_digitsBehind_42 (by decide) ?_
  exact g_iret (pc := 43) (by decide) (by decide) (eqI hPo (by first | rfl | decide | exact wdI_z (wdL_n (by assumption) (by assumption) (by assumption)))) dX11_digitsBehind_43
def rmX11_strayByte : Room := { frames := 3, cells := 0, slots := 0, locals := 63 }
set_option maxHeartbeats 8000000 in
theorem c_X11_strayByte {d : Nat} (hA : oC b0 cd V) (hd : d < 8) (hze : SZ d = sz d) (hz1 : sz d ≤ 100) (hel : ∀ i, i < sz d → EL d i = el (100 * d + i)) : KM l D Z b0 yX11_strayByte cX11_strayByte 3 (some .int) rmX11_strayByte [.ref (cd (30 + d))] (wC Z cd ik ugA ugB ugC rA (nf pl) hr rB pB tB rC (nf ipl) ihr cX lX oX nX sX zX cY lY oY nY sY zY tm cl KR SO SZ EL V) (fun v0 V' => ∃ r, v0 = some (.int r) ∧ ((OkT (tx el (100 * d)) (sz d) ∧ r = (-1)) ∨ ∃ p, FailAt (tx el (100 * d)) (sz d) p ∧ r = nI p) ∧ V' = wC Z cd ik ugA ugB ugC rA (nf pl) hr rB pB tB rC (nf ipl) ihr cX lX oX nX sX zX cY lY oY nY sY zY tm cl KR SO SZ EL V) := by
  refine KM.ofP (by decide) (Nat.le_of_ble_eq_true rfl) (fun Po hPo => ?_)
  refine G.locals (L' := [(0, .ref (cd (30 + d)))]) [0] rfl ?_
  refine g_iconst (v := (-1)) (pc := 0) dX11_strayByte_0 (by decide) ?_
  refine g_istore_n (lv' := [(1, .int (-1)), (0, .ref (cd (30 + d)))]) (pc := 1) dX11_strayByte_1 rfl (by decide) rfl ?_
  refine g_iconst (v := nI 0) (pc := 2) dX11_strayByte_2 (by decide) ?_
  refine g_istore_n (lv' := [(2, .int (nI 0)), (1, .int (-1)), (0, .ref (cd (30 + d)))]) (pc := 3) dX11_strayByte_3 rfl (by decide) rfl ?_
  have lp4 : ∀ (d4 : Nat) (i : Nat) (a : Nat), i + d4 = sz d + 1 → (i ≤ sz d) → (SY (tx el (100 * d)) i a) → G l D Z b0 rmX11_strayByte RX11 cX11_strayByte 3 (gE (some .int) "strayByte") (gT D b0 Po rmX11_strayByte.cells rmX11_strayByte.slots) (wC Z cd ik ugA ugB ugC rA (nf pl) hr rB pB tB rC (nf ipl) ihr cX lX oX nX sX zX cY lY oY nY sY zY tm cl KR SO SZ EL V) [(2, .int (nI i)), (1, .int (sdI a)), (0, .ref (cd (30 + d)))] 0 0 4 [] := by
    intro d4
    induction d4 with
    | zero =>
      intro i a hd4 hiN hsy
      exact absurd hd4 (by omega)
    | succ d4 ih4 =>
      intro i a hd4 hiN hsy
      refine g_iload_n (q := 0) (pc := 4) dX11_strayByte_4 rfl rfl ?_
      refine g_aload_n (q := 2) (pc := 5) dX11_strayByte_5 rfl rfl ?_
      refine gc_get_S_size (pc := 6) (d := d) hA (by omega) flX11_132 dX11_strayByte_6 ?_
      refine g_top (x := nI (SZ d)) (y := nI (sz d)) (congrArg nI hze) ?_
      refine g_icmp_ge_N (tgt := 78) (pc := 9) (by omega) (by omega) dX11_strayByte_9 (by decide) (fun c1 => ?_) (fun c1 => ?_)
      · -- T c1
        refine g_aload_n (q := 2) (pc := 78) dX11_strayByte_78 rfl rfl ?_
        refine gc_get_S_size (pc := 79) (d := d) hA (by omega) flX11_132 dX11_strayByte_79 ?_
        refine g_top (x := nI (SZ d)) (y := nI (sz d)) (congrArg nI hze) ?_
        refine g_if_le_N (tgt := 94) (pc := 82) (by omega) dX11_strayByte_82 (by decide) (fun c2 => ?_) (fun c2 => ?_)
        · -- T c2
          refine g_iconst (v := nI 0) (pc := 94) dX11_strayByte_94 (by decide) ?_
          refine g_istore_n (lv' := [(2, .int (nI 0)), (1, .int (sdI a)), (0, .ref (cd (30 + d)))]) (pc := 95) dX11_strayByte_95 rfl (by decide) rfl ?_
          refine g_iload_n (q := 0) (pc := 96) dX11_strayByte_96 rfl rfl ?_
          refine g_if_eq (tgt := 104) (pc := 97) dX11_strayByte_97 (by decide) (fun _ => ?_) (fun c0 => absurd c0 (by decide))
          refine g_aload_n (q := 2) (pc := 104) dX11_strayByte_104 rfl rfl ?_
          refine gc_get_S_size (pc := 105) (d := d) hA (by omega) flX11_132 dX11_strayByte_105 ?_
          refine g_top (x := nI (SZ d)) (y := nI (sz d)) (congrArg nI hze) ?_
          exact g_iret (pc := 108) (by decide) (by decide) (hPo _ _ ⟨_, rfl, Or.inr ⟨sz d, SY.fe hsy (by omega) hiN (by first | (left; omega) | (right; exact sdI_ne (by assumption))), rfl⟩, rfl⟩) dX11_strayByte_108
        · -- F c2
          refine g_iload_n (q := 1) (pc := 85) dX11_strayByte_85 rfl rfl ?_
          refine g_iconst (v := (-1)) (pc := 86) dX11_strayByte_86 (by decide) ?_
          refine g_icmp_ne (tgt := 94) (pc := 87) dX11_strayByte_87 (by decide) (fun c3 => ?_) (fun c3 => ?_)
          · -- T c3
            refine g_iconst (v := nI 0) (pc := 94) dX11_strayByte_94 (by decide) ?_
            refine g_istore_n (lv' := [(2, .int (nI 0)), (1, .int (sdI a)), (0, .ref (cd (30 + d)))]) (pc := 95) dX11_strayByte_95 rfl (by decide) rfl ?_
            refine g_iload_n (q := 0) (pc := 96) dX11_strayByte_96 rfl rfl ?_
            refine g_if_eq (tgt := 104) (pc := 97) dX11_strayByte_97 (by decide) (fun _ => ?_) (fun c0 => absurd c0 (by decide))
            refine g_aload_n (q := 2) (pc := 104) dX11_strayByte_104 rfl rfl ?_
            refine gc_get_S_size (pc := 105) (d := d) hA (by omega) flX11_132 dX11_strayByte_105 ?_
            refine g_top (x := nI (SZ d)) (y := nI (sz d)) (congrArg nI hze) ?_
            exact g_iret (pc := 108) (by decide) (by decide) (hPo _ _ ⟨_, rfl, Or.inr ⟨sz d, SY.fe hsy (by omega) hiN (by first | (left; omega) | (right; exact sdI_ne (by assumption))), rfl⟩, rfl⟩) dX11_strayByte_108
          · -- F c3
            refine g_iconst (v := nI 1) (pc := 90) dX11_strayByte_90 (by decide) ?_
            refine g_goto (tgt := 95) (pc := 91) dX11_strayByte_91 (by decide) ?_
            refine g_istore_n (lv' := [(2, .int (nI 1)), (1, .int (sdI a)), (0, .ref (cd (30 + d)))]) (pc := 95) dX11_strayByte_95 rfl (by decide) rfl ?_
            refine g_iload_n (q := 0) (pc := 96) dX11_strayByte_96 rfl rfl ?_
            refine g_if_eq (tgt := 104) (pc := 97) dX11_strayByte_97 (by decide) (fun c0 => absurd c0 (by decide)) (fun _ => ?_)
            refine g_iconst (v := (-1)) (pc := 100) dX11_strayByte_100 (by decide) ?_
            refine g_goto (tgt := 108) (pc := 101) dX11_strayByte_101 (by decide) ?_
            exact g_iret (pc := 108) (by decide) (by decide) (hPo _ _ ⟨_, rfl, Or.inl ⟨SY.ok hsy (by omega) hiN (by omega) (sdI_9 (by assumption) hsy.2.2), rfl⟩, rfl⟩) dX11_strayByte_108
      · -- F c1
        refine g_iload_n (q := 1) (pc := 12) dX11_strayByte_12 rfl rfl ?_
        refine g_iconst (v := (-1)) (pc := 13) dX11_strayByte_13 (by decide) ?_
        refine g_icmp_ne (tgt := 33) (pc := 14) dX11_strayByte_14 (by decide) (fun c4 => ?_) (fun c4 => ?_)
        · -- T c4
          have h99 := sdI_ne c4
          rw [sdI_n h99]
          refine g_iload_n (q := 1) (pc := 33) dX11_strayByte_33 rfl rfl ?_
          refine g_if_le_N (tgt := 58) (pc := 34) (by have := hsy.2.2; omega) dX11_strayByte_34 (by decide) (fun c5 => ?_) (fun c5 => ?_)
          · -- T c5
            have a0 : a = 0 := c5
            refine g_aload_n (q := 2) (pc := 58) dX11_strayByte_58 rfl rfl ?_
            refine g_iload_n (q := 0) (pc := 59) dX11_strayByte_59 rfl rfl ?_
            refine e_callV (k2 := 0) (n2 := 0) (As := [.int (nI i)]) (rest := []) (pc := 60) (wC_sh hA hd) rfl (c_X7_at_s (x := tx el (100 * d) i) hA hd (by rw [hze]; omega) (by rw [hze]; exact hz1) (hel i (by omega))) mlX11_200 selX7_X7_at_X7_at mX7_at ⟨Nat.le_of_ble_eq_true rfl, Nat.le_of_ble_eq_true rfl⟩ rfl rfl (Nat.le_of_ble_eq_true rfl) dX11_strayByte_60 (by decide) rfl rfl ?_
            refine g_bipush (v := nI 59) (pc := 63) dX11_strayByte_63 (by decide) ?_
            refine g_icmp_eq (tgt := 70) (pc := 65) dX11_strayByte_65 (by decide) (fun c6 => ?_) (fun c6 => ?_)
            · -- T c6
              refine g_iconst (v := (-1)) (pc := 70) dX11_strayByte_70 (by decide) ?_
              refine g_istore_n (lv' := [(1, .int (-1)), (2, .int (nI i)), (0, .ref (cd (30 + d)))]) (pc := 71) dX11_strayByte_71 rfl (by decide) rfl ?_
              rw [show ((-1) : Int32) = sdI 99 from rfl]
              refine g_iinc (q := 1) (lv' := [(2, .int (nI (i + 1))), (1, .int (sdI 99)), (0, .ref (cd (30 + d)))]) (pc := 72) dX11_strayByte_72 rfl (nI_inc _ _) (by decide) rfl ?_
              refine g_goto (tgt := 4) (pc := 75) dX11_strayByte_75 (by decide) ?_
              refine G.locals (L' := [(2, .int (nI (i + 1))), (1, .int (sdI 99)), (0, .ref (cd (30 + d)))]) [0, 1, 2] rfl ?_
              exact ih4 (i + 1) 99 (by omega) (by omega) (SY.s (a0 ▸ hsy) (by assumption))
            · -- F c6
              refine g_iload_n (q := 0) (pc := 68) dX11_strayByte_68 rfl rfl ?_
              exact g_iret (pc := 69) (by decide) (by decide) (hPo _ _ ⟨_, rfl, Or.inr ⟨i, SY.fs (a0 ▸ hsy) (by omega) (by assumption), rfl⟩, rfl⟩) dX11_strayByte_69
          · -- F c5
            refine g_aload_n (q := 2) (pc := 37) dX11_strayByte_37 rfl rfl ?_
            refine g_iload_n (q := 0) (pc := 38) dX11_strayByte_38 rfl rfl ?_
            refine e_callV (k2 := 0) (n2 := 0) (As := [.int (nI i)]) (rest := []) (pc := 39) (wC_sh hA hd) rfl (c_X7_digit_s (x := tx el (100 * d) i) hA hd (by rw [hze]; omega) (by rw [hze]; exact hz1) (hel i (by omega))) mlX11_287 selX7_X7_digit_X7_digit mX7_digit ⟨Nat.le_of_ble_eq_true rfl, Nat.le_of_ble_eq_true rfl⟩ rfl rfl (Nat.le_of_ble_eq_true rfl) dX11_strayByte_39 (by decide) rfl rfl ?_
            refine g_bipush (v := nI 10) (pc := 42) dX11_strayByte_42 (by decide) ?_
            refine e_callS (k2 := 0) (n2 := 0) (As := [.int (tx el (100 * d) i - nI 48), .int (nI 10)]) (rest := []) (pc := 44) (c_X11_isBelow (by decide)) mlX11_69 mX11_isBelow ⟨Nat.le_of_ble_eq_true rfl, Nat.le_of_ble_eq_true rfl⟩ rfl rfl (Nat.le_of_ble_eq_true rfl) dX11_strayByte_44 (by decide) rfl rfl ?_
            refine g_if_ne_B (tgt := 52) (pc := 47) dX11_strayByte_47 (by decide) (fun c7 => ?_) (fun c7 => ?_)
            · -- T c7
              refine g_iinc (q := 1) (lv' := [(1, .int (nI (a - 1))), (2, .int (nI i)), (0, .ref (cd (30 + d)))]) (pc := 52) dX11_strayByte_52 rfl ((nI_dec (by omega))) (by decide) rfl ?_
              refine g_goto (tgt := 72) (pc := 55) dX11_strayByte_55 (by decide) ?_
              rw [show nI (a - 1) = sdI (a - 1) from (sdI_n (by have := hsy.2.2; omega)).symm]
              refine g_iinc (q := 1) (lv' := [(2, .int (nI (i + 1))), (1, .int (sdI (a - 1))), (0, .ref (cd (30 + d)))]) (pc := 72) dX11_strayByte_72 rfl (nI_inc _ _) (by decide) rfl ?_
              refine g_goto (tgt := 4) (pc := 75) dX11_strayByte_75 (by decide) ?_
              refine G.locals (L' := [(2, .int (nI (i + 1))), (1, .int (sdI (a - 1))), (0, .ref (cd (30 + d)))]) [0, 1, 2] rfl ?_
              exact ih4 (i + 1) (a - 1) (by omega) (by omega) (SY.d hsy (by omega) h99 (by rw [← inR_dig]; assumption))
            · -- F c7
              refine g_iload_n (q := 0) (pc := 50) dX11_strayByte_50 rfl rfl ?_
              exact g_iret (pc := 51) (by decide) (by decide) (hPo _ _ ⟨_, rfl, Or.inr ⟨i, SY.fd hsy (by omega) (by omega) h99 (by rw [← inR_dig]; assumption), rfl⟩, rfl⟩) dX11_strayByte_51
        · -- F c4
          obtain rfl : a = 99 := sdI_9 c4 hsy.2.2
          refine g_aload_n (q := 2) (pc := 17) dX11_strayByte_17 rfl rfl ?_
          refine g_iload_n (q := 0) (pc := 18) dX11_strayByte_18 rfl rfl ?_
          refine e_callV (k2 := 0) (n2 := 0) (As := [.int (nI i)]) (rest := []) (pc := 19) (wC_sh hA hd) rfl (c_X7_at_s (x := tx el (100 * d) i) hA hd (by rw [hze]; omega) (by rw [hze]; exact hz1) (hel i (by omega))) mlX11_200 selX7_X7_at_X7_at mX7_at ⟨Nat.le_of_ble_eq_true rfl, Nat.le_of_ble_eq_true rfl⟩ rfl rfl (Nat.le_of_ble_eq_true rfl) dX11_strayByte_19 (by decide) rfl rfl ?_
          refine e_callS (k2 := 0) (n2 := 0) (As := [.int (tx el (100 * d) i)]) (rest := []) (pc := 22) c_X11_digitsBehind mlX11_284 mX11_digitsBehind ⟨Nat.le_of_ble_eq_true rfl, Nat.le_of_ble_eq_true rfl⟩ rfl rfl (Nat.le_of_ble_eq_true rfl) dX11_strayByte_22 (by decide) rfl rfl ?_
          refine g_istore_n (lv' := [(1, .int (wdI (tx el (100 * d) i))), (2, .int (nI i)), (0, .ref (cd (30 + d)))]) (pc := 25) dX11_strayByte_25 rfl (by decide) rfl ?_
          refine g_iload_n (q := 0) (pc := 26) dX11_strayByte_26 rfl rfl ?_
          refine g_iconst (v := (-1)) (pc := 27) dX11_strayByte_27 (by decide) ?_
          refine g_icmp_ne (tgt := 72) (pc := 28) dX11_strayByte_28 (by decide) (fun c8 => ?_) (fun c8 => ?_)
          · -- T c8
            have hw9 := fun q => c8 ((wdI_m (x := tx el (100 * d) i)).mpr q)
            rw [show wdI (tx el (100 * d) i) = sdI (wdL (tx el (100 * d) i)) from (wdI_s hw9).trans (sdI_n (by have := wdL_le (tx el (100 * d) i); omega)).symm]
            refine g_iinc (q := 1) (lv' := [(2, .int (nI (i + 1))), (1, .int (sdI (wdL (tx el (100 * d) i)))), (0, .ref (cd (30 + d)))]) (pc := 72) dX11_strayByte_72 rfl (nI_inc _ _) (by decide) rfl ?_
            refine g_goto (tgt := 4) (pc := 75) dX11_strayByte_75 (by decide) ?_
            refine G.locals (L' := [(2, .int (nI (i + 1))), (1, .int (sdI (wdL (tx el (100 * d) i)))), (0, .ref (cd (30 + d)))]) [0, 1, 2] rfl ?_
            exact ih4 (i + 1) (wdL (tx el (100 * d) i)) (by omega) (by omega) (SY.l hsy hw9)
          · -- F c8
            have hw9 := (wdI_m (x := tx el (100 * d) i)).mp c8
            refine g_iload_n (q := 1) (pc := 31) dX11_strayByte_31 rfl rfl ?_
            exact g_iret (pc := 32) (by decide) (by decide) (hPo _ _ ⟨_, rfl, Or.inr ⟨i, SY.fl hsy (by omega) hw9, rfl⟩, rfl⟩) dX11_strayByte_32
  refine G.locals (L' := [(2, .int (nI 0)), (1, .int (-1)), (0, .ref (cd (30 + d)))]) [0, 1, 2] rfl ?_
  exact lp4 (sz d + 1) 0 99 (by omega) (Nat.zero_le _) SY.z
set_option maxHeartbeats 8000000 in
theorem c_X7_digit_d {d i n : Nat} (hA : oC b0 cd V) (hd : d < 8) (hi1 : i < SZ d) (hz : SZ d ≤ 100) (hx : EL d i = nI (n + 48)) (hn : n < 10) : KE l D Z b0 yX7_digit cX7_digit 2 (some .int) rmX7_digit [.ref (cd (30 + d)), .int (nI i)] (wC Z cd ik ugA ugB ugC rA pA tA rB pB tB rC pC tC cX lX oX nX sX zX cY lY oY nY sY zY tm cl KR SO SZ EL V) (some (.int (nI n))) (wC Z cd ik ugA ugB ugC rA pA tA rB pB tB rC pC tC cX lX oX nX sX zX cY lY oY nY sY zY tm cl KR SO SZ EL V) := by
  refine KE.of (by decide) (Nat.le_of_ble_eq_true rfl) (fun Po hPo => ?_)
  refine G.locals (L' := [(0, .ref (cd (30 + d))), (1, .int (nI i))]) [0, 1] rfl ?_
  refine g_aload_n (q := 0) (pc := 0) dX7_digit_0 rfl rfl ?_
  refine g_iload_n (q := 1) (pc := 1) dX7_digit_1 rfl rfl ?_
  refine e_callV (k2 := 0) (n2 := 0) (As := [.int (nI i)]) (rest := []) (pc := 2) (wC_sh hA hd) rfl (c_X7_at_s (x := nI (n + 48)) hA hd hi1 hz hx) mlX7_33 selX7_X7_at_X7_at mX7_at ⟨Nat.le_of_ble_eq_true rfl, Nat.le_of_ble_eq_true rfl⟩ rfl rfl (Nat.le_of_ble_eq_true rfl) dX7_digit_2 (by decide) rfl rfl ?_
  refine g_bipush (v := nI 48) (pc := 5) dX7_digit_5 (by decide) ?_
  refine g_isub_N (pc := 7) (by omega) dX7_digit_7 ?_
  refine g_top (x := nI ((n + 48) - 48)) (y := nI n) (congrArg nI (by omega)) ?_
  exact g_iret (pc := 8) (by decide) (by decide) (hPo) dX7_digit_8
def rmX11_obeyKind : Room := { frames := 5, cells := 1, slots := 1, locals := 96 }
set_option maxHeartbeats 8000000 in
theorem c_X11_obeyKind_s {kd2 fg2 pl2 : Nat → Nat} {hr2 : Nat → Int32} {c q f : Nat} (hA : oC b0 cd V) (hE : Ext Vb V) (hgA : Rk V ugA 7 0) (hgB : Rk V ugB 7 0) (hmA : mo V rA kd fg) (hmC : mo V rC ikd ifg) (hpl : ∀ g, g < 2 → pl g < 20) (hipl : ∀ g, g < 2 → ipl g < 20) (hSh : Sh V KR SO SZ EL kp so sz el ki kf) (hmB2 : mo V rB kd2 fg2) (hpl2 : ∀ g, g < 2 → pl2 g < 20) (hc : c < 20) (hq : q < 8) (hf : f < 10) : KM l D Z b0 yX11_obeyKind cX11_obeyKind 4 (some .boolean) rmX11_obeyKind [.ref (cd 0), .int (nI c), .int (nI q), .int (nI f)] (wC Z cd ik ugA ugB ugC rA (nf pl) hr rB (nf pl2) hr2 rC (nf ipl) ihr cX lX oX nX sX zX cY lY oY nY sY zY tm cl KR SO SZ EL V) (fun v0 V' => v0 = some (.int (nI 1)) ∧ ∃ (rB2 : Nat → Nat) (V2 : HV), mo V2 rB2 (updN kd2 c q) (updN fg2 c f) ∧ CH b0 cd Vb V2 ugA ugB rA rC kd fg pl ikd ifg ipl KR SO SZ EL kp so sz el ki kf ∧ V' = wC Z cd ik ugA ugB ugC rA (nf pl) hr rB2 (nf pl2) hr2 rC (nf ipl) ihr cX lX oX nX sX zX cY lY oY nY sY zY tm cl KR SO SZ EL V2) := by
  refine KM.ofP (by decide) (Nat.le_of_ble_eq_true rfl) (fun Po hPo => ?_)
  refine G.locals (L' := [(0, .ref (cd 0)), (1, .int (nI c)), (2, .int (nI q)), (3, .int (nI f))]) [0, 1, 2, 3] rfl ?_
  refine g_iload_n (q := 1) (pc := 0) dX11_obeyKind_0 rfl rfl ?_
  refine g_bipush (v := nI 20) (pc := 1) dX11_obeyKind_1 (by decide) ?_
  refine e_callS (k2 := 0) (n2 := 0) (As := [.int (nI c), .int (nI 20)]) (rest := []) (pc := 3) (c_X11_isBelowN (by decide) (by omega)) mlX11_69 mX11_isBelow ⟨Nat.le_of_ble_eq_true rfl, Nat.le_of_ble_eq_true rfl⟩ rfl rfl (Nat.le_of_ble_eq_true rfl) dX11_obeyKind_3 (by decide) rfl rfl ?_
  refine g_if_eq_B (tgt := 18) (pc := 6) dX11_obeyKind_6 (by decide) (fun c1 => ?_) (fun c1 => ?_)
  · -- T c1
    exact absurd (of_decide_eq_false c1) (by omega)
  · -- F c1
    have c1 := of_decide_eq_true c1
    refine g_iload_n (q := 2) (pc := 9) dX11_obeyKind_9 rfl rfl ?_
    refine g_bipush (v := nI 8) (pc := 10) dX11_obeyKind_10 (by decide) ?_
    refine e_callS (k2 := 0) (n2 := 0) (As := [.int (nI q), .int (nI 8)]) (rest := []) (pc := 12) (c_X11_isBelowN (by decide) (by omega)) mlX11_69 mX11_isBelow ⟨Nat.le_of_ble_eq_true rfl, Nat.le_of_ble_eq_true rfl⟩ rfl rfl (Nat.le_of_ble_eq_true rfl) dX11_obeyKind_12 (by decide) rfl rfl ?_
    refine g_if_ne_B (tgt := 20) (pc := 15) dX11_obeyKind_15 (by decide) (fun c2 => ?_) (fun c2 => ?_)
    · -- T c2
      have c2 := of_decide_eq_true c2
      refine g_aload_n (q := 0) (pc := 20) dX11_obeyKind_20 rfl rfl ?_
      refine gc_get_O_mind (pc := 21) hA flX11_16 dX11_obeyKind_21 ?_
      refine gc_get_MB_cells (pc := 24) hA flX11_73 dX11_obeyKind_24 ?_
      refine g_iload_n (q := 1) (pc := 27) dX11_obeyKind_27 rfl rfl ?_
      refine g_iload_n (q := 2) (pc := 28) dX11_obeyKind_28 rfl rfl ?_
      refine g_iload_n (q := 3) (pc := 29) dX11_obeyKind_29 rfl rfl ?_
      refine g_callS (As := [.int (nI q), .int (nI f)]) (rest := [.int (nI c), .ref (cd 7)]) (pc := 30) (c_X11_rockOf (by omega) (by omega)) mlX11_157 mX11_rockOf ⟨Nat.le_of_ble_eq_true rfl, Nat.le_of_ble_eq_true rfl⟩ rfl rfl (Nat.le_of_ble_eq_true rfl) dX11_obeyKind_30 (by decide)  (fun v9 V9 h9 => ?_)
      obtain ⟨a30, rfl, hb30, hn30, -, rfl⟩ := h9
      have hw30 := wC_none hA hn30
      refine G.veq (wC_upv hA hn30) ?_
      refine G.eqst (k2 := 1) (n2 := 1) (st2 := [.ref a30, .int (nI c), .ref (cd 7)]) rfl rfl rfl ?_
      refine gc_st_rB (pc := 33) (c := c) (a := a30) (q := q) (f := f) (oC.new hA hw30.2) (by omega) ⟨(by omega), (by omega), upv_eq _ _ _⟩ dX11_obeyKind_33 ?_
      refine g_iconst (v := nI 1) (pc := 34) dX11_obeyKind_34 (by decide) ?_
      exact g_zret (pc := 35) (by decide) (by decide) (by decide) (hPo _ _ ⟨rfl, _, _, (mo.st (mo.new hmB2 hw30.1) ⟨(by omega), (by omega), upv_eq _ _ _⟩), ⟨(oC.new hA hw30.2), (Ext.new hE hw30.1), (Rk.new hgA hw30.1), (Rk.new hgB hw30.1), (mo.new hmA hw30.1), (mo.new hmC hw30.1), hpl, hipl, (Sh.new hSh hw30.1)⟩, rfl⟩) dX11_obeyKind_35
    · -- F c2
      exact absurd (of_decide_eq_false c2) (by omega)
set_option maxHeartbeats 8000000 in
theorem c_X11_obeyKind_n {kd2 fg2 pl2 : Nat → Nat} {hr2 : Nat → Int32} {c q f : Nat} (hA : oC b0 cd V) (h : ¬ (c < 20 ∧ q < 8)) (hc : c < 200) (hq : q < 20) : KE l D Z b0 yX11_obeyKind cX11_obeyKind 4 (some .boolean) rmX11_obeyKind [.ref (cd 0), .int (nI c), .int (nI q), .int (nI f)] (wC Z cd ik ugA ugB ugC rA (nf pl) hr rB (nf pl2) hr2 rC (nf ipl) ihr cX lX oX nX sX zX cY lY oY nY sY zY tm cl KR SO SZ EL V) (some (.int (nI 0))) (wC Z cd ik ugA ugB ugC rA (nf pl) hr rB (nf pl2) hr2 rC (nf ipl) ihr cX lX oX nX sX zX cY lY oY nY sY zY tm cl KR SO SZ EL V) := by
  refine KE.of (by decide) (Nat.le_of_ble_eq_true rfl) (fun Po hPo => ?_)
  refine G.locals (L' := [(0, .ref (cd 0)), (1, .int (nI c)), (2, .int (nI q)), (3, .int (nI f))]) [0, 1, 2, 3] rfl ?_
  refine g_iload_n (q := 1) (pc := 0) dX11_obeyKind_0 rfl rfl ?_
  refine g_bipush (v := nI 20) (pc := 1) dX11_obeyKind_1 (by decide) ?_
  refine e_callS (k2 := 0) (n2 := 0) (As := [.int (nI c), .int (nI 20)]) (rest := []) (pc := 3) (c_X11_isBelowN (by decide) (by omega)) mlX11_69 mX11_isBelow ⟨Nat.le_of_ble_eq_true rfl, Nat.le_of_ble_eq_true rfl⟩ rfl rfl (Nat.le_of_ble_eq_true rfl) dX11_obeyKind_3 (by decide) rfl rfl ?_
  refine g_if_eq_B (tgt := 18) (pc := 6) dX11_obeyKind_6 (by decide) (fun c1 => ?_) (fun c1 => ?_)
  · -- T c1
    have c1 := of_decide_eq_false c1
    refine g_iconst (v := nI 0) (pc := 18) dX11_obeyKind_18 (by decide) ?_
    exact g_zret (pc := 19) (by decide) (by decide) (by decide) (hPo) dX11_obeyKind_19
  · -- F c1
    have c1 := of_decide_eq_true c1
    refine g_iload_n (q := 2) (pc := 9) dX11_obeyKind_9 rfl rfl ?_
    refine g_bipush (v := nI 8) (pc := 10) dX11_obeyKind_10 (by decide) ?_
    refine e_callS (k2 := 0) (n2 := 0) (As := [.int (nI q), .int (nI 8)]) (rest := []) (pc := 12) (c_X11_isBelowN (by decide) (by omega)) mlX11_69 mX11_isBelow ⟨Nat.le_of_ble_eq_true rfl, Nat.le_of_ble_eq_true rfl⟩ rfl rfl (Nat.le_of_ble_eq_true rfl) dX11_obeyKind_12 (by decide) rfl rfl ?_
    refine g_if_ne_B (tgt := 20) (pc := 15) dX11_obeyKind_15 (by decide) (fun c2 => ?_) (fun c2 => ?_)
    · -- T c2
      exact absurd ⟨by assumption, of_decide_eq_true c2⟩ h
    · -- F c2
      have c2 := of_decide_eq_false c2
      refine g_iconst (v := nI 0) (pc := 18) dX11_obeyKind_18 (by decide) ?_
      exact g_zret (pc := 19) (by decide) (by decide) (by decide) (hPo) dX11_obeyKind_19
def rmX11_obeyGang : Room := { frames := 1, cells := 0, slots := 0, locals := 21 }
set_option maxHeartbeats 8000000 in
theorem c_X11_obeyGang_s {kd2 fg2 pl2 : Nat → Nat} {hr2 : Nat → Int32} {g c : Nat} (hA : oC b0 cd V) (hg : g < 2) (hc : c < 20) : KE l D Z b0 yX11_obeyGang cX11_obeyGang 3 (some .boolean) rmX11_obeyGang [.ref (cd 0), .int (nI g), .int (nI c)] (wC Z cd ik ugA ugB ugC rA (nf pl) hr rB (nf pl2) hr2 rC (nf ipl) ihr cX lX oX nX sX zX cY lY oY nY sY zY tm cl KR SO SZ EL V) (some (.int (nI 1))) (wC Z cd ik ugA ugB ugC rA (nf pl) hr rB (nf (updN pl2 g c)) hr2 rC (nf ipl) ihr cX lX oX nX sX zX cY lY oY nY sY zY tm cl KR SO SZ EL V) := by
  refine KE.of (by decide) (Nat.le_of_ble_eq_true rfl) (fun Po hPo => ?_)
  refine G.locals (L' := [(0, .ref (cd 0)), (1, .int (nI g)), (2, .int (nI c))]) [0, 1, 2] rfl ?_
  refine g_iload_n (q := 1) (pc := 0) dX11_obeyGang_0 rfl rfl ?_
  refine g_iconst (v := nI 2) (pc := 1) dX11_obeyGang_1 (by decide) ?_
  refine e_callS (k2 := 0) (n2 := 0) (As := [.int (nI g), .int (nI 2)]) (rest := []) (pc := 2) (c_X11_isBelowN (by decide) (by omega)) mlX11_69 mX11_isBelow ⟨Nat.le_of_ble_eq_true rfl, Nat.le_of_ble_eq_true rfl⟩ rfl rfl (Nat.le_of_ble_eq_true rfl) dX11_obeyGang_2 (by decide) rfl rfl ?_
  refine g_if_eq_B (tgt := 17) (pc := 5) dX11_obeyGang_5 (by decide) (fun c1 => ?_) (fun c1 => ?_)
  · -- T c1
    exact absurd (of_decide_eq_false c1) (by omega)
  · -- F c1
    have c1 := of_decide_eq_true c1
    refine g_iload_n (q := 2) (pc := 8) dX11_obeyGang_8 rfl rfl ?_
    refine g_bipush (v := nI 20) (pc := 9) dX11_obeyGang_9 (by decide) ?_
    refine e_callS (k2 := 0) (n2 := 0) (As := [.int (nI c), .int (nI 20)]) (rest := []) (pc := 11) (c_X11_isBelowN (by decide) (by omega)) mlX11_69 mX11_isBelow ⟨Nat.le_of_ble_eq_true rfl, Nat.le_of_ble_eq_true rfl⟩ rfl rfl (Nat.le_of_ble_eq_true rfl) dX11_obeyGang_11 (by decide) rfl rfl ?_
    refine g_if_ne_B (tgt := 19) (pc := 14) dX11_obeyGang_14 (by decide) (fun c2 => ?_) (fun c2 => ?_)
    · -- T c2
      have c2 := of_decide_eq_true c2
      refine g_aload_n (q := 0) (pc := 19) dX11_obeyGang_19 rfl rfl ?_
      refine gc_get_O_mind (pc := 20) hA flX11_16 dX11_obeyGang_20 ?_
      refine gc_get_MB_places (pc := 23) hA flX11_100 dX11_obeyGang_23 ?_
      refine g_iload_n (q := 1) (pc := 26) dX11_obeyGang_26 rfl rfl ?_
      refine g_iload_n (q := 2) (pc := 27) dX11_obeyGang_27 rfl rfl ?_
      refine gc_st_pB (pc := 28) (j := g) (f' := (nf (updN pl2 g c))) hA (by omega) (upd_nf _ _ _) dX11_obeyGang_28 ?_
      refine g_iconst (v := nI 1) (pc := 29) dX11_obeyGang_29 (by decide) ?_
      exact g_zret (pc := 30) (by decide) (by decide) (by decide) (hPo) dX11_obeyGang_30
    · -- F c2
      exact absurd (of_decide_eq_false c2) (by omega)
set_option maxHeartbeats 8000000 in
theorem c_X11_obeyGang_n {kd2 fg2 pl2 : Nat → Nat} {hr2 : Nat → Int32} {g c : Nat} (hA : oC b0 cd V) (h : ¬ (g < 2 ∧ c < 20)) (hc : c < 200) (hg : g < 20) : KE l D Z b0 yX11_obeyGang cX11_obeyGang 3 (some .boolean) rmX11_obeyGang [.ref (cd 0), .int (nI g), .int (nI c)] (wC Z cd ik ugA ugB ugC rA (nf pl) hr rB (nf pl2) hr2 rC (nf ipl) ihr cX lX oX nX sX zX cY lY oY nY sY zY tm cl KR SO SZ EL V) (some (.int (nI 0))) (wC Z cd ik ugA ugB ugC rA (nf pl) hr rB (nf pl2) hr2 rC (nf ipl) ihr cX lX oX nX sX zX cY lY oY nY sY zY tm cl KR SO SZ EL V) := by
  refine KE.of (by decide) (Nat.le_of_ble_eq_true rfl) (fun Po hPo => ?_)
  refine G.locals (L' := [(0, .ref (cd 0)), (1, .int (nI g)), (2, .int (nI c))]) [0, 1, 2] rfl ?_
  refine g_iload_n (q := 1) (pc := 0) dX11_obeyGang_0 rfl rfl ?_
  refine g_iconst (v := nI 2) (pc := 1) dX11_obeyGang_1 (by decide) ?_
  refine e_callS (k2 := 0) (n2 := 0) (As := [.int (nI g), .int (nI 2)]) (rest := []) (pc := 2) (c_X11_isBelowN (by decide) (by omega)) mlX11_69 mX11_isBelow ⟨Nat.le_of_ble_eq_true rfl, Nat.le_of_ble_eq_true rfl⟩ rfl rfl (Nat.le_of_ble_eq_true rfl) dX11_obeyGang_2 (by decide) rfl rfl ?_
  refine g_if_eq_B (tgt := 17) (pc := 5) dX11_obeyGang_5 (by decide) (fun c1 => ?_) (fun c1 => ?_)
  · -- T c1
    have c1 := of_decide_eq_false c1
    refine g_iconst (v := nI 0) (pc := 17) dX11_obeyGang_17 (by decide) ?_
    exact g_zret (pc := 18) (by decide) (by decide) (by decide) (hPo) dX11_obeyGang_18
  · -- F c1
    have c1 := of_decide_eq_true c1
    refine g_iload_n (q := 2) (pc := 8) dX11_obeyGang_8 rfl rfl ?_
    refine g_bipush (v := nI 20) (pc := 9) dX11_obeyGang_9 (by decide) ?_
    refine e_callS (k2 := 0) (n2 := 0) (As := [.int (nI c), .int (nI 20)]) (rest := []) (pc := 11) (c_X11_isBelowN (by decide) (by omega)) mlX11_69 mX11_isBelow ⟨Nat.le_of_ble_eq_true rfl, Nat.le_of_ble_eq_true rfl⟩ rfl rfl (Nat.le_of_ble_eq_true rfl) dX11_obeyGang_11 (by decide) rfl rfl ?_
    refine g_if_ne_B (tgt := 19) (pc := 14) dX11_obeyGang_14 (by decide) (fun c2 => ?_) (fun c2 => ?_)
    · -- T c2
      exact absurd ⟨by assumption, of_decide_eq_true c2⟩ h
    · -- F c2
      have c2 := of_decide_eq_false c2
      refine g_iconst (v := nI 0) (pc := 17) dX11_obeyGang_17 (by decide) ?_
      exact g_zret (pc := 18) (by decide) (by decide) (by decide) (hPo) dX11_obeyGang_18
end MS
