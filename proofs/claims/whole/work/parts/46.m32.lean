theorem nI_bv {a : Nat} (h : a < 256) : (nI a).toBitVec.toNat = a := by
  show (BitVec.ofNat 32 a).toNat = a
  rw [BitVec.toNat_ofNat]; omega
theorem bv_lt {x : Int32} {m : Nat} (hm : m < 256) (h : x.toBitVec.toNat = m) : x = nI m := by
  apply Int32.toBitVec_inj.mp
  apply BitVec.eq_of_toNat_eq
  rw [h, nI_bv hm]
theorem nI_and {a b : Nat} (ha : a < 256) (hb : b < 256) : nI a &&& nI b = nI (a &&& b) := by
  refine bv_lt (Nat.lt_of_le_of_lt Nat.and_le_left ha) ?_
  show ((nI a).toBitVec &&& (nI b).toBitVec).toNat = _
  rw [BitVec.toNat_and, nI_bv ha, nI_bv hb]
theorem nI_or {a b : Nat} (ha : a < 256) (hb : b < 256) : nI a ||| nI b = nI (a ||| b) := by
  have h : a ||| b < 2 ^ 8 := Nat.or_lt_two_pow (n := 8) ha hb
  refine bv_lt h ?_
  show ((nI a).toBitVec ||| (nI b).toBitVec).toNat = _
  rw [BitVec.toNat_or, nI_bv ha, nI_bv hb]
def MK (el : Nat → Int32) (d e i jj : Nat) (x : Int32) : Prop := ∃ m, m < 256 ∧ x = nI m ∧ ∀ q, q < 8 → (m.testBit q = true ↔ (i < q ∧ q < jj ∧ takenB (cdN el (100 * d + i)) (cdN el (100 * d + q)) e = true))
theorem MK.ini {el : Nat → Int32} {d e i : Nat} : MK el d e i (i + 1) (nI 0) := ⟨0, by decide, rfl, fun q _ => ⟨fun h => (by rw [Nat.zero_testBit] at h; cases h), fun h => (by omega)⟩⟩
theorem MK.no {el : Nat → Int32} {d e i j : Nat} {x : Int32} (h : MK el d e i j x) (ht : takenB (cdN el (100 * d + i)) (cdN el (100 * d + j)) e = false) : MK el d e i (j + 1) x := by
  obtain ⟨m, h1, h2, h3⟩ := h
  refine ⟨m, h1, h2, fun q hq => (h3 q hq).trans ⟨fun z => ⟨z.1, by omega, z.2.2⟩, fun z => ⟨z.1, ?_, z.2.2⟩⟩⟩
  by_cases e9 : q = j
  · subst e9; rw [ht] at z; exact absurd z.2.2 (by decide)
  · omega
theorem MK.yes {el : Nat → Int32} {d e i j : Nat} {x : Int32} (h : MK el d e i j x) (hij : i < j) (hj : j < 8) (ht : takenB (cdN el (100 * d + i)) (cdN el (100 * d + j)) e = true) : MK el d e i (j + 1) (x ||| nI 1 <<< (nI j &&& 31)) := by
  obtain ⟨m, h1, rfl, h3⟩ := h
  have hp : 2 ^ j < 256 := by
    have : 2 ^ j ≤ 2 ^ 7 := Nat.pow_le_pow_right (by decide) (by omega)
    omega
  refine ⟨m ||| 2 ^ j, Nat.or_lt_two_pow (n := 8) h1 hp, by rw [pw_ok j (by omega), nI_or h1 hp], fun q hq => ?_⟩
  rw [Nat.testBit_or, Bool.or_eq_true, h3 q hq, Nat.testBit_two_pow, decide_eq_true_eq]
  constructor
  · rintro (z | rfl)
    · exact ⟨z.1, by omega, z.2.2⟩
    · exact ⟨hij, by omega, ht⟩
  · intro z
    by_cases e9 : j = q
    · exact Or.inr e9
    · exact Or.inl ⟨z.1, by omega, z.2.2⟩
theorem MK.fin {el : Nat → Int32} {d e i j n : Nat} {x : Int32} (h : MK el d e i j x) (h1 : n ≤ j) (h2 : j = i + 1 ∨ j ≤ n) : MK el d e i n x := by
  obtain ⟨m, g1, g2, g3⟩ := h
  exact ⟨m, g1, g2, fun q hq => (g3 q hq).trans ⟨fun z => ⟨z.1, by omega, z.2.2⟩, fun z => ⟨z.1, by omega, z.2.2⟩⟩⟩
theorem tb_div (m q : Nat) : m.testBit q = true ↔ m / 2 ^ q % 2 = 1 := by rw [Nat.testBit_eq_decide_div_mod_eq, decide_eq_true_eq]
theorem MK.z {el : Nat → Int32} {d e i n set : Nat} {x : Int32} (h : MK el d e i n x) (hs : set < 256) (hz : nI set &&& x = 0) : ∀ q, i < q → q < n → q < 8 → set / 2 ^ q % 2 = 1 → takenB (cdN el (100 * d + i)) (cdN el (100 * d + q)) e = false := by
  obtain ⟨m, g1, rfl, g3⟩ := h
  intro q h1 h2 h3 h4
  rw [nI_and hs g1] at hz
  have e0 : set &&& m = 0 := nI_inj (i := set &&& m) (j := 0) (Nat.lt_of_le_of_lt Nat.and_le_left (by omega)) (by decide) hz
  cases ht : takenB (cdN el (100 * d + i)) (cdN el (100 * d + q)) e with
  | false => rfl
  | true =>
    have b1 : m.testBit q = true := (g3 q h3).mpr ⟨h1, h2, ht⟩
    have b2 : set.testBit q = true := (tb_div set q).mpr h4
    have b3 : (set &&& m).testBit q = true := by rw [Nat.testBit_and, b1, b2]; rfl
    rw [e0, Nat.zero_testBit] at b3; cases b3
theorem MK.nz {el : Nat → Int32} {d e i n set : Nat} {x : Int32} (h : MK el d e i n x) (hs : set < 256) (hz : ¬ nI set &&& x = 0) : ∃ q, i < q ∧ q < n ∧ q < 8 ∧ set / 2 ^ q % 2 = 1 ∧ takenB (cdN el (100 * d + i)) (cdN el (100 * d + q)) e = true := by
  obtain ⟨m, g1, rfl, g3⟩ := h
  rw [nI_and hs g1] at hz
  have hne : set &&& m ≠ 0 := fun z => hz (by rw [z]; rfl)
  obtain ⟨q, hq⟩ := Nat.exists_testBit_of_ne_zero hne
  rw [Nat.testBit_and, Bool.and_eq_true] at hq
  have hq8 : q < 8 := by
    by_cases z : q < 8
    · exact z
    · have : set.testBit q = false := Nat.testBit_lt_two_pow (Nat.lt_of_lt_of_le hs (show 2 ^ 8 ≤ 2 ^ q from Nat.pow_le_pow_right (by decide) (by omega)))
      rw [this] at hq; exact absurd hq.1 (by decide)
  have g := (g3 q hq8).mp hq.2
  exact ⟨q, g.1, g.2.1, hq8, (tb_div set q).mp hq.1, g.2.2⟩
theorem takenB_comm (a b e : Nat) : takenB a b e = takenB b a e := by unfold takenB; rw [Bool.and_comm]
theorem sfK_of {el : Nat → Int32} {d e set i : Nat} : ∀ n, (∀ k, k < n → clash el d e set i k = false) → sfK el d e set i n = true
  | 0, _ => rfl
  | n + 1, h => sfK_s (sfK_of n (fun k hk => h k (by omega))) (h n (by omega))
theorem sfA_of {el : Nat → Int32} {d e set : Nat} : ∀ n, (∀ i, i < n → ∀ k, k < i → clash el d e set i k = false) → sfA el d e set n = true
  | 0, _ => rfl
  | n + 1, h => sfA_s (sfA_of n (fun i hi => h i (by omega))) (sfK_of n (fun k hk => h n (by omega) k hk))
def NoC (el : Nat → Int32) (d e set n i0 : Nat) : Prop := ∀ i, i < i0 → set / 2 ^ i % 2 = 1 → ∀ q, i < q → q < n → set / 2 ^ q % 2 = 1 → takenB (cdN el (100 * d + i)) (cdN el (100 * d + q)) e = false
theorem NoC.skip {el : Nat → Int32} {d e set n i0 : Nat} (h : NoC el d e set n i0) (hb : ¬ set / 2 ^ i0 % 2 = 1) : NoC el d e set n (i0 + 1) := fun i hi hbi => by
  by_cases z : i = i0
  · subst z; exact absurd hbi hb
  · exact h i (by omega) hbi
theorem NoC.next {el : Nat → Int32} {d e set n i0 : Nat} {x : Int32} (h : NoC el d e set n i0) (hm : MK el d e i0 n x) (hn : n ≤ 8) (hs : set < 256) (hz : nI set &&& x = 0) : NoC el d e set n (i0 + 1) := fun i hi hbi q h1 h2 h3 => by
  by_cases z : i = i0
  · subst z; exact hm.z hs hz q h1 h2 (by omega) h3
  · exact h i (by omega) hbi q h1 h2 h3
theorem NoC.fin {el : Nat → Int32} {d e set n i0 : Nat} (h : NoC el d e set n i0) (h0 : 8 ≤ i0) (hn : n ≤ 8) : sfA el d e set n = true := sfA_of n (fun i hi k hk => by
  by_cases b1 : set / 2 ^ i % 2 = 1
  · by_cases b2 : set / 2 ^ k % 2 = 1
    · exact clash_f3 (by rw [takenB_comm]; exact h k (by omega) b2 i hk hi b1)
    · exact clash_f2 b2
  · exact clash_f1 b1)
theorem NoC.bad {el : Nat → Int32} {d e set n i0 : Nat} {x : Int32} (hm : MK el d e i0 n x) (hs : set < 256) (hb : set / 2 ^ i0 % 2 = 1) (hz : ¬ nI set &&& x = 0) : sfA el d e set n = false := by
  obtain ⟨q, h1, h2, h3, h4, h5⟩ := hm.nz hs hz
  exact sfA_f (sfK_f (clash_t h4 hb (by rw [takenB_comm]; exact h5)) q h1) n h2
theorem spSafeG_o {kp so sz : Nat → Nat} {d e what : Int32} (h : inR d 8 = false) : spSafeG kp so sz d e what = (-1) := by rw [spSafeG, if_neg (by rw [h]; decide)]
theorem spSafeG_e {kp so sz : Nat → Nat} {d e what : Int32} (h : inR e 9 = false) : spSafeG kp so sz d e what = (-1) := by
  unfold spSafeG; split
  · rw [if_neg (by rw [h]; decide)]
  · rfl
theorem spSafeG_w {kp so sz : Nat → Nat} {d e what : Int32} (h : inR what 2 = false) : spSafeG kp so sz d e what = (-1) := by
  unfold spSafeG; split
  · split
    · rw [if_neg (by rw [h]; decide)]
    · rfl
  · rfl
theorem spSafeG_r {kp so sz : Nat → Nat} {n : Nat} {e what : Int32} (hn : n < 8) (he : inR e 9 = true) (hw : inR what 2 = true) : spSafeG kp so sz (nI n) e what = if spWR kp so (nI n) (some 0) = 0 then (if sz n ≤ 8 then nI 0 else (-13)) else spWR kp so (nI n) (some 0) := by
  rw [spSafeG, if_pos (inR_lt hn (by omega)), if_pos he, if_pos hw, dN_N (by omega)]
theorem updM {f : Nat → Int32} {P : Nat → Int32 → Prop} {i : Nat} {x : Int32} (h : ∀ j, j < i → P j (f j)) (hx : P i x) : ∀ j, j < i + 1 → P j (upd f i x j) := fun j hj => by
  by_cases q : j = i
  · subst q; rw [upd_eq]; exact hx
  · rw [upd_ne q]; exact h j (by omega)
theorem updK {f : Nat → Int32} {P : Nat → Int32 → Prop} {i : Nat} {x : Int32} (h : ∀ j, j < i → P j (f j)) : ∀ j, j < i → P j (upd f i x j) := fun j hj => by rw [upd_ne (by omega)]; exact h j hj
theorem updI {f : Nat → Int32} {P : Nat → Int32 → Prop} {i : Nat} (h : ∀ j, j < i → P j (f j)) (hx : P i (f i)) : ∀ j, j < i + 1 → P j (f j) := fun j hj => by
  by_cases q : j = i
  · subst q; exact hx
  · exact h j (by omega)
section MS
variable {l : Launch} {D : va_G} {Z : Nat → ClassId} {b0 : Nat} {cd : Nat → Nat} {ik : Int32} {ugA ugB ugC : Nat} {rA : Nat → Nat} {pA tA : Nat → Int32} {rB : Nat → Nat} {pB tB : Nat → Int32} {rC : Nat → Nat} {pC tC cX lX oX nX sX zX cY lY oY nY sY zY tm cl : Nat → Int32} {KR : Nat → Option Nat} {SO : Nat → Int32} {SZ : Nat → Nat} {EL : Nat → Nat → Int32} {V Vb : HV} {kd fg pl ikd ifg ipl kp so sz : Nat → Nat} {hr ihr el ki kf : Nat → Int32}
def rmX11_findClashes : Room := { frames := 2, cells := 0, slots := 0, locals := 42 }
set_option maxHeartbeats 8000000 in
theorem c_X11_findClashes {d e : Nat} (hA : oC b0 cd V) (hd : d < 8) (hze : SZ d = sz d) (hz8 : sz d ≤ 8) (hel : ∀ i, i < sz d → EL d i = el (100 * d + i)) (he : e < 9) : KM l D Z b0 yX11_findClashes cX11_findClashes 5 none rmX11_findClashes [.ref (cd 0), .ref (cd (30 + d)), .int (nI e)] (wC Z cd ik ugA ugB ugC rA (nf pl) hr rB pB tB rC (nf ipl) ihr cX lX oX nX sX zX cY lY oY nY sY zY tm cl KR SO SZ EL V) (fun v0 V' => v0 = none ∧ ∃ f9 : Nat → Int32, (∀ j, j < 8 → MK el d e j (sz d) (f9 j)) ∧ V' = wC Z cd ik ugA ugB ugC rA (nf pl) hr rB pB tB rC (nf ipl) ihr cX lX oX nX sX zX cY lY oY nY sY zY tm f9 KR SO SZ EL V) := by
  refine KM.ofP (by decide) (Nat.le_of_ble_eq_true rfl) (fun Po hPo => ?_)
  refine G.locals (L' := [(0, .ref (cd 0)), (1, .ref (cd (30 + d))), (2, .int (nI e))]) [0, 1, 2] rfl ?_
  refine g_iconst (v := nI 0) (pc := 0) dX11_findClashes_0 (by decide) ?_
  refine g_istore_n (lv' := [(3, .int (nI 0)), (0, .ref (cd 0)), (1, .ref (cd (30 + d))), (2, .int (nI e))]) (pc := 1) dX11_findClashes_1 rfl (by decide) rfl ?_
  have lp2 : ∀ (d2 : Nat) (i : Nat) (f8 : Nat → Int32), i + d2 = 9 → (i ≤ 8) → (∀ j, j < i → MK el d e j (sz d) (f8 j)) → G l D Z b0 rmX11_findClashes RX11 cX11_findClashes 5 (gE none "findClashes") (gT D b0 Po rmX11_findClashes.cells rmX11_findClashes.slots) (wC Z cd ik ugA ugB ugC rA (nf pl) hr rB pB tB rC (nf ipl) ihr cX lX oX nX sX zX cY lY oY nY sY zY tm f8 KR SO SZ EL V) [(3, .int (nI i)), (0, .ref (cd 0)), (1, .ref (cd (30 + d))), (2, .int (nI e))] 0 0 2 [] := by
    intro d2
    induction d2 with
    | zero =>
      intro i f8 hd2 hiN hf8
      exact absurd hd2 (by omega)
    | succ d2 ih2 =>
      intro i f8 hd2 hiN hf8
      refine g_iload_n (q := 0) (pc := 2) dX11_findClashes_2 rfl rfl ?_
      refine g_bipush (v := nI 8) (pc := 3) dX11_findClashes_3 (by decide) ?_
      refine g_icmp_ge_N (tgt := 80) (pc := 5) (by omega) (by omega) dX11_findClashes_5 (by decide) (fun c1 => ?_) (fun c1 => ?_)
      · -- T c1
        exact g_vret (pc := 80) (by decide) (by decide) (hPo _ _ ⟨rfl, _, fun j hj => hf8 j (by omega), rfl⟩) dX11_findClashes_80
      · -- F c1
        refine g_aload_n (q := 1) (pc := 8) dX11_findClashes_8 rfl rfl ?_
        refine gc_get_O_clashes (pc := 9) hA flX11_46 dX11_findClashes_9 ?_
        refine g_iload_n (q := 0) (pc := 12) dX11_findClashes_12 rfl rfl ?_
        refine g_iconst (v := nI 0) (pc := 13) dX11_findClashes_13 (by decide) ?_
        refine gc_st_cl (pc := 14) (j := i) (f' := (upd f8 i (nI 0))) hA (by omega) rfl dX11_findClashes_14 ?_
        refine g_iload_n (q := 0) (pc := 15) dX11_findClashes_15 rfl rfl ?_
        refine g_iconst (v := nI 1) (pc := 16) dX11_findClashes_16 (by decide) ?_
        refine g_iadd_N (pc := 17) dX11_findClashes_17 ?_
        refine g_istore (lv' := [(4, .int (nI (i + 1))), (3, .int (nI i)), (0, .ref (cd 0)), (1, .ref (cd (30 + d))), (2, .int (nI e))]) (pc := 18) dX11_findClashes_18 (by decide) rfl ?_
        have lp20 : ∀ (d20 : Nat) (j : Nat) (f7 : Nat → Int32), j + d20 = 10 → (i < j) → (j ≤ 9) → (∀ x, x < i → MK el d e x (sz d) (f7 x)) → (MK el d e i j (f7 i)) → (j = i + 1 ∨ j ≤ sz d) → G l D Z b0 rmX11_findClashes RX11 cX11_findClashes 5 (gE none "findClashes") (gT D b0 Po rmX11_findClashes.cells rmX11_findClashes.slots) (wC Z cd ik ugA ugB ugC rA (nf pl) hr rB pB tB rC (nf ipl) ihr cX lX oX nX sX zX cY lY oY nY sY zY tm f7 KR SO SZ EL V) [(4, .int (nI j)), (3, .int (nI i)), (0, .ref (cd 0)), (1, .ref (cd (30 + d))), (2, .int (nI e))] 0 0 20 [] := by
          intro d20
          induction d20 with
          | zero =>
            intro j f7 hd20 hij hj9 hf7 hm7 hj7
            exact absurd hd20 (by omega)
          | succ d20 ih20 =>
            intro j f7 hd20 hij hj9 hf7 hm7 hj7
            refine g_iload (q := 0) (pc := 20) dX11_findClashes_20 rfl ?_
            refine g_aload_n (q := 3) (pc := 22) dX11_findClashes_22 rfl rfl ?_
            refine gc_get_S_size (pc := 23) (d := d) hA (by omega) flX11_132 dX11_findClashes_23 ?_
            refine g_top (x := nI (SZ d)) (y := nI (sz d)) (congrArg nI hze) ?_
            refine g_icmp_ge_N (tgt := 74) (pc := 26) (by omega) (by omega) dX11_findClashes_26 (by decide) (fun c2 => ?_) (fun c2 => ?_)
            · -- T c2
              refine g_iinc (q := 1) (lv' := [(3, .int (nI (i + 1))), (4, .int (nI j)), (0, .ref (cd 0)), (1, .ref (cd (30 + d))), (2, .int (nI e))]) (pc := 74) dX11_findClashes_74 rfl (nI_inc _ _) (by decide) rfl ?_
              refine g_goto (tgt := 2) (pc := 77) dX11_findClashes_77 (by decide) ?_
              refine G.locals (L' := [(3, .int (nI (i + 1))), (0, .ref (cd 0)), (1, .ref (cd (30 + d))), (2, .int (nI e))]) [0, 2, 3, 4] rfl ?_
              exact ih2 (i + 1) f7 (by omega) (by omega) (updI hf7 (hm7.fin (by omega) hj7))
            · -- F c2
              refine g_aload_n (q := 3) (pc := 29) dX11_findClashes_29 rfl rfl ?_
              refine g_iload_n (q := 1) (pc := 30) dX11_findClashes_30 rfl rfl ?_
              refine e_callV (k2 := 0) (n2 := 0) (As := [.int (nI i)]) (rest := []) (pc := 31) (wC_sh hA hd) rfl (c_X7_at_s (x := el (100 * d + i)) hA hd (by rw [hze]; omega) (by rw [hze]; omega) (hel i (by omega))) mlX11_200 selX7_X7_at_X7_at mX7_at ⟨Nat.le_of_ble_eq_true rfl, Nat.le_of_ble_eq_true rfl⟩ rfl rfl (Nat.le_of_ble_eq_true rfl) dX11_findClashes_31 (by decide) rfl rfl ?_
              refine g_sipush (v := nI 255) (pc := 34) dX11_findClashes_34 (by decide) ?_
              refine g_iand (pc := 37) dX11_findClashes_37 ?_
              refine g_top (x := (el (100 * d + i)) &&& (nI 255)) (y := nI (cdN el (100 * d + i))) (cd_ok el (100 * d + i)).1 ?_
              refine g_aload_n (q := 3) (pc := 38) dX11_findClashes_38 rfl rfl ?_
              refine g_iload (q := 0) (pc := 39) dX11_findClashes_39 rfl ?_
              refine e_callV (k2 := 0) (n2 := 0) (As := [.int (nI j)]) (rest := [.int (nI (cdN el (100 * d + i)))]) (pc := 41) (wC_sh hA hd) rfl (c_X7_at_s (x := el (100 * d + j)) hA hd (by rw [hze]; omega) (by rw [hze]; omega) (hel j (by omega))) mlX11_200 selX7_X7_at_X7_at mX7_at ⟨Nat.le_of_ble_eq_true rfl, Nat.le_of_ble_eq_true rfl⟩ rfl rfl (Nat.le_of_ble_eq_true rfl) dX11_findClashes_41 (by decide) rfl rfl ?_
              refine g_sipush (v := nI 255) (pc := 44) dX11_findClashes_44 (by decide) ?_
              refine g_iand (pc := 47) dX11_findClashes_47 ?_
              refine g_top (x := (el (100 * d + j)) &&& (nI 255)) (y := nI (cdN el (100 * d + j))) (cd_ok el (100 * d + j)).1 ?_
              refine g_iload_n (q := 4) (pc := 48) dX11_findClashes_48 rfl rfl ?_
              refine e_callS (k2 := 0) (n2 := 0) (As := [.int (nI (cdN el (100 * d + i))), .int (nI (cdN el (100 * d + j))), .int (nI e)]) (rest := []) (pc := 49) (c_X11_areAlike (cd_ok el _).2 (cd_ok el _).2 (by omega)) mlX11_171 mX11_areAlike ⟨Nat.le_of_ble_eq_true rfl, Nat.le_of_ble_eq_true rfl⟩ rfl rfl (Nat.le_of_ble_eq_true rfl) dX11_findClashes_49 (by decide) rfl rfl ?_
              refine g_if_eq_B (tgt := 68) (pc := 52) dX11_findClashes_52 (by decide) (fun c3 => ?_) (fun c3 => ?_)
              · -- T c3
                refine g_iinc (q := 0) (lv' := [(4, .int (nI (j + 1))), (3, .int (nI i)), (0, .ref (cd 0)), (1, .ref (cd (30 + d))), (2, .int (nI e))]) (pc := 68) dX11_findClashes_68 rfl (nI_inc _ _) (by decide) rfl ?_
                refine g_goto (tgt := 20) (pc := 71) dX11_findClashes_71 (by decide) ?_
                refine G.locals (L' := [(4, .int (nI (j + 1))), (3, .int (nI i)), (0, .ref (cd 0)), (1, .ref (cd (30 + d))), (2, .int (nI e))]) [0, 1, 2, 3, 4] rfl ?_
                exact ih20 (j + 1) f7 (by omega) (by omega) (by omega) hf7 (MK.no hm7 (by assumption)) (by omega)
              · -- F c3
                refine g_aload_n (q := 2) (pc := 55) dX11_findClashes_55 rfl rfl ?_
                refine gc_get_O_clashes (pc := 56) hA flX11_46 dX11_findClashes_56 ?_
                refine g_iload_n (q := 1) (pc := 59) dX11_findClashes_59 rfl rfl ?_
                refine g_dup2_11 (pc := 60) dX11_findClashes_60 rfl rfl ?_
                refine gc_ld_cl (pc := 61) (j := i) (x := f7 i) hA (by omega) rfl dX11_findClashes_61 ?_
                refine g_iconst (v := nI 1) (pc := 62) dX11_findClashes_62 (by decide) ?_
                refine g_iload (q := 0) (pc := 63) dX11_findClashes_63 rfl ?_
                refine g_ishl (pc := 65) dX11_findClashes_65 ?_
                refine g_ior (pc := 66) dX11_findClashes_66 ?_
                refine gc_st_cl (pc := 67) (j := i) (f' := (upd f7 i ((f7 i) ||| ((nI 1) <<< ((nI j) &&& 31))))) hA (by omega) rfl dX11_findClashes_67 ?_
                refine g_iinc (q := 0) (lv' := [(4, .int (nI (j + 1))), (3, .int (nI i)), (0, .ref (cd 0)), (1, .ref (cd (30 + d))), (2, .int (nI e))]) (pc := 68) dX11_findClashes_68 rfl (nI_inc _ _) (by decide) rfl ?_
                refine g_goto (tgt := 20) (pc := 71) dX11_findClashes_71 (by decide) ?_
                refine G.locals (L' := [(4, .int (nI (j + 1))), (3, .int (nI i)), (0, .ref (cd 0)), (1, .ref (cd (30 + d))), (2, .int (nI e))]) [0, 1, 2, 3, 4] rfl ?_
                exact ih20 (j + 1) (upd f7 i ((f7 i) ||| ((nI 1) <<< ((nI j) &&& 31)))) (by omega) (by omega) (by omega) (updK hf7) (by rw [upd_eq]; exact MK.yes hm7 (by omega) (by omega) (by assumption)) (by omega)
        refine G.locals (L' := [(4, .int (nI (i + 1))), (3, .int (nI i)), (0, .ref (cd 0)), (1, .ref (cd (30 + d))), (2, .int (nI e))]) [0, 1, 2, 3, 4] rfl ?_
        exact lp20 (9 - i) (i + 1) (upd f8 i (nI 0)) (by omega) (by omega) (by omega) (updK hf8) (by rw [upd_eq]; exact MK.ini) (Or.inl rfl)
  refine G.locals (L' := [(3, .int (nI 0)), (0, .ref (cd 0)), (1, .ref (cd (30 + d))), (2, .int (nI e))]) [0, 1, 2, 3] rfl ?_
  exact lp2 9 0 cl (by omega) (by decide) (fun j hj => absurd hj (Nat.not_lt_zero _))
def rmX11_isWithoutClash : Room := { frames := 0, cells := 0, slots := 0, locals := 0 }
set_option maxHeartbeats 8000000 in
theorem c_X11_isWithoutClash {d e set n : Nat} (hA : oC b0 cd V) (hmk : ∀ j, j < 8 → MK el d e j n (cl j)) (hn8 : n ≤ 8) (hs8 : set < 256) : KE l D Z b0 yX11_isWithoutClash cX11_isWithoutClash 3 (some .boolean) rmX11_isWithoutClash [.ref (cd 0), .int (nI set)] (wC Z cd ik ugA ugB ugC rA pA tA rB pB tB rC pC tC cX lX oX nX sX zX cY lY oY nY sY zY tm cl KR SO SZ EL V) (some (.int (bI (sfA el d e set n)))) (wC Z cd ik ugA ugB ugC rA pA tA rB pB tB rC pC tC cX lX oX nX sX zX cY lY oY nY sY zY tm cl KR SO SZ EL V) := by
  refine KE.of (by decide) (Nat.le_of_ble_eq_true rfl) (fun Po hPo => ?_)
  refine G.locals (L' := [(0, .ref (cd 0)), (1, .int (nI set))]) [0, 1] rfl ?_
  refine g_iconst (v := nI 0) (pc := 0) dX11_isWithoutClash_0 (by decide) ?_
  refine g_istore_n (lv' := [(2, .int (nI 0)), (0, .ref (cd 0)), (1, .int (nI set))]) (pc := 1) dX11_isWithoutClash_1 rfl (by decide) rfl ?_
  have lp2 : ∀ (d2 : Nat) (i : Nat), i + d2 = 9 → (i ≤ 8) → (NoC el d e set n i) → G l D Z b0 rmX11_isWithoutClash RX11 cX11_isWithoutClash 3 (gE (some .boolean) "isWithoutClash") (gT D b0 Po rmX11_isWithoutClash.cells rmX11_isWithoutClash.slots) (wC Z cd ik ugA ugB ugC rA pA tA rB pB tB rC pC tC cX lX oX nX sX zX cY lY oY nY sY zY tm cl KR SO SZ EL V) [(2, .int (nI i)), (0, .ref (cd 0)), (1, .int (nI set))] 0 0 2 [] := by
    intro d2
    induction d2 with
    | zero =>
      intro i hd2 hiN hno
      exact absurd hd2 (by omega)
    | succ d2 ih2 =>
      intro i hd2 hiN hno
      refine g_iload_n (q := 0) (pc := 2) dX11_isWithoutClash_2 rfl rfl ?_
      refine g_bipush (v := nI 8) (pc := 3) dX11_isWithoutClash_3 (by decide) ?_
      refine g_icmp_ge_N (tgt := 36) (pc := 5) (by omega) (by omega) dX11_isWithoutClash_5 (by decide) (fun c1 => ?_) (fun c1 => ?_)
      · -- T c1
        refine g_iconst (v := nI 1) (pc := 36) dX11_isWithoutClash_36 (by decide) ?_
        exact g_zret (pc := 37) (by decide) (by decide) (by decide) (eqI hPo (congrArg bI (hno.fin (by omega) hn8))) dX11_isWithoutClash_37
      · -- F c1
        refine g_iload_n (q := 2) (pc := 8) dX11_isWithoutClash_8 rfl rfl ?_
        refine g_iload_n (q := 0) (pc := 9) dX11_isWithoutClash_9 rfl rfl ?_
        refine g_ishr (pc := 10) dX11_isWithoutClash_10 ?_
        refine g_iconst (v := nI 1) (pc := 11) dX11_isWithoutClash_11 (by decide) ?_
        refine g_iand (pc := 12) dX11_isWithoutClash_12 ?_
        refine g_top (x := ((nI set) >>> ((nI i) &&& 31)) &&& (nI 1)) (y := nI (set / 2 ^ i % 2)) (bit_ok set hs8 i (by omega)) ?_
        refine g_iconst (v := nI 1) (pc := 13) dX11_isWithoutClash_13 (by decide) ?_
        refine g_icmp_ne_N (tgt := 30) (pc := 14) (by omega) (by omega) dX11_isWithoutClash_14 (by decide) (fun c2 => ?_) (fun c2 => ?_)
        · -- T c2
          refine g_iinc (q := 0) (lv' := [(2, .int (nI (i + 1))), (0, .ref (cd 0)), (1, .int (nI set))]) (pc := 30) dX11_isWithoutClash_30 rfl (nI_inc _ _) (by decide) rfl ?_
          refine g_goto (tgt := 2) (pc := 33) dX11_isWithoutClash_33 (by decide) ?_
          refine G.locals (L' := [(2, .int (nI (i + 1))), (0, .ref (cd 0)), (1, .int (nI set))]) [0, 1, 2] rfl ?_
          exact ih2 (i + 1) (by omega) (by omega) (by first | exact NoC.skip hno (by omega) | exact NoC.next hno (hmk i (by omega)) hn8 hs8 (by assumption))
        · -- F c2
          refine g_iload_n (q := 2) (pc := 17) dX11_isWithoutClash_17 rfl rfl ?_
          refine g_aload_n (q := 1) (pc := 18) dX11_isWithoutClash_18 rfl rfl ?_
          refine gc_get_O_clashes (pc := 19) hA flX11_46 dX11_isWithoutClash_19 ?_
          refine g_iload_n (q := 0) (pc := 22) dX11_isWithoutClash_22 rfl rfl ?_
          refine gc_ld_cl (pc := 23) (j := i) (x := cl i) hA (by omega) rfl dX11_isWithoutClash_23 ?_
          refine g_iand (pc := 24) dX11_isWithoutClash_24 ?_
          refine g_if_eq (tgt := 30) (pc := 25) dX11_isWithoutClash_25 (by decide) (fun c3 => ?_) (fun c3 => ?_)
          · -- T c3
            refine g_iinc (q := 0) (lv' := [(2, .int (nI (i + 1))), (0, .ref (cd 0)), (1, .int (nI set))]) (pc := 30) dX11_isWithoutClash_30 rfl (nI_inc _ _) (by decide) rfl ?_
            refine g_goto (tgt := 2) (pc := 33) dX11_isWithoutClash_33 (by decide) ?_
            refine G.locals (L' := [(2, .int (nI (i + 1))), (0, .ref (cd 0)), (1, .int (nI set))]) [0, 1, 2] rfl ?_
            exact ih2 (i + 1) (by omega) (by omega) (by first | exact NoC.skip hno (by omega) | exact NoC.next hno (hmk i (by omega)) hn8 hs8 (by assumption))
          · -- F c3
            refine g_iconst (v := nI 0) (pc := 28) dX11_isWithoutClash_28 (by decide) ?_
            exact g_zret (pc := 29) (by decide) (by decide) (by decide) (eqI hPo (congrArg bI (NoC.bad (hmk i (by omega)) hs8 (by assumption) (by assumption)))) dX11_isWithoutClash_29
  refine G.locals (L' := [(2, .int (nI 0)), (0, .ref (cd 0)), (1, .int (nI set))]) [0, 1, 2] rfl ?_
  exact lp2 9 0 (by omega) (by decide) (fun i hi => absurd hi (Nat.not_lt_zero _))
def rmX11_safe : Room := { frames := 3, cells := 0, slots := 0, locals := 66 }
set_option maxHeartbeats 8000000 in
theorem c_X11_safe_s {d e what : Nat} (hA : oC b0 cd V) (hE : Ext Vb V) (hgA : Rk V ugA 7 0) (hgB : Rk V ugB 7 0) (hmA : mo V rA kd fg) (hmC : mo V rC ikd ifg) (hpl : ∀ g, g < 2 → pl g < 20) (hipl : ∀ g, g < 2 → ipl g < 20) (hSh : Sh V KR SO SZ EL kp so sz el ki kf) (hd : d < 8) (hk : kp d = 2) (hsr : so d = 0) (hz8 : sz d ≤ 8) (he : e < 9) (hw : what < 2) : KM l D Z b0 yX11_safe cX11_safe 9 (some .int) rmX11_safe [.ref (cd 0), .int (nI d), .int (nI e), .int (nI what)] (wC Z cd ik ugA ugB ugC rA (nf pl) hr rB pB tB rC (nf ipl) ihr cX lX oX nX sX zX cY lY oY nY sY zY tm cl KR SO SZ EL V) (fun v0 V' => v0 = some (.int (spSafeV el d (sz d) e what)) ∧ CI Z b0 cd Vb ik kd fg pl hr ikd ifg ipl ihr kp so sz el ki kf V') := by
  refine KM.ofP (by decide) (Nat.le_of_ble_eq_true rfl) (fun Po hPo => ?_)
  refine G.locals (L' := [(0, .ref (cd 0)), (1, .int (nI d)), (2, .int (nI e)), (3, .int (nI what))]) [0, 1, 2, 3] rfl ?_
  have h2 := And.intro hk (Sh.r2 hSh hd hk)
  have hz9 := h2.2.2.2.2.2.1
  refine g_iload_n (q := 2) (pc := 0) dX11_safe_0 rfl rfl ?_
  refine g_bipush (v := nI 9) (pc := 1) dX11_safe_1 (by decide) ?_
  refine e_callS (k2 := 0) (n2 := 0) (As := [.int (nI e), .int (nI 9)]) (rest := []) (pc := 3) (c_X11_isBelowN (by decide) (by omega)) mlX11_69 mX11_isBelow ⟨Nat.le_of_ble_eq_true rfl, Nat.le_of_ble_eq_true rfl⟩ rfl rfl (Nat.le_of_ble_eq_true rfl) dX11_safe_3 (by decide) rfl rfl ?_
  refine g_if_eq_B (tgt := 17) (pc := 6) dX11_safe_6 (by decide) (fun c1 => ?_) (fun c1 => ?_)
  · -- T c1
    exact absurd he (of_decide_eq_false c1)
  · -- F c1
    have c1 := of_decide_eq_true c1
    refine g_iload_n (q := 3) (pc := 9) dX11_safe_9 rfl rfl ?_
    refine g_iconst (v := nI 2) (pc := 10) dX11_safe_10 (by decide) ?_
    refine e_callS (k2 := 0) (n2 := 0) (As := [.int (nI what), .int (nI 2)]) (rest := []) (pc := 11) (c_X11_isBelowN (by decide) (by omega)) mlX11_69 mX11_isBelow ⟨Nat.le_of_ble_eq_true rfl, Nat.le_of_ble_eq_true rfl⟩ rfl rfl (Nat.le_of_ble_eq_true rfl) dX11_safe_11 (by decide) rfl rfl ?_
    refine g_if_ne_B (tgt := 19) (pc := 14) dX11_safe_14 (by decide) (fun c2 => ?_) (fun c2 => ?_)
    · -- T c2
      have c2 := of_decide_eq_true c2
      refine g_aload_n (q := 0) (pc := 19) dX11_safe_19 rfl rfl ?_
      refine g_iload_n (q := 1) (pc := 20) dX11_safe_20 rfl rfl ?_
      refine g_iconst (v := nI 0) (pc := 21) dX11_safe_21 (by decide) ?_
      refine e_callV (k2 := 0) (n2 := 0) (As := [.int (nI d), .int (nI 0)]) (rest := []) (pc := 22) (wC_0 hA) rfl (c_X11_rowOn__s hA hd h2.2.2.1 h2.2.2.2.1 hsr) mlX11_50 selX11_X11_rowOn__X11_rowOn_ mX11_rowOn_ ⟨Nat.le_of_ble_eq_true rfl, Nat.le_of_ble_eq_true rfl⟩ rfl rfl (Nat.le_of_ble_eq_true rfl) dX11_safe_22 (by decide) rfl rfl ?_
      refine g_astore (lv' := [(4, .ref (cd (30 + d))), (0, .ref (cd 0)), (1, .int (nI d)), (2, .int (nI e)), (3, .int (nI what))]) (pc := 25) dX11_safe_25 (by decide) rfl ?_
      refine g_aload (q := 0) (pc := 27) dX11_safe_27 rfl ?_
      refine g_ifnonnull (tgt := 38) (pc := 29) dX11_safe_29 (by decide) ?_
      refine g_aload (q := 0) (pc := 38) dX11_safe_38 rfl ?_
      refine gc_get_S_size (pc := 40) (d := d) hA (by omega) flX11_132 dX11_safe_40 ?_
      refine g_top (x := nI (SZ d)) (y := nI (sz d)) (congrArg nI h2.2.2.2.2.1) ?_
      refine g_bipush (v := nI 8) (pc := 43) dX11_safe_43 (by decide) ?_
      refine g_icmp_le_N (tgt := 51) (pc := 45) (by omega) (by omega) dX11_safe_45 (by decide) (fun c3 => ?_) (fun c3 => ?_)
      · -- T c3
        refine g_aload_n (q := 1) (pc := 51) dX11_safe_51 rfl rfl ?_
        refine g_aload (q := 0) (pc := 52) dX11_safe_52 rfl ?_
        refine g_iload_n (q := 3) (pc := 54) dX11_safe_54 rfl rfl ?_
        refine g_callV (As := [.ref (cd (30 + d)), .int (nI e)]) (rest := []) (pc := 55) (wC_0 hA) rfl (c_X11_findClashes (sz := sz) hA hd h2.2.2.2.2.1 hz8 h2.2.2.2.2.2.2 he) mlX11_175 selX11_X11_findClashes_X11_findClashes mX11_findClashes ⟨Nat.le_of_ble_eq_true rfl, Nat.le_of_ble_eq_true rfl⟩ rfl rfl (Nat.le_of_ble_eq_true rfl) dX11_safe_55 (by decide)  (fun v9 V9 h9 => ?_)
        obtain ⟨rfl, cl9, hmk9, rfl⟩ := h9
        refine G.eqst (k2 := 0) (n2 := 0) (st2 := []) rfl rfl rfl ?_
        refine g_iconst (v := nI 0) (pc := 58) dX11_safe_58 (by decide) ?_
        refine g_istore (lv' := [(5, .int (nI 0)), (4, .ref (cd (30 + d))), (0, .ref (cd 0)), (1, .int (nI d)), (2, .int (nI e)), (3, .int (nI what))]) (pc := 59) dX11_safe_59 (by decide) rfl ?_
        refine g_iconst (v := nI 0) (pc := 61) dX11_safe_61 (by decide) ?_
        refine g_istore (lv' := [(6, .int (nI 0)), (5, .int (nI 0)), (4, .ref (cd (30 + d))), (0, .ref (cd 0)), (1, .int (nI d)), (2, .int (nI e)), (3, .int (nI what))]) (pc := 62) dX11_safe_62 (by decide) rfl ?_
        refine g_iconst (v := nI 1) (pc := 64) dX11_safe_64 (by decide) ?_
        refine g_istore (lv' := [(7, .int (nI 1)), (6, .int (nI 0)), (5, .int (nI 0)), (4, .ref (cd (30 + d))), (0, .ref (cd 0)), (1, .int (nI d)), (2, .int (nI e)), (3, .int (nI what))]) (pc := 65) dX11_safe_65 (by decide) rfl ?_
        have lp67 : ∀ (d67 : Nat) (set : Nat) (b : Nat) (m : Nat), 2 ^ sz d + 1 ≤ set + d67 → (1 ≤ set) → (set ≤ 2 ^ sz d) → (b = bst el d e (sz d) set) → (m = pcN b) → G l D Z b0 rmX11_safe RX11 cX11_safe 9 (gE (some .int) "safe") (gT D b0 Po rmX11_safe.cells rmX11_safe.slots) (wC Z cd ik ugA ugB ugC rA (nf pl) hr rB pB tB rC (nf ipl) ihr cX lX oX nX sX zX cY lY oY nY sY zY tm cl9 KR SO SZ EL V) [(7, .int (nI set)), (6, .int (nI m)), (5, .int (nI b)), (0, .ref (cd 0)), (1, .int (nI d)), (2, .int (nI e)), (3, .int (nI what)), (4, .ref (cd (30 + d)))] 0 0 67 [] := by
          intro d67
          induction d67 with
          | zero =>
            intro set b m hd67 hs1 hs2 hb hm
            exact absurd hd67 (by omega)
          | succ d67 ih67 =>
            intro set b m hd67 hs1 hs2 hb hm
            refine g_iload (q := 0) (pc := 67) dX11_safe_67 rfl ?_
            refine g_iconst (v := nI 1) (pc := 69) dX11_safe_69 (by decide) ?_
            refine g_aload (q := 7) (pc := 70) dX11_safe_70 rfl ?_
            refine gc_get_S_size (pc := 72) (d := d) hA (by omega) flX11_132 dX11_safe_72 ?_
            refine g_top (x := nI (SZ d)) (y := nI (sz d)) (congrArg nI h2.2.2.2.2.1) ?_
            refine g_ishl (pc := 75) dX11_safe_75 ?_
            refine g_top (x := (nI 1) <<< ((nI (sz d)) &&& 31)) (y := nI (2 ^ sz d)) (pw_ok (sz d) (by omega)) ?_
            refine g_icmp_ge_N (tgt := 116) (pc := 76) (by have := pw_le (sz d) (by omega); omega) (by have := pw_le (sz d) (by omega); omega) dX11_safe_76 (by decide) (fun c4 => ?_) (fun c4 => ?_)
            · -- T c4
              refine g_iload_n (q := 6) (pc := 116) dX11_safe_116 rfl rfl ?_
              refine g_if_ne_N (tgt := 125) (pc := 117) (by omega) dX11_safe_117 (by decide) (fun c5 => ?_) (fun c5 => ?_)
              · -- T c5
                refine g_iload (q := 1) (pc := 125) dX11_safe_125 rfl ?_
                exact g_iret (pc := 127) (by decide) (by decide) (gC hPo (by obtain rfl : set = 2 ^ sz d := (by omega); rw [spSafeV, if_neg (by omega), hm, hb]) (CI.mk ⟨hA, hE, hgA, hgB, hmA, hmC, hpl, hipl, hSh⟩)) dX11_safe_127
              · -- F c5
                refine g_iload (q := 2) (pc := 120) dX11_safe_120 rfl ?_
                refine g_goto (tgt := 127) (pc := 122) dX11_safe_122 (by decide) ?_
                exact g_iret (pc := 127) (by decide) (by decide) (gC hPo (by obtain rfl : set = 2 ^ sz d := (by omega); rw [spSafeV, if_pos (by assumption), hb]) (CI.mk ⟨hA, hE, hgA, hgB, hmA, hmC, hpl, hipl, hSh⟩)) dX11_safe_127
            · -- F c4
              refine g_iload (q := 0) (pc := 79) dX11_safe_79 rfl ?_
              refine e_callS (k2 := 0) (n2 := 0) (As := [.int (nI set)]) (rest := []) (pc := 81) (c_J6_bitCount_0f7a4 (by have := pw_le (sz d) (by omega); omega)) mlX11_179 mJ6_bitCount_0f7a4 ⟨Nat.le_of_ble_eq_true rfl, Nat.le_of_ble_eq_true rfl⟩ rfl rfl (Nat.le_of_ble_eq_true rfl) dX11_safe_81 (by decide) rfl rfl ?_
              refine g_istore (lv' := [(8, .int (nI (pcN set))), (7, .int (nI set)), (6, .int (nI m)), (5, .int (nI b)), (0, .ref (cd 0)), (1, .int (nI d)), (2, .int (nI e)), (3, .int (nI what)), (4, .ref (cd (30 + d)))]) (pc := 84) dX11_safe_84 (by decide) rfl ?_
              refine g_iload (q := 0) (pc := 86) dX11_safe_86 rfl ?_
              refine g_iload (q := 2) (pc := 88) dX11_safe_88 rfl ?_
              refine g_icmp_le_N (tgt := 110) (pc := 90) (Nat.lt_of_le_of_lt (pcN_le _) (by decide)) (by rw [hm]; exact Nat.lt_of_le_of_lt (pcN_le _) (by decide)) dX11_safe_90 (by decide) (fun c6 => ?_) (fun c6 => ?_)
              · -- T c6
                refine g_iinc (q := 1) (lv' := [(7, .int (nI (set + 1))), (8, .int (nI (pcN set))), (6, .int (nI m)), (5, .int (nI b)), (0, .ref (cd 0)), (1, .int (nI d)), (2, .int (nI e)), (3, .int (nI what)), (4, .ref (cd (30 + d)))]) (pc := 110) dX11_safe_110 rfl (nI_inc _ _) (by decide) rfl ?_
                refine g_goto (tgt := 67) (pc := 113) dX11_safe_113 (by decide) ?_
                refine G.locals (L' := [(7, .int (nI (set + 1))), (6, .int (nI m)), (5, .int (nI b)), (0, .ref (cd 0)), (1, .int (nI d)), (2, .int (nI e)), (3, .int (nI what)), (4, .ref (cd (30 + d)))]) [0, 2, 3, 4, 5, 6, 7, 8] rfl ?_
                exact ih67 (set + 1) b m (by omega) (by omega) (by omega) (by first | (rw [bst_t (by rw [← hb, ← hm]; assumption) (by assumption)]; done) | (rw [bst_f2 (by assumption)]; exact hb) | (rw [bst_f1 (by rw [← hb, ← hm]; omega)]; exact hb)) (by first | rfl | exact hm)
              · -- F c6
                refine g_aload_n (q := 4) (pc := 93) dX11_safe_93 rfl rfl ?_
                refine g_iload (q := 1) (pc := 94) dX11_safe_94 rfl ?_
                have hp9 := pw_le (sz d) (by omega)
                refine e_callV (k2 := 0) (n2 := 0) (As := [.int (nI set)]) (rest := []) (pc := 96) (wC_0 hA) rfl (c_X11_isWithoutClash hA hmk9 hz8 (by omega)) mlX11_184 selX11_X11_isWithoutClash_X11_isWithoutClash mX11_isWithoutClash ⟨Nat.le_of_ble_eq_true rfl, Nat.le_of_ble_eq_true rfl⟩ rfl rfl (Nat.le_of_ble_eq_true rfl) dX11_safe_96 (by decide) rfl rfl ?_
                refine g_if_eq_B (tgt := 110) (pc := 99) dX11_safe_99 (by decide) (fun c7 => ?_) (fun c7 => ?_)
                · -- T c7
                  refine g_iinc (q := 1) (lv' := [(7, .int (nI (set + 1))), (8, .int (nI (pcN set))), (6, .int (nI m)), (5, .int (nI b)), (0, .ref (cd 0)), (1, .int (nI d)), (2, .int (nI e)), (3, .int (nI what)), (4, .ref (cd (30 + d)))]) (pc := 110) dX11_safe_110 rfl (nI_inc _ _) (by decide) rfl ?_
                  refine g_goto (tgt := 67) (pc := 113) dX11_safe_113 (by decide) ?_
                  refine G.locals (L' := [(7, .int (nI (set + 1))), (6, .int (nI m)), (5, .int (nI b)), (0, .ref (cd 0)), (1, .int (nI d)), (2, .int (nI e)), (3, .int (nI what)), (4, .ref (cd (30 + d)))]) [0, 2, 3, 4, 5, 6, 7, 8] rfl ?_
                  exact ih67 (set + 1) b m (by omega) (by omega) (by omega) (by first | (rw [bst_t (by rw [← hb, ← hm]; assumption) (by assumption)]; done) | (rw [bst_f2 (by assumption)]; exact hb) | (rw [bst_f1 (by rw [← hb, ← hm]; omega)]; exact hb)) (by first | rfl | exact hm)
                · -- F c7
                  refine g_iload (q := 0) (pc := 102) dX11_safe_102 rfl ?_
                  refine g_istore (lv' := [(6, .int (nI (pcN set))), (8, .int (nI (pcN set))), (7, .int (nI set)), (5, .int (nI b)), (0, .ref (cd 0)), (1, .int (nI d)), (2, .int (nI e)), (3, .int (nI what)), (4, .ref (cd (30 + d)))]) (pc := 104) dX11_safe_104 (by decide) rfl ?_
                  refine g_iload (q := 2) (pc := 106) dX11_safe_106 rfl ?_
                  refine g_istore (lv' := [(5, .int (nI set)), (6, .int (nI (pcN set))), (8, .int (nI (pcN set))), (7, .int (nI set)), (0, .ref (cd 0)), (1, .int (nI d)), (2, .int (nI e)), (3, .int (nI what)), (4, .ref (cd (30 + d)))]) (pc := 108) dX11_safe_108 (by decide) rfl ?_
                  refine g_iinc (q := 3) (lv' := [(7, .int (nI (set + 1))), (5, .int (nI set)), (6, .int (nI (pcN set))), (8, .int (nI (pcN set))), (0, .ref (cd 0)), (1, .int (nI d)), (2, .int (nI e)), (3, .int (nI what)), (4, .ref (cd (30 + d)))]) (pc := 110) dX11_safe_110 rfl (nI_inc _ _) (by decide) rfl ?_
                  refine g_goto (tgt := 67) (pc := 113) dX11_safe_113 (by decide) ?_
                  refine G.locals (L' := [(7, .int (nI (set + 1))), (6, .int (nI (pcN set))), (5, .int (nI set)), (0, .ref (cd 0)), (1, .int (nI d)), (2, .int (nI e)), (3, .int (nI what)), (4, .ref (cd (30 + d)))]) [0, 2, 1, 4, 5, 6, 7, 8] rfl ?_
                  exact ih67 (set + 1) set (pcN set) (by omega) (by omega) (by omega) (by first | (rw [bst_t (by rw [← hb, ← hm]; assumption) (by assumption)]; done) | (rw [bst_f2 (by assumption)]; exact hb) | (rw [bst_f1 (by rw [← hb, ← hm]; omega)]; exact hb)) (by first | rfl | exact hm)
        refine G.locals (L' := [(7, .int (nI 1)), (6, .int (nI 0)), (5, .int (nI 0)), (0, .ref (cd 0)), (1, .int (nI d)), (2, .int (nI e)), (3, .int (nI what)), (4, .ref (cd (30 + d)))]) [0, 1, 2, 4, 5, 6, 7, 3] rfl ?_
        exact lp67 (2 ^ sz d) 1 0 0 (by omega) (Nat.le_refl _) (Nat.one_le_two_pow) (by rw [bst_f1 (s := 0) (Nat.lt_irrefl _)]; rfl) rfl
      · -- F c3
        exfalso; omega
    · -- F c2
      exact absurd hw (of_decide_eq_false c2)
theorem d_X11_safe_s {d e what : Nat} {V2 : HV} (hCI : CI Z b0 cd Vb ik kd fg pl hr ikd ifg ipl ihr kp so sz el ki kf V2) (hd : d < 8) (hk : kp d = 2) (hsr : so d = 0) (hz8 : sz d ≤ 8) (he : e < 9) (hw : what < 2) : KM l D Z b0 yX11_safe cX11_safe 9 (some .int) rmX11_safe [.ref (cd 0), .int (nI d), .int (nI e), .int (nI what)] V2 (fun v0 V' => v0 = some (.int (spSafeV el d (sz d) e what)) ∧ CI Z b0 cd Vb ik kd fg pl hr ikd ifg ipl ihr kp so sz el ki kf V') := by
  obtain ⟨ugA, ugB, ugC, rA, rB, pB, tB, rC, cX, lX, oX, nX, sX, zX, cY, lY, oY, nY, sY, zY, tm, cl, KR, SO, SZ, EL, V, rfl, hA, hE, hgA, hgB, hmA, hmC, hpl, hipl, hSh⟩ := hCI
  exact c_X11_safe_s hA hE hgA hgB hmA hmC hpl hipl hSh hd hk hsr hz8 he hw
set_option maxHeartbeats 8000000 in
theorem c_X11_safe_n {d e what : Int32} (hA : oC b0 cd V) (hE : Ext Vb V) (hgA : Rk V ugA 7 0) (hgB : Rk V ugB 7 0) (hmA : mo V rA kd fg) (hmC : mo V rC ikd ifg) (hpl : ∀ g, g < 2 → pl g < 20) (hipl : ∀ g, g < 2 → ipl g < 20) (hSh : Sh V KR SO SZ EL kp so sz el ki kf) (h : ¬ spSafeG kp so sz d e what = nI 0) : KM l D Z b0 yX11_safe cX11_safe 9 (some .int) rmX11_safe [.ref (cd 0), .int d, .int e, .int what] (wC Z cd ik ugA ugB ugC rA (nf pl) hr rB pB tB rC (nf ipl) ihr cX lX oX nX sX zX cY lY oY nY sY zY tm cl KR SO SZ EL V) (fun v0 V' => v0 = some (.int (spSafeG kp so sz d e what)) ∧ CI Z b0 cd Vb ik kd fg pl hr ikd ifg ipl ihr kp so sz el ki kf V') := by
  refine KM.ofP (by decide) (Nat.le_of_ble_eq_true rfl) (fun Po hPo => ?_)
  refine G.locals (L' := [(0, .ref (cd 0)), (1, .int d), (2, .int e), (3, .int what)]) [0, 1, 2, 3] rfl ?_
  refine g_iload_n (q := 2) (pc := 0) dX11_safe_0 rfl rfl ?_
  refine g_bipush (v := nI 9) (pc := 1) dX11_safe_1 (by decide) ?_
  refine e_callS (k2 := 0) (n2 := 0) (As := [.int e, .int (nI 9)]) (rest := []) (pc := 3) (c_X11_isBelow (by decide)) mlX11_69 mX11_isBelow ⟨Nat.le_of_ble_eq_true rfl, Nat.le_of_ble_eq_true rfl⟩ rfl rfl (Nat.le_of_ble_eq_true rfl) dX11_safe_3 (by decide) rfl rfl ?_
  refine g_if_eq_B (tgt := 17) (pc := 6) dX11_safe_6 (by decide) (fun c1 => ?_) (fun c1 => ?_)
  · -- T c1
    refine g_iconst (v := (-1)) (pc := 17) dX11_safe_17 (by decide) ?_
    exact g_iret (pc := 18) (by decide) (by decide) (gC hPo (spSafeG_e (by assumption)) (CI.mk ⟨hA, hE, hgA, hgB, hmA, hmC, hpl, hipl, hSh⟩)) dX11_safe_18
  · -- F c1
    obtain ⟨e, he, rfl⟩ := inR_t c1
    refine g_iload_n (q := 3) (pc := 9) dX11_safe_9 rfl rfl ?_
    refine g_iconst (v := nI 2) (pc := 10) dX11_safe_10 (by decide) ?_
    refine e_callS (k2 := 0) (n2 := 0) (As := [.int what, .int (nI 2)]) (rest := []) (pc := 11) (c_X11_isBelow (by decide)) mlX11_69 mX11_isBelow ⟨Nat.le_of_ble_eq_true rfl, Nat.le_of_ble_eq_true rfl⟩ rfl rfl (Nat.le_of_ble_eq_true rfl) dX11_safe_11 (by decide) rfl rfl ?_
    refine g_if_ne_B (tgt := 19) (pc := 14) dX11_safe_14 (by decide) (fun c2 => ?_) (fun c2 => ?_)
    · -- T c2
      obtain ⟨what, hwhat, rfl⟩ := inR_t c2
      refine g_aload_n (q := 0) (pc := 19) dX11_safe_19 rfl rfl ?_
      refine g_iload_n (q := 1) (pc := 20) dX11_safe_20 rfl rfl ?_
      refine g_iconst (v := nI 0) (pc := 21) dX11_safe_21 (by decide) ?_
      rcases Sh.k2 hSh d 0 with ho | ⟨d, hd, rfl, h0⟩ | ⟨d, hd, rfl, h1, a, q, f, hk1, hr1, hi1, hf1, hs1⟩ | ⟨d, hd, rfl, h2, hsx⟩ | ⟨d, hd, rfl, h2, hsr⟩
      · -- alt
        refine e_callV (k2 := 0) (n2 := 0) (As := [.int d, .int (nI 0)]) (rest := []) (pc := 22) (wC_0 hA) rfl (c_X11_rowOn__o (r := 0) hA ho) mlX11_50 selX11_X11_rowOn__X11_rowOn_ mX11_rowOn_ ⟨Nat.le_of_ble_eq_true rfl, Nat.le_of_ble_eq_true rfl⟩ rfl rfl (Nat.le_of_ble_eq_true rfl) dX11_safe_22 (by decide) rfl rfl ?_
        refine g_astoreN (lv' := [(4, .null), (0, .ref (cd 0)), (1, .int d), (2, .int (nI e)), (3, .int (nI what))]) (pc := 25) dX11_safe_25 (by decide) rfl ?_
        refine g_aloadN (q := 0) (pc := 27) dX11_safe_27 rfl ?_
        refine g_ifnonnullN (pc := 29) dX11_safe_29 ?_
        refine g_aload_n (q := 1) (pc := 32) dX11_safe_32 rfl rfl ?_
        refine g_iload_n (q := 2) (pc := 33) dX11_safe_33 rfl rfl ?_
        refine e_callV (k2 := 0) (n2 := 0) (As := [.int d]) (rest := []) (pc := 34) (wC_0 hA) rfl (c_X11_whyNot_o hA ho) mlX11_54 selX11_X11_whyNot_X11_whyNot mX11_whyNot ⟨Nat.le_of_ble_eq_true rfl, Nat.le_of_ble_eq_true rfl⟩ rfl rfl (Nat.le_of_ble_eq_true rfl) dX11_safe_34 (by decide) rfl rfl ?_
        exact g_iret (pc := 37) (by decide) (by decide) (gC hPo (by first | exact spSafeG_o ho | (rw [spSafeG_r hd (by assumption) (by assumption), spWR_0c hd h0.1]; rfl) | (rw [spSafeG_r hd (by assumption) (by assumption), spWR_1c hd h1]; rfl) | (rw [spSafeG_r hd (by assumption) (by assumption), spWR_xc (r := some 0) hd h2.1 (decide_eq_false hsx)]; rfl)) (CI.mk ⟨hA, hE, hgA, hgB, hmA, hmC, hpl, hipl, hSh⟩)) dX11_safe_37
      · -- alt
        refine e_callV (k2 := 0) (n2 := 0) (As := [.int (nI d), .int (nI 0)]) (rest := []) (pc := 22) (wC_0 hA) rfl (c_X11_rowOn__e (r := 0) hA hd h0.2.2) mlX11_50 selX11_X11_rowOn__X11_rowOn_ mX11_rowOn_ ⟨Nat.le_of_ble_eq_true rfl, Nat.le_of_ble_eq_true rfl⟩ rfl rfl (Nat.le_of_ble_eq_true rfl) dX11_safe_22 (by decide) rfl rfl ?_
        refine g_astoreN (lv' := [(4, .null), (0, .ref (cd 0)), (1, .int (nI d)), (2, .int (nI e)), (3, .int (nI what))]) (pc := 25) dX11_safe_25 (by decide) rfl ?_
        refine g_aloadN (q := 0) (pc := 27) dX11_safe_27 rfl ?_
        refine g_ifnonnullN (pc := 29) dX11_safe_29 ?_
        refine g_aload_n (q := 1) (pc := 32) dX11_safe_32 rfl rfl ?_
        refine g_iload_n (q := 2) (pc := 33) dX11_safe_33 rfl rfl ?_
        refine e_callV (k2 := 0) (n2 := 0) (As := [.int (nI d)]) (rest := []) (pc := 34) (wC_0 hA) rfl (c_X11_whyNot_0 hA hd h0.2.1 h0.2.2) mlX11_54 selX11_X11_whyNot_X11_whyNot mX11_whyNot ⟨Nat.le_of_ble_eq_true rfl, Nat.le_of_ble_eq_true rfl⟩ rfl rfl (Nat.le_of_ble_eq_true rfl) dX11_safe_34 (by decide) rfl rfl ?_
        exact g_iret (pc := 37) (by decide) (by decide) (gC hPo (by first | exact spSafeG_o ho | (rw [spSafeG_r hd (by assumption) (by assumption), spWR_0c hd h0.1]; rfl) | (rw [spSafeG_r hd (by assumption) (by assumption), spWR_1c hd h1]; rfl) | (rw [spSafeG_r hd (by assumption) (by assumption), spWR_xc (r := some 0) hd h2.1 (decide_eq_false hsx)]; rfl)) (CI.mk ⟨hA, hE, hgA, hgB, hmA, hmC, hpl, hipl, hSh⟩)) dX11_safe_37
      · -- alt
        refine e_callV (k2 := 0) (n2 := 0) (As := [.int (nI d), .int (nI 0)]) (rest := []) (pc := 22) (wC_0 hA) rfl (c_X11_rowOn__e (r := 0) hA hd hs1) mlX11_50 selX11_X11_rowOn__X11_rowOn_ mX11_rowOn_ ⟨Nat.le_of_ble_eq_true rfl, Nat.le_of_ble_eq_true rfl⟩ rfl rfl (Nat.le_of_ble_eq_true rfl) dX11_safe_22 (by decide) rfl rfl ?_
        refine g_astoreN (lv' := [(4, .null), (0, .ref (cd 0)), (1, .int (nI d)), (2, .int (nI e)), (3, .int (nI what))]) (pc := 25) dX11_safe_25 (by decide) rfl ?_
        refine g_aloadN (q := 0) (pc := 27) dX11_safe_27 rfl ?_
        refine g_ifnonnullN (pc := 29) dX11_safe_29 ?_
        refine g_aload_n (q := 1) (pc := 32) dX11_safe_32 rfl rfl ?_
        refine g_iload_n (q := 2) (pc := 33) dX11_safe_33 rfl rfl ?_
        refine e_callV (k2 := 0) (n2 := 0) (As := [.int (nI d)]) (rest := []) (pc := 34) (wC_0 hA) rfl (c_X11_whyNot_1 hA hd hk1) mlX11_54 selX11_X11_whyNot_X11_whyNot mX11_whyNot ⟨Nat.le_of_ble_eq_true rfl, Nat.le_of_ble_eq_true rfl⟩ rfl rfl (Nat.le_of_ble_eq_true rfl) dX11_safe_34 (by decide) rfl rfl ?_
        exact g_iret (pc := 37) (by decide) (by decide) (gC hPo (by first | exact spSafeG_o ho | (rw [spSafeG_r hd (by assumption) (by assumption), spWR_0c hd h0.1]; rfl) | (rw [spSafeG_r hd (by assumption) (by assumption), spWR_1c hd h1]; rfl) | (rw [spSafeG_r hd (by assumption) (by assumption), spWR_xc (r := some 0) hd h2.1 (decide_eq_false hsx)]; rfl)) (CI.mk ⟨hA, hE, hgA, hgB, hmA, hmC, hpl, hipl, hSh⟩)) dX11_safe_37
      · -- alt
        refine e_callV (k2 := 0) (n2 := 0) (As := [.int (nI d), .int (nI 0)]) (rest := []) (pc := 22) (wC_0 hA) rfl (c_X11_rowOn__x hA hd h2.2.2.1 h2.2.2.2.1 hsx (by decide)) mlX11_50 selX11_X11_rowOn__X11_rowOn_ mX11_rowOn_ ⟨Nat.le_of_ble_eq_true rfl, Nat.le_of_ble_eq_true rfl⟩ rfl rfl (Nat.le_of_ble_eq_true rfl) dX11_safe_22 (by decide) rfl rfl ?_
        refine g_astoreN (lv' := [(4, .null), (0, .ref (cd 0)), (1, .int (nI d)), (2, .int (nI e)), (3, .int (nI what))]) (pc := 25) dX11_safe_25 (by decide) rfl ?_
        refine g_aloadN (q := 0) (pc := 27) dX11_safe_27 rfl ?_
        refine g_ifnonnullN (pc := 29) dX11_safe_29 ?_
        refine g_aload_n (q := 1) (pc := 32) dX11_safe_32 rfl rfl ?_
        refine g_iload_n (q := 2) (pc := 33) dX11_safe_33 rfl rfl ?_
        refine e_callV (k2 := 0) (n2 := 0) (As := [.int (nI d)]) (rest := []) (pc := 34) (wC_0 hA) rfl (c_X11_whyNot_2 hA hd h2.2.1 h2.2.2.1 h2.2.2.2.1) mlX11_54 selX11_X11_whyNot_X11_whyNot mX11_whyNot ⟨Nat.le_of_ble_eq_true rfl, Nat.le_of_ble_eq_true rfl⟩ rfl rfl (Nat.le_of_ble_eq_true rfl) dX11_safe_34 (by decide) rfl rfl ?_
        exact g_iret (pc := 37) (by decide) (by decide) (gC hPo (by first | exact spSafeG_o ho | (rw [spSafeG_r hd (by assumption) (by assumption), spWR_0c hd h0.1]; rfl) | (rw [spSafeG_r hd (by assumption) (by assumption), spWR_1c hd h1]; rfl) | (rw [spSafeG_r hd (by assumption) (by assumption), spWR_xc (r := some 0) hd h2.1 (decide_eq_false hsx)]; rfl)) (CI.mk ⟨hA, hE, hgA, hgB, hmA, hmC, hpl, hipl, hSh⟩)) dX11_safe_37
      · -- alt
        refine e_callV (k2 := 0) (n2 := 0) (As := [.int (nI d), .int (nI 0)]) (rest := []) (pc := 22) (wC_0 hA) rfl (c_X11_rowOn__s hA hd h2.2.2.1 h2.2.2.2.1 hsr) mlX11_50 selX11_X11_rowOn__X11_rowOn_ mX11_rowOn_ ⟨Nat.le_of_ble_eq_true rfl, Nat.le_of_ble_eq_true rfl⟩ rfl rfl (Nat.le_of_ble_eq_true rfl) dX11_safe_22 (by decide) rfl rfl ?_
        refine g_astore (lv' := [(4, .ref (cd (30 + d))), (0, .ref (cd 0)), (1, .int (nI d)), (2, .int (nI e)), (3, .int (nI what))]) (pc := 25) dX11_safe_25 (by decide) rfl ?_
        refine g_aload (q := 0) (pc := 27) dX11_safe_27 rfl ?_
        refine g_ifnonnull (tgt := 38) (pc := 29) dX11_safe_29 (by decide) ?_
        refine g_aload (q := 0) (pc := 38) dX11_safe_38 rfl ?_
        refine gc_get_S_size (pc := 40) (d := d) hA (by omega) flX11_132 dX11_safe_40 ?_
        refine g_top (x := nI (SZ d)) (y := nI (sz d)) (congrArg nI h2.2.2.2.2.1) ?_
        refine g_bipush (v := nI 8) (pc := 43) dX11_safe_43 (by decide) ?_
        refine g_icmp_le_N (tgt := 51) (pc := 45) (by have := h2.2.2.2.2.2.1; omega) (by omega) dX11_safe_45 (by decide) (fun c3 => ?_) (fun c3 => ?_)
        · -- T c3
          exact absurd (by rw [spSafeG_r hd (by assumption) (by assumption), if_pos (show spWR kp so (nI d) (some 0) = 0 from spWR_ok hd h2.1 (decide_eq_true hsr)), if_pos (by omega)]) h
        · -- F c3
          refine g_bipush (v := (-13)) (pc := 48) dX11_safe_48 (by decide) ?_
          exact g_iret (pc := 50) (by decide) (by decide) (gC hPo (by rw [spSafeG_r hd (by assumption) (by assumption), if_pos (show spWR kp so (nI d) (some 0) = 0 from spWR_ok hd h2.1 (decide_eq_true hsr)), if_neg (by omega)]) (CI.mk ⟨hA, hE, hgA, hgB, hmA, hmC, hpl, hipl, hSh⟩)) dX11_safe_50
    · -- F c2
      refine g_iconst (v := (-1)) (pc := 17) dX11_safe_17 (by decide) ?_
      exact g_iret (pc := 18) (by decide) (by decide) (gC hPo (spSafeG_w (by assumption)) (CI.mk ⟨hA, hE, hgA, hgB, hmA, hmC, hpl, hipl, hSh⟩)) dX11_safe_18
theorem d_X11_safe_n {d e what : Int32} {V2 : HV} (hCI : CI Z b0 cd Vb ik kd fg pl hr ikd ifg ipl ihr kp so sz el ki kf V2) (h : ¬ spSafeG kp so sz d e what = nI 0) : KM l D Z b0 yX11_safe cX11_safe 9 (some .int) rmX11_safe [.ref (cd 0), .int d, .int e, .int what] V2 (fun v0 V' => v0 = some (.int (spSafeG kp so sz d e what)) ∧ CI Z b0 cd Vb ik kd fg pl hr ikd ifg ipl ihr kp so sz el ki kf V') := by
  obtain ⟨ugA, ugB, ugC, rA, rB, pB, tB, rC, cX, lX, oX, nX, sX, zX, cY, lY, oY, nY, sY, zY, tm, cl, KR, SO, SZ, EL, V, rfl, hA, hE, hgA, hgB, hmA, hmC, hpl, hipl, hSh⟩ := hCI
  exact c_X11_safe_n hA hE hgA hgB hmA hmC hpl hipl hSh h
end MS
