section MS
variable {l : Launch} {D : va_G} {Z : Nat → ClassId} {b0 : Nat} {ad : Nat → Nat} {hi th po ba en se : Int32} {s im rd mi el ki kf ti lo wa nu li to ot : Nat → Int32} {kd fg pl kp so sz ikd ifg ipl : Nat → Nat} {hr ihr : Nat → Int32} {V : HV}
def sumN (f : Nat → Nat) : Nat → Nat
  | 0 => 0
  | n + 1 => sumN f n + f n
def zr (el : Nat → Int32) (d : Nat) : Nat → Int32 := fun q => if 100 * d ≤ q ∧ q < 100 * d + 100 then nI 0 else el q
def cpy (el : Nat → Int32) (d i e j n : Nat) : Nat → Int32 := fun q => if 100 * e + j ≤ q ∧ q < 100 * e + j + n then el (100 * d + i + (q - (100 * e + j))) else el q
def cw (kd fg : Nat → Nat) (what c : Nat) : Nat := if what = 8 then slowN (kd c) (fg c) else if what = 9 then toilN (kd c) (fg c) else if kd c = what then 1 else 0
def spCount (kd fg : Nat → Nat) (what : Int32) : Int32 := if inR what 10 = true then nI (sumN (cw kd fg (dN what)) 20) else (-1)
def pcN (v : Nat) : Nat := v % 2 + v / 2 % 2 + v / 4 % 2 + v / 8 % 2 + v / 16 % 2 + v / 32 % 2 + v / 64 % 2 + v / 128 % 2
theorem pcN_half {v : Nat} (h : v < 256) : pcN v = v % 2 + pcN (v / 2) := by unfold pcN; omega
theorem pcN_le (v : Nat) : pcN v ≤ 8 := by unfold pcN; omega
theorem and1 : ∀ v, v < 256 → nI v &&& nI 1 = nI (v % 2) := by decide +kernel
theorem shr1 : ∀ v, v < 256 → nI v >>> (nI 1 &&& 31) = nI (v / 2) := by decide +kernel
def anN (a b : Nat) : Nat := dN (nI a &&& (nI b ^^^ (-1)))
theorem and_le (x : Int32) {a : Nat} (ha : a < 2147483648) : nI a &&& x = nI (dN (nI a &&& x)) ∧ dN (nI a &&& x) ≤ a := by
  have h1 : (nI a &&& x).toBitVec = (nI a).toBitVec &&& x.toBitVec := rfl
  have h2 : (nI a &&& x).toInt = ((nI a).toBitVec &&& x.toBitVec).toInt := by rw [← h1]; rfl
  have h4 : (nI a).toBitVec.toNat = a := by
    show (BitVec.ofNat 32 a).toNat = a
    rw [BitVec.toNat_ofNat]; omega
  have h3 : ((nI a).toBitVec &&& x.toBitVec).toNat ≤ a := by
    rw [BitVec.toNat_and, h4]; exact Nat.and_le_left
  have h5 : (nI a &&& x).toInt = (((nI a).toBitVec &&& x.toBitVec).toNat : Int) := by
    rw [h2, BitVec.toInt_eq_toNat_of_lt (by omega)]
  have h : ¬ (nI a &&& x) < 0 := by
    rw [Int32.lt_iff_toInt_lt, Int32.toInt_zero]; omega
  obtain ⟨j, hj, e⟩ := nI_of h
  have e2 : dN (nI a &&& x) = j := by rw [e, dN_N (by omega)]
  refine ⟨by rw [e2]; exact e, ?_⟩
  rw [e2]
  rw [e, nI_toInt hj] at h5; omega
theorem anN_ok (a : Nat) (ha : a < 256) (b : Nat) (_hb : b < 256) : nI a &&& (nI b ^^^ (-1)) = nI (anN a b) ∧ anN a b < 256 := by
  have h := and_le (nI b ^^^ (-1)) (a := a) (by omega)
  exact ⟨h.1, by have := h.2; unfold anN; omega⟩
def takenB (a b e : Nat) : Bool := decide (pcN (anN a b) ≤ e) && decide (pcN (anN b a) ≤ e)
def spTaken (a b e : Int32) : Int32 := if inR a 256 = true then (if inR b 256 = true then (if inR e 9 = true then bI (takenB (dN a) (dN b) (dN e)) else (-1)) else (-1)) else (-1)
def nextS (z : Int32) : Int32 := z * nI 1103515245 + nI 12345
def drM (z : Int32) : Nat := dN (z &&& nI 2147483647)
theorem drM_ok (z : Int32) : z &&& nI 2147483647 = nI (drM z) ∧ drM z < 2147483648 := by
  have h : ¬ (z &&& nI 2147483647) < 0 := by
    rw [Int32.lt_iff_toInt_lt, Int32.toInt_zero]
    have h1 : (z &&& nI 2147483647).toBitVec = z.toBitVec &&& 2147483647#32 := rfl
    have h2 : (z &&& nI 2147483647).toInt = (z.toBitVec &&& 2147483647#32).toInt := by rw [← h1]; rfl
    have h3 : (z.toBitVec &&& 2147483647#32).toNat ≤ 2147483647 := by
      rw [BitVec.toNat_and]; exact Nat.and_le_right
    rw [h2, BitVec.toInt_eq_toNat_of_lt (by omega)]; omega
  obtain ⟨j, hj, e⟩ := nI_of h
  have e2 : drM z = j := by unfold drM; rw [e, dN_N (by omega)]
  exact ⟨by rw [e2]; exact e, by rw [e2]; omega⟩
def drN (z : Int32) (n : Nat) : Nat := drM z / 65536 % n
def spCopy (kp so sz : Nat → Nat) (d i e j n : Int32) : Bool × Int32 := if inR d 8 = true then (if inR e 8 = true then (if kp (dN d) = 0 ∨ kp (dN e) = 0 then (false, (-11)) else if kp (dN d) = 2 ∧ kp (dN e) = 2 ∧ so (dN d) = so (dN e) then (if n < 0 ∨ i < 0 ∨ j < 0 ∨ nI (sz (dN d)) - i < n ∨ nI (sz (dN e)) - j < n then (false, (-13)) else (true, n)) else (false, (-12))) else (false, (-1))) else (false, (-1))
def rmX12_hours : Room := { frames := 0, cells := 0, slots := 0, locals := 0 }
theorem c_X12_hours  (hA : aB b0 18 ad)  : KE l D Z b0 yX12_hours cX12_hours 1 (some .int) rmX12_hours [.ref (ad 0)] (wM Z ad hi th po ba en se (enc kd fg pl hr) im rd mi (nf kp) (nf so) (nf sz) el ki kf ti lo wa nu li to ot V) (some (.int (hr 0 + hr 1))) (wM Z ad hi th po ba en se (enc kd fg pl hr) im rd mi (nf kp) (nf so) (nf sz) el ki kf ti lo wa nu li to ot V) := by
  refine KE.of (by decide) (Nat.le_of_ble_eq_true rfl) (fun Po hPo => ?_)
  refine G.locals (L' := [(0, .ref (ad 0))]) [0] rfl ?_
  refine g_aload_n (q := 0) (pc := 0) dX12_hours_0 rfl rfl ?_
  refine gm_get_s (pc := 1) hA dX12_hours_1 ?_
  refine g_bipush (v := nI 41) (pc := 4) dX12_hours_4 (by decide) ?_
  refine gm_ld_s (pc := 6) (j := 41) (x := hr 0) hA (by omega) (enc_h (g := 0)) dX12_hours_6 ?_
  refine g_aload_n (q := 0) (pc := 7) dX12_hours_7 rfl rfl ?_
  refine gm_get_s (pc := 8) hA dX12_hours_8 ?_
  refine g_bipush (v := nI 43) (pc := 11) dX12_hours_11 (by decide) ?_
  refine gm_ld_s (pc := 13) (j := 43) (x := hr 1) hA (by omega) (enc_h (g := 1)) dX12_hours_13 ?_
  refine g_iadd (pc := 14) dX12_hours_14 ?_
  exact g_iret (pc := 15) (by decide) (by decide) (hPo) dX12_hours_15
def rmX12_image : Room := { frames := 1, cells := 0, slots := 0, locals := 22 }
theorem c_X12_image  (hA : aB b0 18 ad)  : KE l D Z b0 yX12_image cX12_image 1 (some .int) rmX12_image [.ref (ad 0)] (wM Z ad hi th po ba en se (enc kd fg pl hr) im rd mi (nf kp) (nf so) (nf sz) el ki kf ti lo wa nu li to ot V) (some (.int (hr 0 + hr 1))) (wM Z ad (nI 1) th po ba en se (enc kd fg pl hr) (enc kd fg pl hr) rd mi (nf kp) (nf so) (nf sz) el ki kf ti lo wa nu li to ot V) := by
  refine KE.of (by decide) (Nat.le_of_ble_eq_true rfl) (fun Po hPo => ?_)
  refine G.locals (L' := [(0, .ref (ad 0))]) [0] rfl ?_
  refine g_aload_n (q := 0) (pc := 0) dX12_image_0 rfl rfl ?_
  refine gm_get_s (pc := 1) hA dX12_image_1 ?_
  refine g_aload_n (q := 0) (pc := 4) dX12_image_4 rfl rfl ?_
  refine gm_get_im (pc := 5) hA dX12_image_5 ?_
  refine e_callSv (k2 := 0) (n2 := 0) (As := [.ref (ad 1), .ref (ad 2)]) (rest := []) (pc := 8) (c_X12_lays_s_im hA) mlX12_73 mX12_lays ⟨Nat.le_of_ble_eq_true rfl, Nat.le_of_ble_eq_true rfl⟩ rfl rfl (Nat.le_of_ble_eq_true rfl) dX12_image_8 (by decide) rfl rfl ?_
  refine g_aload_n (q := 0) (pc := 11) dX12_image_11 rfl rfl ?_
  refine g_iconst (v := nI 1) (pc := 12) dX12_image_12 (by decide) ?_
  refine gm_put_hi (pc := 13) hA dX12_image_13 ?_
  refine g_aload_n (q := 0) (pc := 16) dX12_image_16 rfl rfl ?_
  refine e_callV (k2 := 0) (n2 := 0) (As := []) (rest := []) (pc := 17) (wM_0 hA) rfl (c_X12_hours hA) mlX12_229 selX12_X12_hours_X12_hours mX12_hours ⟨Nat.le_of_ble_eq_true rfl, Nat.le_of_ble_eq_true rfl⟩ rfl rfl (Nat.le_of_ble_eq_true rfl) dX12_image_17 (by decide) rfl rfl ?_
  exact g_iret (pc := 20) (by decide) (by decide) (hPo) dX12_image_20
def rmX12_restore : Room := { frames := 1, cells := 0, slots := 0, locals := 22 }
theorem c_X12_restore_s  (hA : aB b0 18 ad)  : KE l D Z b0 yX12_restore cX12_restore 1 (some .int) rmX12_restore [.ref (ad 0)] (wM Z ad (nI 1) th po ba en se (enc kd fg pl hr) (enc ikd ifg ipl ihr) rd mi (nf kp) (nf so) (nf sz) el ki kf ti lo wa nu li to ot V) (some (.int (ihr 0 + ihr 1))) (wM Z ad (nI 1) th po ba en se (enc ikd ifg ipl ihr) (enc ikd ifg ipl ihr) rd mi (nf kp) (nf so) (nf sz) el ki kf ti lo wa nu li to ot V) := by
  refine KE.of (by decide) (Nat.le_of_ble_eq_true rfl) (fun Po hPo => ?_)
  refine G.locals (L' := [(0, .ref (ad 0))]) [0] rfl ?_
  refine g_aload_n (q := 0) (pc := 0) dX12_restore_0 rfl rfl ?_
  refine gm_get_hi (pc := 1) hA dX12_restore_1 ?_
  refine g_if_ne (tgt := 10) (pc := 4) dX12_restore_4 (by decide) (fun _ => ?_) (fun c0 => absurd c0 (by decide))
  refine g_aload_n (q := 0) (pc := 10) dX12_restore_10 rfl rfl ?_
  refine gm_get_im (pc := 11) hA dX12_restore_11 ?_
  refine g_aload_n (q := 0) (pc := 14) dX12_restore_14 rfl rfl ?_
  refine gm_get_s (pc := 15) hA dX12_restore_15 ?_
  refine e_callSv (k2 := 0) (n2 := 0) (As := [.ref (ad 2), .ref (ad 1)]) (rest := []) (pc := 18) (c_X12_lays_im_s hA) mlX12_73 mX12_lays ⟨Nat.le_of_ble_eq_true rfl, Nat.le_of_ble_eq_true rfl⟩ rfl rfl (Nat.le_of_ble_eq_true rfl) dX12_restore_18 (by decide) rfl rfl ?_
  refine g_aload_n (q := 0) (pc := 21) dX12_restore_21 rfl rfl ?_
  refine e_callV (k2 := 0) (n2 := 0) (As := []) (rest := []) (pc := 22) (wM_0 hA) rfl (c_X12_hours hA) mlX12_229 selX12_X12_hours_X12_hours mX12_hours ⟨Nat.le_of_ble_eq_true rfl, Nat.le_of_ble_eq_true rfl⟩ rfl rfl (Nat.le_of_ble_eq_true rfl) dX12_restore_22 (by decide) rfl rfl ?_
  exact g_iret (pc := 25) (by decide) (by decide) (hPo) dX12_restore_25
theorem c_X12_restore_n  (hA : aB b0 18 ad)  : KE l D Z b0 yX12_restore cX12_restore 1 (some .int) rmX12_restore [.ref (ad 0)] (wM Z ad (nI 0) th po ba en se (enc kd fg pl hr) im rd mi (nf kp) (nf so) (nf sz) el ki kf ti lo wa nu li to ot V) (some (.int (-3))) (wM Z ad (nI 0) th po ba en se (enc kd fg pl hr) im rd mi (nf kp) (nf so) (nf sz) el ki kf ti lo wa nu li to ot V) := by
  refine KE.of (by decide) (Nat.le_of_ble_eq_true rfl) (fun Po hPo => ?_)
  refine G.locals (L' := [(0, .ref (ad 0))]) [0] rfl ?_
  refine g_aload_n (q := 0) (pc := 0) dX12_restore_0 rfl rfl ?_
  refine gm_get_hi (pc := 1) hA dX12_restore_1 ?_
  refine g_if_ne (tgt := 10) (pc := 4) dX12_restore_4 (by decide) (fun c0 => absurd c0 (by decide)) (fun _ => ?_)
  refine g_bipush (v := (-3)) (pc := 7) dX12_restore_7 (by decide) ?_
  exact g_iret (pc := 9) (by decide) (by decide) (hPo) dX12_restore_9
theorem rowI1 {h : Nat → Int32} {d i : Nat} (h1 : ∀ q, 100 * d ≤ q → q < 100 * d + i → h q = nI 0) : ∀ q, 100 * d ≤ q → q < 100 * d + (i + 1) → upd h ((100 * d) + i) (nI 0) q = nI 0 := fun q a b => by
  by_cases z : q = 100 * d + i
  · rw [z, upd_eq]
  · rw [upd_ne z]; exact h1 q a (by omega)
theorem rowI2 {h el : Nat → Int32} {d i : Nat} (h2 : ∀ q, (q < 100 * d ∨ 100 * d + i ≤ q) → h q = el q) : ∀ q, (q < 100 * d ∨ 100 * d + (i + 1) ≤ q) → upd h ((100 * d) + i) (nI 0) q = el q := fun q a => by
  rw [upd_ne (by omega)]; exact h2 q (by omega)
def rmX12_row : Room := { frames := 2, cells := 0, slots := 0, locals := 45 }
theorem c_X12_row_s {d r n : Nat} (hA : aB b0 18 ad) (hd : d < 8) (hr3 : r < 3) (hn : n ≤ 100) : KE l D Z b0 yX12_row cX12_row 5 (some .int) rmX12_row [.ref (ad 0), .int (nI d), .int (nI r), .int (nI n)] (wM Z ad hi th po ba en se (enc kd fg pl hr) im rd mi (nf kp) (nf so) (nf sz) el ki kf ti lo wa nu li to ot V) (some (.int (nI 0))) (wM Z ad hi th po ba en se (enc kd fg pl hr) im rd mi (nf (updN kp d 2)) (nf (updN so d r)) (nf (updN sz d n)) (zr el d) ki kf ti lo wa nu li to ot V) := by
  refine KE.of (by decide) (Nat.le_of_ble_eq_true rfl) (fun Po hPo => ?_)
  refine G.locals (L' := [(0, .ref (ad 0)), (1, .int (nI d)), (2, .int (nI r)), (3, .int (nI n))]) [0, 1, 2, 3] rfl ?_
  refine g_iload_n (q := 1) (pc := 0) dX12_row_0 rfl rfl ?_
  refine e_callS (k2 := 0) (n2 := 0) (As := [.int (nI d)]) (rest := []) (pc := 1) (c_X12_isShelfN hA (by omega) (c_X12_isShelf hA)) mlX12_152 mX12_isShelf ⟨Nat.le_of_ble_eq_true rfl, Nat.le_of_ble_eq_true rfl⟩ rfl rfl (Nat.le_of_ble_eq_true rfl) dX12_row_1 (by decide) rfl rfl ?_
  refine g_if_eq_B (tgt := 25) (pc := 4) dX12_row_4 (by decide) (fun c1 => ?_) (fun c1 => ?_)
  · -- T c1
    exact absurd (of_decide_eq_false c1) (by omega)
  · -- F c1
    have c1 := of_decide_eq_true c1
    refine g_iload_n (q := 2) (pc := 7) dX12_row_7 rfl rfl ?_
    refine g_i2l (v := lN r) (pc := 8) dX12_row_8 (nI_l (by omega)) ?_
    refine g_lconst (v := lN 0) (pc := 9) dX12_row_9 (by decide) ?_
    refine g_ldc2 (v := lN 2) (pc := 10) klX12_239 dX12_row_10 ?_
    refine e_callS (k2 := 0) (n2 := 0) (As := [.long (lN r), .long (lN 0), .long (lN 2)]) (rest := []) (pc := 13) (c_X12_isInN hA (by omega) (by decide) (by decide) (c_X12_isIn hA)) mlX12_67 mX12_isIn ⟨Nat.le_of_ble_eq_true rfl, Nat.le_of_ble_eq_true rfl⟩ rfl rfl (Nat.le_of_ble_eq_true rfl) dX12_row_13 (by decide) rfl rfl ?_
    refine g_if_eq_B (tgt := 25) (pc := 16) dX12_row_16 (by decide) (fun c2 => ?_) (fun c2 => ?_)
    · -- T c2
      exact absurd (of_decide_eq_false c2) (by omega)
    · -- F c2
      have c2 := of_decide_eq_true c2
      refine g_iload_n (q := 3) (pc := 19) dX12_row_19 rfl rfl ?_
      refine g_bipush (v := nI 100) (pc := 20) dX12_row_20 (by decide) ?_
      refine g_icmp_le_N (tgt := 27) (pc := 22) (by omega) (by omega) dX12_row_22 (by decide) (fun c3 => ?_) (fun c3 => ?_)
      · -- T c3
        refine g_iload_n (q := 3) (pc := 27) dX12_row_27 rfl rfl ?_
        refine g_if_ge_N (tgt := 34) (pc := 28) (by omega) dX12_row_28 (by decide) ?_
        refine g_aload_n (q := 0) (pc := 34) dX12_row_34 rfl rfl ?_
        refine gm_get_kp (pc := 35) hA dX12_row_35 ?_
        refine g_iload_n (q := 1) (pc := 38) dX12_row_38 rfl rfl ?_
        refine g_iconst (v := nI 2) (pc := 39) dX12_row_39 (by decide) ?_
        refine gm_st_kp (pc := 40) (j := d) (f' := (nf (updN kp d 2))) hA (by omega) (upd_nf _ _ _) dX12_row_40 ?_
        refine g_aload_n (q := 0) (pc := 41) dX12_row_41 rfl rfl ?_
        refine gm_get_so (pc := 42) hA dX12_row_42 ?_
        refine g_iload_n (q := 1) (pc := 45) dX12_row_45 rfl rfl ?_
        refine g_iload_n (q := 2) (pc := 46) dX12_row_46 rfl rfl ?_
        refine gm_st_so (pc := 47) (j := d) (f' := (nf (updN so d r))) hA (by omega) (upd_nf _ _ _) dX12_row_47 ?_
        refine g_aload_n (q := 0) (pc := 48) dX12_row_48 rfl rfl ?_
        refine gm_get_sz (pc := 49) hA dX12_row_49 ?_
        refine g_iload_n (q := 1) (pc := 52) dX12_row_52 rfl rfl ?_
        refine g_iload_n (q := 3) (pc := 53) dX12_row_53 rfl rfl ?_
        refine gm_st_sz (pc := 54) (j := d) (f' := (nf (updN sz d n))) hA (by omega) (upd_nf _ _ _) dX12_row_54 ?_
        refine g_iconst (v := nI 0) (pc := 55) dX12_row_55 (by decide) ?_
        refine g_istore (lv' := [(4, .int (nI 0)), (0, .ref (ad 0)), (1, .int (nI d)), (2, .int (nI r)), (3, .int (nI n))]) (pc := 56) dX12_row_56 (by decide) rfl ?_
        have lp58 : ∀ (d58 : Nat) (i : Nat) (h : Nat → Int32), i + d58 = 101 → (i ≤ 100) → (∀ q, 100 * d ≤ q → q < 100 * d + i → h q = nI 0) → (∀ q, (q < 100 * d ∨ 100 * d + i ≤ q) → h q = el q) → G l D Z b0 rmX12_row RX12 cX12_row 5 (gE (some .int) "row") (gT D b0 Po rmX12_row.cells rmX12_row.slots) (wM Z ad hi th po ba en se (enc kd fg pl hr) im rd mi (nf (updN kp d 2)) (nf (updN so d r)) (nf (updN sz d n)) h ki kf ti lo wa nu li to ot V) [(4, .int (nI i)), (0, .ref (ad 0)), (1, .int (nI d))] 0 0 58 [] := by
          intro d58
          induction d58 with
          | zero =>
            intro i h hd58 hi h1 h2
            exact absurd hd58 (by omega)
          | succ d58 ih58 =>
            intro i h hd58 hi h1 h2
            refine g_iload (q := 0) (pc := 58) dX12_row_58 rfl ?_
            refine g_bipush (v := nI 100) (pc := 60) dX12_row_60 (by decide) ?_
            refine g_icmp_ge_N (tgt := 84) (pc := 62) (by omega) (by omega) dX12_row_62 (by decide) (fun c4 => ?_) (fun c4 => ?_)
            · -- T c4
              refine gm_eq_el (f' := zr el d) hA (fun q _ => by unfold zr; split; exact h1 q (by omega) (by omega); exact h2 q (by omega)) ?_
              refine g_iconst (v := nI 0) (pc := 84) dX12_row_84 (by decide) ?_
              exact g_iret (pc := 85) (by decide) (by decide) (hPo) dX12_row_85
            · -- F c4
              refine g_aload_n (q := 1) (pc := 65) dX12_row_65 rfl rfl ?_
              refine gm_get_el (pc := 66) hA dX12_row_66 ?_
              refine g_bipush (v := nI 100) (pc := 69) dX12_row_69 (by decide) ?_
              refine g_iload_n (q := 2) (pc := 71) dX12_row_71 rfl rfl ?_
              refine g_imul_N (pc := 72) dX12_row_72 ?_
              refine g_iload (q := 0) (pc := 73) dX12_row_73 rfl ?_
              refine g_iadd_N (pc := 75) dX12_row_75 ?_
              refine g_iconst (v := nI 0) (pc := 76) dX12_row_76 (by decide) ?_
              refine gm_st_el (pc := 77) (j := (100 * d) + i) (f' := (upd h ((100 * d) + i) (nI 0))) hA (by omega) rfl dX12_row_77 ?_
              refine g_iinc (q := 0) (lv' := [(4, .int (nI (i + 1))), (0, .ref (ad 0)), (1, .int (nI d))]) (pc := 78) dX12_row_78 rfl (nI_inc _ _) (by decide) rfl ?_
              refine g_goto (tgt := 58) (pc := 81) dX12_row_81 (by decide) ?_
              refine G.locals (L' := [(4, .int (nI (i + 1))), (0, .ref (ad 0)), (1, .int (nI d))]) [0, 1, 2] rfl ?_
              exact ih58 (i + 1) (upd h ((100 * d) + i) (nI 0)) (by omega) (by omega) (rowI1 h1) (rowI2 h2)
        refine G.locals (L' := [(4, .int (nI 0)), (0, .ref (ad 0)), (1, .int (nI d))]) [0, 1, 2] rfl ?_
        exact lp58 101 0 el (by omega) (by decide) (fun q a b => absurd b (by omega)) (fun _ _ => rfl)
      · -- F c3
        exact absurd c3 (by omega)
theorem c_X12_row_n {d r n : Int32} (hA : aB b0 18 ad) (h : ¬ spRow d r n = nI 0) : KE l D Z b0 yX12_row cX12_row 5 (some .int) rmX12_row [.ref (ad 0), .int d, .int r, .int n] (wM Z ad hi th po ba en se (enc kd fg pl hr) im rd mi (nf kp) (nf so) (nf sz) el ki kf ti lo wa nu li to ot V) (some (.int (spRow d r n))) (wM Z ad hi th po ba en se (enc kd fg pl hr) im rd mi (nf kp) (nf so) (nf sz) el ki kf ti lo wa nu li to ot V) := by
  refine KE.of (by decide) (Nat.le_of_ble_eq_true rfl) (fun Po hPo => ?_)
  refine G.locals (L' := [(0, .ref (ad 0)), (1, .int d), (2, .int r), (3, .int n)]) [0, 1, 2, 3] rfl ?_
  refine g_iload_n (q := 1) (pc := 0) dX12_row_0 rfl rfl ?_
  refine e_callS (k2 := 0) (n2 := 0) (As := [.int d]) (rest := []) (pc := 1) (c_X12_isShelf hA) mlX12_152 mX12_isShelf ⟨Nat.le_of_ble_eq_true rfl, Nat.le_of_ble_eq_true rfl⟩ rfl rfl (Nat.le_of_ble_eq_true rfl) dX12_row_1 (by decide) rfl rfl ?_
  refine g_if_eq_B (tgt := 25) (pc := 4) dX12_row_4 (by decide) (fun c1 => ?_) (fun c1 => ?_)
  · -- T c1
    refine g_iconst (v := (-1)) (pc := 25) dX12_row_25 (by decide) ?_
    exact g_iret (pc := 26) (by decide) (by decide) (eqI hPo (by rw [spRow, if_neg (by simp [*])])) dX12_row_26
  · -- F c1
    obtain ⟨d, hd, rfl⟩ := inR_t c1
    refine g_iload_n (q := 2) (pc := 7) dX12_row_7 rfl rfl ?_
    refine g_i2l (v := (r).toInt64) (pc := 8) dX12_row_8 rfl ?_
    refine g_lconst (v := lN 0) (pc := 9) dX12_row_9 (by decide) ?_
    refine g_ldc2 (v := lN 2) (pc := 10) klX12_239 dX12_row_10 ?_
    refine e_callS (k2 := 0) (n2 := 0) (As := [.long ((r).toInt64), .long (lN 0), .long (lN 2)]) (rest := []) (pc := 13) (c_X12_isInR 3 rfl hA (by decide) (c_X12_isIn hA)) mlX12_67 mX12_isIn ⟨Nat.le_of_ble_eq_true rfl, Nat.le_of_ble_eq_true rfl⟩ rfl rfl (Nat.le_of_ble_eq_true rfl) dX12_row_13 (by decide) rfl rfl ?_
    refine g_if_eq_B (tgt := 25) (pc := 16) dX12_row_16 (by decide) (fun c2 => ?_) (fun c2 => ?_)
    · -- T c2
      refine g_iconst (v := (-1)) (pc := 25) dX12_row_25 (by decide) ?_
      exact g_iret (pc := 26) (by decide) (by decide) (eqI hPo (by rw [spRow, if_pos (by assumption), if_neg (by simp [*])])) dX12_row_26
    · -- F c2
      obtain ⟨r, hr, rfl⟩ := inR_t c2
      refine g_iload_n (q := 3) (pc := 19) dX12_row_19 rfl rfl ?_
      refine g_bipush (v := nI 100) (pc := 20) dX12_row_20 (by decide) ?_
      refine g_icmp_le (tgt := 27) (pc := 22) dX12_row_22 (by decide) (fun c3 => ?_) (fun c3 => ?_)
      · -- T c3
        refine g_iload_n (q := 3) (pc := 27) dX12_row_27 rfl rfl ?_
        refine g_if_ge (tgt := 34) (pc := 28) dX12_row_28 (by decide) (fun c4 => ?_) (fun c4 => ?_)
        · -- T c4
          exact absurd (by rw [spRow, if_pos (by assumption), if_pos (by assumption)]; simp [*]) h
        · -- F c4
          refine g_bipush (v := (-14)) (pc := 31) dX12_row_31 (by decide) ?_
          exact g_iret (pc := 33) (by decide) (by decide) (eqI hPo (by rw [spRow, if_pos (by assumption), if_pos (by assumption)]; simp [*])) dX12_row_33
      · -- F c3
        refine g_iconst (v := (-1)) (pc := 25) dX12_row_25 (by decide) ?_
        exact g_iret (pc := 26) (by decide) (by decide) (eqI hPo (by rw [spRow, if_pos (by assumption), if_pos (by assumption)]; simp [*])) dX12_row_26
theorem c_X12_isInZ1 {i z : Nat} (hA : aB b0 18 ad) (hz : z ≤ 100) (hi : i < 2147483648) {VV : HV} (h : KE l D Z b0 yX12_isIn cX12_isIn 6 (some .boolean) rmX12_isIn [.long (lN i), .long (lN 0), .long (nI z - nI 1).toInt64] VV (some (.int (bI (decide (lN 0 ≤ lN i) && decide (lN i ≤ (nI z - nI 1).toInt64))))) VV) : KE l D Z b0 yX12_isIn cX12_isIn 6 (some .boolean) rmX12_isIn [.long (lN i), .long (lN 0), .long (nI z - nI 1).toInt64] VV (some (.int (bI (decide (i < z))))) VV := by
  rw [← nI_l (by omega), inZ (nI i) hz, inR_N hi] at h
  rw [← nI_l (by omega)]; exact h
def rmX12_put : Room := { frames := 3, cells := 0, slots := 0, locals := 67 }
theorem c_X12_put_s {d i : Nat} {v : Int32} (hA : aB b0 18 ad) (hs : okS kp so sz ki kf) (hd : d < 8) (hk : kp d = 2) (hi1 : i < sz d) : KE l D Z b0 yX12_put cX12_put 5 (some .int) rmX12_put [.ref (ad 0), .int (nI d), .int (nI i), .int v] (wM Z ad hi th po ba en se (enc kd fg pl hr) im rd mi (nf kp) (nf so) (nf sz) el ki kf ti lo wa nu li to ot V) (some (.int (nI 0))) (wM Z ad hi th po ba en se (enc kd fg pl hr) im rd mi (nf kp) (nf so) (nf sz) (upd el (100 * d + i) (narS (so d) v)) ki kf ti lo wa nu li to ot V) := by
  refine KE.of (by decide) (Nat.le_of_ble_eq_true rfl) (fun Po hPo => ?_)
  refine G.locals (L' := [(0, .ref (ad 0)), (1, .int (nI d)), (2, .int (nI i)), (3, .int v)]) [0, 1, 2, 3] rfl ?_
  refine g_aload_n (q := 0) (pc := 0) dX12_put_0 rfl rfl ?_
  refine g_iload_n (q := 1) (pc := 1) dX12_put_1 rfl rfl ?_
  refine g_iconst (v := (-1)) (pc := 2) dX12_put_2 (by decide) ?_
  refine e_callV (k2 := 0) (n2 := 0) (As := [.int (nI d), .int (-1)]) (rest := []) (pc := 3) (wM_0 hA) rfl (c_X12_wrongRow_ok (r := none) hA hd hk rfl (c_X12_wrongRowm hA hs)) mlX12_155 selX12_X12_wrongRow_X12_wrongRow mX12_wrongRow ⟨Nat.le_of_ble_eq_true rfl, Nat.le_of_ble_eq_true rfl⟩ rfl rfl (Nat.le_of_ble_eq_true rfl) dX12_put_3 (by decide) rfl rfl ?_
  refine g_istore (lv' := [(4, .int (nI 0)), (0, .ref (ad 0)), (1, .int (nI d)), (2, .int (nI i)), (3, .int v)]) (pc := 6) dX12_put_6 (by decide) rfl ?_
  refine g_iload (q := 0) (pc := 8) dX12_put_8 rfl ?_
  refine g_if_eq (tgt := 16) (pc := 10) dX12_put_10 (by decide) (fun _ => ?_) (fun c0 => absurd c0 (by decide))
  refine g_iload_n (q := 3) (pc := 16) dX12_put_16 rfl rfl ?_
  refine g_i2l (v := lN i) (pc := 17) dX12_put_17 (nI_l (by have := (hs d hd).2.2.1; omega)) ?_
  refine g_lconst (v := lN 0) (pc := 18) dX12_put_18 (by decide) ?_
  refine g_aload_n (q := 1) (pc := 19) dX12_put_19 rfl rfl ?_
  refine gm_get_sz (pc := 20) hA dX12_put_20 ?_
  refine g_iload_n (q := 2) (pc := 23) dX12_put_23 rfl rfl ?_
  refine gm_ld_sz (pc := 24) (j := d) (x := nI (sz d)) hA hd rfl dX12_put_24 ?_
  refine g_iconst (v := nI 1) (pc := 25) dX12_put_25 (by decide) ?_
  refine g_isub (pc := 26) dX12_put_26 ?_
  refine g_i2l (v := ((nI (sz d)) - (nI 1)).toInt64) (pc := 27) dX12_put_27 rfl ?_
  refine e_callS (k2 := 0) (n2 := 0) (As := [.long (lN i), .long (lN 0), .long (((nI (sz d)) - (nI 1)).toInt64)]) (rest := []) (pc := 28) (c_X12_isInZ1 hA (hs d hd).2.2.1 (by have := (hs d hd).2.2.1; omega) (c_X12_isIn hA)) mlX12_67 mX12_isIn ⟨Nat.le_of_ble_eq_true rfl, Nat.le_of_ble_eq_true rfl⟩ rfl rfl (Nat.le_of_ble_eq_true rfl) dX12_put_28 (by decide) rfl rfl ?_
  refine g_if_ne_B (tgt := 37) (pc := 31) dX12_put_31 (by decide) (fun c1 => ?_) (fun c1 => ?_)
  · -- T c1
    have c1 := of_decide_eq_true c1
    refine g_aload_n (q := 1) (pc := 37) dX12_put_37 rfl rfl ?_
    refine gm_get_el (pc := 38) hA dX12_put_38 ?_
    refine g_bipush (v := nI 100) (pc := 41) dX12_put_41 (by decide) ?_
    refine g_iload_n (q := 2) (pc := 43) dX12_put_43 rfl rfl ?_
    refine g_imul_N (pc := 44) dX12_put_44 ?_
    refine g_iload_n (q := 3) (pc := 45) dX12_put_45 rfl rfl ?_
    refine g_iadd_N (pc := 46) dX12_put_46 ?_
    refine g_aload_n (q := 1) (pc := 47) dX12_put_47 rfl rfl ?_
    refine gm_get_so (pc := 48) hA dX12_put_48 ?_
    refine g_iload_n (q := 2) (pc := 51) dX12_put_51 rfl rfl ?_
    refine gm_ld_so (pc := 52) (j := d) (x := nI (so d)) hA hd rfl dX12_put_52 ?_
    refine g_if_ne_N (tgt := 61) (pc := 53) (by have := hs d hd; omega) dX12_put_53 (by decide) (fun c2 => ?_) (fun c2 => ?_)
    · -- T c2
      refine g_aload_n (q := 1) (pc := 61) dX12_put_61 rfl rfl ?_
      refine gm_get_so (pc := 62) hA dX12_put_62 ?_
      refine g_iload_n (q := 2) (pc := 65) dX12_put_65 rfl rfl ?_
      refine gm_ld_so (pc := 66) (j := d) (x := nI (so d)) hA hd rfl dX12_put_66 ?_
      refine g_iconst (v := nI 1) (pc := 67) dX12_put_67 (by decide) ?_
      refine g_icmp_ne_N (tgt := 76) (pc := 68) (by have := hs d hd; omega) (by omega) dX12_put_68 (by decide) (fun c3 => ?_) (fun c3 => ?_)
      · -- T c3
        refine g_iload_n (q := 4) (pc := 76) dX12_put_76 rfl rfl ?_
        refine gm_st_el (pc := 77) (j := (100 * d) + i) (f' := (upd el (100 * d + i) (narS (so d) v))) hA (by have := hs d hd; omega) (by simp [narS, *]) dX12_put_77 ?_
        refine g_iconst (v := nI 0) (pc := 78) dX12_put_78 (by decide) ?_
        exact g_iret (pc := 79) (by decide) (by decide) (hPo) dX12_put_79
      · -- F c3
        refine g_iload_n (q := 4) (pc := 71) dX12_put_71 rfl rfl ?_
        refine g_i2s (v := (v).toInt16.toInt32) (pc := 72) dX12_put_72 rfl ?_
        refine g_goto (tgt := 77) (pc := 73) dX12_put_73 (by decide) ?_
        refine gm_st_el (pc := 77) (j := (100 * d) + i) (f' := (upd el (100 * d + i) (narS (so d) v))) hA (by have := hs d hd; omega) (by simp [narS, *]) dX12_put_77 ?_
        refine g_iconst (v := nI 0) (pc := 78) dX12_put_78 (by decide) ?_
        exact g_iret (pc := 79) (by decide) (by decide) (hPo) dX12_put_79
    · -- F c2
      refine g_iload_n (q := 4) (pc := 56) dX12_put_56 rfl rfl ?_
      refine g_i2b (v := (v).toInt8.toInt32) (pc := 57) dX12_put_57 rfl ?_
      refine g_goto (tgt := 77) (pc := 58) dX12_put_58 (by decide) ?_
      refine gm_st_el (pc := 77) (j := (100 * d) + i) (f' := (upd el (100 * d + i) (narS (so d) v))) hA (by have := hs d hd; omega) (by simp [narS, *]) dX12_put_77 ?_
      refine g_iconst (v := nI 0) (pc := 78) dX12_put_78 (by decide) ?_
      exact g_iret (pc := 79) (by decide) (by decide) (hPo) dX12_put_79
  · -- F c1
    exact absurd (of_decide_eq_false c1) (by omega)
theorem c_X12_put_n {d i v : Int32} (hA : aB b0 18 ad) (hs : okS kp so sz ki kf) (h : ¬ spPut kp so sz d i = nI 0) : KE l D Z b0 yX12_put cX12_put 5 (some .int) rmX12_put [.ref (ad 0), .int d, .int i, .int v] (wM Z ad hi th po ba en se (enc kd fg pl hr) im rd mi (nf kp) (nf so) (nf sz) el ki kf ti lo wa nu li to ot V) (some (.int (spPut kp so sz d i))) (wM Z ad hi th po ba en se (enc kd fg pl hr) im rd mi (nf kp) (nf so) (nf sz) el ki kf ti lo wa nu li to ot V) := by
  refine KE.of (by decide) (Nat.le_of_ble_eq_true rfl) (fun Po hPo => ?_)
  refine G.locals (L' := [(0, .ref (ad 0)), (1, .int d), (2, .int i), (3, .int v)]) [0, 1, 2, 3] rfl ?_
  refine g_aload_n (q := 0) (pc := 0) dX12_put_0 rfl rfl ?_
  refine g_iload_n (q := 1) (pc := 1) dX12_put_1 rfl rfl ?_
  refine g_iconst (v := (-1)) (pc := 2) dX12_put_2 (by decide) ?_
  refine e_callV (k2 := 0) (n2 := 0) (As := [.int d, .int (-1)]) (rest := []) (pc := 3) (wM_0 hA) rfl (c_X12_wrongRowm hA hs) mlX12_155 selX12_X12_wrongRow_X12_wrongRow mX12_wrongRow ⟨Nat.le_of_ble_eq_true rfl, Nat.le_of_ble_eq_true rfl⟩ rfl rfl (Nat.le_of_ble_eq_true rfl) dX12_put_3 (by decide) rfl rfl ?_
  refine g_istore (lv' := [(4, .int (spWR kp so d none)), (0, .ref (ad 0)), (1, .int d), (2, .int i), (3, .int v)]) (pc := 6) dX12_put_6 (by decide) rfl ?_
  refine g_iload (q := 0) (pc := 8) dX12_put_8 rfl ?_
  refine g_if_eq (tgt := 16) (pc := 10) dX12_put_10 (by decide) (fun c1 => ?_) (fun c1 => ?_)
  · -- T c1
    have c9 := c1
    obtain ⟨d, hd, rfl, hk, -⟩ := spWR_0 c1
    refine g_iload_n (q := 3) (pc := 16) dX12_put_16 rfl rfl ?_
    refine g_i2l (v := (i).toInt64) (pc := 17) dX12_put_17 rfl ?_
    refine g_lconst (v := lN 0) (pc := 18) dX12_put_18 (by decide) ?_
    refine g_aload_n (q := 1) (pc := 19) dX12_put_19 rfl rfl ?_
    refine gm_get_sz (pc := 20) hA dX12_put_20 ?_
    refine g_iload_n (q := 2) (pc := 23) dX12_put_23 rfl rfl ?_
    refine gm_ld_sz (pc := 24) (j := d) (x := nI (sz d)) hA hd rfl dX12_put_24 ?_
    refine g_iconst (v := nI 1) (pc := 25) dX12_put_25 (by decide) ?_
    refine g_isub (pc := 26) dX12_put_26 ?_
    refine g_i2l (v := ((nI (sz d)) - (nI 1)).toInt64) (pc := 27) dX12_put_27 rfl ?_
    refine e_callS (k2 := 0) (n2 := 0) (As := [.long ((i).toInt64), .long (lN 0), .long (((nI (sz d)) - (nI 1)).toInt64)]) (rest := []) (pc := 28) (c_X12_isInZ hA (hs d hd).2.2.1 (c_X12_isIn hA)) mlX12_67 mX12_isIn ⟨Nat.le_of_ble_eq_true rfl, Nat.le_of_ble_eq_true rfl⟩ rfl rfl (Nat.le_of_ble_eq_true rfl) dX12_put_28 (by decide) rfl rfl ?_
    refine g_if_ne_B (tgt := 37) (pc := 31) dX12_put_31 (by decide) (fun c2 => ?_) (fun c2 => ?_)
    · -- T c2
      exact absurd (by rw [spPut, if_pos c9, dN_N (by omega), if_pos (by assumption)]) h
    · -- F c2
      refine g_bipush (v := (-13)) (pc := 34) dX12_put_34 (by decide) ?_
      exact g_iret (pc := 36) (by decide) (by decide) (eqI hPo (by rw [spPut, if_pos c9, dN_N (by omega), if_neg (by simp [*])])) dX12_put_36
  · -- F c1
    refine g_iload (q := 0) (pc := 13) dX12_put_13 rfl ?_
    exact g_iret (pc := 15) (by decide) (by decide) (eqI hPo (by rw [spPut, if_neg (by assumption)])) dX12_put_15
theorem spEl_le {kp sz : Nat → Nat} (d i : Int32) : spEl kp sz d i ≤ 2 := by
  unfold spEl; repeat' split
  all_goals omega
def rmX12_element : Room := { frames := 2, cells := 0, slots := 0, locals := 45 }
theorem c_X12_element_s {d i : Nat} (hA : aB b0 18 ad) (hs : okS kp so sz ki kf) (hd : d < 8) (hk : kp d = 2) (hi1 : i < sz d) : KE l D Z b0 yX12_element cX12_element 3 (some .long) rmX12_element [.ref (ad 0), .int (nI d), .int (nI i)] (wM Z ad hi th po ba en se (enc kd fg pl hr) im rd mi (nf kp) (nf so) (nf sz) el ki kf ti lo wa nu li to ot V) (some (.long ((el (100 * d + i)).toInt64))) (wM Z ad hi (nI 0) po ba en se (enc kd fg pl hr) im rd mi (nf kp) (nf so) (nf sz) el ki kf ti lo wa nu li to ot V) := by
  refine KE.of (by decide) (Nat.le_of_ble_eq_true rfl) (fun Po hPo => ?_)
  refine G.locals (L' := [(0, .ref (ad 0)), (1, .int (nI d)), (2, .int (nI i))]) [0, 1, 2] rfl ?_
  refine g_aload_n (q := 0) (pc := 0) dX12_element_0 rfl rfl ?_
  refine g_iload_n (q := 1) (pc := 1) dX12_element_1 rfl rfl ?_
  refine e_callS (k2 := 0) (n2 := 0) (As := [.int (nI d)]) (rest := [.ref (ad 0)]) (pc := 2) (c_X12_isShelfN hA (by have := (hs d hd).2.2.1; omega) (c_X12_isShelf hA)) mlX12_152 mX12_isShelf ⟨Nat.le_of_ble_eq_true rfl, Nat.le_of_ble_eq_true rfl⟩ rfl rfl (Nat.le_of_ble_eq_true rfl) dX12_element_2 (by decide) rfl rfl ?_
  refine g_if_ne_B (tgt := 12) (pc := 5) dX12_element_5 (by decide) (fun c1 => ?_) (fun c1 => ?_)
  · -- T c1
    have c1 := of_decide_eq_true c1
    refine g_aload_n (q := 0) (pc := 12) dX12_element_12 rfl rfl ?_
    refine gm_get_kp (pc := 13) hA dX12_element_13 ?_
    refine g_iload_n (q := 1) (pc := 16) dX12_element_16 rfl rfl ?_
    refine gm_ld_kp (pc := 17) (j := d) (x := nI (kp d)) hA hd rfl dX12_element_17 ?_
    refine g_iconst (v := nI 2) (pc := 18) dX12_element_18 (by decide) ?_
    refine g_icmp_ne_N (tgt := 40) (pc := 19) (by have := hs d hd; omega) (by omega) dX12_element_19 (by decide) (fun c2 => ?_) (fun c2 => ?_)
    · -- T c2
      exact absurd hk c2
    · -- F c2
      refine g_iload_n (q := 2) (pc := 22) dX12_element_22 rfl rfl ?_
      refine g_i2l (v := lN i) (pc := 23) dX12_element_23 (nI_l (by have := (hs d hd).2.2.1; omega)) ?_
      refine g_lconst (v := lN 0) (pc := 24) dX12_element_24 (by decide) ?_
      refine g_aload_n (q := 0) (pc := 25) dX12_element_25 rfl rfl ?_
      refine gm_get_sz (pc := 26) hA dX12_element_26 ?_
      refine g_iload_n (q := 1) (pc := 29) dX12_element_29 rfl rfl ?_
      refine gm_ld_sz (pc := 30) (j := d) (x := nI (sz d)) hA hd rfl dX12_element_30 ?_
      refine g_iconst (v := nI 1) (pc := 31) dX12_element_31 (by decide) ?_
      refine g_isub (pc := 32) dX12_element_32 ?_
      refine g_i2l (v := ((nI (sz d)) - (nI 1)).toInt64) (pc := 33) dX12_element_33 rfl ?_
      refine e_callS (k2 := 0) (n2 := 0) (As := [.long (lN i), .long (lN 0), .long (((nI (sz d)) - (nI 1)).toInt64)]) (rest := [.ref (ad 0)]) (pc := 34) (c_X12_isInZ1 hA (hs d hd).2.2.1 (by have := (hs d hd).2.2.1; omega) (c_X12_isIn hA)) mlX12_67 mX12_isIn ⟨Nat.le_of_ble_eq_true rfl, Nat.le_of_ble_eq_true rfl⟩ rfl rfl (Nat.le_of_ble_eq_true rfl) dX12_element_34 (by decide) rfl rfl ?_
      refine g_if_ne_B (tgt := 44) (pc := 37) dX12_element_37 (by decide) (fun c3 => ?_) (fun c3 => ?_)
      · -- T c3
        have c3 := of_decide_eq_true c3
        refine g_iconst (v := nI 0) (pc := 44) dX12_element_44 (by decide) ?_
        refine gm_put_th (pc := 45) hA dX12_element_45 ?_
        refine g_aload_n (q := 0) (pc := 48) dX12_element_48 rfl rfl ?_
        refine gm_get_th (pc := 49) hA dX12_element_49 ?_
        refine g_if_ne (tgt := 70) (pc := 52) dX12_element_52 (by decide) (fun c0 => absurd c0 (by decide)) (fun _ => ?_)
        refine g_aload_n (q := 0) (pc := 55) dX12_element_55 rfl rfl ?_
        refine gm_get_el (pc := 56) hA dX12_element_56 ?_
        refine g_bipush (v := nI 100) (pc := 59) dX12_element_59 (by decide) ?_
        refine g_iload_n (q := 1) (pc := 61) dX12_element_61 rfl rfl ?_
        refine g_imul_N (pc := 62) dX12_element_62 ?_
        refine g_iload_n (q := 2) (pc := 63) dX12_element_63 rfl rfl ?_
        refine g_iadd_N (pc := 64) dX12_element_64 ?_
        refine gm_ld_el (pc := 65) (j := (100 * d) + i) (x := el ((100 * d) + i)) hA (by have := hs d hd; omega) rfl dX12_element_65 ?_
        refine g_i2l (v := (el ((100 * d) + i)).toInt64) (pc := 66) dX12_element_66 rfl ?_
        refine g_goto (tgt := 71) (pc := 67) dX12_element_67 (by decide) ?_
        exact g_lret (pc := 71) (by decide) (by decide) (hPo) dX12_element_71
      · -- F c3
        exact absurd (of_decide_eq_false c3) (by omega)
  · -- F c1
    exact absurd (of_decide_eq_false c1) (by omega)
theorem c_X12_element_n {d i : Int32} (hA : aB b0 18 ad) (hs : okS kp so sz ki kf) (h : ¬ spEl kp sz d i = 0) : KE l D Z b0 yX12_element cX12_element 3 (some .long) rmX12_element [.ref (ad 0), .int d, .int i] (wM Z ad hi th po ba en se (enc kd fg pl hr) im rd mi (nf kp) (nf so) (nf sz) el ki kf ti lo wa nu li to ot V) (some (.long (lN 0))) (wM Z ad hi (nI (spEl kp sz d i)) po ba en se (enc kd fg pl hr) im rd mi (nf kp) (nf so) (nf sz) el ki kf ti lo wa nu li to ot V) := by
  refine KE.of (by decide) (Nat.le_of_ble_eq_true rfl) (fun Po hPo => ?_)
  refine G.locals (L' := [(0, .ref (ad 0)), (1, .int d), (2, .int i)]) [0, 1, 2] rfl ?_
  refine g_aload_n (q := 0) (pc := 0) dX12_element_0 rfl rfl ?_
  refine g_iload_n (q := 1) (pc := 1) dX12_element_1 rfl rfl ?_
  refine e_callS (k2 := 0) (n2 := 0) (As := [.int d]) (rest := [.ref (ad 0)]) (pc := 2) (c_X12_isShelf hA) mlX12_152 mX12_isShelf ⟨Nat.le_of_ble_eq_true rfl, Nat.le_of_ble_eq_true rfl⟩ rfl rfl (Nat.le_of_ble_eq_true rfl) dX12_element_2 (by decide) rfl rfl ?_
  refine g_if_ne_B (tgt := 12) (pc := 5) dX12_element_5 (by decide) (fun c1 => ?_) (fun c1 => ?_)
  · -- T c1
    obtain ⟨d, hd, rfl⟩ := inR_t c1
    refine g_aload_n (q := 0) (pc := 12) dX12_element_12 rfl rfl ?_
    refine gm_get_kp (pc := 13) hA dX12_element_13 ?_
    refine g_iload_n (q := 1) (pc := 16) dX12_element_16 rfl rfl ?_
    refine gm_ld_kp (pc := 17) (j := d) (x := nI (kp d)) hA hd rfl dX12_element_17 ?_
    refine g_iconst (v := nI 2) (pc := 18) dX12_element_18 (by decide) ?_
    refine g_icmp_ne_N (tgt := 40) (pc := 19) (by have := hs d hd; omega) (by omega) dX12_element_19 (by decide) (fun c2 => ?_) (fun c2 => ?_)
    · -- T c2
      refine g_iconst (v := nI 2) (pc := 40) dX12_element_40 (by decide) ?_
      refine g_goto (tgt := 45) (pc := 41) dX12_element_41 (by decide) ?_
      refine g_top (x := nI 2) (y := nI (spEl kp sz (nI d) i)) (by congr 1; rw [spEl, if_pos (by assumption), dN_N (by omega)]; simp [*]) ?_
      refine gm_put_th (pc := 45) hA dX12_element_45 ?_
      refine g_aload_n (q := 0) (pc := 48) dX12_element_48 rfl rfl ?_
      refine gm_get_th (pc := 49) hA dX12_element_49 ?_
      refine g_if_ne_N (tgt := 70) (pc := 52) (by have := @spEl_le kp sz; exact Nat.lt_of_le_of_lt (this _ _) (by decide)) dX12_element_52 (by decide) (fun c3 => ?_) (fun c3 => ?_)
      · -- T c3
        refine g_lconst (v := lN 0) (pc := 70) dX12_element_70 (by decide) ?_
        exact g_lret (pc := 71) (by decide) (by decide) (hPo) dX12_element_71
      · -- F c3
        exact absurd c3 h
    · -- F c2
      refine g_iload_n (q := 2) (pc := 22) dX12_element_22 rfl rfl ?_
      refine g_i2l (v := (i).toInt64) (pc := 23) dX12_element_23 rfl ?_
      refine g_lconst (v := lN 0) (pc := 24) dX12_element_24 (by decide) ?_
      refine g_aload_n (q := 0) (pc := 25) dX12_element_25 rfl rfl ?_
      refine gm_get_sz (pc := 26) hA dX12_element_26 ?_
      refine g_iload_n (q := 1) (pc := 29) dX12_element_29 rfl rfl ?_
      refine gm_ld_sz (pc := 30) (j := d) (x := nI (sz d)) hA hd rfl dX12_element_30 ?_
      refine g_iconst (v := nI 1) (pc := 31) dX12_element_31 (by decide) ?_
      refine g_isub (pc := 32) dX12_element_32 ?_
      refine g_i2l (v := ((nI (sz d)) - (nI 1)).toInt64) (pc := 33) dX12_element_33 rfl ?_
      refine e_callS (k2 := 0) (n2 := 0) (As := [.long ((i).toInt64), .long (lN 0), .long (((nI (sz d)) - (nI 1)).toInt64)]) (rest := [.ref (ad 0)]) (pc := 34) (c_X12_isInZ hA (hs d hd).2.2.1 (c_X12_isIn hA)) mlX12_67 mX12_isIn ⟨Nat.le_of_ble_eq_true rfl, Nat.le_of_ble_eq_true rfl⟩ rfl rfl (Nat.le_of_ble_eq_true rfl) dX12_element_34 (by decide) rfl rfl ?_
      refine g_if_ne_B (tgt := 44) (pc := 37) dX12_element_37 (by decide) (fun c4 => ?_) (fun c4 => ?_)
      · -- T c4
        exact absurd (by rw [spEl, if_pos (by assumption), dN_N (by omega), if_pos (by assumption), if_pos (by assumption)]) h
      · -- F c4
        refine g_iconst (v := nI 2) (pc := 40) dX12_element_40 (by decide) ?_
        refine g_goto (tgt := 45) (pc := 41) dX12_element_41 (by decide) ?_
        refine g_top (x := nI 2) (y := nI (spEl kp sz (nI d) i)) (by congr 1; rw [spEl, if_pos (by assumption), dN_N (by omega)]; simp [*]) ?_
        refine gm_put_th (pc := 45) hA dX12_element_45 ?_
        refine g_aload_n (q := 0) (pc := 48) dX12_element_48 rfl rfl ?_
        refine gm_get_th (pc := 49) hA dX12_element_49 ?_
        refine g_if_ne_N (tgt := 70) (pc := 52) (by have := @spEl_le kp sz; exact Nat.lt_of_le_of_lt (this _ _) (by decide)) dX12_element_52 (by decide) (fun c5 => ?_) (fun c5 => ?_)
        · -- T c5
          refine g_lconst (v := lN 0) (pc := 70) dX12_element_70 (by decide) ?_
          exact g_lret (pc := 71) (by decide) (by decide) (hPo) dX12_element_71
        · -- F c5
          exact absurd c5 h
  · -- F c1
    refine g_iconst (v := nI 1) (pc := 8) dX12_element_8 (by decide) ?_
    refine g_goto (tgt := 45) (pc := 9) dX12_element_9 (by decide) ?_
    refine g_top (x := nI 1) (y := nI (spEl kp sz d i)) (by congr 1; rw [spEl, if_neg (by simp [*])]) ?_
    refine gm_put_th (pc := 45) hA dX12_element_45 ?_
    refine g_aload_n (q := 0) (pc := 48) dX12_element_48 rfl rfl ?_
    refine gm_get_th (pc := 49) hA dX12_element_49 ?_
    refine g_if_ne_N (tgt := 70) (pc := 52) (by have := @spEl_le kp sz; exact Nat.lt_of_le_of_lt (this _ _) (by decide)) dX12_element_52 (by decide) (fun c6 => ?_) (fun c6 => ?_)
    · -- T c6
      refine g_lconst (v := lN 0) (pc := 70) dX12_element_70 (by decide) ?_
      exact g_lret (pc := 71) (by decide) (by decide) (hPo) dX12_element_71
    · -- F c6
      exact absurd c6 h
theorem bitsI {n v x : Nat} (h : n + pcN v = pcN x) (hv : v < 256) : n + v % 2 + pcN (v / 2) = pcN x := by have := pcN_half hv; omega
def rmX12_bits : Room := { frames := 0, cells := 0, slots := 0, locals := 0 }
theorem c_X12_bits {x : Nat} (hA : aB b0 18 ad) (hx : x < 256) : KE l D Z b0 yX12_bits cX12_bits 3 (some .int) rmX12_bits [.int (nI x)] (wM Z ad hi th po ba en se (enc kd fg pl hr) im rd mi (nf kp) (nf so) (nf sz) el ki kf ti lo wa nu li to ot V) (some (.int (nI (pcN x)))) (wM Z ad hi th po ba en se (enc kd fg pl hr) im rd mi (nf kp) (nf so) (nf sz) el ki kf ti lo wa nu li to ot V) := by
  refine KE.of (by decide) (Nat.le_of_ble_eq_true rfl) (fun Po hPo => ?_)
  refine G.locals (L' := [(0, .int (nI x))]) [0] rfl ?_
  refine g_iconst (v := nI 0) (pc := 0) dX12_bits_0 (by decide) ?_
  refine g_istore_n (lv' := [(1, .int (nI 0)), (0, .int (nI x))]) (pc := 1) dX12_bits_1 rfl (by decide) rfl ?_
  refine g_iload_n (q := 1) (pc := 2) dX12_bits_2 rfl rfl ?_
  refine g_istore_n (lv' := [(2, .int (nI x)), (1, .int (nI 0)), (0, .int (nI x))]) (pc := 3) dX12_bits_3 rfl (by decide) rfl ?_
  have lp4 : ∀ (d4 : Nat) (v : Nat) (n : Nat), v < d4 → (v < 256) → (n + pcN v = pcN x) → G l D Z b0 rmX12_bits RX12 cX12_bits 3 (gE (some .int) "bits") (gT D b0 Po rmX12_bits.cells rmX12_bits.slots) (wM Z ad hi th po ba en se (enc kd fg pl hr) im rd mi (nf kp) (nf so) (nf sz) el ki kf ti lo wa nu li to ot V) [(2, .int (nI v)), (1, .int (nI n))] 0 0 4 [] := by
    intro d4
    induction d4 with
    | zero =>
      intro v n hd4 hv hn
      exact absurd hd4 (by omega)
    | succ d4 ih4 =>
      intro v n hd4 hv hn
      refine g_iload_n (q := 0) (pc := 4) dX12_bits_4 rfl rfl ?_
      refine g_if_le_N (tgt := 21) (pc := 5) (by omega) dX12_bits_5 (by decide) (fun c1 => ?_) (fun c1 => ?_)
      · -- T c1
        refine g_iload_n (q := 1) (pc := 21) dX12_bits_21 rfl rfl ?_
        exact g_iret (pc := 22) (by decide) (by decide) (eqI hPo (by have h0 : pcN v = 0 := (by rw [‹v = 0›]; decide); congr 1; omega)) dX12_bits_22
      · -- F c1
        refine g_iload_n (q := 1) (pc := 8) dX12_bits_8 rfl rfl ?_
        refine g_iload_n (q := 0) (pc := 9) dX12_bits_9 rfl rfl ?_
        refine g_iconst (v := nI 1) (pc := 10) dX12_bits_10 (by decide) ?_
        refine g_iand (pc := 11) dX12_bits_11 ?_
        refine g_top (x := (nI v) &&& (nI 1)) (y := nI (v % 2)) (and1 v hv) ?_
        refine g_iadd_N (pc := 12) dX12_bits_12 ?_
        refine g_istore_n (lv' := [(1, .int (nI (n + (v % 2)))), (2, .int (nI v))]) (pc := 13) dX12_bits_13 rfl (by decide) rfl ?_
        refine g_iload_n (q := 1) (pc := 14) dX12_bits_14 rfl rfl ?_
        refine g_iconst (v := nI 1) (pc := 15) dX12_bits_15 (by decide) ?_
        refine g_ishr (pc := 16) dX12_bits_16 ?_
        refine g_top (x := (nI v) >>> ((nI 1) &&& 31)) (y := nI (v / 2)) (shr1 v hv) ?_
        refine g_istore_n (lv' := [(2, .int (nI (v / 2))), (1, .int (nI (n + (v % 2))))]) (pc := 17) dX12_bits_17 rfl (by decide) rfl ?_
        refine g_goto (tgt := 4) (pc := 18) dX12_bits_18 (by decide) ?_
        refine G.locals (L' := [(2, .int (nI (v / 2))), (1, .int (nI (n + (v % 2))))]) [0, 1] rfl ?_
        exact ih4 (v / 2) (n + v % 2) (by omega) (by omega) (bitsI hn hv)
  refine G.locals (L' := [(2, .int (nI x)), (1, .int (nI 0))]) [0, 1] rfl ?_
  exact lp4 (x + 1) x 0 (by omega) hx (by omega)
theorem tkT {a b e : Nat} (h1 : pcN (anN a b) ≤ e) (h2 : pcN (anN b a) ≤ e) : bI (takenB a b e) = nI 1 := by
  unfold takenB; rw [decide_eq_true h1, decide_eq_true h2]; rfl
theorem tkF1 {a b e : Nat} (h1 : e < pcN (anN a b)) : bI (takenB a b e) = nI 0 := by
  unfold takenB; rw [decide_eq_false (by omega)]; rfl
theorem tkF2 {a b e : Nat} (h1 : e < pcN (anN b a)) : bI (takenB a b e) = nI 0 := by
  unfold takenB; rw [decide_eq_false (p := pcN (anN b a) ≤ e) (by omega), Bool.and_false]; rfl
def rmX12_areTaken : Room := { frames := 1, cells := 0, slots := 0, locals := 22 }
theorem c_X12_areTaken {a b e : Nat} (hA : aB b0 18 ad) (ha : a < 256) (hb : b < 256) (he : e < 9) : KE l D Z b0 yX12_areTaken cX12_areTaken 3 (some .boolean) rmX12_areTaken [.int (nI a), .int (nI b), .int (nI e)] (wM Z ad hi th po ba en se (enc kd fg pl hr) im rd mi (nf kp) (nf so) (nf sz) el ki kf ti lo wa nu li to ot V) (some (.int (bI (takenB a b e)))) (wM Z ad hi th po ba en se (enc kd fg pl hr) im rd mi (nf kp) (nf so) (nf sz) el ki kf ti lo wa nu li to ot V) := by
  refine KE.of (by decide) (Nat.le_of_ble_eq_true rfl) (fun Po hPo => ?_)
  refine G.locals (L' := [(0, .int (nI a)), (1, .int (nI b)), (2, .int (nI e))]) [0, 1, 2] rfl ?_
  refine g_iload_n (q := 0) (pc := 0) dX12_areTaken_0 rfl rfl ?_
  refine g_iload_n (q := 1) (pc := 1) dX12_areTaken_1 rfl rfl ?_
  refine g_iconst (v := (-1)) (pc := 2) dX12_areTaken_2 (by decide) ?_
  refine g_ixor (pc := 3) dX12_areTaken_3 ?_
  refine g_iand (pc := 4) dX12_areTaken_4 ?_
  refine g_top (x := (nI a) &&& ((nI b) ^^^ (-1))) (y := nI (anN a b)) (anN_ok a ha b hb).1 ?_
  refine e_callS (k2 := 0) (n2 := 0) (As := [.int (nI (anN a b))]) (rest := []) (pc := 5) (c_X12_bits hA (anN_ok a ha b hb).2) mlX12_204 mX12_bits ⟨Nat.le_of_ble_eq_true rfl, Nat.le_of_ble_eq_true rfl⟩ rfl rfl (Nat.le_of_ble_eq_true rfl) dX12_areTaken_5 (by decide) rfl rfl ?_
  refine g_iload_n (q := 2) (pc := 8) dX12_areTaken_8 rfl rfl ?_
  refine g_icmp_gt_N (tgt := 28) (pc := 9) (Nat.lt_of_le_of_lt (pcN_le _) (by decide)) (by omega) dX12_areTaken_9 (by decide) (fun c1 => ?_) (fun c1 => ?_)
  · -- T c1
    refine g_iconst (v := nI 0) (pc := 28) dX12_areTaken_28 (by decide) ?_
    exact g_zret (pc := 29) (by decide) (by decide) (by decide) (eqI hPo (by first | exact tkT (by assumption) (by assumption) | exact tkF1 (by assumption) | exact tkF2 (by assumption))) dX12_areTaken_29
  · -- F c1
    refine g_iload_n (q := 1) (pc := 12) dX12_areTaken_12 rfl rfl ?_
    refine g_iload_n (q := 0) (pc := 13) dX12_areTaken_13 rfl rfl ?_
    refine g_iconst (v := (-1)) (pc := 14) dX12_areTaken_14 (by decide) ?_
    refine g_ixor (pc := 15) dX12_areTaken_15 ?_
    refine g_iand (pc := 16) dX12_areTaken_16 ?_
    refine g_top (x := (nI b) &&& ((nI a) ^^^ (-1))) (y := nI (anN b a)) (anN_ok b hb a ha).1 ?_
    refine e_callS (k2 := 0) (n2 := 0) (As := [.int (nI (anN b a))]) (rest := []) (pc := 17) (c_X12_bits hA (anN_ok b hb a ha).2) mlX12_204 mX12_bits ⟨Nat.le_of_ble_eq_true rfl, Nat.le_of_ble_eq_true rfl⟩ rfl rfl (Nat.le_of_ble_eq_true rfl) dX12_areTaken_17 (by decide) rfl rfl ?_
    refine g_iload_n (q := 2) (pc := 20) dX12_areTaken_20 rfl rfl ?_
    refine g_icmp_gt_N (tgt := 28) (pc := 21) (Nat.lt_of_le_of_lt (pcN_le _) (by decide)) (by omega) dX12_areTaken_21 (by decide) (fun c2 => ?_) (fun c2 => ?_)
    · -- T c2
      refine g_iconst (v := nI 0) (pc := 28) dX12_areTaken_28 (by decide) ?_
      exact g_zret (pc := 29) (by decide) (by decide) (by decide) (eqI hPo (by first | exact tkT (by assumption) (by assumption) | exact tkF1 (by assumption) | exact tkF2 (by assumption))) dX12_areTaken_29
    · -- F c2
      refine g_iconst (v := nI 1) (pc := 24) dX12_areTaken_24 (by decide) ?_
      refine g_goto (tgt := 29) (pc := 25) dX12_areTaken_25 (by decide) ?_
      exact g_zret (pc := 29) (by decide) (by decide) (by decide) (eqI hPo (by first | exact tkT (by assumption) (by assumption) | exact tkF1 (by assumption) | exact tkF2 (by assumption))) dX12_areTaken_29
def rmX12_taken : Room := { frames := 2, cells := 0, slots := 0, locals := 44 }
theorem c_X12_taken {a b e : Int32} (hA : aB b0 18 ad)  : KE l D Z b0 yX12_taken cX12_taken 4 (some .int) rmX12_taken [.ref (ad 0), .int a, .int b, .int e] (wM Z ad hi th po ba en se (enc kd fg pl hr) im rd mi (nf kp) (nf so) (nf sz) el ki kf ti lo wa nu li to ot V) (some (.int (spTaken a b e))) (wM Z ad hi th po ba en se (enc kd fg pl hr) im rd mi (nf kp) (nf so) (nf sz) el ki kf ti lo wa nu li to ot V) := by
  refine KE.of (by decide) (Nat.le_of_ble_eq_true rfl) (fun Po hPo => ?_)
  refine G.locals (L' := [(0, .ref (ad 0)), (1, .int a), (2, .int b), (3, .int e)]) [0, 1, 2, 3] rfl ?_
  refine g_iload_n (q := 1) (pc := 0) dX12_taken_0 rfl rfl ?_
  refine g_i2l (v := (a).toInt64) (pc := 1) dX12_taken_1 rfl ?_
  refine g_lconst (v := lN 0) (pc := 2) dX12_taken_2 (by decide) ?_
  refine g_ldc2 (v := lN 255) (pc := 3) klX12_207 dX12_taken_3 ?_
  refine e_callS (k2 := 0) (n2 := 0) (As := [.long ((a).toInt64), .long (lN 0), .long (lN 255)]) (rest := []) (pc := 6) (c_X12_isInR 256 rfl hA (by decide) (c_X12_isIn hA)) mlX12_67 mX12_isIn ⟨Nat.le_of_ble_eq_true rfl, Nat.le_of_ble_eq_true rfl⟩ rfl rfl (Nat.le_of_ble_eq_true rfl) dX12_taken_6 (by decide) rfl rfl ?_
  refine g_if_eq_B (tgt := 36) (pc := 9) dX12_taken_9 (by decide) (fun c1 => ?_) (fun c1 => ?_)
  · -- T c1
    refine g_iconst (v := (-1)) (pc := 36) dX12_taken_36 (by decide) ?_
    refine g_goto (tgt := 54) (pc := 37) dX12_taken_37 (by decide) ?_
    exact g_iret (pc := 54) (by decide) (by decide) (eqI hPo (by rw [spTaken, if_neg (by simp [*])])) dX12_taken_54
  · -- F c1
    obtain ⟨a, ha, rfl⟩ := inR_t c1
    refine g_iload_n (q := 2) (pc := 12) dX12_taken_12 rfl rfl ?_
    refine g_i2l (v := (b).toInt64) (pc := 13) dX12_taken_13 rfl ?_
    refine g_lconst (v := lN 0) (pc := 14) dX12_taken_14 (by decide) ?_
    refine g_ldc2 (v := lN 255) (pc := 15) klX12_207 dX12_taken_15 ?_
    refine e_callS (k2 := 0) (n2 := 0) (As := [.long ((b).toInt64), .long (lN 0), .long (lN 255)]) (rest := []) (pc := 18) (c_X12_isInR 256 rfl hA (by decide) (c_X12_isIn hA)) mlX12_67 mX12_isIn ⟨Nat.le_of_ble_eq_true rfl, Nat.le_of_ble_eq_true rfl⟩ rfl rfl (Nat.le_of_ble_eq_true rfl) dX12_taken_18 (by decide) rfl rfl ?_
    refine g_if_eq_B (tgt := 36) (pc := 21) dX12_taken_21 (by decide) (fun c2 => ?_) (fun c2 => ?_)
    · -- T c2
      refine g_iconst (v := (-1)) (pc := 36) dX12_taken_36 (by decide) ?_
      refine g_goto (tgt := 54) (pc := 37) dX12_taken_37 (by decide) ?_
      exact g_iret (pc := 54) (by decide) (by decide) (eqI hPo (by rw [spTaken, if_pos (by assumption), if_neg (by simp [*])])) dX12_taken_54
    · -- F c2
      obtain ⟨b, hb, rfl⟩ := inR_t c2
      refine g_iload_n (q := 3) (pc := 24) dX12_taken_24 rfl rfl ?_
      refine g_i2l (v := (e).toInt64) (pc := 25) dX12_taken_25 rfl ?_
      refine g_lconst (v := lN 0) (pc := 26) dX12_taken_26 (by decide) ?_
      refine g_ldc2 (v := lN 8) (pc := 27) klX12_209 dX12_taken_27 ?_
      refine e_callS (k2 := 0) (n2 := 0) (As := [.long ((e).toInt64), .long (lN 0), .long (lN 8)]) (rest := []) (pc := 30) (c_X12_isInR 9 rfl hA (by decide) (c_X12_isIn hA)) mlX12_67 mX12_isIn ⟨Nat.le_of_ble_eq_true rfl, Nat.le_of_ble_eq_true rfl⟩ rfl rfl (Nat.le_of_ble_eq_true rfl) dX12_taken_30 (by decide) rfl rfl ?_
      refine g_if_ne_B (tgt := 40) (pc := 33) dX12_taken_33 (by decide) (fun c3 => ?_) (fun c3 => ?_)
      · -- T c3
        obtain ⟨e, he, rfl⟩ := inR_t c3
        refine g_iload_n (q := 1) (pc := 40) dX12_taken_40 rfl rfl ?_
        refine g_iload_n (q := 2) (pc := 41) dX12_taken_41 rfl rfl ?_
        refine g_iload_n (q := 3) (pc := 42) dX12_taken_42 rfl rfl ?_
        refine e_callS (k2 := 0) (n2 := 0) (As := [.int (nI a), .int (nI b), .int (nI e)]) (rest := []) (pc := 43) (c_X12_areTaken hA (by omega) (by omega) (by omega)) mlX12_211 mX12_areTaken ⟨Nat.le_of_ble_eq_true rfl, Nat.le_of_ble_eq_true rfl⟩ rfl rfl (Nat.le_of_ble_eq_true rfl) dX12_taken_43 (by decide) rfl rfl ?_
        refine g_if_eq_B (tgt := 53) (pc := 46) dX12_taken_46 (by decide) (fun c4 => ?_) (fun c4 => ?_)
        · -- T c4
          refine g_iconst (v := nI 0) (pc := 53) dX12_taken_53 (by decide) ?_
          exact g_iret (pc := 54) (by decide) (by decide) (eqI hPo (by rw [spTaken, if_pos (by assumption), if_pos (by assumption), if_pos (by assumption), dN_N (by omega), dN_N (by omega), dN_N (by omega)]; simp [bI, *])) dX12_taken_54
        · -- F c4
          refine g_iconst (v := nI 1) (pc := 49) dX12_taken_49 (by decide) ?_
          refine g_goto (tgt := 54) (pc := 50) dX12_taken_50 (by decide) ?_
          exact g_iret (pc := 54) (by decide) (by decide) (eqI hPo (by rw [spTaken, if_pos (by assumption), if_pos (by assumption), if_pos (by assumption), dN_N (by omega), dN_N (by omega), dN_N (by omega)]; simp [bI, *])) dX12_taken_54
      · -- F c3
        refine g_iconst (v := (-1)) (pc := 36) dX12_taken_36 (by decide) ?_
        refine g_goto (tgt := 54) (pc := 37) dX12_taken_37 (by decide) ?_
        exact g_iret (pc := 54) (by decide) (by decide) (eqI hPo (by rw [spTaken, if_pos (by assumption), if_pos (by assumption), if_neg (by simp [*])])) dX12_taken_54
def rmX12_count : Room := { frames := 2, cells := 0, slots := 0, locals := 42 }
theorem c_X12_count {what : Int32} (hA : aB b0 18 ad) (ho : okM kd fg pl) : KE l D Z b0 yX12_count cX12_count 4 (some .int) rmX12_count [.ref (ad 0), .int what] (wM Z ad hi th po ba en se (enc kd fg pl hr) im rd mi (nf kp) (nf so) (nf sz) el ki kf ti lo wa nu li to ot V) (some (.int (spCount kd fg what))) (wM Z ad hi th po ba en se (enc kd fg pl hr) im rd mi (nf kp) (nf so) (nf sz) el ki kf ti lo wa nu li to ot V) := by
  refine KE.of (by decide) (Nat.le_of_ble_eq_true rfl) (fun Po hPo => ?_)
  refine G.locals (L' := [(0, .ref (ad 0)), (1, .int what)]) [0, 1] rfl ?_
  refine g_iload_n (q := 1) (pc := 0) dX12_count_0 rfl rfl ?_
  refine g_i2l (v := (what).toInt64) (pc := 1) dX12_count_1 rfl ?_
  refine g_lconst (v := lN 0) (pc := 2) dX12_count_2 (by decide) ?_
  refine g_ldc2 (v := lN 9) (pc := 3) klX12_190 dX12_count_3 ?_
  refine e_callS (k2 := 0) (n2 := 0) (As := [.long ((what).toInt64), .long (lN 0), .long (lN 9)]) (rest := []) (pc := 6) (c_X12_isInR 10 rfl hA (by decide) (c_X12_isIn hA)) mlX12_67 mX12_isIn ⟨Nat.le_of_ble_eq_true rfl, Nat.le_of_ble_eq_true rfl⟩ rfl rfl (Nat.le_of_ble_eq_true rfl) dX12_count_6 (by decide) rfl rfl ?_
  refine g_if_ne_B (tgt := 14) (pc := 9) dX12_count_9 (by decide) (fun c1 => ?_) (fun c1 => ?_)
  · -- T c1
    obtain ⟨what, hwhat, rfl⟩ := inR_t c1
    refine g_iconst (v := nI 0) (pc := 14) dX12_count_14 (by decide) ?_
    refine g_istore_n (lv' := [(2, .int (nI 0)), (0, .ref (ad 0)), (1, .int (nI what))]) (pc := 15) dX12_count_15 rfl (by decide) rfl ?_
    refine g_iconst (v := nI 0) (pc := 16) dX12_count_16 (by decide) ?_
    refine g_istore_n (lv' := [(3, .int (nI 0)), (2, .int (nI 0)), (0, .ref (ad 0)), (1, .int (nI what))]) (pc := 17) dX12_count_17 rfl (by decide) rfl ?_
    have lp18 : ∀ (d18 : Nat) (i : Nat), i + d18 = 21 → (i ≤ 20) → G l D Z b0 rmX12_count RX12 cX12_count 4 (gE (some .int) "count") (gT D b0 Po rmX12_count.cells rmX12_count.slots) (wM Z ad hi th po ba en se (enc kd fg pl hr) im rd mi (nf kp) (nf so) (nf sz) el ki kf ti lo wa nu li to ot V) [(3, .int (nI i)), (2, .int (nI (sumN (cw kd fg what) i))), (0, .ref (ad 0)), (1, .int (nI what))] 0 0 18 [] := by
      intro d18
      induction d18 with
      | zero =>
        intro i hd18 hi
        exact absurd hd18 (by omega)
      | succ d18 ih18 =>
        intro i hd18 hi
        refine g_iload_n (q := 0) (pc := 18) dX12_count_18 rfl rfl ?_
        refine g_bipush (v := nI 20) (pc := 19) dX12_count_19 (by decide) ?_
        refine g_icmp_ge_N (tgt := 75) (pc := 21) (by omega) (by omega) dX12_count_21 (by decide) (fun c2 => ?_) (fun c2 => ?_)
        · -- T c2
          refine g_iload_n (q := 1) (pc := 75) dX12_count_75 rfl rfl ?_
          exact g_iret (pc := 76) (by decide) (by decide) (eqI hPo (by obtain rfl : i = 20 := (by omega); rw [spCount, if_pos (by assumption), dN_N (by omega)])) dX12_count_76
        · -- F c2
          refine g_iload_n (q := 1) (pc := 24) dX12_count_24 rfl rfl ?_
          refine g_iload_n (q := 3) (pc := 25) dX12_count_25 rfl rfl ?_
          refine g_bipush (v := nI 8) (pc := 26) dX12_count_26 (by decide) ?_
          refine g_icmp_ne_N (tgt := 39) (pc := 28) (by omega) (by omega) dX12_count_28 (by decide) (fun c3 => ?_) (fun c3 => ?_)
          · -- T c3
            refine g_iload_n (q := 3) (pc := 39) dX12_count_39 rfl rfl ?_
            refine g_bipush (v := nI 9) (pc := 40) dX12_count_40 (by decide) ?_
            refine g_icmp_ne_N (tgt := 53) (pc := 42) (by omega) (by omega) dX12_count_42 (by decide) (fun c4 => ?_) (fun c4 => ?_)
            · -- T c4
              refine g_aload_n (q := 2) (pc := 53) dX12_count_53 rfl rfl ?_
              refine g_iload_n (q := 0) (pc := 54) dX12_count_54 rfl rfl ?_
              refine e_callV (k2 := 0) (n2 := 0) (As := [.int (nI i)]) (rest := [.int (nI (sumN (cw kd fg what) i))]) (pc := 55) (wM_0 hA) rfl (c_X12_kind hA (by omega)) mlX12_77 selX12_X12_kind_X12_kind mX12_kind ⟨Nat.le_of_ble_eq_true rfl, Nat.le_of_ble_eq_true rfl⟩ rfl rfl (Nat.le_of_ble_eq_true rfl) dX12_count_55 (by decide) rfl rfl ?_
              refine g_iload_n (q := 3) (pc := 58) dX12_count_58 rfl rfl ?_
              refine g_icmp_ne_N (tgt := 66) (pc := 59) (by have := (ho.1 i (by omega)).1; omega) (by omega) dX12_count_59 (by decide) (fun c5 => ?_) (fun c5 => ?_)
              · -- T c5
                refine g_iconst (v := nI 0) (pc := 66) dX12_count_66 (by decide) ?_
                refine g_top (x := nI 0) (y := nI (cw kd fg what i)) (by congr 1; first | rfl | (simp [cw, *]; done)) ?_
                refine g_iadd_N (pc := 67) dX12_count_67 ?_
                refine g_istore_n (lv' := [(2, .int (nI ((sumN (cw kd fg what) i) + (cw kd fg what i)))), (3, .int (nI i)), (0, .ref (ad 0)), (1, .int (nI what))]) (pc := 68) dX12_count_68 rfl (by decide) rfl ?_
                refine g_iinc (q := 1) (lv' := [(3, .int (nI (i + 1))), (2, .int (nI ((sumN (cw kd fg what) i) + (cw kd fg what i)))), (0, .ref (ad 0)), (1, .int (nI what))]) (pc := 69) dX12_count_69 rfl (nI_inc _ _) (by decide) rfl ?_
                refine g_goto (tgt := 18) (pc := 72) dX12_count_72 (by decide) ?_
                refine G.locals (L' := [(3, .int (nI (i + 1))), (2, .int (nI ((sumN (cw kd fg what) i) + (cw kd fg what i)))), (0, .ref (ad 0)), (1, .int (nI what))]) [0, 1, 2, 3] rfl ?_
                exact ih18 (i + 1) (by omega) (by omega)
              · -- F c5
                refine g_iconst (v := nI 1) (pc := 62) dX12_count_62 (by decide) ?_
                refine g_goto (tgt := 67) (pc := 63) dX12_count_63 (by decide) ?_
                refine g_top (x := nI 1) (y := nI (cw kd fg what i)) (by congr 1; first | rfl | (simp [cw, *]; done)) ?_
                refine g_iadd_N (pc := 67) dX12_count_67 ?_
                refine g_istore_n (lv' := [(2, .int (nI ((sumN (cw kd fg what) i) + (cw kd fg what i)))), (3, .int (nI i)), (0, .ref (ad 0)), (1, .int (nI what))]) (pc := 68) dX12_count_68 rfl (by decide) rfl ?_
                refine g_iinc (q := 1) (lv' := [(3, .int (nI (i + 1))), (2, .int (nI ((sumN (cw kd fg what) i) + (cw kd fg what i)))), (0, .ref (ad 0)), (1, .int (nI what))]) (pc := 69) dX12_count_69 rfl (nI_inc _ _) (by decide) rfl ?_
                refine g_goto (tgt := 18) (pc := 72) dX12_count_72 (by decide) ?_
                refine G.locals (L' := [(3, .int (nI (i + 1))), (2, .int (nI ((sumN (cw kd fg what) i) + (cw kd fg what i)))), (0, .ref (ad 0)), (1, .int (nI what))]) [0, 1, 2, 3] rfl ?_
                exact ih18 (i + 1) (by omega) (by omega)
            · -- F c4
              refine g_aload_n (q := 2) (pc := 45) dX12_count_45 rfl rfl ?_
              refine g_iload_n (q := 0) (pc := 46) dX12_count_46 rfl rfl ?_
              refine e_callV (k2 := 0) (n2 := 0) (As := [.int (nI i)]) (rest := [.int (nI (sumN (cw kd fg what) i))]) (pc := 47) (wM_0 hA) rfl (c_X12_toil hA ho (by omega)) mlX12_100 selX12_X12_toil_X12_toil mX12_toil ⟨Nat.le_of_ble_eq_true rfl, Nat.le_of_ble_eq_true rfl⟩ rfl rfl (Nat.le_of_ble_eq_true rfl) dX12_count_47 (by decide) rfl rfl ?_
              refine g_goto (tgt := 67) (pc := 50) dX12_count_50 (by decide) ?_
              refine g_top (x := nI (toilN (kd i) (fg i))) (y := nI (cw kd fg what i)) (by congr 1; first | rfl | (simp [cw, *]; done)) ?_
              refine g_iadd_N (pc := 67) dX12_count_67 ?_
              refine g_istore_n (lv' := [(2, .int (nI ((sumN (cw kd fg what) i) + (cw kd fg what i)))), (3, .int (nI i)), (0, .ref (ad 0)), (1, .int (nI what))]) (pc := 68) dX12_count_68 rfl (by decide) rfl ?_
              refine g_iinc (q := 1) (lv' := [(3, .int (nI (i + 1))), (2, .int (nI ((sumN (cw kd fg what) i) + (cw kd fg what i)))), (0, .ref (ad 0)), (1, .int (nI what))]) (pc := 69) dX12_count_69 rfl (nI_inc _ _) (by decide) rfl ?_
              refine g_goto (tgt := 18) (pc := 72) dX12_count_72 (by decide) ?_
              refine G.locals (L' := [(3, .int (nI (i + 1))), (2, .int (nI ((sumN (cw kd fg what) i) + (cw kd fg what i)))), (0, .ref (ad 0)), (1, .int (nI what))]) [0, 1, 2, 3] rfl ?_
              exact ih18 (i + 1) (by omega) (by omega)
          · -- F c3
            refine g_aload_n (q := 2) (pc := 31) dX12_count_31 rfl rfl ?_
            refine g_iload_n (q := 0) (pc := 32) dX12_count_32 rfl rfl ?_
            refine e_callV (k2 := 0) (n2 := 0) (As := [.int (nI i)]) (rest := [.int (nI (sumN (cw kd fg what) i))]) (pc := 33) (wM_0 hA) rfl (c_X12_slow hA ho (by omega)) mlX12_107 selX12_X12_slow_X12_slow mX12_slow ⟨Nat.le_of_ble_eq_true rfl, Nat.le_of_ble_eq_true rfl⟩ rfl rfl (Nat.le_of_ble_eq_true rfl) dX12_count_33 (by decide) rfl rfl ?_
            refine g_goto (tgt := 67) (pc := 36) dX12_count_36 (by decide) ?_
            refine g_top (x := nI (slowN (kd i) (fg i))) (y := nI (cw kd fg what i)) (by congr 1; first | rfl | (simp [cw, *]; done)) ?_
            refine g_iadd_N (pc := 67) dX12_count_67 ?_
            refine g_istore_n (lv' := [(2, .int (nI ((sumN (cw kd fg what) i) + (cw kd fg what i)))), (3, .int (nI i)), (0, .ref (ad 0)), (1, .int (nI what))]) (pc := 68) dX12_count_68 rfl (by decide) rfl ?_
            refine g_iinc (q := 1) (lv' := [(3, .int (nI (i + 1))), (2, .int (nI ((sumN (cw kd fg what) i) + (cw kd fg what i)))), (0, .ref (ad 0)), (1, .int (nI what))]) (pc := 69) dX12_count_69 rfl (nI_inc _ _) (by decide) rfl ?_
            refine g_goto (tgt := 18) (pc := 72) dX12_count_72 (by decide) ?_
            refine G.locals (L' := [(3, .int (nI (i + 1))), (2, .int (nI ((sumN (cw kd fg what) i) + (cw kd fg what i)))), (0, .ref (ad 0)), (1, .int (nI what))]) [0, 1, 2, 3] rfl ?_
            exact ih18 (i + 1) (by omega) (by omega)
    refine G.locals (L' := [(3, .int (nI 0)), (2, .int (nI 0)), (0, .ref (ad 0)), (1, .int (nI what))]) [0, 1, 2, 3] rfl ?_
    exact lp18 21 0 (by omega) (by decide)
  · -- F c1
    refine g_iconst (v := (-1)) (pc := 12) dX12_count_12 (by decide) ?_
    exact g_iret (pc := 13) (by decide) (by decide) (eqI hPo (by rw [spCount, if_neg (by simp [*])])) dX12_count_13
def rmX12_drawn : Room := { frames := 0, cells := 0, slots := 0, locals := 0 }
theorem c_X12_drawn_2  (hA : aB b0 18 ad)  : KE l D Z b0 yX12_drawn cX12_drawn 2 (some .int) rmX12_drawn [.ref (ad 0), .int (nI 2)] (wM Z ad hi th po ba en se (enc kd fg pl hr) im rd mi (nf kp) (nf so) (nf sz) el ki kf ti lo wa nu li to ot V) (some (.int (nI (drN (nextS se) 2)))) (wM Z ad hi th po ba en (nextS se) (enc kd fg pl hr) im rd mi (nf kp) (nf so) (nf sz) el ki kf ti lo wa nu li to ot V) := by
  refine KE.of (by decide) (Nat.le_of_ble_eq_true rfl) (fun Po hPo => ?_)
  refine G.locals (L' := [(0, .ref (ad 0)), (1, .int (nI 2))]) [0, 1] rfl ?_
  refine g_aload_n (q := 0) (pc := 0) dX12_drawn_0 rfl rfl ?_
  refine g_aload_n (q := 0) (pc := 1) dX12_drawn_1 rfl rfl ?_
  refine gm_get_se (pc := 2) hA dX12_drawn_2 ?_
  refine g_ldc (v := nI 1103515245) (pc := 5) ctX12_221 dX12_drawn_5 ?_
  refine g_imul (pc := 7) dX12_drawn_7 ?_
  refine g_sipush (v := nI 12345) (pc := 8) dX12_drawn_8 (by decide) ?_
  refine g_iadd (pc := 11) dX12_drawn_11 ?_
  refine g_top (x := (se * (nI 1103515245)) + (nI 12345)) (y := nextS se) rfl ?_
  refine gm_put_se (pc := 12) hA dX12_drawn_12 ?_
  refine g_aload_n (q := 0) (pc := 15) dX12_drawn_15 rfl rfl ?_
  refine gm_get_se (pc := 16) hA dX12_drawn_16 ?_
  refine g_ldc (v := nI 2147483647) (pc := 19) ctX12_222 dX12_drawn_19 ?_
  refine g_iand (pc := 21) dX12_drawn_21 ?_
  refine g_top (x := (nextS se) &&& (nI 2147483647)) (y := nI (drM (nextS se))) (drM_ok _).1 ?_
  refine g_ldc (v := nI 65536) (pc := 22) ctX12_223 dX12_drawn_22 ?_
  refine g_idiv_N (pc := 24) (by have := (drM_ok (nextS se)).2; omega) (by decide) (by decide) dX12_drawn_24 ?_
  refine g_iload_n (q := 1) (pc := 25) dX12_drawn_25 rfl rfl ?_
  refine g_irem_N (pc := 26) (by have := (drM_ok (nextS se)).2; omega) (by decide) (by decide) dX12_drawn_26 ?_
  exact g_iret (pc := 27) (by decide) (by decide) (hPo) dX12_drawn_27
theorem c_X12_drawn_4  (hA : aB b0 18 ad)  : KE l D Z b0 yX12_drawn cX12_drawn 2 (some .int) rmX12_drawn [.ref (ad 0), .int (nI 4)] (wM Z ad hi th po ba en se (enc kd fg pl hr) im rd mi (nf kp) (nf so) (nf sz) el ki kf ti lo wa nu li to ot V) (some (.int (nI (drN (nextS se) 4)))) (wM Z ad hi th po ba en (nextS se) (enc kd fg pl hr) im rd mi (nf kp) (nf so) (nf sz) el ki kf ti lo wa nu li to ot V) := by
  refine KE.of (by decide) (Nat.le_of_ble_eq_true rfl) (fun Po hPo => ?_)
  refine G.locals (L' := [(0, .ref (ad 0)), (1, .int (nI 4))]) [0, 1] rfl ?_
  refine g_aload_n (q := 0) (pc := 0) dX12_drawn_0 rfl rfl ?_
  refine g_aload_n (q := 0) (pc := 1) dX12_drawn_1 rfl rfl ?_
  refine gm_get_se (pc := 2) hA dX12_drawn_2 ?_
  refine g_ldc (v := nI 1103515245) (pc := 5) ctX12_221 dX12_drawn_5 ?_
  refine g_imul (pc := 7) dX12_drawn_7 ?_
  refine g_sipush (v := nI 12345) (pc := 8) dX12_drawn_8 (by decide) ?_
  refine g_iadd (pc := 11) dX12_drawn_11 ?_
  refine g_top (x := (se * (nI 1103515245)) + (nI 12345)) (y := nextS se) rfl ?_
  refine gm_put_se (pc := 12) hA dX12_drawn_12 ?_
  refine g_aload_n (q := 0) (pc := 15) dX12_drawn_15 rfl rfl ?_
  refine gm_get_se (pc := 16) hA dX12_drawn_16 ?_
  refine g_ldc (v := nI 2147483647) (pc := 19) ctX12_222 dX12_drawn_19 ?_
  refine g_iand (pc := 21) dX12_drawn_21 ?_
  refine g_top (x := (nextS se) &&& (nI 2147483647)) (y := nI (drM (nextS se))) (drM_ok _).1 ?_
  refine g_ldc (v := nI 65536) (pc := 22) ctX12_223 dX12_drawn_22 ?_
  refine g_idiv_N (pc := 24) (by have := (drM_ok (nextS se)).2; omega) (by decide) (by decide) dX12_drawn_24 ?_
  refine g_iload_n (q := 1) (pc := 25) dX12_drawn_25 rfl rfl ?_
  refine g_irem_N (pc := 26) (by have := (drM_ok (nextS se)).2; omega) (by decide) (by decide) dX12_drawn_26 ?_
  exact g_iret (pc := 27) (by decide) (by decide) (hPo) dX12_drawn_27
end MS
