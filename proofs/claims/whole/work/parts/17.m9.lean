section MS
variable {l : Launch} {D : va_G} {Z : Nat → ClassId} {b0 : Nat} {ad : Nat → Nat} {hi th po ba en se : Int32} {s im rd mi el ki kf ti lo wa nu li to ot : Nat → Int32} {kd fg pl kp so sz ikd ifg ipl : Nat → Nat} {hr ihr : Nat → Int32} {V : HV}
def cdN (el : Nat → Int32) (j : Nat) : Nat := dN (el j &&& nI 255)
theorem cd_ok (el : Nat → Int32) (j : Nat) : el j &&& nI 255 = nI (cdN el j) ∧ cdN el j < 256 := by
  have h := and_le (el j) (a := 255) (by decide)
  unfold cdN
  rw [Int32.and_comm (el j)]
  exact ⟨h.1, by have := h.2; omega⟩
set_option maxRecDepth 100000 in
theorem bit_ok : ∀ s, s < 256 → ∀ i, i < 8 → nI s >>> (nI i &&& 31) &&& nI 1 = nI (s / 2 ^ i % 2) := by decide +kernel
theorem pw_ok : ∀ n, n < 9 → nI 1 <<< (nI n &&& 31) = nI (2 ^ n) := by decide +kernel
theorem pw_le : ∀ n, n < 9 → 2 ^ n ≤ 256 := by decide +kernel
def clash (el : Nat → Int32) (d e set i k : Nat) : Bool := decide (set / 2 ^ i % 2 = 1) && (decide (set / 2 ^ k % 2 = 1) && takenB (cdN el (100 * d + i)) (cdN el (100 * d + k)) e)
def sfK (el : Nat → Int32) (d e set i : Nat) : Nat → Bool
  | 0 => true
  | k + 1 => sfK el d e set i k && !(clash el d e set i k)
def sfA (el : Nat → Int32) (d e set : Nat) : Nat → Bool
  | 0 => true
  | i + 1 => sfA el d e set i && sfK el d e set i i
theorem sfK_s {el : Nat → Int32} {d e set i k : Nat} (h : sfK el d e set i k = true) (h2 : clash el d e set i k = false) : sfK el d e set i (k + 1) = true := by rw [sfK, h, h2]; rfl
theorem sfK_f {el : Nat → Int32} {d e set i k : Nat} (h2 : clash el d e set i k = true) : ∀ n, k < n → sfK el d e set i n = false
  | 0, h => absurd h (Nat.not_lt_zero _)
  | n + 1, h => by
    rw [sfK]
    by_cases q : k = n
    · subst q; rw [h2, Bool.not_true, Bool.and_false]
    · rw [sfK_f h2 n (by omega), Bool.false_and]
theorem sfA_f {el : Nat → Int32} {d e set i : Nat} (h2 : sfK el d e set i i = false) : ∀ n, i < n → sfA el d e set n = false
  | 0, h => absurd h (Nat.not_lt_zero _)
  | n + 1, h => by
    rw [sfA]
    by_cases q : i = n
    · subst q; rw [h2, Bool.and_false]
    · rw [sfA_f h2 n (by omega), Bool.false_and]
theorem sfA_s {el : Nat → Int32} {d e set i : Nat} (h : sfA el d e set i = true) (h2 : sfK el d e set i i = true) : sfA el d e set (i + 1) = true := by rw [sfA, h, h2]; rfl
theorem clash_f1 {el : Nat → Int32} {d e set i k : Nat} (h : ¬ set / 2 ^ i % 2 = 1) : clash el d e set i k = false := by rw [clash, decide_eq_false h, Bool.false_and]
theorem clash_f2 {el : Nat → Int32} {d e set i k : Nat} (h : ¬ set / 2 ^ k % 2 = 1) : clash el d e set i k = false := by rw [clash, decide_eq_false h, Bool.false_and, Bool.and_false]
theorem clash_f3 {el : Nat → Int32} {d e set i k : Nat} (h : takenB (cdN el (100 * d + i)) (cdN el (100 * d + k)) e = false) : clash el d e set i k = false := by rw [clash, h, Bool.and_false, Bool.and_false]
theorem clash_t {el : Nat → Int32} {d e set i k : Nat} (h1 : set / 2 ^ i % 2 = 1) (h2 : set / 2 ^ k % 2 = 1) (h : takenB (cdN el (100 * d + i)) (cdN el (100 * d + k)) e = true) : clash el d e set i k = true := by rw [clash, h, decide_eq_true h1, decide_eq_true h2]; rfl
def bst (el : Nat → Int32) (d e n : Nat) : Nat → Nat
  | 0 => 0
  | s + 1 => if pcN (bst el d e n s) < pcN s ∧ sfA el d e s n = true then s else bst el d e n s
theorem bst_lt (el : Nat → Int32) (d e n : Nat) : ∀ s, bst el d e n s ≤ s
  | 0 => Nat.le_refl _
  | s + 1 => by
    rw [bst]; split
    · omega
    · have := bst_lt el d e n s; omega
theorem bst_l (el : Nat → Int32) (d e n : Nat) : ∀ s, 1 ≤ s → bst el d e n s < s
  | 0, h => absurd h (by decide)
  | s + 1, _ => by
    rw [bst]; split
    · omega
    · have := bst_lt el d e n s; omega
theorem bst_t {el : Nat → Int32} {d e n s : Nat} (h1 : pcN (bst el d e n s) < pcN s) (h2 : sfA el d e s n = true) : bst el d e n (s + 1) = s := by rw [bst, if_pos ⟨h1, h2⟩]
theorem bst_f1 {el : Nat → Int32} {d e n s : Nat} (h1 : ¬ pcN (bst el d e n s) < pcN s) : bst el d e n (s + 1) = bst el d e n s := by rw [bst, if_neg (fun q => h1 q.1)]
theorem bst_f2 {el : Nat → Int32} {d e n s : Nat} (h2 : sfA el d e s n = false) : bst el d e n (s + 1) = bst el d e n s := by rw [bst, if_neg (fun q => by rw [h2] at q; exact absurd q.2 (by decide))]
def spSafeV (el : Nat → Int32) (d n e what : Nat) : Int32 := if what = 0 then nI (bst el d e n (2 ^ n)) else nI (pcN (bst el d e n (2 ^ n)))
def eqF (T : Nat → Nat) (i k : Nat) : Nat := if T k = T i then 1 else 0
def mxA (T : Nat → Nat) (n : Nat) : Nat → Nat
  | 0 => 0
  | i + 1 => if mxA T n i < sumN (eqF T i) n then sumN (eqF T i) n else mxA T n i
theorem mxA_le (T : Nat → Nat) (n : Nat) : ∀ i, mxA T n i ≤ n
  | 0 => Nat.zero_le _
  | i + 1 => by
    have h1 := mxA_le T n i
    have h2 := sumN_le (f := eqF T i) (b := 1) (n := n) (fun j _ => by unfold eqF; split <;> omega)
    rw [mxA]; split <;> omega
def rmX12_isSafe : Room := { frames := 2, cells := 0, slots := 0, locals := 44 }
set_option maxHeartbeats 8000000 in
theorem c_X12_isSafe {d e set : Nat} (hA : aB b0 18 ad) (hs : okS kp so sz ki kf) (hd : d < 8) (hz8 : sz d ≤ 8) (he : e < 9) (hset : set < 256) : KE l D Z b0 yX12_isSafe cX12_isSafe 6 (some .boolean) rmX12_isSafe [.ref (ad 0), .int (nI d), .int (nI e), .int (nI set)] (wM Z ad hi th po ba en se (enc kd fg pl hr) im rd mi (nf kp) (nf so) (nf sz) el ki kf ti lo wa nu li to ot V) (some (.int (bI (sfA el d e set (sz d))))) (wM Z ad hi th po ba en se (enc kd fg pl hr) im rd mi (nf kp) (nf so) (nf sz) el ki kf ti lo wa nu li to ot V) := by
  refine KE.of (by decide) (Nat.le_of_ble_eq_true rfl) (fun Po hPo => ?_)
  refine G.locals (L' := [(0, .ref (ad 0)), (1, .int (nI d)), (2, .int (nI e)), (3, .int (nI set))]) [0, 1, 2, 3] rfl ?_
  refine g_iconst (v := nI 0) (pc := 0) dX12_isSafe_0 (by decide) ?_
  refine g_istore (lv' := [(4, .int (nI 0)), (0, .ref (ad 0)), (1, .int (nI d)), (2, .int (nI e)), (3, .int (nI set))]) (pc := 1) dX12_isSafe_1 (by decide) rfl ?_
  have lp3 : ∀ (d3 : Nat) (i : Nat), i + d3 = sz d + 1 → (i ≤ sz d) → (sfA el d e set i = true) → G l D Z b0 rmX12_isSafe RX12 cX12_isSafe 6 (gE (some .boolean) "isSafe") (gT D b0 Po rmX12_isSafe.cells rmX12_isSafe.slots) (wM Z ad hi th po ba en se (enc kd fg pl hr) im rd mi (nf kp) (nf so) (nf sz) el ki kf ti lo wa nu li to ot V) [(4, .int (nI i)), (0, .ref (ad 0)), (1, .int (nI d)), (2, .int (nI e)), (3, .int (nI set))] 0 0 3 [] := by
    intro d3
    induction d3 with
    | zero =>
      intro i hd3 hiN hA1
      exact absurd hd3 (by omega)
    | succ d3 ih3 =>
      intro i hd3 hiN hA1
      refine g_iload (q := 0) (pc := 3) dX12_isSafe_3 rfl ?_
      refine g_aload_n (q := 1) (pc := 5) dX12_isSafe_5 rfl rfl ?_
      refine gm_get_sz (pc := 6) hA dX12_isSafe_6 ?_
      refine g_iload_n (q := 2) (pc := 9) dX12_isSafe_9 rfl rfl ?_
      refine gm_ld_sz (pc := 10) (j := d) (x := nI (sz d)) hA hd rfl dX12_isSafe_10 ?_
      refine g_icmp_ge_N (tgt := 87) (pc := 11) (by omega) (by omega) dX12_isSafe_11 (by decide) (fun c1 => ?_) (fun c1 => ?_)
      · -- T c1
        refine g_iconst (v := nI 1) (pc := 87) dX12_isSafe_87 (by decide) ?_
        exact g_zret (pc := 88) (by decide) (by decide) (by decide) (eqI hPo (by have q9 : i = sz d := (by omega); rw [← q9, hA1]; rfl)) dX12_isSafe_88
      · -- F c1
        refine g_iconst (v := nI 0) (pc := 14) dX12_isSafe_14 (by decide) ?_
        refine g_istore (lv' := [(5, .int (nI 0)), (4, .int (nI i)), (0, .ref (ad 0)), (1, .int (nI d)), (2, .int (nI e)), (3, .int (nI set))]) (pc := 15) dX12_isSafe_15 (by decide) rfl ?_
        have lp17 : ∀ (d17 : Nat) (k : Nat), k + d17 = i + 1 → (k ≤ i) → (sfK el d e set i k = true) → G l D Z b0 rmX12_isSafe RX12 cX12_isSafe 6 (gE (some .boolean) "isSafe") (gT D b0 Po rmX12_isSafe.cells rmX12_isSafe.slots) (wM Z ad hi th po ba en se (enc kd fg pl hr) im rd mi (nf kp) (nf so) (nf sz) el ki kf ti lo wa nu li to ot V) [(5, .int (nI k)), (4, .int (nI i)), (0, .ref (ad 0)), (1, .int (nI d)), (2, .int (nI e)), (3, .int (nI set))] 0 0 17 [] := by
          intro d17
          induction d17 with
          | zero =>
            intro k hd17 hkN hK1
            exact absurd hd17 (by omega)
          | succ d17 ih17 =>
            intro k hd17 hkN hK1
            refine g_iload (q := 0) (pc := 17) dX12_isSafe_17 rfl ?_
            refine g_iload (q := 1) (pc := 19) dX12_isSafe_19 rfl ?_
            refine g_icmp_ge_N (tgt := 81) (pc := 21) (by omega) (by omega) dX12_isSafe_21 (by decide) (fun c2 => ?_) (fun c2 => ?_)
            · -- T c2
              refine g_iinc (q := 1) (lv' := [(4, .int (nI (i + 1))), (5, .int (nI k)), (0, .ref (ad 0)), (1, .int (nI d)), (2, .int (nI e)), (3, .int (nI set))]) (pc := 81) dX12_isSafe_81 rfl (nI_inc _ _) (by decide) rfl ?_
              refine g_goto (tgt := 3) (pc := 84) dX12_isSafe_84 (by decide) ?_
              refine G.locals (L' := [(4, .int (nI (i + 1))), (0, .ref (ad 0)), (1, .int (nI d)), (2, .int (nI e)), (3, .int (nI set))]) [0, 2, 3, 4, 5] rfl ?_
              exact ih3 (i + 1) (by omega) (by omega) (sfA_s hA1 (by obtain rfl : k = i := (by omega); exact hK1))
            · -- F c2
              refine g_iload_n (q := 5) (pc := 24) dX12_isSafe_24 rfl rfl ?_
              refine g_iload (q := 1) (pc := 25) dX12_isSafe_25 rfl ?_
              refine g_ishr (pc := 27) dX12_isSafe_27 ?_
              refine g_iconst (v := nI 1) (pc := 28) dX12_isSafe_28 (by decide) ?_
              refine g_iand (pc := 29) dX12_isSafe_29 ?_
              refine g_top (x := ((nI set) >>> ((nI i) &&& 31)) &&& (nI 1)) (y := nI (set / 2 ^ i % 2)) (bit_ok set hset i (by omega)) ?_
              refine g_iconst (v := nI 1) (pc := 30) dX12_isSafe_30 (by decide) ?_
              refine g_icmp_ne_N (tgt := 75) (pc := 31) (by have := Nat.mod_lt (set / 2 ^ i) (show 0 < 2 by decide); omega) (by omega) dX12_isSafe_31 (by decide) (fun c3 => ?_) (fun c3 => ?_)
              · -- T c3
                refine g_iinc (q := 0) (lv' := [(5, .int (nI (k + 1))), (4, .int (nI i)), (0, .ref (ad 0)), (1, .int (nI d)), (2, .int (nI e)), (3, .int (nI set))]) (pc := 75) dX12_isSafe_75 rfl (nI_inc _ _) (by decide) rfl ?_
                refine g_goto (tgt := 17) (pc := 78) dX12_isSafe_78 (by decide) ?_
                refine G.locals (L' := [(5, .int (nI (k + 1))), (4, .int (nI i)), (0, .ref (ad 0)), (1, .int (nI d)), (2, .int (nI e)), (3, .int (nI set))]) [0, 1, 2, 3, 4, 5] rfl ?_
                exact ih17 (k + 1) (by omega) (by omega) (sfK_s hK1 (clash_f1 (by assumption)))
              · -- F c3
                refine g_iload_n (q := 5) (pc := 34) dX12_isSafe_34 rfl rfl ?_
                refine g_iload (q := 0) (pc := 35) dX12_isSafe_35 rfl ?_
                refine g_ishr (pc := 37) dX12_isSafe_37 ?_
                refine g_iconst (v := nI 1) (pc := 38) dX12_isSafe_38 (by decide) ?_
                refine g_iand (pc := 39) dX12_isSafe_39 ?_
                refine g_top (x := ((nI set) >>> ((nI k) &&& 31)) &&& (nI 1)) (y := nI (set / 2 ^ k % 2)) (bit_ok set hset k (by omega)) ?_
                refine g_iconst (v := nI 1) (pc := 40) dX12_isSafe_40 (by decide) ?_
                refine g_icmp_ne_N (tgt := 75) (pc := 41) (by have := Nat.mod_lt (set / 2 ^ k) (show 0 < 2 by decide); omega) (by omega) dX12_isSafe_41 (by decide) (fun c4 => ?_) (fun c4 => ?_)
                · -- T c4
                  refine g_iinc (q := 0) (lv' := [(5, .int (nI (k + 1))), (4, .int (nI i)), (0, .ref (ad 0)), (1, .int (nI d)), (2, .int (nI e)), (3, .int (nI set))]) (pc := 75) dX12_isSafe_75 rfl (nI_inc _ _) (by decide) rfl ?_
                  refine g_goto (tgt := 17) (pc := 78) dX12_isSafe_78 (by decide) ?_
                  refine G.locals (L' := [(5, .int (nI (k + 1))), (4, .int (nI i)), (0, .ref (ad 0)), (1, .int (nI d)), (2, .int (nI e)), (3, .int (nI set))]) [0, 1, 2, 3, 4, 5] rfl ?_
                  exact ih17 (k + 1) (by omega) (by omega) (sfK_s hK1 (clash_f2 (by assumption)))
                · -- F c4
                  refine g_aload_n (q := 2) (pc := 44) dX12_isSafe_44 rfl rfl ?_
                  refine g_iload_n (q := 3) (pc := 45) dX12_isSafe_45 rfl rfl ?_
                  refine g_iload (q := 1) (pc := 46) dX12_isSafe_46 rfl ?_
                  refine e_callV (k2 := 0) (n2 := 0) (As := [.int (nI d), .int (nI i)]) (rest := []) (pc := 48) (wM_0 hA) rfl (c_X12_told hA hd (by omega)) mlX12_181 selX12_X12_told_X12_told mX12_told ⟨Nat.le_of_ble_eq_true rfl, Nat.le_of_ble_eq_true rfl⟩ rfl rfl (Nat.le_of_ble_eq_true rfl) dX12_isSafe_48 (by decide) rfl rfl ?_
                  refine g_sipush (v := nI 255) (pc := 51) dX12_isSafe_51 (by decide) ?_
                  refine g_iand (pc := 54) dX12_isSafe_54 ?_
                  refine g_top (x := (el (100 * d + i)) &&& (nI 255)) (y := nI (cdN el (100 * d + i))) (cd_ok el _).1 ?_
                  refine g_aload_n (q := 2) (pc := 55) dX12_isSafe_55 rfl rfl ?_
                  refine g_iload_n (q := 3) (pc := 56) dX12_isSafe_56 rfl rfl ?_
                  refine g_iload (q := 0) (pc := 57) dX12_isSafe_57 rfl ?_
                  refine e_callV (k2 := 0) (n2 := 0) (As := [.int (nI d), .int (nI k)]) (rest := [.int (nI (cdN el (100 * d + i)))]) (pc := 59) (wM_0 hA) rfl (c_X12_told hA hd (by omega)) mlX12_181 selX12_X12_told_X12_told mX12_told ⟨Nat.le_of_ble_eq_true rfl, Nat.le_of_ble_eq_true rfl⟩ rfl rfl (Nat.le_of_ble_eq_true rfl) dX12_isSafe_59 (by decide) rfl rfl ?_
                  refine g_sipush (v := nI 255) (pc := 62) dX12_isSafe_62 (by decide) ?_
                  refine g_iand (pc := 65) dX12_isSafe_65 ?_
                  refine g_top (x := (el (100 * d + k)) &&& (nI 255)) (y := nI (cdN el (100 * d + k))) (cd_ok el _).1 ?_
                  refine g_iload_n (q := 4) (pc := 66) dX12_isSafe_66 rfl rfl ?_
                  refine e_callS (k2 := 0) (n2 := 0) (As := [.int (nI (cdN el (100 * d + i))), .int (nI (cdN el (100 * d + k))), .int (nI e)]) (rest := []) (pc := 67) (c_X12_areTaken hA (cd_ok el _).2 (cd_ok el _).2 he) mlX12_211 mX12_areTaken ⟨Nat.le_of_ble_eq_true rfl, Nat.le_of_ble_eq_true rfl⟩ rfl rfl (Nat.le_of_ble_eq_true rfl) dX12_isSafe_67 (by decide) rfl rfl ?_
                  refine g_if_eq_B (tgt := 75) (pc := 70) dX12_isSafe_70 (by decide) (fun c5 => ?_) (fun c5 => ?_)
                  · -- T c5
                    refine g_iinc (q := 0) (lv' := [(5, .int (nI (k + 1))), (4, .int (nI i)), (0, .ref (ad 0)), (1, .int (nI d)), (2, .int (nI e)), (3, .int (nI set))]) (pc := 75) dX12_isSafe_75 rfl (nI_inc _ _) (by decide) rfl ?_
                    refine g_goto (tgt := 17) (pc := 78) dX12_isSafe_78 (by decide) ?_
                    refine G.locals (L' := [(5, .int (nI (k + 1))), (4, .int (nI i)), (0, .ref (ad 0)), (1, .int (nI d)), (2, .int (nI e)), (3, .int (nI set))]) [0, 1, 2, 3, 4, 5] rfl ?_
                    exact ih17 (k + 1) (by omega) (by omega) (sfK_s hK1 (clash_f3 (by assumption)))
                  · -- F c5
                    refine g_iconst (v := nI 0) (pc := 73) dX12_isSafe_73 (by decide) ?_
                    exact g_zret (pc := 74) (by decide) (by decide) (by decide) (eqI hPo (by rw [sfA_f (sfK_f (clash_t (by assumption) (by assumption) (by assumption)) i (by omega)) (sz d) (by omega)]; rfl)) dX12_isSafe_74
        refine G.locals (L' := [(5, .int (nI 0)), (4, .int (nI i)), (0, .ref (ad 0)), (1, .int (nI d)), (2, .int (nI e)), (3, .int (nI set))]) [0, 1, 2, 3, 4, 5] rfl ?_
        exact lp17 (i + 1) 0 (by omega) (by omega) rfl
  refine G.locals (L' := [(4, .int (nI 0)), (0, .ref (ad 0)), (1, .int (nI d)), (2, .int (nI e)), (3, .int (nI set))]) [0, 1, 2, 3, 4] rfl ?_
  exact lp3 (sz d + 1) 0 (by omega) (by omega) rfl
theorem pw_pos (n : Nat) : 1 ≤ 2 ^ n := Nat.one_le_two_pow
def rmX12_safe : Room := { frames := 3, cells := 0, slots := 0, locals := 69 }
set_option maxHeartbeats 8000000 in
theorem c_X12_safe_s {d e what : Nat} (hA : aB b0 18 ad) (hs : okS kp so sz ki kf) (hd : d < 8) (hk : kp d = 2) (hr9 : okSort (some 0) (so d) = true) (hz8 : sz d ≤ 8) (he : e < 9) (hw : what < 2) : KE l D Z b0 yX12_safe cX12_safe 7 (some .int) rmX12_safe [.ref (ad 0), .int (nI d), .int (nI e), .int (nI what)] (wM Z ad hi th po ba en se (enc kd fg pl hr) im rd mi (nf kp) (nf so) (nf sz) el ki kf ti lo wa nu li to ot V) (some (.int (spSafeV el d (sz d) e what))) (wM Z ad hi th po ba en se (enc kd fg pl hr) im rd mi (nf kp) (nf so) (nf sz) el ki kf ti lo wa nu li to ot V) := by
  refine KE.of (by decide) (Nat.le_of_ble_eq_true rfl) (fun Po hPo => ?_)
  refine G.locals (L' := [(0, .ref (ad 0)), (1, .int (nI d)), (2, .int (nI e)), (3, .int (nI what))]) [0, 1, 2, 3] rfl ?_
  refine g_iload_n (q := 1) (pc := 0) dX12_safe_0 rfl rfl ?_
  refine e_callS (k2 := 0) (n2 := 0) (As := [.int (nI d)]) (rest := []) (pc := 1) (c_X12_isShelfN hA (by omega) (c_X12_isShelf hA)) mlX12_152 mX12_isShelf ⟨Nat.le_of_ble_eq_true rfl, Nat.le_of_ble_eq_true rfl⟩ rfl rfl (Nat.le_of_ble_eq_true rfl) dX12_safe_1 (by decide) rfl rfl ?_
  refine g_if_eq_B (tgt := 29) (pc := 4) dX12_safe_4 (by decide) (fun c1 => ?_) (fun c1 => ?_)
  · -- T c1
    exact absurd (of_decide_eq_false c1) (by omega)
  · -- F c1
    have c1 := of_decide_eq_true c1
    refine g_iload_n (q := 2) (pc := 7) dX12_safe_7 rfl rfl ?_
    refine g_i2l (v := lN e) (pc := 8) dX12_safe_8 (nI_l (by omega)) ?_
    refine g_lconst (v := lN 0) (pc := 9) dX12_safe_9 (by decide) ?_
    refine g_ldc2 (v := lN 8) (pc := 10) klX12_209 dX12_safe_10 ?_
    refine e_callS (k2 := 0) (n2 := 0) (As := [.long (lN e), .long (lN 0), .long (lN 8)]) (rest := []) (pc := 13) (c_X12_isInN hA (by omega) (by decide) (by decide) (c_X12_isIn hA)) mlX12_67 mX12_isIn ⟨Nat.le_of_ble_eq_true rfl, Nat.le_of_ble_eq_true rfl⟩ rfl rfl (Nat.le_of_ble_eq_true rfl) dX12_safe_13 (by decide) rfl rfl ?_
    refine g_if_eq_B (tgt := 29) (pc := 16) dX12_safe_16 (by decide) (fun c2 => ?_) (fun c2 => ?_)
    · -- T c2
      exact absurd (of_decide_eq_false c2) (by omega)
    · -- F c2
      have c2 := of_decide_eq_true c2
      refine g_iload_n (q := 3) (pc := 19) dX12_safe_19 rfl rfl ?_
      refine g_i2l (v := lN what) (pc := 20) dX12_safe_20 (nI_l (by omega)) ?_
      refine g_lconst (v := lN 0) (pc := 21) dX12_safe_21 (by decide) ?_
      refine g_lconst (v := lN 1) (pc := 22) dX12_safe_22 (by decide) ?_
      refine e_callS (k2 := 0) (n2 := 0) (As := [.long (lN what), .long (lN 0), .long (lN 1)]) (rest := []) (pc := 23) (c_X12_isInN hA (by omega) (by decide) (by decide) (c_X12_isIn hA)) mlX12_67 mX12_isIn ⟨Nat.le_of_ble_eq_true rfl, Nat.le_of_ble_eq_true rfl⟩ rfl rfl (Nat.le_of_ble_eq_true rfl) dX12_safe_23 (by decide) rfl rfl ?_
      refine g_if_ne_B (tgt := 33) (pc := 26) dX12_safe_26 (by decide) (fun c3 => ?_) (fun c3 => ?_)
      · -- T c3
        have c3 := of_decide_eq_true c3
        refine g_aload_n (q := 0) (pc := 33) dX12_safe_33 rfl rfl ?_
        refine g_iload_n (q := 1) (pc := 34) dX12_safe_34 rfl rfl ?_
        refine g_iconst (v := nI 0) (pc := 35) dX12_safe_35 (by decide) ?_
        refine e_callV (k2 := 0) (n2 := 0) (As := [.int (nI d), .int (nI 0)]) (rest := []) (pc := 36) (wM_0 hA) rfl (c_X12_wrongRow_ok (r := (some 0)) hA hd hk hr9 (c_X12_wrongRow0 hA hs)) mlX12_155 selX12_X12_wrongRow_X12_wrongRow mX12_wrongRow ⟨Nat.le_of_ble_eq_true rfl, Nat.le_of_ble_eq_true rfl⟩ rfl rfl (Nat.le_of_ble_eq_true rfl) dX12_safe_36 (by decide) rfl rfl ?_
        refine g_istore (lv' := [(4, .int (nI 0)), (0, .ref (ad 0)), (1, .int (nI d)), (2, .int (nI e)), (3, .int (nI what))]) (pc := 39) dX12_safe_39 (by decide) rfl ?_
        refine g_iload (q := 0) (pc := 41) dX12_safe_41 rfl ?_
        refine g_if_ne (tgt := 61) (pc := 43) dX12_safe_43 (by decide) (fun c0 => absurd c0 (by decide)) (fun _ => ?_)
        refine g_aload_n (q := 1) (pc := 46) dX12_safe_46 rfl rfl ?_
        refine gm_get_sz (pc := 47) hA dX12_safe_47 ?_
        refine g_iload_n (q := 2) (pc := 50) dX12_safe_50 rfl rfl ?_
        refine gm_ld_sz (pc := 51) (j := d) (x := nI (sz d)) hA hd rfl dX12_safe_51 ?_
        refine g_bipush (v := nI 8) (pc := 52) dX12_safe_52 (by decide) ?_
        refine g_icmp_le_N (tgt := 61) (pc := 54) (by omega) (by omega) dX12_safe_54 (by decide) (fun c4 => ?_) (fun c4 => ?_)
        · -- T c4
          refine g_iload (q := 0) (pc := 61) dX12_safe_61 rfl ?_
          refine g_if_eq (tgt := 69) (pc := 63) dX12_safe_63 (by decide) (fun _ => ?_) (fun c0 => absurd c0 (by decide))
          refine g_iconst (v := nI 0) (pc := 69) dX12_safe_69 (by decide) ?_
          refine g_istore (lv' := [(5, .int (nI 0)), (4, .int (nI 0)), (0, .ref (ad 0)), (1, .int (nI d)), (2, .int (nI e)), (3, .int (nI what))]) (pc := 70) dX12_safe_70 (by decide) rfl ?_
          refine g_iconst (v := nI 1) (pc := 72) dX12_safe_72 (by decide) ?_
          refine g_istore (lv' := [(6, .int (nI 1)), (5, .int (nI 0)), (4, .int (nI 0)), (0, .ref (ad 0)), (1, .int (nI d)), (2, .int (nI e)), (3, .int (nI what))]) (pc := 73) dX12_safe_73 (by decide) rfl ?_
          have lp75 : ∀ (d75 : Nat) (q : Nat), q + d75 = 2 ^ sz d + 1 → (1 ≤ q ∧ q ≤ 2 ^ sz d) → G l D Z b0 rmX12_safe RX12 cX12_safe 7 (gE (some .int) "safe") (gT D b0 Po rmX12_safe.cells rmX12_safe.slots) (wM Z ad hi th po ba en se (enc kd fg pl hr) im rd mi (nf kp) (nf so) (nf sz) el ki kf ti lo wa nu li to ot V) [(6, .int (nI q)), (5, .int (nI (bst el d e (sz d) q))), (0, .ref (ad 0)), (1, .int (nI d)), (2, .int (nI e)), (3, .int (nI what))] 0 0 75 [] := by
            intro d75
            induction d75 with
            | zero =>
              intro q hd75 hqN
              exact absurd hd75 (by omega)
            | succ d75 ih75 =>
              intro q hd75 hqN
              refine g_iload (q := 0) (pc := 75) dX12_safe_75 rfl ?_
              refine g_iconst (v := nI 1) (pc := 77) dX12_safe_77 (by decide) ?_
              refine g_aload_n (q := 2) (pc := 78) dX12_safe_78 rfl rfl ?_
              refine gm_get_sz (pc := 79) hA dX12_safe_79 ?_
              refine g_iload_n (q := 3) (pc := 82) dX12_safe_82 rfl rfl ?_
              refine gm_ld_sz (pc := 83) (j := d) (x := nI (sz d)) hA hd rfl dX12_safe_83 ?_
              refine g_ishl (pc := 84) dX12_safe_84 ?_
              refine g_top (x := (nI 1) <<< ((nI (sz d)) &&& 31)) (y := nI (2 ^ sz d)) (pw_ok (sz d) (by omega)) ?_
              refine g_icmp_ge_N (tgt := 122) (pc := 85) (by have h1 := pw_le (sz d) (by omega); omega) (by have h1 := pw_le (sz d) (by omega); omega) dX12_safe_85 (by decide) (fun c5 => ?_) (fun c5 => ?_)
              · -- T c5
                refine g_iload_n (q := 5) (pc := 122) dX12_safe_122 rfl rfl ?_
                refine g_if_ne_N (tgt := 131) (pc := 123) (by omega) dX12_safe_123 (by decide) (fun c6 => ?_) (fun c6 => ?_)
                · -- T c6
                  refine g_iload (q := 1) (pc := 131) dX12_safe_131 rfl ?_
                  refine e_callS (k2 := 0) (n2 := 0) (As := [.int (nI (bst el d e (sz d) q))]) (rest := []) (pc := 133) (c_X12_bits hA (by have h1 := pw_le (sz d) (by omega); have h2 := bst_l el d e (sz d) q hqN.1; omega)) mlX12_204 mX12_bits ⟨Nat.le_of_ble_eq_true rfl, Nat.le_of_ble_eq_true rfl⟩ rfl rfl (Nat.le_of_ble_eq_true rfl) dX12_safe_133 (by decide) rfl rfl ?_
                  exact g_iret (pc := 136) (by decide) (by decide) (eqI hPo (by have q9 : q = 2 ^ sz d := (by omega); rw [spSafeV, ← q9, if_neg (by assumption)])) dX12_safe_136
                · -- F c6
                  refine g_iload (q := 1) (pc := 126) dX12_safe_126 rfl ?_
                  refine g_goto (tgt := 136) (pc := 128) dX12_safe_128 (by decide) ?_
                  exact g_iret (pc := 136) (by decide) (by decide) (eqI hPo (by have q9 : q = 2 ^ sz d := (by omega); rw [spSafeV, ← q9, if_pos (by assumption)])) dX12_safe_136
              · -- F c5
                refine g_iload (q := 0) (pc := 88) dX12_safe_88 rfl ?_
                refine e_callS (k2 := 0) (n2 := 0) (As := [.int (nI q)]) (rest := []) (pc := 90) (c_X12_bits hA (by have h1 := pw_le (sz d) (by omega); omega)) mlX12_204 mX12_bits ⟨Nat.le_of_ble_eq_true rfl, Nat.le_of_ble_eq_true rfl⟩ rfl rfl (Nat.le_of_ble_eq_true rfl) dX12_safe_90 (by decide) rfl rfl ?_
                refine g_iload (q := 1) (pc := 93) dX12_safe_93 rfl ?_
                refine e_callS (k2 := 0) (n2 := 0) (As := [.int (nI (bst el d e (sz d) q))]) (rest := [.int (nI (pcN q))]) (pc := 95) (c_X12_bits hA (by have h1 := pw_le (sz d) (by omega); have h2 := bst_l el d e (sz d) q hqN.1; omega)) mlX12_204 mX12_bits ⟨Nat.le_of_ble_eq_true rfl, Nat.le_of_ble_eq_true rfl⟩ rfl rfl (Nat.le_of_ble_eq_true rfl) dX12_safe_95 (by decide) rfl rfl ?_
                refine g_icmp_le_N (tgt := 116) (pc := 98) (Nat.lt_of_le_of_lt (pcN_le _) (by decide)) (Nat.lt_of_le_of_lt (pcN_le _) (by decide)) dX12_safe_98 (by decide) (fun c7 => ?_) (fun c7 => ?_)
                · -- T c7
                  rw [← bst_f1 (el := el) (d := d) (e := e) (n := sz d) (s := q) (by omega)]
                  refine g_iinc (q := 0) (lv' := [(6, .int (nI (q + 1))), (5, .int (nI (bst el d e (sz d) (q + 1)))), (0, .ref (ad 0)), (1, .int (nI d)), (2, .int (nI e)), (3, .int (nI what))]) (pc := 116) dX12_safe_116 rfl (nI_inc _ _) (by decide) rfl ?_
                  refine g_goto (tgt := 75) (pc := 119) dX12_safe_119 (by decide) ?_
                  refine G.locals (L' := [(6, .int (nI (q + 1))), (5, .int (nI (bst el d e (sz d) (q + 1)))), (0, .ref (ad 0)), (1, .int (nI d)), (2, .int (nI e)), (3, .int (nI what))]) [0, 1, 2, 3, 4, 5] rfl ?_
                  exact ih75 (q + 1) (by omega) (by omega)
                · -- F c7
                  have hb1 : pcN (bst el d e (sz d) q) < pcN q := c7
                  refine g_aload_n (q := 2) (pc := 101) dX12_safe_101 rfl rfl ?_
                  refine g_iload_n (q := 3) (pc := 102) dX12_safe_102 rfl rfl ?_
                  refine g_iload_n (q := 4) (pc := 103) dX12_safe_103 rfl rfl ?_
                  refine g_iload (q := 0) (pc := 104) dX12_safe_104 rfl ?_
                  refine e_callV (k2 := 0) (n2 := 0) (As := [.int (nI d), .int (nI e), .int (nI q)]) (rest := []) (pc := 106) (wM_0 hA) rfl (c_X12_isSafe hA hs hd hz8 he (by have h1 := pw_le (sz d) (by omega); omega)) mlX12_215 selX12_X12_isSafe_X12_isSafe mX12_isSafe ⟨Nat.le_of_ble_eq_true rfl, Nat.le_of_ble_eq_true rfl⟩ rfl rfl (Nat.le_of_ble_eq_true rfl) dX12_safe_106 (by decide) rfl rfl ?_
                  refine g_if_eq_B (tgt := 116) (pc := 109) dX12_safe_109 (by decide) (fun c8 => ?_) (fun c8 => ?_)
                  · -- T c8
                    rw [← bst_f2 (el := el) (d := d) (e := e) (n := sz d) (s := q) c8]
                    refine g_iinc (q := 0) (lv' := [(6, .int (nI (q + 1))), (5, .int (nI (bst el d e (sz d) (q + 1)))), (0, .ref (ad 0)), (1, .int (nI d)), (2, .int (nI e)), (3, .int (nI what))]) (pc := 116) dX12_safe_116 rfl (nI_inc _ _) (by decide) rfl ?_
                    refine g_goto (tgt := 75) (pc := 119) dX12_safe_119 (by decide) ?_
                    refine G.locals (L' := [(6, .int (nI (q + 1))), (5, .int (nI (bst el d e (sz d) (q + 1)))), (0, .ref (ad 0)), (1, .int (nI d)), (2, .int (nI e)), (3, .int (nI what))]) [0, 1, 2, 3, 4, 5] rfl ?_
                    exact ih75 (q + 1) (by omega) (by omega)
                  · -- F c8
                    have hb2 := c8
                    refine g_iload (q := 0) (pc := 112) dX12_safe_112 rfl ?_
                    refine g_top (x := nI q) (y := nI (bst el d e (sz d) (q + 1))) (congrArg nI (bst_t hb1 hb2).symm) ?_
                    refine g_istore (lv' := [(5, .int (nI (bst el d e (sz d) (q + 1)))), (6, .int (nI q)), (0, .ref (ad 0)), (1, .int (nI d)), (2, .int (nI e)), (3, .int (nI what))]) (pc := 114) dX12_safe_114 (by decide) rfl ?_
                    refine g_iinc (q := 1) (lv' := [(6, .int (nI (q + 1))), (5, .int (nI (bst el d e (sz d) (q + 1)))), (0, .ref (ad 0)), (1, .int (nI d)), (2, .int (nI e)), (3, .int (nI what))]) (pc := 116) dX12_safe_116 rfl (nI_inc _ _) (by decide) rfl ?_
                    refine g_goto (tgt := 75) (pc := 119) dX12_safe_119 (by decide) ?_
                    refine G.locals (L' := [(6, .int (nI (q + 1))), (5, .int (nI (bst el d e (sz d) (q + 1)))), (0, .ref (ad 0)), (1, .int (nI d)), (2, .int (nI e)), (3, .int (nI what))]) [0, 1, 2, 3, 4, 5] rfl ?_
                    exact ih75 (q + 1) (by omega) (by omega)
          refine G.locals (L' := [(6, .int (nI 1)), (5, .int (nI 0)), (0, .ref (ad 0)), (1, .int (nI d)), (2, .int (nI e)), (3, .int (nI what))]) [0, 1, 3, 4, 5, 6] rfl ?_
          exact lp75 (2 ^ sz d) 1 (by omega) (by have := pw_pos (sz d); omega)
        · -- F c4
          exact absurd c4 (by omega)
      · -- F c3
        exact absurd (of_decide_eq_false c3) (by omega)
end MS
