section MS
variable {l : Launch} {D : va_G} {Z : Nat → ClassId} {b0 : Nat} {ad : Nat → Nat} {hi th po ba en se : Int32} {s im rd mi kp so sz el ki kf ti lo wa nu li to ot : Nat → Int32} {kd fg pl : Nat → Nat} {hr : Nat → Int32} {V : HV}
def tx (el : Nat → Int32) (bs i : Nat) : Int32 := el (bs + i)
def wdL (x : Int32) : Nat := if x = nI 107 then 4 else if x = nI 103 then 3 else if x = nI 100 then 2 else 0
def okA (a : Nat) (x : Int32) : Nat := if a = 99 then (if wdL x = 0 then 100 else wdL x) else if a = 0 then (if x = nI 59 then 99 else 100) else if inB x 48 57 = true then a - 1 else 100
def stA (f : Nat → Int32) : Nat → Nat
  | 0 => 99
  | i + 1 => okA (stA f i) (f i)
def Cln (f : Nat → Int32) (i : Nat) : Prop := ∀ j, j < i → stA f (j + 1) ≠ 100
def FailAt (f : Nat → Int32) (m p : Nat) : Prop := p ≤ m ∧ Cln f p ∧ (p < m → stA f (p + 1) = 100) ∧ (p = m → m = 0 ∨ stA f m ≠ 99)
def OkT (f : Nat → Int32) (m : Nat) : Prop := 0 < m ∧ Cln f m ∧ stA f m = 99
def dgN (f : Nat → Int32) (i : Nat) : Nat := (f i).toInt.toNat - 48
def hrV (f : Nat → Int32) (m p : Nat) : Int32 := if p < m then f p else (-1000)
theorem Cln.st {f : Nat → Int32} {i : Nat} (h : Cln f i) (h1 : stA f (i + 1) ≠ 100) : Cln f (i + 1) := fun j hj => by
  by_cases q : j = i
  · subst q; exact h1
  · exact h j (by omega)
theorem Cln.z {f : Nat → Int32} : Cln f 0 := fun _ hj => absurd hj (Nat.not_lt_zero _)
theorem FailAt.uq {f : Nat → Int32} {m p q : Nat} (h : FailAt f m p) (g : FailAt f m q) : p = q := by
  rcases Nat.lt_trichotomy p q with z | z | z
  · exact absurd (h.2.2.1 (Nat.lt_of_lt_of_le z g.1)) (g.2.1 p z)
  · exact z
  · exact absurd (g.2.2.1 (Nat.lt_of_lt_of_le z h.1)) (h.2.1 q z)
theorem FailAt.no {f : Nat → Int32} {m p : Nat} (h : FailAt f m p) (g : OkT f m) : False := by
  rcases Nat.lt_or_eq_of_le h.1 with z | z
  · exact g.2.1 p z (h.2.2.1 z)
  · rcases h.2.2.2 z with q | q
    · exact absurd g.1 (by omega)
    · exact q g.2.2
theorem wdL_c (x : Int32) : wdL x = 0 ∨ (wdL x = 4 ∧ x = nI 107) ∨ (wdL x = 3 ∧ x = nI 103) ∨ (wdL x = 2 ∧ x = nI 100) := by
  unfold wdL; split
  · exact Or.inr (Or.inl ⟨rfl, by assumption⟩)
  · split
    · exact Or.inr (Or.inr (Or.inl ⟨rfl, by assumption⟩))
    · split
      · exact Or.inr (Or.inr (Or.inr ⟨rfl, by assumption⟩))
      · exact Or.inl rfl
theorem wdL_k : wdL (nI 107) = 4 := if_pos rfl
theorem wdL_g : wdL (nI 103) = 3 := (if_neg (by decide)).trans (if_pos rfl)
theorem wdL_d : wdL (nI 100) = 2 := (if_neg (by decide)).trans ((if_neg (by decide)).trans (if_pos rfl))
theorem wdL_n {x : Int32} (h1 : ¬ x = nI 107) (h2 : ¬ x = nI 103) (h3 : ¬ x = nI 100) : wdL x = 0 := by rw [wdL, if_neg h1, if_neg h2, if_neg h3]
theorem wdL_le (x : Int32) : wdL x ≤ 4 := by rcases wdL_c x with h | h | h | h <;> omega
theorem hr_t {f : Nat → Int32} {m p : Nat} (h : p < m) : hrV f m p = f p := if_pos h
theorem hr_f {f : Nat → Int32} {m p : Nat} (h : ¬ p < m) : hrV f m p = (-1000) := if_neg h
theorem hr_e {f : Nat → Int32} {m p : Nat} {x : Int32} (h : hrV f m p = x) (hx : x ≠ (-1000)) : p < m ∧ f p = x := by
  unfold hrV at h; split at h
  · exact ⟨by assumption, h⟩
  · exact absurd h.symm hx
theorem st_let {f : Nat → Int32} {p : Nat} (h : stA f p = 99) (h1 : wdL (f p) ≠ 0) : stA f (p + 1) = wdL (f p) := by
  rw [stA, h, okA, if_pos rfl, if_neg h1]
theorem st_dig {f : Nat → Int32} {p a : Nat} (h : stA f p = a) (h1 : 1 ≤ a) (h4 : a ≤ 4) (hd : inB (f p) 48 57 = true) : stA f (p + 1) = a - 1 := by
  rw [stA, h, okA, if_neg (by omega), if_neg (by omega), if_pos hd]
theorem st_semi {f : Nat → Int32} {p : Nat} (h : stA f p = 0) (hd : f p = nI 59) : stA f (p + 1) = 99 := by
  rw [stA, h, okA, if_neg (by decide), if_pos rfl, if_pos hd]
theorem fail_let {f : Nat → Int32} {m p : Nat} (hp : p ≤ m) (hc : Cln f p) (hs : stA f p = 99) (h0 : p < m ∨ m = 0) (h1 : ¬ hrV f m p = nI 107) (h2 : ¬ hrV f m p = nI 103) (h3 : ¬ hrV f m p = nI 100) : FailAt f m p := by
  refine ⟨hp, hc, fun q => ?_, fun q => Or.inl (by omega)⟩
  rw [hr_t q] at h1 h2 h3
  rw [stA, hs, okA, if_pos rfl, if_pos (wdL_n h1 h2 h3)]
theorem fail_dig {f : Nat → Int32} {m p a : Nat} (hp : p ≤ m) (hc : Cln f p) (hs : stA f p = a) (h1 : 1 ≤ a) (h4 : a ≤ 4) (hd : inB (hrV f m p) 48 57 = false) : FailAt f m p := by
  refine ⟨hp, hc, fun q => ?_, fun q => Or.inr (by rw [← q, hs]; omega)⟩
  rw [hr_t q] at hd
  rw [stA, hs, okA, if_neg (by omega), if_neg (by omega), if_neg (by rw [hd]; decide)]
theorem fail_semi {f : Nat → Int32} {m p : Nat} (hp : p ≤ m) (hc : Cln f p) (hs : stA f p = 0) (hd : ¬ hrV f m p = nI 59) : FailAt f m p := by
  refine ⟨hp, hc, fun q => ?_, fun q => Or.inr (by rw [← q, hs]; decide)⟩
  rw [hr_t q] at hd
  rw [stA, hs, okA, if_neg (by decide), if_pos rfl, if_neg hd]
theorem hr_dig {f : Nat → Int32} {m p : Nat} (h : inB (hrV f m p) 48 57 = true) : p < m ∧ inB (f p) 48 57 = true ∧ hrV f m p - nI 48 = nI (dgN f p) ∧ dgN f p < 10 := by
  by_cases q : p < m
  · rw [hr_t q] at h ⊢
    obtain ⟨j, h1, h2, h3⟩ := inB_t h
    have h4 : dgN f p = j - 48 := by unfold dgN; rw [h3, nI_toInt (by omega)]; omega
    refine ⟨q, h, ?_, by omega⟩
    rw [h4, h3, nI_sub h1]
  · rw [hr_f q] at h; exact absurd h (by decide)
abbrev DgOk (f : Nat → Int32) (q w : Nat) (g : Nat → Int32) : Prop := ∀ j, j < w → g j = nI (dgN f (q + j)) ∧ dgN f (q + j) < 10
theorem DgOk.st {f : Nat → Int32} {q k : Nat} {g : Nat → Int32} (h : DgOk f q k g) (hd : dgN f (q + k) < 10) : DgOk f q (k + 1) (upd g k (nI (dgN f (q + k)))) := fun j hj => by
  by_cases z : j = k
  · subst z; exact ⟨upd_eq _ _ _, hd⟩
  · rw [upd_ne z]; exact h j (by omega)
theorem DgOk.z {f : Nat → Int32} {q : Nat} {g : Nat → Int32} : DgOk f q 0 g := fun _ hj => absurd hj (Nat.not_lt_zero _)
def rmX12_here : Room := { frames := 0, cells := 0, slots := 0, locals := 0 }
set_option maxHeartbeats 8000000 in
theorem c_X12_here {q bs zz : Nat} (hA : aB b0 18 ad) (hq : q ≤ zz) (hz : bs + zz ≤ 800) : KE l D Z b0 yX12_here cX12_here 1 (some .int) rmX12_here [.ref (ad 0)] (wM Z ad hi th (nI q) (nI bs) (nI zz) se (enc kd fg pl hr) im rd mi kp so sz el ki kf ti lo wa nu li to ot V) (some (.int (hrV (tx el bs) zz q))) (wM Z ad hi th (nI q) (nI bs) (nI zz) se (enc kd fg pl hr) im rd mi kp so sz el ki kf ti lo wa nu li to ot V) := by
  refine KE.of (by decide) (Nat.le_of_ble_eq_true rfl) (fun Po hPo => ?_)
  refine G.locals (L' := [(0, .ref (ad 0))]) [0] rfl ?_
  refine g_aload_n (q := 0) (pc := 0) dX12_here_0 rfl rfl ?_
  refine gm_get_po (pc := 1) hA dX12_here_1 ?_
  refine g_aload_n (q := 0) (pc := 4) dX12_here_4 rfl rfl ?_
  refine gm_get_en (pc := 5) hA dX12_here_5 ?_
  refine g_icmp_ge_N (tgt := 28) (pc := 8) (by omega) (by omega) dX12_here_8 (by decide) (fun c1 => ?_) (fun c1 => ?_)
  · -- T c1
    refine g_sipush (v := (-1000)) (pc := 28) dX12_here_28 (by decide) ?_
    exact g_iret (pc := 31) (by decide) (by decide) (eqI hPo (hr_f (by omega))) dX12_here_31
  · -- F c1
    refine g_aload_n (q := 0) (pc := 11) dX12_here_11 rfl rfl ?_
    refine gm_get_el (pc := 12) hA dX12_here_12 ?_
    refine g_aload_n (q := 0) (pc := 15) dX12_here_15 rfl rfl ?_
    refine gm_get_ba (pc := 16) hA dX12_here_16 ?_
    refine g_aload_n (q := 0) (pc := 19) dX12_here_19 rfl rfl ?_
    refine gm_get_po (pc := 20) hA dX12_here_20 ?_
    refine g_iadd_N (pc := 23) dX12_here_23 ?_
    refine gm_ld_el (pc := 24) (j := bs + q) (x := el (bs + q)) hA (by omega) rfl dX12_here_24 ?_
    refine g_goto (tgt := 31) (pc := 25) dX12_here_25 (by decide) ?_
    exact g_iret (pc := 31) (by decide) (by decide) (eqI hPo (hr_t (f := tx el bs) (by omega))) dX12_here_31
def rmX12_readsDigits : Room := { frames := 1, cells := 0, slots := 0, locals := 25 }
set_option maxHeartbeats 8000000 in
theorem c_X12_readsDigits {q bs zz w : Nat} (hA : aB b0 18 ad) (hq : q ≤ zz) (hz : bs + zz ≤ 800) (hw : 1 ≤ w ∧ w ≤ 4) (hst : stA (tx el bs) q = w) (hcl : Cln (tx el bs) q) : KM l D Z b0 yX12_readsDigits cX12_readsDigits 3 (some .boolean) rmX12_readsDigits [.ref (ad 0), .int (nI w)] (wM Z ad hi th (nI q) (nI bs) (nI zz) se (enc kd fg pl hr) im rd mi kp so sz el ki kf ti lo wa nu li to ot V) (fun v V' => (∃ p g, v = some (.int (nI 0)) ∧ FailAt (tx el bs) zz p ∧ V' = wM Z ad hi th (nI p) (nI bs) (nI zz) se (enc kd fg pl hr) im rd mi kp so sz el ki kf ti lo wa g li to ot V) ∨ (∃ g, v = some (.int (nI 1)) ∧ q + w ≤ zz ∧ Cln (tx el bs) (q + w) ∧ (∀ j, j ≤ w → stA (tx el bs) (q + j) = w - j) ∧ DgOk (tx el bs) q w g ∧ V' = wM Z ad hi th (nI (q + w)) (nI bs) (nI zz) se (enc kd fg pl hr) im rd mi kp so sz el ki kf ti lo wa g li to ot V)) := by
  refine KM.ofP (by decide) (Nat.le_of_ble_eq_true rfl) (fun Po hPo => ?_)
  refine G.locals (L' := [(0, .ref (ad 0)), (1, .int (nI w))]) [0, 1] rfl ?_
  refine g_iconst (v := nI 0) (pc := 0) dX12_readsDigits_0 (by decide) ?_
  refine g_istore_n (lv' := [(2, .int (nI 0)), (0, .ref (ad 0)), (1, .int (nI w))]) (pc := 1) dX12_readsDigits_1 rfl (by decide) rfl ?_
  have lp2 : ∀ (d2 : Nat) (k : Nat) (g : Nat → Int32), k + d2 = w + 1 → (k ≤ w) → (q + k ≤ zz) → (∀ j, j ≤ k → stA (tx el bs) (q + j) = w - j) → (Cln (tx el bs) (q + k)) → (DgOk (tx el bs) q k g) → G l D Z b0 rmX12_readsDigits RX12 cX12_readsDigits 3 (gE (some .boolean) "readsDigits") (gT D b0 Po rmX12_readsDigits.cells rmX12_readsDigits.slots) (wM Z ad hi th (nI (q + k)) (nI bs) (nI zz) se (enc kd fg pl hr) im rd mi kp so sz el ki kf ti lo wa g li to ot V) [(2, .int (nI k)), (0, .ref (ad 0)), (1, .int (nI w))] 0 0 2 [] := by
    intro d2
    induction d2 with
    | zero =>
      intro k g hd2 hkN hq2 hst2 hcl2 hdg
      exact absurd hd2 (by omega)
    | succ d2 ih2 =>
      intro k g hd2 hkN hq2 hst2 hcl2 hdg
      refine g_iload_n (q := 0) (pc := 2) dX12_readsDigits_2 rfl rfl ?_
      refine g_iload_n (q := 2) (pc := 3) dX12_readsDigits_3 rfl rfl ?_
      refine g_icmp_ge_N (tgt := 55) (pc := 4) (by omega) (by omega) dX12_readsDigits_4 (by decide) (fun c1 => ?_) (fun c1 => ?_)
      · -- T c1
        obtain rfl : k = w := (by omega)
        refine g_iconst (v := nI 1) (pc := 55) dX12_readsDigits_55 (by decide) ?_
        exact g_zret (pc := 56) (by decide) (by decide) (by decide) (hPo _ _ (Or.inr ⟨g, rfl, hq2, hcl2, hst2, hdg, rfl⟩)) dX12_readsDigits_56
      · -- F c1
        refine g_aload_n (q := 1) (pc := 7) dX12_readsDigits_7 rfl rfl ?_
        refine e_callV (k2 := 0) (n2 := 0) (As := []) (rest := []) (pc := 8) (wM_0 hA) rfl (c_X12_here (bs := bs) (zz := zz) (q := q + k) hA (by omega) (by omega)) mlX12_131 selX12_X12_here_X12_here mX12_here ⟨Nat.le_of_ble_eq_true rfl, Nat.le_of_ble_eq_true rfl⟩ rfl rfl (Nat.le_of_ble_eq_true rfl) dX12_readsDigits_8 (by decide) rfl rfl ?_
        refine g_i2l (v := (hrV (tx el bs) zz (q + k)).toInt64) (pc := 11) dX12_readsDigits_11 rfl ?_
        refine g_ldc2 (v := lN 48) (pc := 12) klX12_135 dX12_readsDigits_12 ?_
        refine g_ldc2 (v := lN 57) (pc := 15) klX12_137 dX12_readsDigits_15 ?_
        refine e_callS (k2 := 0) (n2 := 0) (As := [.long ((hrV (tx el bs) zz (q + k)).toInt64), .long (lN 48), .long (lN 57)]) (rest := []) (pc := 18) (c_X12_isInB hA (by decide) (by decide) (c_X12_isIn hA)) mlX12_67 mX12_isIn ⟨Nat.le_of_ble_eq_true rfl, Nat.le_of_ble_eq_true rfl⟩ rfl rfl (Nat.le_of_ble_eq_true rfl) dX12_readsDigits_18 (by decide) rfl rfl ?_
        refine g_if_ne_B (tgt := 26) (pc := 21) dX12_readsDigits_21 (by decide) (fun c2 => ?_) (fun c2 => ?_)
        · -- T c2
          obtain ⟨s1, s2, s3, s4⟩ := hr_dig c2
          refine g_aload_n (q := 1) (pc := 26) dX12_readsDigits_26 rfl rfl ?_
          refine gm_get_nu (pc := 27) hA dX12_readsDigits_27 ?_
          refine g_iload_n (q := 0) (pc := 30) dX12_readsDigits_30 rfl rfl ?_
          refine g_aload_n (q := 1) (pc := 31) dX12_readsDigits_31 rfl rfl ?_
          refine e_callV (k2 := 0) (n2 := 0) (As := []) (rest := [.int (nI k), .ref (ad 14)]) (pc := 32) (wM_0 hA) rfl (c_X12_here (bs := bs) (zz := zz) (q := q + k) hA (by omega) (by omega)) mlX12_131 selX12_X12_here_X12_here mX12_here ⟨Nat.le_of_ble_eq_true rfl, Nat.le_of_ble_eq_true rfl⟩ rfl rfl (Nat.le_of_ble_eq_true rfl) dX12_readsDigits_32 (by decide) rfl rfl ?_
          refine g_bipush (v := nI 48) (pc := 35) dX12_readsDigits_35 (by decide) ?_
          refine g_isub (pc := 37) dX12_readsDigits_37 ?_
          refine g_top (x := (hrV (tx el bs) zz (q + k)) - (nI 48)) (y := nI (dgN (tx el bs) (q + k))) s3 ?_
          refine gm_st_nu (pc := 38) (j := k) (f' := (upd g k (nI (dgN (tx el bs) (q + k))))) hA (by omega) rfl dX12_readsDigits_38 ?_
          refine g_aload_n (q := 1) (pc := 39) dX12_readsDigits_39 rfl rfl ?_
          refine g_dup (pc := 40) dX12_readsDigits_40 rfl ?_
          refine gm_get_po (pc := 41) hA dX12_readsDigits_41 ?_
          refine g_iconst (v := nI 1) (pc := 44) dX12_readsDigits_44 (by decide) ?_
          refine g_iadd_N (pc := 45) dX12_readsDigits_45 ?_
          refine gm_put_po (pc := 46) hA dX12_readsDigits_46 ?_
          refine g_iinc (q := 0) (lv' := [(2, .int (nI (k + 1))), (0, .ref (ad 0)), (1, .int (nI w))]) (pc := 49) dX12_readsDigits_49 rfl (nI_inc _ _) (by decide) rfl ?_
          refine g_goto (tgt := 2) (pc := 52) dX12_readsDigits_52 (by decide) ?_
          refine G.locals (L' := [(2, .int (nI (k + 1))), (0, .ref (ad 0)), (1, .int (nI w))]) [0, 1, 2] rfl ?_
          exact ih2 (k + 1) (upd g k (nI (dgN (tx el bs) (q + k)))) (by omega) (by omega) (by omega) (fun j hj => by
      by_cases z : j = k + 1
      · subst z; exact (st_dig (hst2 k (by omega)) (by omega) (by omega) s2).trans (by omega)
      · exact hst2 j (by omega)) (hcl2.st (by rw [st_dig (hst2 k (by omega)) (by omega) (by omega) s2]; omega)) (hdg.st s4)
        · -- F c2
          refine g_iconst (v := nI 0) (pc := 24) dX12_readsDigits_24 (by decide) ?_
          exact g_zret (pc := 25) (by decide) (by decide) (by decide) (hPo _ _ (Or.inl ⟨q + k, g, rfl, fail_dig (by omega) hcl2 (hst2 k (by omega)) (by omega) (by omega) (by assumption), rfl⟩)) dX12_readsDigits_25
  refine G.locals (L' := [(2, .int (nI 0)), (0, .ref (ad 0)), (1, .int (nI w))]) [0, 1, 2] rfl ?_
  exact lp2 (w + 1) 0 nu (by omega) (by omega) (by omega) (fun j hj => by obtain rfl : j = 0 := (by omega); exact hst) hcl DgOk.z
def rmX12_readsStatement : Room := { frames := 2, cells := 0, slots := 0, locals := 47 }
set_option maxHeartbeats 8000000 in
theorem c_X12_readsStatement {q bs zz : Nat} (hA : aB b0 18 ad) (hq : q ≤ zz) (hz : bs + zz ≤ 800) (hst : stA (tx el bs) q = 99) (hcl : Cln (tx el bs) q) (hq0 : q < zz ∨ zz = 0) : KM l D Z b0 yX12_readsStatement cX12_readsStatement 3 (some .boolean) rmX12_readsStatement [.ref (ad 0)] (wM Z ad hi th (nI q) (nI bs) (nI zz) se (enc kd fg pl hr) im rd mi kp so sz el ki kf ti lo wa nu li to ot V) (fun v V' => (∃ p g, v = some (.int (nI 0)) ∧ FailAt (tx el bs) zz p ∧ V' = wM Z ad hi th (nI p) (nI bs) (nI zz) se (enc kd fg pl hr) im rd mi kp so sz el ki kf ti lo wa g li to ot V) ∨ (∃ u g, v = some (.int (nI 1)) ∧ q < zz ∧ wdL ((tx el bs) q) = u ∧ u ≠ 0 ∧ q + 1 + u < zz ∧ Cln (tx el bs) (q + 1 + u + 1) ∧ stA (tx el bs) (q + 1 + u + 1) = 99 ∧ (∀ j, j ≤ u → stA (tx el bs) (q + 1 + j) = u - j) ∧ DgOk (tx el bs) (q + 1) u g ∧ V' = wM Z ad hi th (nI (q + 1 + u + 1)) (nI bs) (nI zz) se (enc kd fg pl hr) im rd mi kp so sz el ki kf ti lo wa g li to ot V)) := by
  refine KM.ofP (by decide) (Nat.le_of_ble_eq_true rfl) (fun Po hPo => ?_)
  refine G.locals (L' := [(0, .ref (ad 0))]) [0] rfl ?_
  refine g_aload_n (q := 0) (pc := 0) dX12_readsStatement_0 rfl rfl ?_
  refine e_callV (k2 := 0) (n2 := 0) (As := []) (rest := []) (pc := 1) (wM_0 hA) rfl (c_X12_here (bs := bs) (zz := zz) (q := q) hA (by omega) (by omega)) mlX12_131 selX12_X12_here_X12_here mX12_here ⟨Nat.le_of_ble_eq_true rfl, Nat.le_of_ble_eq_true rfl⟩ rfl rfl (Nat.le_of_ble_eq_true rfl) dX12_readsStatement_1 (by decide) rfl rfl ?_
  refine g_istore_n (lv' := [(1, .int (hrV (tx el bs) zz q)), (0, .ref (ad 0))]) (pc := 4) dX12_readsStatement_4 rfl (by decide) rfl ?_
  refine g_iload_n (q := 0) (pc := 5) dX12_readsStatement_5 rfl rfl ?_
  refine g_bipush (v := nI 107) (pc := 6) dX12_readsStatement_6 (by decide) ?_
  refine g_icmp_ne (tgt := 15) (pc := 8) dX12_readsStatement_8 (by decide) (fun c1 => ?_) (fun c1 => ?_)
  · -- T c1
    refine g_iload_n (q := 0) (pc := 15) dX12_readsStatement_15 rfl rfl ?_
    refine g_bipush (v := nI 103) (pc := 16) dX12_readsStatement_16 (by decide) ?_
    refine g_icmp_ne (tgt := 25) (pc := 18) dX12_readsStatement_18 (by decide) (fun c2 => ?_) (fun c2 => ?_)
    · -- T c2
      refine g_iload_n (q := 0) (pc := 25) dX12_readsStatement_25 rfl rfl ?_
      refine g_bipush (v := nI 100) (pc := 26) dX12_readsStatement_26 (by decide) ?_
      refine g_icmp_ne (tgt := 35) (pc := 28) dX12_readsStatement_28 (by decide) (fun c3 => ?_) (fun c3 => ?_)
      · -- T c3
        refine g_iconst (v := nI 0) (pc := 35) dX12_readsStatement_35 (by decide) ?_
        refine g_istore_n (lv' := [(2, .int (nI 0)), (1, .int (hrV (tx el bs) zz q)), (0, .ref (ad 0))]) (pc := 36) dX12_readsStatement_36 rfl (by decide) rfl ?_
        refine g_iload_n (q := 0) (pc := 37) dX12_readsStatement_37 rfl rfl ?_
        refine g_if_ne (tgt := 43) (pc := 38) dX12_readsStatement_38 (by decide) (fun c0 => absurd c0 (by decide)) (fun _ => ?_)
        refine g_iconst (v := nI 0) (pc := 41) dX12_readsStatement_41 (by decide) ?_
        exact g_zret (pc := 42) (by decide) (by decide) (by decide) (hPo _ _ (Or.inl ⟨q, nu, rfl, fail_let hq hcl hst hq0 (by assumption) (by assumption) (by assumption), rfl⟩)) dX12_readsStatement_42
      · -- F c3
        refine g_iconst (v := nI 2) (pc := 31) dX12_readsStatement_31 (by decide) ?_
        refine g_goto (tgt := 36) (pc := 32) dX12_readsStatement_32 (by decide) ?_
        obtain ⟨e1, e2⟩ := hr_e (x := nI 100) (by assumption) (by decide)
        have e3 : wdL (tx el bs q) = 2 := by rw [e2]; exact wdL_d
        have e4 : stA (tx el bs) (q + 1) = 2 := by rw [st_let hst (by rw [e3]; decide), e3]
        refine g_istore_n (lv' := [(2, .int (nI 2)), (1, .int (hrV (tx el bs) zz q)), (0, .ref (ad 0))]) (pc := 36) dX12_readsStatement_36 rfl (by decide) rfl ?_
        refine g_iload_n (q := 0) (pc := 37) dX12_readsStatement_37 rfl rfl ?_
        refine g_if_ne (tgt := 43) (pc := 38) dX12_readsStatement_38 (by decide) (fun _ => ?_) (fun c0 => absurd c0 (by decide))
        refine g_aload_n (q := 2) (pc := 43) dX12_readsStatement_43 rfl rfl ?_
        refine g_dup (pc := 44) dX12_readsStatement_44 rfl ?_
        refine gm_get_po (pc := 45) hA dX12_readsStatement_45 ?_
        refine g_iconst (v := nI 1) (pc := 48) dX12_readsStatement_48 (by decide) ?_
        refine g_iadd_N (pc := 49) dX12_readsStatement_49 ?_
        refine gm_put_po (pc := 50) hA dX12_readsStatement_50 ?_
        refine g_aload_n (q := 2) (pc := 53) dX12_readsStatement_53 rfl rfl ?_
        refine g_iload_n (q := 0) (pc := 54) dX12_readsStatement_54 rfl rfl ?_
        refine g_callV (As := [.int (nI 2)]) (rest := []) (pc := 55) (wM_0 hA) rfl (c_X12_readsDigits (bs := bs) (zz := zz) (q := q + 1) (w := 2) hA (by omega) (by omega) (by decide) e4 (hcl.st (by rw [e4]; decide))) mlX12_139 selX12_X12_readsDigits_X12_readsDigits mX12_readsDigits ⟨Nat.le_of_ble_eq_true rfl, Nat.le_of_ble_eq_true rfl⟩ rfl rfl (Nat.le_of_ble_eq_true rfl) dX12_readsStatement_55 (by decide)  (fun v9 V9 h9 => ?_)
        rcases h9 with ⟨p1, g1, rfl, f1, rfl⟩ | ⟨g1, rfl, f1, f2, f3, f4, rfl⟩
        · refine G.eqst (k2 := 0) (n2 := 0) (st2 := [.int (nI 0)]) rfl rfl rfl ?_
          refine g_if_eq (tgt := 70) (pc := 58) dX12_readsStatement_58 (by decide) (fun _ => ?_) (fun c0 => absurd c0 (by decide))
          refine g_iconst (v := nI 0) (pc := 70) dX12_readsStatement_70 (by decide) ?_
          exact g_zret (pc := 71) (by decide) (by decide) (by decide) (hPo _ _ (Or.inl ⟨p1, g1, rfl, f1, rfl⟩)) dX12_readsStatement_71
        · refine G.eqst (k2 := 0) (n2 := 0) (st2 := [.int (nI 1)]) rfl rfl rfl ?_
          refine g_if_eq (tgt := 70) (pc := 58) dX12_readsStatement_58 (by decide) (fun c0 => absurd c0 (by decide)) (fun _ => ?_)
          refine g_aload_n (q := 2) (pc := 61) dX12_readsStatement_61 rfl rfl ?_
          refine e_callV (k2 := 0) (n2 := 0) (As := []) (rest := []) (pc := 62) (wM_0 hA) rfl (c_X12_here (bs := bs) (zz := zz) (q := (q + 1) + 2) hA (by omega) (by omega)) mlX12_131 selX12_X12_here_X12_here mX12_here ⟨Nat.le_of_ble_eq_true rfl, Nat.le_of_ble_eq_true rfl⟩ rfl rfl (Nat.le_of_ble_eq_true rfl) dX12_readsStatement_62 (by decide) rfl rfl ?_
          refine g_bipush (v := nI 59) (pc := 65) dX12_readsStatement_65 (by decide) ?_
          refine g_icmp_eq (tgt := 72) (pc := 67) dX12_readsStatement_67 (by decide) (fun c4 => ?_) (fun c4 => ?_)
          · -- T c4
            obtain ⟨g5, g7⟩ := hr_e c4 (by decide)
            have g6 := st_semi (f3 _ (Nat.le_refl _)) g7
            refine g_aload_n (q := 2) (pc := 72) dX12_readsStatement_72 rfl rfl ?_
            refine g_dup (pc := 73) dX12_readsStatement_73 rfl ?_
            refine gm_get_po (pc := 74) hA dX12_readsStatement_74 ?_
            refine g_iconst (v := nI 1) (pc := 77) dX12_readsStatement_77 (by decide) ?_
            refine g_iadd_N (pc := 78) dX12_readsStatement_78 ?_
            refine gm_put_po (pc := 79) hA dX12_readsStatement_79 ?_
            refine g_iconst (v := nI 1) (pc := 82) dX12_readsStatement_82 (by decide) ?_
            exact g_zret (pc := 83) (by decide) (by decide) (by decide) (hPo _ _ (Or.inr ⟨_, g1, rfl, e1, e3, by decide, g5, f2.st (by rw [g6]; decide), g6, f3, f4, rfl⟩)) dX12_readsStatement_83
          · -- F c4
            refine g_iconst (v := nI 0) (pc := 70) dX12_readsStatement_70 (by decide) ?_
            exact g_zret (pc := 71) (by decide) (by decide) (by decide) (hPo _ _ (Or.inl ⟨_, g1, rfl, fail_semi f1 f2 (f3 _ (Nat.le_refl _)) (by assumption), rfl⟩)) dX12_readsStatement_71
    · -- F c2
      refine g_iconst (v := nI 3) (pc := 21) dX12_readsStatement_21 (by decide) ?_
      refine g_goto (tgt := 36) (pc := 22) dX12_readsStatement_22 (by decide) ?_
      obtain ⟨e1, e2⟩ := hr_e (x := nI 103) (by assumption) (by decide)
      have e3 : wdL (tx el bs q) = 3 := by rw [e2]; exact wdL_g
      have e4 : stA (tx el bs) (q + 1) = 3 := by rw [st_let hst (by rw [e3]; decide), e3]
      refine g_istore_n (lv' := [(2, .int (nI 3)), (1, .int (hrV (tx el bs) zz q)), (0, .ref (ad 0))]) (pc := 36) dX12_readsStatement_36 rfl (by decide) rfl ?_
      refine g_iload_n (q := 0) (pc := 37) dX12_readsStatement_37 rfl rfl ?_
      refine g_if_ne (tgt := 43) (pc := 38) dX12_readsStatement_38 (by decide) (fun _ => ?_) (fun c0 => absurd c0 (by decide))
      refine g_aload_n (q := 2) (pc := 43) dX12_readsStatement_43 rfl rfl ?_
      refine g_dup (pc := 44) dX12_readsStatement_44 rfl ?_
      refine gm_get_po (pc := 45) hA dX12_readsStatement_45 ?_
      refine g_iconst (v := nI 1) (pc := 48) dX12_readsStatement_48 (by decide) ?_
      refine g_iadd_N (pc := 49) dX12_readsStatement_49 ?_
      refine gm_put_po (pc := 50) hA dX12_readsStatement_50 ?_
      refine g_aload_n (q := 2) (pc := 53) dX12_readsStatement_53 rfl rfl ?_
      refine g_iload_n (q := 0) (pc := 54) dX12_readsStatement_54 rfl rfl ?_
      refine g_callV (As := [.int (nI 3)]) (rest := []) (pc := 55) (wM_0 hA) rfl (c_X12_readsDigits (bs := bs) (zz := zz) (q := q + 1) (w := 3) hA (by omega) (by omega) (by decide) e4 (hcl.st (by rw [e4]; decide))) mlX12_139 selX12_X12_readsDigits_X12_readsDigits mX12_readsDigits ⟨Nat.le_of_ble_eq_true rfl, Nat.le_of_ble_eq_true rfl⟩ rfl rfl (Nat.le_of_ble_eq_true rfl) dX12_readsStatement_55 (by decide)  (fun v9 V9 h9 => ?_)
      rcases h9 with ⟨p1, g1, rfl, f1, rfl⟩ | ⟨g1, rfl, f1, f2, f3, f4, rfl⟩
      · refine G.eqst (k2 := 0) (n2 := 0) (st2 := [.int (nI 0)]) rfl rfl rfl ?_
        refine g_if_eq (tgt := 70) (pc := 58) dX12_readsStatement_58 (by decide) (fun _ => ?_) (fun c0 => absurd c0 (by decide))
        refine g_iconst (v := nI 0) (pc := 70) dX12_readsStatement_70 (by decide) ?_
        exact g_zret (pc := 71) (by decide) (by decide) (by decide) (hPo _ _ (Or.inl ⟨p1, g1, rfl, f1, rfl⟩)) dX12_readsStatement_71
      · refine G.eqst (k2 := 0) (n2 := 0) (st2 := [.int (nI 1)]) rfl rfl rfl ?_
        refine g_if_eq (tgt := 70) (pc := 58) dX12_readsStatement_58 (by decide) (fun c0 => absurd c0 (by decide)) (fun _ => ?_)
        refine g_aload_n (q := 2) (pc := 61) dX12_readsStatement_61 rfl rfl ?_
        refine e_callV (k2 := 0) (n2 := 0) (As := []) (rest := []) (pc := 62) (wM_0 hA) rfl (c_X12_here (bs := bs) (zz := zz) (q := (q + 1) + 3) hA (by omega) (by omega)) mlX12_131 selX12_X12_here_X12_here mX12_here ⟨Nat.le_of_ble_eq_true rfl, Nat.le_of_ble_eq_true rfl⟩ rfl rfl (Nat.le_of_ble_eq_true rfl) dX12_readsStatement_62 (by decide) rfl rfl ?_
        refine g_bipush (v := nI 59) (pc := 65) dX12_readsStatement_65 (by decide) ?_
        refine g_icmp_eq (tgt := 72) (pc := 67) dX12_readsStatement_67 (by decide) (fun c5 => ?_) (fun c5 => ?_)
        · -- T c5
          obtain ⟨g5, g7⟩ := hr_e c5 (by decide)
          have g6 := st_semi (f3 _ (Nat.le_refl _)) g7
          refine g_aload_n (q := 2) (pc := 72) dX12_readsStatement_72 rfl rfl ?_
          refine g_dup (pc := 73) dX12_readsStatement_73 rfl ?_
          refine gm_get_po (pc := 74) hA dX12_readsStatement_74 ?_
          refine g_iconst (v := nI 1) (pc := 77) dX12_readsStatement_77 (by decide) ?_
          refine g_iadd_N (pc := 78) dX12_readsStatement_78 ?_
          refine gm_put_po (pc := 79) hA dX12_readsStatement_79 ?_
          refine g_iconst (v := nI 1) (pc := 82) dX12_readsStatement_82 (by decide) ?_
          exact g_zret (pc := 83) (by decide) (by decide) (by decide) (hPo _ _ (Or.inr ⟨_, g1, rfl, e1, e3, by decide, g5, f2.st (by rw [g6]; decide), g6, f3, f4, rfl⟩)) dX12_readsStatement_83
        · -- F c5
          refine g_iconst (v := nI 0) (pc := 70) dX12_readsStatement_70 (by decide) ?_
          exact g_zret (pc := 71) (by decide) (by decide) (by decide) (hPo _ _ (Or.inl ⟨_, g1, rfl, fail_semi f1 f2 (f3 _ (Nat.le_refl _)) (by assumption), rfl⟩)) dX12_readsStatement_71
  · -- F c1
    refine g_iconst (v := nI 4) (pc := 11) dX12_readsStatement_11 (by decide) ?_
    refine g_goto (tgt := 36) (pc := 12) dX12_readsStatement_12 (by decide) ?_
    obtain ⟨e1, e2⟩ := hr_e (x := nI 107) (by assumption) (by decide)
    have e3 : wdL (tx el bs q) = 4 := by rw [e2]; exact wdL_k
    have e4 : stA (tx el bs) (q + 1) = 4 := by rw [st_let hst (by rw [e3]; decide), e3]
    refine g_istore_n (lv' := [(2, .int (nI 4)), (1, .int (hrV (tx el bs) zz q)), (0, .ref (ad 0))]) (pc := 36) dX12_readsStatement_36 rfl (by decide) rfl ?_
    refine g_iload_n (q := 0) (pc := 37) dX12_readsStatement_37 rfl rfl ?_
    refine g_if_ne (tgt := 43) (pc := 38) dX12_readsStatement_38 (by decide) (fun _ => ?_) (fun c0 => absurd c0 (by decide))
    refine g_aload_n (q := 2) (pc := 43) dX12_readsStatement_43 rfl rfl ?_
    refine g_dup (pc := 44) dX12_readsStatement_44 rfl ?_
    refine gm_get_po (pc := 45) hA dX12_readsStatement_45 ?_
    refine g_iconst (v := nI 1) (pc := 48) dX12_readsStatement_48 (by decide) ?_
    refine g_iadd_N (pc := 49) dX12_readsStatement_49 ?_
    refine gm_put_po (pc := 50) hA dX12_readsStatement_50 ?_
    refine g_aload_n (q := 2) (pc := 53) dX12_readsStatement_53 rfl rfl ?_
    refine g_iload_n (q := 0) (pc := 54) dX12_readsStatement_54 rfl rfl ?_
    refine g_callV (As := [.int (nI 4)]) (rest := []) (pc := 55) (wM_0 hA) rfl (c_X12_readsDigits (bs := bs) (zz := zz) (q := q + 1) (w := 4) hA (by omega) (by omega) (by decide) e4 (hcl.st (by rw [e4]; decide))) mlX12_139 selX12_X12_readsDigits_X12_readsDigits mX12_readsDigits ⟨Nat.le_of_ble_eq_true rfl, Nat.le_of_ble_eq_true rfl⟩ rfl rfl (Nat.le_of_ble_eq_true rfl) dX12_readsStatement_55 (by decide)  (fun v9 V9 h9 => ?_)
    rcases h9 with ⟨p1, g1, rfl, f1, rfl⟩ | ⟨g1, rfl, f1, f2, f3, f4, rfl⟩
    · refine G.eqst (k2 := 0) (n2 := 0) (st2 := [.int (nI 0)]) rfl rfl rfl ?_
      refine g_if_eq (tgt := 70) (pc := 58) dX12_readsStatement_58 (by decide) (fun _ => ?_) (fun c0 => absurd c0 (by decide))
      refine g_iconst (v := nI 0) (pc := 70) dX12_readsStatement_70 (by decide) ?_
      exact g_zret (pc := 71) (by decide) (by decide) (by decide) (hPo _ _ (Or.inl ⟨p1, g1, rfl, f1, rfl⟩)) dX12_readsStatement_71
    · refine G.eqst (k2 := 0) (n2 := 0) (st2 := [.int (nI 1)]) rfl rfl rfl ?_
      refine g_if_eq (tgt := 70) (pc := 58) dX12_readsStatement_58 (by decide) (fun c0 => absurd c0 (by decide)) (fun _ => ?_)
      refine g_aload_n (q := 2) (pc := 61) dX12_readsStatement_61 rfl rfl ?_
      refine e_callV (k2 := 0) (n2 := 0) (As := []) (rest := []) (pc := 62) (wM_0 hA) rfl (c_X12_here (bs := bs) (zz := zz) (q := (q + 1) + 4) hA (by omega) (by omega)) mlX12_131 selX12_X12_here_X12_here mX12_here ⟨Nat.le_of_ble_eq_true rfl, Nat.le_of_ble_eq_true rfl⟩ rfl rfl (Nat.le_of_ble_eq_true rfl) dX12_readsStatement_62 (by decide) rfl rfl ?_
      refine g_bipush (v := nI 59) (pc := 65) dX12_readsStatement_65 (by decide) ?_
      refine g_icmp_eq (tgt := 72) (pc := 67) dX12_readsStatement_67 (by decide) (fun c6 => ?_) (fun c6 => ?_)
      · -- T c6
        obtain ⟨g5, g7⟩ := hr_e c6 (by decide)
        have g6 := st_semi (f3 _ (Nat.le_refl _)) g7
        refine g_aload_n (q := 2) (pc := 72) dX12_readsStatement_72 rfl rfl ?_
        refine g_dup (pc := 73) dX12_readsStatement_73 rfl ?_
        refine gm_get_po (pc := 74) hA dX12_readsStatement_74 ?_
        refine g_iconst (v := nI 1) (pc := 77) dX12_readsStatement_77 (by decide) ?_
        refine g_iadd_N (pc := 78) dX12_readsStatement_78 ?_
        refine gm_put_po (pc := 79) hA dX12_readsStatement_79 ?_
        refine g_iconst (v := nI 1) (pc := 82) dX12_readsStatement_82 (by decide) ?_
        exact g_zret (pc := 83) (by decide) (by decide) (by decide) (hPo _ _ (Or.inr ⟨_, g1, rfl, e1, e3, by decide, g5, f2.st (by rw [g6]; decide), g6, f3, f4, rfl⟩)) dX12_readsStatement_83
      · -- F c6
        refine g_iconst (v := nI 0) (pc := 70) dX12_readsStatement_70 (by decide) ?_
        exact g_zret (pc := 71) (by decide) (by decide) (by decide) (hPo _ _ (Or.inl ⟨_, g1, rfl, fail_semi f1 f2 (f3 _ (Nat.le_refl _)) (by assumption), rfl⟩)) dX12_readsStatement_71
end MS
