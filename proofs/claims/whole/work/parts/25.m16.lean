section MS
variable {l : Launch} {D : va_G} {Z : Nat → ClassId} {b0 : Nat} {ad : Nat → Nat} {hi th po ba en se : Int32} {s im rd mi el ki kf ti lo wa nu li to ot : Nat → Int32} {kd fg pl kp so sz ikd ifg ipl : Nat → Nat} {hr ihr : Nat → Int32} {V : HV}
def EE (f : Nat → Int32) (M0 : Mt) : Nat → Option Mt
  | 0 => some M0
  | i + 1 => if stA f i = 99 then (match EE f M0 i with
    | none => none
    | some M => exM (f i) (fun j => dgN f (i + 1 + j)) M) else EE f M0 i
def cnA (f : Nat → Int32) : Nat → Nat
  | 0 => 0
  | i + 1 => cnA f i + if stA f i = 99 then 1 else 0
theorem EE_c {f : Nat → Int32} {M0 : Mt} {i : Nat} (h : ¬ stA f i = 99) : EE f M0 (i + 1) = EE f M0 i := by rw [EE, if_neg h]
theorem EE_x {f : Nat → Int32} {M0 M : Mt} {i : Nat} (h : stA f i = 99) (hM : EE f M0 i = some M) : EE f M0 (i + 1) = exM (f i) (fun j => dgN f (i + 1 + j)) M := by rw [EE, if_pos h, hM]
theorem EE_o {f : Nat → Int32} {M0 : Mt} {i : Nat} (h : EE f M0 i = none) : EE f M0 (i + 1) = none := by
  rw [EE, h]; split <;> rfl
theorem EE_on {f : Nat → Int32} {M0 : Mt} {i : Nat} (h : EE f M0 i = none) : ∀ d, EE f M0 (i + d) = none
  | 0 => h
  | d + 1 => EE_o (EE_on h d)
theorem cnA_c {f : Nat → Int32} {i : Nat} (h : ¬ stA f i = 99) : cnA f (i + 1) = cnA f i := by rw [cnA, if_neg h]; rfl
theorem cnA_x {f : Nat → Int32} {i : Nat} (h : stA f i = 99) : cnA f (i + 1) = cnA f i + 1 := by rw [cnA, if_pos h]
theorem cnA_le (f : Nat → Int32) : ∀ i, cnA f i ≤ i
  | 0 => Nat.le_refl _
  | i + 1 => by have := cnA_le f i; rw [cnA]; split <;> omega
theorem EE_skip {f : Nat → Int32} {M0 : Mt} {q u : Nat} (h4 : u ≤ 4) (h : ∀ j, j ≤ u → stA f (q + 1 + j) = u - j) : ∀ d, d ≤ u + 1 → EE f M0 (q + 1 + d) = EE f M0 (q + 1)
  | 0, _ => rfl
  | d + 1, hd => (EE_c (i := q + 1 + d) (by rw [h d (by omega)]; omega)).trans (EE_skip h4 h d (by omega))
theorem cnA_skip {f : Nat → Int32} {q u : Nat} (h4 : u ≤ 4) (h : ∀ j, j ≤ u → stA f (q + 1 + j) = u - j) : ∀ d, d ≤ u + 1 → cnA f (q + 1 + d) = cnA f (q + 1)
  | 0, _ => rfl
  | d + 1, hd => (cnA_c (i := q + 1 + d) (by rw [h d (by omega)]; omega)).trans (cnA_skip h4 h d (by omega))
def FltAt (f : Nat → Int32) (m : Nat) (M0 : Mt) (i : Nat) : Prop := i < m ∧ (∃ M, EE f M0 i = some M) ∧ EE f M0 (i + 1) = none
theorem FltAt.uq {f : Nat → Int32} {m : Nat} {M0 : Mt} {i j : Nat} (h : FltAt f m M0 i) (g : FltAt f m M0 j) : i = j := by
  obtain ⟨_, ⟨M, h1⟩, h2⟩ := h
  obtain ⟨_, ⟨N, g1⟩, g2⟩ := g
  rcases Nat.lt_trichotomy i j with z | z | z
  · have := EE_on h2 (j - (i + 1)); rw [show i + 1 + (j - (i + 1)) = j by omega, g1] at this; exact absurd this (by simp)
  · exact z
  · have := EE_on g2 (i - (j + 1)); rw [show j + 1 + (i - (j + 1)) = i by omega, h1] at this; exact absurd this (by simp)
theorem FltAt.no {f : Nat → Int32} {m : Nat} {M0 M : Mt} {i : Nat} (h : FltAt f m M0 i) (g : EE f M0 m = some M) : False := by
  have := EE_on h.2.2 (m - (i + 1)); have h0 := h.1; rw [show i + 1 + (m - (i + 1)) = m by omega, g] at this; exact absurd this (by simp)
def mtR (f : Nat → Int32) (m : Nat) (M0 : Mt) (v : Int32) (M : Mt) : Prop := (∃ p, FailAt f m p ∧ v = (-1000) - nI p ∧ M = M0) ∨ (OkT f m ∧ ((∃ i, FltAt f m M0 i ∧ v = (-2000) - nI i ∧ M = M0) ∨ (EE f M0 m = some M ∧ v = nI (cnA f m))))
theorem mtR.uq {f : Nat → Int32} {m : Nat} {M0 : Mt} {v w : Int32} {A B : Mt} (h : mtR f m M0 v A) (g : mtR f m M0 w B) : v = w ∧ A = B := by
  rcases h with ⟨p, h, rfl, rfl⟩ | ⟨h, ⟨i, h2, rfl, rfl⟩ | ⟨h2, rfl⟩⟩
  · rcases g with ⟨q, g, rfl, rfl⟩ | ⟨g, _⟩
    · rw [h.uq g]; exact ⟨rfl, rfl⟩
    · exact (h.no g).elim
  · rcases g with ⟨q, g, rfl, rfl⟩ | ⟨_, ⟨j, g2, rfl, rfl⟩ | ⟨g2, rfl⟩⟩
    · exact (g.no h).elim
    · rw [h2.uq g2]; exact ⟨rfl, rfl⟩
    · exact (h2.no g2).elim
  · rcases g with ⟨q, g, rfl, rfl⟩ | ⟨_, ⟨j, g2, rfl, rfl⟩ | ⟨g2, rfl⟩⟩
    · exact (g.no h).elim
    · exact (g2.no h2).elim
    · rw [h2] at g2; exact ⟨rfl, Option.some.inj g2⟩
theorem wdL_3 {x : Int32} {u : Nat} (h : wdL x = u) (h0 : u ≠ 0) : x = nI 107 ∨ x = nI 103 ∨ x = nI 100 := by
  rcases wdL_c x with z | ⟨_, z⟩ | ⟨_, z⟩ | ⟨_, z⟩
  · exact absurd (h.symm.trans z) h0
  · exact Or.inl z
  · exact Or.inr (Or.inl z)
  · exact Or.inr (Or.inr z)
def rmX12_mountain : Room := { frames := 4, cells := 0, slots := 0, locals := 87 }
set_option maxHeartbeats 8000000 in
theorem c_X12_mountain_s {d : Nat} (hA : aB b0 18 ad) (ho : okM kd fg pl) (hs : okS kp so sz ki kf) (hd : d < 8) (hk : kp d = 2) (hr9 : okSort (some 0) (so d) = true) : KM l D Z b0 yX12_mountain cX12_mountain 7 (some .int) rmX12_mountain [.ref (ad 0), .int (nI d)] (wM Z ad hi th po ba en se (enc kd fg pl hr) im rd mi (nf kp) (nf so) (nf sz) el ki kf ti lo wa nu li to ot V) (fun v V' => ∃ r M', mtR (tx el (100 * d)) (sz d) (kd, fg, pl, hr) r M' ∧ v = some (.int r) ∧ MX Z ad hi (enc M'.1 M'.2.1 M'.2.2.1 M'.2.2.2) im (nf kp) (nf so) (nf sz) el ki kf V V') := by
  refine KM.ofP (by decide) (Nat.le_of_ble_eq_true rfl) (fun Po hPo => ?_)
  refine G.locals (L' := [(0, .ref (ad 0)), (1, .int (nI d))]) [0, 1] rfl ?_
  have hz9 := (hs d hd).2.2.1
  refine g_aload_n (q := 0) (pc := 0) dX12_mountain_0 rfl rfl ?_
  refine g_iload_n (q := 1) (pc := 1) dX12_mountain_1 rfl rfl ?_
  refine g_iconst (v := nI 0) (pc := 2) dX12_mountain_2 (by decide) ?_
  refine e_callV (k2 := 0) (n2 := 0) (As := [.int (nI d), .int (nI 0)]) (rest := []) (pc := 3) (wM_0 hA) rfl (c_X12_wrongRow_ok (r := (some 0)) hA hd hk hr9 (c_X12_wrongRow0 hA hs)) mlX12_155 selX12_X12_wrongRow_X12_wrongRow mX12_wrongRow ⟨Nat.le_of_ble_eq_true rfl, Nat.le_of_ble_eq_true rfl⟩ rfl rfl (Nat.le_of_ble_eq_true rfl) dX12_mountain_3 (by decide) rfl rfl ?_
  refine g_istore_n (lv' := [(2, .int (nI 0)), (0, .ref (ad 0)), (1, .int (nI d))]) (pc := 6) dX12_mountain_6 rfl (by decide) rfl ?_
  refine g_iload_n (q := 0) (pc := 7) dX12_mountain_7 rfl rfl ?_
  refine g_if_eq (tgt := 13) (pc := 8) dX12_mountain_8 (by decide) (fun _ => ?_) (fun c0 => absurd c0 (by decide))
  refine g_aload_n (q := 1) (pc := 13) dX12_mountain_13 rfl rfl ?_
  refine g_bipush (v := nI 100) (pc := 14) dX12_mountain_14 (by decide) ?_
  refine g_iload_n (q := 2) (pc := 16) dX12_mountain_16 rfl rfl ?_
  refine g_imul_N (pc := 17) dX12_mountain_17 ?_
  refine gm_put_ba (pc := 18) hA dX12_mountain_18 ?_
  refine g_aload_n (q := 1) (pc := 21) dX12_mountain_21 rfl rfl ?_
  refine g_aload_n (q := 1) (pc := 22) dX12_mountain_22 rfl rfl ?_
  refine gm_get_sz (pc := 23) hA dX12_mountain_23 ?_
  refine g_iload_n (q := 2) (pc := 26) dX12_mountain_26 rfl rfl ?_
  refine gm_ld_sz (pc := 27) (j := d) (x := nI (sz d)) hA hd rfl dX12_mountain_27 ?_
  refine gm_put_en (pc := 28) hA dX12_mountain_28 ?_
  refine g_aload_n (q := 1) (pc := 31) dX12_mountain_31 rfl rfl ?_
  refine g_iconst (v := nI 0) (pc := 32) dX12_mountain_32 (by decide) ?_
  refine gm_put_po (pc := 33) hA dX12_mountain_33 ?_
  refine g_iconst (v := nI 0) (pc := 36) dX12_mountain_36 (by decide) ?_
  refine g_istore_n (lv' := [(3, .int (nI 0)), (2, .int (nI 0)), (0, .ref (ad 0)), (1, .int (nI d))]) (pc := 37) dX12_mountain_37 rfl (by decide) rfl ?_
  have lp38 : ∀ (d38 : Nat) (q : Nat) (g : Nat → Int32), sz d + 1 ≤ q + d38 → (q ≤ sz d) → (stA (tx el (100 * d)) q = 99) → (Cln (tx el (100 * d)) q) → (q < sz d ∨ sz d = 0) → G l D Z b0 rmX12_mountain RX12 cX12_mountain 7 (gE (some .int) "mountain") (gT D b0 Po rmX12_mountain.cells rmX12_mountain.slots) (wM Z ad hi th (nI q) (nI (100 * d)) (nI (sz d)) se (enc kd fg pl hr) im rd mi (nf kp) (nf so) (nf sz) el ki kf ti lo wa g li to ot V) [(3, .int (nI (cnA (tx el (100 * d)) q))), (0, .ref (ad 0)), (1, .int (nI d)), (2, .int (nI 0))] 0 0 38 [] := by
    intro d38
    induction d38 with
    | zero =>
      intro q g hd38 hq hst hcl hq0
      exact absurd hd38 (by omega)
    | succ d38 ih38 =>
      intro q g hd38 hq hst hcl hq0
      refine g_aload_n (q := 1) (pc := 38) dX12_mountain_38 rfl rfl ?_
      refine g_callV (As := []) (rest := []) (pc := 39) (wM_0 hA) rfl (c_X12_readsStatement (bs := 100 * d) (zz := sz d) (q := q) hA hq (by omega) hst hcl hq0) mlX12_158 selX12_X12_readsStatement_X12_readsStatement mX12_readsStatement ⟨Nat.le_of_ble_eq_true rfl, Nat.le_of_ble_eq_true rfl⟩ rfl rfl (Nat.le_of_ble_eq_true rfl) dX12_mountain_39 (by decide)  (fun v9 V9 h9 => ?_)
      rcases h9 with ⟨p1, g1, rfl, f1, rfl⟩ | ⟨u1, g1, rfl, f1, f2, f3, f4, f5, f6, f7, f8, rfl⟩
      · refine G.eqst (k2 := 0) (n2 := 0) (st2 := [.int (nI 0)]) rfl rfl rfl ?_
        refine g_if_ne (tgt := 54) (pc := 42) dX12_mountain_42 (by decide) (fun c0 => absurd c0 (by decide)) (fun _ => ?_)
        refine g_sipush (v := (-1000)) (pc := 45) dX12_mountain_45 (by decide) ?_
        refine g_aload_n (q := 1) (pc := 48) dX12_mountain_48 rfl rfl ?_
        refine gm_get_po (pc := 49) hA dX12_mountain_49 ?_
        refine g_isub (pc := 52) dX12_mountain_52 ?_
        exact g_iret (pc := 53) (by decide) (by decide) (hPo _ _ ⟨_, (kd, fg, pl, hr), Or.inl ⟨p1, f1, rfl, rfl⟩, rfl, mxk⟩) dX12_mountain_53
      · refine G.eqst (k2 := 0) (n2 := 0) (st2 := [.int (nI 1)]) rfl rfl rfl ?_
        have hu4 : u1 ≤ 4 := by rw [← f2]; exact wdL_le _
        have hcn : cnA (tx el (100 * d)) (q + 1 + u1 + 1) = cnA (tx el (100 * d)) q + 1 := (cnA_skip hu4 f7 (u1 + 1) (Nat.le_refl _)).trans (cnA_x hst)
        refine g_if_ne (tgt := 54) (pc := 42) dX12_mountain_42 (by decide) (fun _ => ?_) (fun c0 => absurd c0 (by decide))
        refine g_iinc (q := 0) (lv' := [(3, .int (nI ((cnA (tx el (100 * d)) q) + 1))), (0, .ref (ad 0)), (1, .int (nI d)), (2, .int (nI 0))]) (pc := 54) dX12_mountain_54 rfl (nI_inc _ _) (by decide) rfl ?_
        rw [← hcn]
        refine g_aload_n (q := 1) (pc := 57) dX12_mountain_57 rfl rfl ?_
        refine gm_get_po (pc := 58) hA dX12_mountain_58 ?_
        refine g_aload_n (q := 1) (pc := 61) dX12_mountain_61 rfl rfl ?_
        refine gm_get_en (pc := 62) hA dX12_mountain_62 ?_
        refine g_icmp_lt_N (tgt := 38) (pc := 65) (by omega) (by omega) dX12_mountain_65 (by decide) (fun c1 => ?_) (fun c1 => ?_)
        · -- T c1
          refine G.locals (L' := [(3, .int (nI (cnA (tx el (100 * d)) (q + 1 + u1 + 1)))), (0, .ref (ad 0)), (1, .int (nI d)), (2, .int (nI 0))]) [0, 1, 2, 3] rfl ?_
          exact ih38 (q + 1 + u1 + 1) g1 (by omega) (by omega) f6 f5 (by omega)
        · -- F c1
          have hq9 : q + 1 + u1 + 1 = sz d := (by omega)
          have hok : OkT (tx el (100 * d)) (sz d) := ⟨by omega, by rw [← hq9]; exact f5, by rw [← hq9]; exact f6⟩
          rw [hq9]
          refine g_aload_n (q := 1) (pc := 68) dX12_mountain_68 rfl rfl ?_
          refine gm_get_s (pc := 69) hA dX12_mountain_69 ?_
          refine g_aload_n (q := 1) (pc := 72) dX12_mountain_72 rfl rfl ?_
          refine gm_get_rd (pc := 73) hA dX12_mountain_73 ?_
          refine e_callSv (k2 := 0) (n2 := 0) (As := [.ref (ad 1), .ref (ad 3)]) (rest := []) (pc := 76) (c_X12_lays_s_rd hA) mlX12_73 mX12_lays ⟨Nat.le_of_ble_eq_true rfl, Nat.le_of_ble_eq_true rfl⟩ rfl rfl (Nat.le_of_ble_eq_true rfl) dX12_mountain_76 (by decide) rfl rfl ?_
          refine g_aload_n (q := 1) (pc := 79) dX12_mountain_79 rfl rfl ?_
          refine g_iconst (v := nI 0) (pc := 80) dX12_mountain_80 (by decide) ?_
          refine gm_put_po (pc := 81) hA dX12_mountain_81 ?_
          have lp84 : ∀ (d84 : Nat) (q : Nat) (g : Nat → Int32) (k1 : Nat → Nat) (f1' : Nat → Nat) (p1 : Nat → Nat) (h1 : Nat → Int32), sz d + 1 ≤ q + d84 → (q ≤ sz d) → (stA (tx el (100 * d)) q = 99) → (Cln (tx el (100 * d)) q) → (EE (tx el (100 * d)) (kd, fg, pl, hr) q = some (k1, f1', p1, h1)) → (okM k1 f1' p1) → G l D Z b0 rmX12_mountain RX12 cX12_mountain 7 (gE (some .int) "mountain") (gT D b0 Po rmX12_mountain.cells rmX12_mountain.slots) (wM Z ad hi th (nI q) (nI (100 * d)) (nI (sz d)) se (enc k1 f1' p1 h1) im (enc kd fg pl hr) mi (nf kp) (nf so) (nf sz) el ki kf ti lo wa g li to ot V) [(3, .int (nI (cnA (tx el (100 * d)) (sz d)))), (0, .ref (ad 0)), (1, .int (nI d)), (2, .int (nI 0))] 0 0 84 [] := by
            intro d84
            induction d84 with
            | zero =>
              intro q g k1 f1' p1 h1 hd84 hq hst hcl hEE ho1
              exact absurd hd84 (by omega)
            | succ d84 ih84 =>
              intro q g k1 f1' p1 h1 hd84 hq hst hcl hEE ho1
              refine g_aload_n (q := 1) (pc := 84) dX12_mountain_84 rfl rfl ?_
              refine gm_get_po (pc := 85) hA dX12_mountain_85 ?_
              refine g_aload_n (q := 1) (pc := 88) dX12_mountain_88 rfl rfl ?_
              refine gm_get_en (pc := 89) hA dX12_mountain_89 ?_
              refine g_icmp_ge_N (tgt := 143) (pc := 92) (by omega) (by omega) dX12_mountain_92 (by decide) (fun c2 => ?_) (fun c2 => ?_)
              · -- T c2
                refine g_iload_n (q := 0) (pc := 143) dX12_mountain_143 rfl rfl ?_
                exact g_iret (pc := 144) (by decide) (by decide) (hPo _ _ ⟨_, (k1, f1', p1, h1), Or.inr ⟨hok, Or.inr ⟨by have hq8 : q = sz d := (by omega); rw [← hq8]; exact hEE, rfl⟩⟩, rfl, mxk⟩) dX12_mountain_144
              · -- F c2
                refine g_aload_n (q := 1) (pc := 95) dX12_mountain_95 rfl rfl ?_
                refine gm_get_po (pc := 96) hA dX12_mountain_96 ?_
                refine g_istore (lv' := [(4, .int (nI q)), (3, .int (nI (cnA (tx el (100 * d)) (sz d)))), (0, .ref (ad 0)), (1, .int (nI d)), (2, .int (nI 0))]) (pc := 99) dX12_mountain_99 (by decide) rfl ?_
                refine g_aload_n (q := 2) (pc := 101) dX12_mountain_101 rfl rfl ?_
                refine e_callV (k2 := 0) (n2 := 0) (As := []) (rest := []) (pc := 102) (wM_0 hA) rfl (c_X12_here (bs := 100 * d) (zz := sz d) (q := q) hA (by omega) (by omega)) mlX12_131 selX12_X12_here_X12_here mX12_here ⟨Nat.le_of_ble_eq_true rfl, Nat.le_of_ble_eq_true rfl⟩ rfl rfl (Nat.le_of_ble_eq_true rfl) dX12_mountain_102 (by decide) rfl rfl ?_
                refine g_top (x := hrV (tx el (100 * d)) (sz d) q) (y := (tx el (100 * d)) q) (hr_t (by omega)) ?_
                refine g_istore (lv' := [(5, .int ((tx el (100 * d)) q)), (4, .int (nI q)), (3, .int (nI (cnA (tx el (100 * d)) (sz d)))), (0, .ref (ad 0)), (1, .int (nI d)), (2, .int (nI 0))]) (pc := 105) dX12_mountain_105 (by decide) rfl ?_
                refine g_aload_n (q := 3) (pc := 107) dX12_mountain_107 rfl rfl ?_
                refine g_callV (As := []) (rest := []) (pc := 108) (wM_0 hA) rfl (c_X12_readsStatement (bs := 100 * d) (zz := sz d) (q := q) hA hq (by omega) hst hcl (Or.inl (by omega))) mlX12_158 selX12_X12_readsStatement_X12_readsStatement mX12_readsStatement ⟨Nat.le_of_ble_eq_true rfl, Nat.le_of_ble_eq_true rfl⟩ rfl rfl (Nat.le_of_ble_eq_true rfl) dX12_mountain_108 (by decide)  (fun v9 V9 h9 => ?_)
                rcases h9 with ⟨p1, g1, rfl, f1, rfl⟩ | ⟨u1, g1, rfl, f1, f2, f3, f4, f5, f6, f7, f8, rfl⟩
                · exact (f1.no hok).elim
                · refine G.eqst (k2 := 0) (n2 := 0) (st2 := [.int (nI 1)]) rfl rfl rfl ?_
                  have hu4 : u1 ≤ 4 := by rw [← f2]; exact wdL_le _
                  have hcn : cnA (tx el (100 * d)) (q + 1 + u1 + 1) = cnA (tx el (100 * d)) q + 1 := (cnA_skip hu4 f7 (u1 + 1) (Nat.le_refl _)).trans (cnA_x hst)
                  refine g_istore (lv' := [(6, .int (nI 1)), (5, .int ((tx el (100 * d)) q)), (4, .int (nI q)), (3, .int (nI (cnA (tx el (100 * d)) (sz d)))), (0, .ref (ad 0)), (1, .int (nI d)), (2, .int (nI 0))]) (pc := 111) dX12_mountain_111 (by decide) rfl ?_
                  refine g_aload_n (q := 4) (pc := 113) dX12_mountain_113 rfl rfl ?_
                  refine g_iload (q := 1) (pc := 114) dX12_mountain_114 rfl ?_
                  refine g_callV (As := [.int ((tx el (100 * d)) q)]) (rest := []) (pc := 116) (wM_0 hA) rfl (c_X12_comesTold (nn := fun j => dgN (tx el (100 * d)) (q + 1 + j)) hA ho1 (fun j hj => f8 j (by rw [← f2]; exact hj)) (wdL_3 f2 f3)) mlX12_162 selX12_X12_comesTold_X12_comesTold mX12_comesTold ⟨Nat.le_of_ble_eq_true rfl, Nat.le_of_ble_eq_true rfl⟩ rfl rfl (Nat.le_of_ble_eq_true rfl) dX12_mountain_116 (by decide)  (fun v9 V9 h9 => ?_)
                  rcases h9 with ⟨rfl, x1, rfl⟩ | ⟨k2, f2', p2, h2, rfl, x1, rfl⟩
                  · refine G.eqst (k2 := 0) (n2 := 0) (st2 := [.int (nI 0)]) rfl rfl rfl ?_
                    have hE1 := (EE_x hst hEE).trans x1
                    refine g_if_ne (tgt := 140) (pc := 119) dX12_mountain_119 (by decide) (fun c0 => absurd c0 (by decide)) (fun _ => ?_)
                    refine g_aload_n (q := 4) (pc := 122) dX12_mountain_122 rfl rfl ?_
                    refine gm_get_rd (pc := 123) hA dX12_mountain_123 ?_
                    refine g_aload_n (q := 4) (pc := 126) dX12_mountain_126 rfl rfl ?_
                    refine gm_get_s (pc := 127) hA dX12_mountain_127 ?_
                    refine e_callSv (k2 := 0) (n2 := 0) (As := [.ref (ad 3), .ref (ad 1)]) (rest := []) (pc := 130) (c_X12_lays_rd_s hA) mlX12_73 mX12_lays ⟨Nat.le_of_ble_eq_true rfl, Nat.le_of_ble_eq_true rfl⟩ rfl rfl (Nat.le_of_ble_eq_true rfl) dX12_mountain_130 (by decide) rfl rfl ?_
                    refine g_sipush (v := (-2000)) (pc := 133) dX12_mountain_133 (by decide) ?_
                    refine g_iload (q := 2) (pc := 136) dX12_mountain_136 rfl ?_
                    refine g_isub (pc := 138) dX12_mountain_138 ?_
                    exact g_iret (pc := 139) (by decide) (by decide) (hPo _ _ ⟨_, (kd, fg, pl, hr), Or.inr ⟨hok, Or.inl ⟨q, ⟨by omega, ⟨_, hEE⟩, hE1⟩, rfl, rfl⟩⟩, rfl, mxk⟩) dX12_mountain_139
                  · refine G.eqst (k2 := 0) (n2 := 0) (st2 := [.int (nI 1)]) rfl rfl rfl ?_
                    have hE1 := (EE_x hst hEE).trans x1
                    have hE2 := (EE_skip (M0 := (kd, fg, pl, hr)) hu4 f7 (u1 + 1) (Nat.le_refl _)).trans hE1
                    have ho2 := exM_ok (m := (k1, f1', p1, h1)) ho1 (fun j hj => (f8 j (by rw [← f2]; exact hj)).2) (by rw [f2]; exact f3) x1
                    refine g_if_ne (tgt := 140) (pc := 119) dX12_mountain_119 (by decide) (fun _ => ?_) (fun c0 => absurd c0 (by decide))
                    refine g_goto (tgt := 84) (pc := 140) dX12_mountain_140 (by decide) ?_
                    refine G.locals (L' := [(3, .int (nI (cnA (tx el (100 * d)) (sz d)))), (0, .ref (ad 0)), (1, .int (nI d)), (2, .int (nI 0))]) [3, 4, 5, 6] rfl ?_
                    exact ih84 (q + 1 + u1 + 1) g1 k2 f2' p2 h2 (by omega) (by omega) f6 f5 hE2 ho2
          refine G.locals (L' := [(3, .int (nI (cnA (tx el (100 * d)) (sz d)))), (0, .ref (ad 0)), (1, .int (nI d)), (2, .int (nI 0))]) [0, 1, 2, 3] rfl ?_
          exact lp84 (sz d + 1) 0 g1 kd fg pl hr (by omega) (by omega) rfl Cln.z rfl ho
  refine G.locals (L' := [(3, .int (nI 0)), (0, .ref (ad 0)), (1, .int (nI d)), (2, .int (nI 0))]) [0, 2, 3, 1] rfl ?_
  exact lp38 (sz d + 1) 0 nu (by omega) (by omega) rfl Cln.z (by omega)
set_option maxHeartbeats 8000000 in
theorem c_X12_mountain_n {d : Int32} (hA : aB b0 18 ad) (hs : okS kp so sz ki kf) (h : ¬ spWR kp so d (some 0) = nI 0) : KE l D Z b0 yX12_mountain cX12_mountain 7 (some .int) rmX12_mountain [.ref (ad 0), .int d] (wM Z ad hi th po ba en se (enc kd fg pl hr) im rd mi (nf kp) (nf so) (nf sz) el ki kf ti lo wa nu li to ot V) (some (.int (spWR kp so d (some 0)))) (wM Z ad hi th po ba en se (enc kd fg pl hr) im rd mi (nf kp) (nf so) (nf sz) el ki kf ti lo wa nu li to ot V) := by
  refine KE.of (by decide) (Nat.le_of_ble_eq_true rfl) (fun Po hPo => ?_)
  refine G.locals (L' := [(0, .ref (ad 0)), (1, .int d)]) [0, 1] rfl ?_
  refine g_aload_n (q := 0) (pc := 0) dX12_mountain_0 rfl rfl ?_
  refine g_iload_n (q := 1) (pc := 1) dX12_mountain_1 rfl rfl ?_
  refine g_iconst (v := nI 0) (pc := 2) dX12_mountain_2 (by decide) ?_
  refine e_callV (k2 := 0) (n2 := 0) (As := [.int d, .int (nI 0)]) (rest := []) (pc := 3) (wM_0 hA) rfl (c_X12_wrongRow0 hA hs) mlX12_155 selX12_X12_wrongRow_X12_wrongRow mX12_wrongRow ⟨Nat.le_of_ble_eq_true rfl, Nat.le_of_ble_eq_true rfl⟩ rfl rfl (Nat.le_of_ble_eq_true rfl) dX12_mountain_3 (by decide) rfl rfl ?_
  refine g_istore_n (lv' := [(2, .int (spWR kp so d (some 0))), (0, .ref (ad 0)), (1, .int d)]) (pc := 6) dX12_mountain_6 rfl (by decide) rfl ?_
  refine g_iload_n (q := 0) (pc := 7) dX12_mountain_7 rfl rfl ?_
  refine g_if_eq (tgt := 13) (pc := 8) dX12_mountain_8 (by decide) (fun c1 => ?_) (fun c1 => ?_)
  · -- T c1
    exact absurd c1 h
  · -- F c1
    refine g_iload_n (q := 0) (pc := 11) dX12_mountain_11 rfl rfl ?_
    exact g_iret (pc := 12) (by decide) (by decide) (hPo) dX12_mountain_12
end MS
