section MS
variable {l : Launch} {D : va_G} {Z : Nat → ClassId} {b0 : Nat} {ad : Nat → Nat} {hi th po ba en se : Int32} {s im rd mi el ki kf ti lo wa nu li to ot : Nat → Int32} {kd fg pl kp so sz ikd ifg ipl : Nat → Nat} {hr ihr : Nat → Int32} {V : HV}
theorem cellsStep {el : Nat → Int32} {d i : Nat} (hi : i % 2 = 0) (h : ∀ q, q < i → q % 2 = 0 → inR (el (100 * d + q)) 20 = true) (h1 : inR (el (100 * d + i)) 20 = true) : ∀ q, q < i + 2 → q % 2 = 0 → inR (el (100 * d + q)) 20 = true := fun q hq hm => by
  by_cases z : q = i
  · subst z; exact h1
  · exact h q (by omega) hm
set_option maxHeartbeats 8000000 in
theorem c_X12_from_n {d what : Int32} (hA : aB b0 18 ad) (hs : okS kp so sz ki kf) (h : ¬ spFromG kp so sz el d what = nI 0) : KE l D Z b0 yX12_from cX12_from 7 (some .int) rmX12_from [.ref (ad 0), .int d, .int what] (wM Z ad hi th po ba en se (enc kd fg pl hr) im rd mi (nf kp) (nf so) (nf sz) el ki kf ti lo wa nu li to ot V) (some (.int (spFromG kp so sz el d what))) (wM Z ad hi th po ba en se (enc kd fg pl hr) im rd mi (nf kp) (nf so) (nf sz) el ki kf ti lo wa nu li to ot V) := by
  refine KE.of (by decide) (Nat.le_of_ble_eq_true rfl) (fun Po hPo => ?_)
  refine G.locals (L' := [(0, .ref (ad 0)), (1, .int d), (2, .int what)]) [0, 1, 2] rfl ?_
  refine g_iload_n (q := 1) (pc := 0) dX12_from_0 rfl rfl ?_
  refine e_callS (k2 := 0) (n2 := 0) (As := [.int d]) (rest := []) (pc := 1) (c_X12_isShelf hA) mlX12_152 mX12_isShelf ⟨Nat.le_of_ble_eq_true rfl, Nat.le_of_ble_eq_true rfl⟩ rfl rfl (Nat.le_of_ble_eq_true rfl) dX12_from_1 (by decide) rfl rfl ?_
  refine g_if_eq_B (tgt := 17) (pc := 4) dX12_from_4 (by decide) (fun c1 => ?_) (fun c1 => ?_)
  · -- T c1
    refine g_iconst (v := (-1)) (pc := 17) dX12_from_17 (by decide) ?_
    refine g_goto (tgt := 27) (pc := 18) dX12_from_18 (by decide) ?_
    refine g_istore_n (lv' := [(3, .int (-1)), (0, .ref (ad 0)), (1, .int d), (2, .int what)]) (pc := 27) dX12_from_27 rfl (by decide) rfl ?_
    refine g_iload_n (q := 0) (pc := 28) dX12_from_28 rfl rfl ?_
    refine g_if_ne (tgt := 46) (pc := 29) dX12_from_29 (by decide) (fun _ => ?_) (fun c0 => absurd c0 (by decide))
    refine g_iconst (v := nI 0) (pc := 46) dX12_from_46 (by decide) ?_
    refine g_istore (lv' := [(4, .int (nI 0)), (3, .int (-1)), (0, .ref (ad 0)), (1, .int d), (2, .int what)]) (pc := 47) dX12_from_47 (by decide) rfl ?_
    refine g_iload_n (q := 1) (pc := 49) dX12_from_49 rfl rfl ?_
    refine g_if_ne (tgt := 90) (pc := 50) dX12_from_50 (by decide) (fun _ => ?_) (fun c0 => absurd c0 (by decide))
    refine g_iload_n (q := 1) (pc := 90) dX12_from_90 rfl rfl ?_
    refine g_if_eq (tgt := 96) (pc := 91) dX12_from_91 (by decide) (fun c0 => absurd c0 (by decide)) (fun _ => ?_)
    refine g_iload_n (q := 1) (pc := 94) dX12_from_94 rfl rfl ?_
    exact g_iret (pc := 95) (by decide) (by decide) (eqI hPo (by rw [spFromG, if_neg (by simp [*])])) dX12_from_95
  · -- F c1
    obtain ⟨d, hd, rfl⟩ := inR_t c1
    have hd8 := c1
    refine g_iload_n (q := 2) (pc := 7) dX12_from_7 rfl rfl ?_
    refine g_i2l (v := (what).toInt64) (pc := 8) dX12_from_8 rfl ?_
    refine g_lconst (v := lN 0) (pc := 9) dX12_from_9 (by decide) ?_
    refine g_lconst (v := lN 1) (pc := 10) dX12_from_10 (by decide) ?_
    refine e_callS (k2 := 0) (n2 := 0) (As := [.long ((what).toInt64), .long (lN 0), .long (lN 1)]) (rest := []) (pc := 11) (c_X12_isInR 2 rfl hA (by decide) (c_X12_isIn hA)) mlX12_67 mX12_isIn ⟨Nat.le_of_ble_eq_true rfl, Nat.le_of_ble_eq_true rfl⟩ rfl rfl (Nat.le_of_ble_eq_true rfl) dX12_from_11 (by decide) rfl rfl ?_
    refine g_if_ne_B (tgt := 21) (pc := 14) dX12_from_14 (by decide) (fun c2 => ?_) (fun c2 => ?_)
    · -- T c2
      obtain ⟨what, hwhat, rfl⟩ := inR_t c2
      have hw2 := c2
      refine g_aload_n (q := 0) (pc := 21) dX12_from_21 rfl rfl ?_
      refine g_iload_n (q := 1) (pc := 22) dX12_from_22 rfl rfl ?_
      refine g_iconst (v := nI 2) (pc := 23) dX12_from_23 (by decide) ?_
      refine e_callV (k2 := 0) (n2 := 0) (As := [.int (nI d), .int (nI 2)]) (rest := []) (pc := 24) (wM_0 hA) rfl (c_X12_wrongRow2 hA hs) mlX12_155 selX12_X12_wrongRow_X12_wrongRow mX12_wrongRow ⟨Nat.le_of_ble_eq_true rfl, Nat.le_of_ble_eq_true rfl⟩ rfl rfl (Nat.le_of_ble_eq_true rfl) dX12_from_24 (by decide) rfl rfl ?_
      refine g_istore_n (lv' := [(3, .int (spWR kp so (nI d) (some 2))), (0, .ref (ad 0)), (1, .int (nI d)), (2, .int (nI what))]) (pc := 27) dX12_from_27 rfl (by decide) rfl ?_
      refine g_iload_n (q := 0) (pc := 28) dX12_from_28 rfl rfl ?_
      refine g_if_ne (tgt := 46) (pc := 29) dX12_from_29 (by decide) (fun c3 => ?_) (fun c3 => ?_)
      · -- T c3
        refine g_iconst (v := nI 0) (pc := 46) dX12_from_46 (by decide) ?_
        refine g_istore (lv' := [(4, .int (nI 0)), (3, .int (spWR kp so (nI d) (some 2))), (0, .ref (ad 0)), (1, .int (nI d)), (2, .int (nI what))]) (pc := 47) dX12_from_47 (by decide) rfl ?_
        refine g_iload_n (q := 1) (pc := 49) dX12_from_49 rfl rfl ?_
        refine g_if_ne (tgt := 90) (pc := 50) dX12_from_50 (by decide) (fun c4 => ?_) (fun c4 => ?_)
        · -- T c4
          refine g_iload_n (q := 1) (pc := 90) dX12_from_90 rfl rfl ?_
          refine g_if_eq (tgt := 96) (pc := 91) dX12_from_91 (by decide) (fun c5 => ?_) (fun c5 => ?_)
          · -- T c5
            exact absurd c5 (by assumption)
          · -- F c5
            refine g_iload_n (q := 1) (pc := 94) dX12_from_94 rfl rfl ?_
            exact g_iret (pc := 95) (by decide) (by decide) (eqI hPo (by rw [spFromG, if_pos hd8, if_pos hw2, if_neg (by assumption)])) dX12_from_95
        · -- F c4
          exact absurd c4 (by assumption)
      · -- F c3
        have hwr := c3
        rw [hwr.trans nI_0.symm]
        refine g_aload_n (q := 1) (pc := 32) dX12_from_32 rfl rfl ?_
        refine gm_get_sz (pc := 33) hA dX12_from_33 ?_
        refine g_iload_n (q := 2) (pc := 36) dX12_from_36 rfl rfl ?_
        refine gm_ld_sz (pc := 37) (j := d) (x := nI (sz d)) hA hd rfl dX12_from_37 ?_
        refine g_iconst (v := nI 2) (pc := 38) dX12_from_38 (by decide) ?_
        refine g_irem_N (pc := 39) (by have := (hs d hd).2.2.1; omega) (by decide) (by decide) dX12_from_39 ?_
        refine g_if_eq_N (tgt := 46) (pc := 40) (by have := (hs d hd).2.2.1; omega) dX12_from_40 (by decide) (fun c6 => ?_) (fun c6 => ?_)
        · -- T c6
          have hev := c6
          refine g_iconst (v := nI 0) (pc := 46) dX12_from_46 (by decide) ?_
          refine g_istore (lv' := [(4, .int (nI 0)), (3, .int (nI 0)), (0, .ref (ad 0)), (1, .int (nI d)), (2, .int (nI what))]) (pc := 47) dX12_from_47 (by decide) rfl ?_
          have lp49 : ∀ (d49 : Nat) (i : Nat) (nv : Int32), sz d + 3 ≤ i + d49 → (i % 2 = 0 ∧ i ≤ sz d + 1) → ((nv = nI 0 ∧ ∀ q, q < i → q % 2 = 0 → inR (el (100 * d + q)) 20 = true) ∨ (nv = (-13) ∧ cellsB el d 2 (sz d) = false)) → G l D Z b0 rmX12_from RX12 cX12_from 7 (gE (some .int) "from") (gT D b0 Po rmX12_from.cells rmX12_from.slots) (wM Z ad hi th po ba en se (enc kd fg pl hr) im rd mi (nf kp) (nf so) (nf sz) el ki kf ti lo wa nu li to ot V) [(4, .int (nI i)), (3, .int nv), (0, .ref (ad 0)), (1, .int (nI d)), (2, .int (nI what))] 0 0 49 [] := by
            intro d49
            induction d49 with
            | zero =>
              intro i nv hd49 hiN hnv
              omega
            | succ d49 ih49 =>
              intro i nv hd49 hiN hnv
              refine g_iload_n (q := 1) (pc := 49) dX12_from_49 rfl rfl ?_
              refine g_if_ne (tgt := 90) (pc := 50) dX12_from_50 (by decide) (fun c7 => ?_) (fun c7 => ?_)
              · -- T c7
                refine g_iload_n (q := 1) (pc := 90) dX12_from_90 rfl rfl ?_
                refine g_if_eq (tgt := 96) (pc := 91) dX12_from_91 (by decide) (fun c8 => ?_) (fun c8 => ?_)
                · -- T c8
                  exact absurd c8 (by assumption)
                · -- F c8
                  refine g_iload_n (q := 1) (pc := 94) dX12_from_94 rfl rfl ?_
                  exact g_iret (pc := 95) (by decide) (by decide) (eqI hPo (by rcases hnv with ⟨q, -⟩ | ⟨rfl, hf⟩; exact absurd (q.trans nI_0) (by assumption); rw [spFromG, if_pos hd8, if_pos hw2, if_pos hwr, dN_N (by omega), if_pos hev, if_neg (by rw [hf]; decide)])) dX12_from_95
              · -- F c7
                have hce := hnv.elim (fun q => q.2) (fun q => absurd (q.1.symm.trans c7) (by decide))
                refine g_iload (q := 0) (pc := 53) dX12_from_53 rfl ?_
                refine g_aload_n (q := 2) (pc := 55) dX12_from_55 rfl rfl ?_
                refine gm_get_sz (pc := 56) hA dX12_from_56 ?_
                refine g_iload_n (q := 3) (pc := 59) dX12_from_59 rfl rfl ?_
                refine gm_ld_sz (pc := 60) (j := d) (x := nI (sz d)) hA hd rfl dX12_from_60 ?_
                refine g_icmp_ge_N (tgt := 90) (pc := 61) (by have := (hs d hd).2.2.1; omega) (by have := (hs d hd).2.2.1; omega) dX12_from_61 (by decide) (fun c9 => ?_) (fun c9 => ?_)
                · -- T c9
                  exact absurd (by rw [spFromG, if_pos hd8, if_pos hw2, if_pos hwr, dN_N (by omega), if_pos hev, if_pos (cellsB_of (fun q hq => hce q (by omega)))]) h
                · -- F c9
                  refine g_aload_n (q := 2) (pc := 64) dX12_from_64 rfl rfl ?_
                  refine g_iload_n (q := 3) (pc := 65) dX12_from_65 rfl rfl ?_
                  refine g_iload (q := 0) (pc := 66) dX12_from_66 rfl ?_
                  refine e_callV (k2 := 0) (n2 := 0) (As := [.int (nI d), .int (nI i)]) (rest := []) (pc := 68) (wM_0 hA) rfl (c_X12_told hA hd (by have := (hs d hd).2.2.1; omega)) mlX12_181 selX12_X12_told_X12_told mX12_told ⟨Nat.le_of_ble_eq_true rfl, Nat.le_of_ble_eq_true rfl⟩ rfl rfl (Nat.le_of_ble_eq_true rfl) dX12_from_68 (by decide) rfl rfl ?_
                  refine e_callS (k2 := 0) (n2 := 0) (As := [.int (el (100 * d + i))]) (rest := []) (pc := 71) (c_X12_isCell hA) mlX12_143 mX12_isCell ⟨Nat.le_of_ble_eq_true rfl, Nat.le_of_ble_eq_true rfl⟩ rfl rfl (Nat.le_of_ble_eq_true rfl) dX12_from_71 (by decide) rfl rfl ?_
                  refine g_if_eq_B (tgt := 81) (pc := 74) dX12_from_74 (by decide) (fun c10 => ?_) (fun c10 => ?_)
                  · -- T c10
                    refine g_bipush (v := (-13)) (pc := 81) dX12_from_81 (by decide) ?_
                    refine g_istore_n (lv' := [(3, .int (-13)), (4, .int (nI i)), (0, .ref (ad 0)), (1, .int (nI d)), (2, .int (nI what))]) (pc := 83) dX12_from_83 rfl (by decide) rfl ?_
                    refine g_iinc (q := 1) (lv' := [(4, .int (nI (i + 2))), (3, .int (-13)), (0, .ref (ad 0)), (1, .int (nI d)), (2, .int (nI what))]) (pc := 84) dX12_from_84 rfl (nI_inc _ _) (by decide) rfl ?_
                    refine g_goto (tgt := 49) (pc := 87) dX12_from_87 (by decide) ?_
                    refine G.locals (L' := [(4, .int (nI (i + 2))), (3, .int (-13)), (0, .ref (ad 0)), (1, .int (nI d)), (2, .int (nI what))]) [0, 1, 2, 3, 4] rfl ?_
                    exact ih49 (i + 2) (-13) (by omega) (by omega) (Or.inr ⟨rfl, cellsB_f (by omega) hiN.1 (by assumption)⟩)
                  · -- F c10
                    refine g_iconst (v := nI 0) (pc := 77) dX12_from_77 (by decide) ?_
                    refine g_goto (tgt := 83) (pc := 78) dX12_from_78 (by decide) ?_
                    refine g_istore_n (lv' := [(3, .int (nI 0)), (4, .int (nI i)), (0, .ref (ad 0)), (1, .int (nI d)), (2, .int (nI what))]) (pc := 83) dX12_from_83 rfl (by decide) rfl ?_
                    refine g_iinc (q := 1) (lv' := [(4, .int (nI (i + 2))), (3, .int (nI 0)), (0, .ref (ad 0)), (1, .int (nI d)), (2, .int (nI what))]) (pc := 84) dX12_from_84 rfl (nI_inc _ _) (by decide) rfl ?_
                    refine g_goto (tgt := 49) (pc := 87) dX12_from_87 (by decide) ?_
                    refine G.locals (L' := [(4, .int (nI (i + 2))), (3, .int (nI 0)), (0, .ref (ad 0)), (1, .int (nI d)), (2, .int (nI what))]) [0, 1, 2, 3, 4] rfl ?_
                    exact ih49 (i + 2) (nI 0) (by omega) (by omega) (Or.inl ⟨rfl, cellsStep hiN.1 hce (by assumption)⟩)
          refine G.locals (L' := [(4, .int (nI 0)), (3, .int (nI 0)), (0, .ref (ad 0)), (1, .int (nI d)), (2, .int (nI what))]) [0, 1, 2, 3, 4] rfl ?_
          exact lp49 (sz d + 3) 0 (nI 0) (by omega) (by omega) (Or.inl ⟨rfl, fun q hq => absurd hq (Nat.not_lt_zero _)⟩)
        · -- F c6
          refine g_bipush (v := (-13)) (pc := 43) dX12_from_43 (by decide) ?_
          refine g_istore_n (lv' := [(3, .int (-13)), (0, .ref (ad 0)), (1, .int (nI d)), (2, .int (nI what))]) (pc := 45) dX12_from_45 rfl (by decide) rfl ?_
          refine g_iconst (v := nI 0) (pc := 46) dX12_from_46 (by decide) ?_
          refine g_istore (lv' := [(4, .int (nI 0)), (3, .int (-13)), (0, .ref (ad 0)), (1, .int (nI d)), (2, .int (nI what))]) (pc := 47) dX12_from_47 (by decide) rfl ?_
          refine g_iload_n (q := 1) (pc := 49) dX12_from_49 rfl rfl ?_
          refine g_if_ne (tgt := 90) (pc := 50) dX12_from_50 (by decide) (fun _ => ?_) (fun c0 => absurd c0 (by decide))
          refine g_iload_n (q := 1) (pc := 90) dX12_from_90 rfl rfl ?_
          refine g_if_eq (tgt := 96) (pc := 91) dX12_from_91 (by decide) (fun c0 => absurd c0 (by decide)) (fun _ => ?_)
          refine g_iload_n (q := 1) (pc := 94) dX12_from_94 rfl rfl ?_
          exact g_iret (pc := 95) (by decide) (by decide) (eqI hPo (by rw [spFromG, if_pos hd8, if_pos hw2, if_pos hwr, dN_N (by omega), if_neg (by assumption)])) dX12_from_95
    · -- F c2
      refine g_iconst (v := (-1)) (pc := 17) dX12_from_17 (by decide) ?_
      refine g_goto (tgt := 27) (pc := 18) dX12_from_18 (by decide) ?_
      refine g_istore_n (lv' := [(3, .int (-1)), (0, .ref (ad 0)), (1, .int (nI d)), (2, .int what)]) (pc := 27) dX12_from_27 rfl (by decide) rfl ?_
      refine g_iload_n (q := 0) (pc := 28) dX12_from_28 rfl rfl ?_
      refine g_if_ne (tgt := 46) (pc := 29) dX12_from_29 (by decide) (fun _ => ?_) (fun c0 => absurd c0 (by decide))
      refine g_iconst (v := nI 0) (pc := 46) dX12_from_46 (by decide) ?_
      refine g_istore (lv' := [(4, .int (nI 0)), (3, .int (-1)), (0, .ref (ad 0)), (1, .int (nI d)), (2, .int what)]) (pc := 47) dX12_from_47 (by decide) rfl ?_
      refine g_iload_n (q := 1) (pc := 49) dX12_from_49 rfl rfl ?_
      refine g_if_ne (tgt := 90) (pc := 50) dX12_from_50 (by decide) (fun _ => ?_) (fun c0 => absurd c0 (by decide))
      refine g_iload_n (q := 1) (pc := 90) dX12_from_90 rfl rfl ?_
      refine g_if_eq (tgt := 96) (pc := 91) dX12_from_91 (by decide) (fun c0 => absurd c0 (by decide)) (fun _ => ?_)
      refine g_iload_n (q := 1) (pc := 94) dX12_from_94 rfl rfl ?_
      exact g_iret (pc := 95) (by decide) (by decide) (eqI hPo (by rw [spFromG, if_pos hd8, if_neg (by simp [*])])) dX12_from_95
abbrev Mt : Type := (Nat → Nat) × (Nat → Nat) × (Nat → Nat) × (Nat → Int32)
/-- a gang digs, if there is a neighbour -/
def digM (m : Mt) (g s : Nat) : Mt := match nbo (m.2.2.1 g) s with
  | none => m
  | some t => (updN m.1 t 7, updN m.2.1 t 0, updN m.2.2.1 g t, upd m.2.2.2 g (m.2.2.2 g + nI (toilN (m.1 t) (m.2.1 t))))
theorem digM_n {m : Mt} {g s : Nat} (h : nbo (m.2.2.1 g) s = none) : digM m g s = m := by unfold digM; rw [h]
theorem digM_s {m : Mt} {g s t : Nat} (h : nbo (m.2.2.1 g) s = some t) : digM m g s = (updN m.1 t 7, updN m.2.1 t 0, updN m.2.2.1 g t, upd m.2.2.2 g (m.2.2.2 g + nI (toilN (m.1 t) (m.2.1 t)))) := by unfold digM; rw [h]
def simS (m : Mt) (z : Int32) : Nat → Mt × Int32
  | 0 => (m, z)
  | k + 1 => (digM (simS m z k).1 (drN (nextS (simS m z k).2) 2) (drN (nextS (nextS (simS m z k).2)) 4), nextS (nextS (simS m z k).2))
theorem simS_s {m m2 : Mt} {z z2 : Int32} {k : Nat} (h : simS m z k = (m2, z2)) : simS m z (k + 1) = (digM m2 (drN (nextS z2) 2) (drN (nextS (nextS z2)) 4), nextS (nextS z2)) := by
  rw [simS, h]
def fsS (m : Mt) (z : Int32) : Nat → Int32
  | 0 => if metB (m.2.2.1 0) (m.2.2.1 1) = true then nI 0 else (-4)
  | k + 1 => if fsS m z k < 0 ∧ metB ((simS m z (k + 1)).1.2.2.1 0) ((simS m z (k + 1)).1.2.2.1 1) = true then nI (k + 1) else fsS m z k
def spSeedV (m : Mt) (n : Nat) (z : Int32) (what : Nat) : Int32 := if what = 0 then (simS m z n).1.2.2.2 0 + (simS m z n).1.2.2.2 1 else fsS m z n
def spSeed (m : Mt) (n z what : Int32) : Int32 := if inB n 1 40 = true then (if inR what 2 = true then spSeedV m (dN n) z (dN what) else (-1)) else (-1)
theorem okM_dig {kd fg pl : Nat → Nat} {g t : Nat} (h : okM kd fg pl) (ht : t < 20) : okM (updN kd t 7) (updN fg t 0) (updN pl g t) := okM_pl (okM_set h (by decide) (by decide)) ht
theorem fs_t {m : Mt} {z : Int32} {k : Nat} {m2 : Mt} {z2 : Int32} (h : fsS m z k < 0) (hs : simS m z (k + 1) = (m2, z2)) (hm : metB (m2.2.2.1 0) (m2.2.2.1 1) = true) : nI (k + 1) = fsS m z (k + 1) := by
  rw [fsS, if_pos ⟨h, by rw [hs]; exact hm⟩]
theorem fs_f1 {m : Mt} {z : Int32} {k : Nat} (h : ¬ fsS m z k < 0) : fsS m z k = fsS m z (k + 1) := by
  rw [fsS, if_neg (fun q => h q.1)]
theorem fs_f2 {m : Mt} {z : Int32} {k : Nat} {m2 : Mt} {z2 : Int32} (hs : simS m z (k + 1) = (m2, z2)) (hm : metB (m2.2.2.1 0) (m2.2.2.1 1) = false) : fsS m z k = fsS m z (k + 1) := by
  rw [fsS, if_neg (fun q => by have h2 := q.2; rw [hs] at h2; rw [show metB (m2.2.2.1 0) (m2.2.2.1 1) = true from h2] at hm; cases hm)]
def rmX12_seeded : Room := { frames := 3, cells := 0, slots := 0, locals := 65 }
set_option maxHeartbeats 8000000 in
theorem c_X12_seeded {n z what : Int32} (hA : aB b0 18 ad) (ho : okM kd fg pl) : KM l D Z b0 yX12_seeded cX12_seeded 8 (some .int) rmX12_seeded [.ref (ad 0), .int n, .int z, .int what] (wM Z ad hi th po ba en se (enc kd fg pl hr) im rd mi (nf kp) (nf so) (nf sz) el ki kf ti lo wa nu li to ot V) (fun v V' => v = some (.int (spSeed (kd, fg, pl, hr) n z what)) ∧ MX Z ad hi (enc kd fg pl hr) im (nf kp) (nf so) (nf sz) el ki kf V V') := by
  refine KM.ofP (by decide) (Nat.le_of_ble_eq_true rfl) (fun Po hPo => ?_)
  refine G.locals (L' := [(0, .ref (ad 0)), (1, .int n), (2, .int z), (3, .int what)]) [0, 1, 2, 3] rfl ?_
  refine g_iload_n (q := 1) (pc := 0) dX12_seeded_0 rfl rfl ?_
  refine g_i2l (v := (n).toInt64) (pc := 1) dX12_seeded_1 rfl ?_
  refine g_lconst (v := lN 1) (pc := 2) dX12_seeded_2 (by decide) ?_
  refine g_ldc2 (v := lN 40) (pc := 3) klX12_224 dX12_seeded_3 ?_
  refine e_callS (k2 := 0) (n2 := 0) (As := [.long ((n).toInt64), .long (lN 1), .long (lN 40)]) (rest := []) (pc := 6) (c_X12_isInB hA (by decide) (by decide) (c_X12_isIn hA)) mlX12_67 mX12_isIn ⟨Nat.le_of_ble_eq_true rfl, Nat.le_of_ble_eq_true rfl⟩ rfl rfl (Nat.le_of_ble_eq_true rfl) dX12_seeded_6 (by decide) rfl rfl ?_
  refine g_if_eq_B (tgt := 22) (pc := 9) dX12_seeded_9 (by decide) (fun c1 => ?_) (fun c1 => ?_)
  · -- T c1
    refine g_iconst (v := (-1)) (pc := 22) dX12_seeded_22 (by decide) ?_
    exact g_iret (pc := 23) (by decide) (by decide) (gI hPo (by rw [spSeed, if_neg (by simp [*])]) mxk) dX12_seeded_23
  · -- F c1
    obtain ⟨n, hn1, hn2, rfl⟩ := inB_t c1
    refine g_iload_n (q := 3) (pc := 12) dX12_seeded_12 rfl rfl ?_
    refine g_i2l (v := (what).toInt64) (pc := 13) dX12_seeded_13 rfl ?_
    refine g_lconst (v := lN 0) (pc := 14) dX12_seeded_14 (by decide) ?_
    refine g_lconst (v := lN 1) (pc := 15) dX12_seeded_15 (by decide) ?_
    refine e_callS (k2 := 0) (n2 := 0) (As := [.long ((what).toInt64), .long (lN 0), .long (lN 1)]) (rest := []) (pc := 16) (c_X12_isInR 2 rfl hA (by decide) (c_X12_isIn hA)) mlX12_67 mX12_isIn ⟨Nat.le_of_ble_eq_true rfl, Nat.le_of_ble_eq_true rfl⟩ rfl rfl (Nat.le_of_ble_eq_true rfl) dX12_seeded_16 (by decide) rfl rfl ?_
    refine g_if_ne_B (tgt := 24) (pc := 19) dX12_seeded_19 (by decide) (fun c2 => ?_) (fun c2 => ?_)
    · -- T c2
      obtain ⟨what, hwhat, rfl⟩ := inR_t c2
      refine g_aload_n (q := 0) (pc := 24) dX12_seeded_24 rfl rfl ?_
      refine e_callVv (k2 := 0) (n2 := 0) (As := []) (rest := []) (pc := 25) (wM_0 hA) rfl (c_X12_begins hA) mlX12_192 selX12_X12_begins_X12_begins mX12_begins ⟨Nat.le_of_ble_eq_true rfl, Nat.le_of_ble_eq_true rfl⟩ rfl rfl (Nat.le_of_ble_eq_true rfl) dX12_seeded_25 (by decide) rfl rfl ?_
      refine g_aload_n (q := 0) (pc := 28) dX12_seeded_28 rfl rfl ?_
      refine g_iload_n (q := 2) (pc := 29) dX12_seeded_29 rfl rfl ?_
      refine gm_put_se (pc := 30) hA dX12_seeded_30 ?_
      refine g_aload_n (q := 0) (pc := 33) dX12_seeded_33 rfl rfl ?_
      refine e_callV (k2 := 0) (n2 := 0) (As := []) (rest := []) (pc := 34) (wM_0 hA) rfl (c_X12_haveMet hA ho) mlX12_170 selX12_X12_haveMet_X12_haveMet mX12_haveMet ⟨Nat.le_of_ble_eq_true rfl, Nat.le_of_ble_eq_true rfl⟩ rfl rfl (Nat.le_of_ble_eq_true rfl) dX12_seeded_34 (by decide) rfl rfl ?_
      refine g_if_eq_B (tgt := 44) (pc := 37) dX12_seeded_37 (by decide) (fun c3 => ?_) (fun c3 => ?_)
      · -- T c3
        refine g_bipush (v := (-4)) (pc := 44) dX12_seeded_44 (by decide) ?_
        refine g_top (x := (-4)) (y := fsS (kd, fg, pl, hr) z 0) (by rw [fsS, if_neg (by simp [*])]) ?_
        refine g_istore (lv' := [(4, .int (fsS (kd, fg, pl, hr) z 0)), (0, .ref (ad 0)), (1, .int (nI n)), (2, .int z), (3, .int (nI what))]) (pc := 46) dX12_seeded_46 (by decide) rfl ?_
        refine g_iconst (v := nI 1) (pc := 48) dX12_seeded_48 (by decide) ?_
        refine g_istore (lv' := [(5, .int (nI 1)), (4, .int (fsS (kd, fg, pl, hr) z 0)), (0, .ref (ad 0)), (1, .int (nI n)), (2, .int z), (3, .int (nI what))]) (pc := 49) dX12_seeded_49 (by decide) rfl ?_
        have lp51 : ∀ (d51 : Nat) (k : Nat) (z2 : Int32) (kd2 : Nat → Nat) (fg2 : Nat → Nat) (pl2 : Nat → Nat) (hr2 : Nat → Int32), k + d51 = n + 1 → (k ≤ n) → (simS (kd, fg, pl, hr) z k = ((kd2, fg2, pl2, hr2), z2)) → (okM kd2 fg2 pl2) → G l D Z b0 rmX12_seeded RX12 cX12_seeded 8 (gE (some .int) "seeded") (gT D b0 Po rmX12_seeded.cells rmX12_seeded.slots) (wM Z ad hi th po ba en z2 (enc kd2 fg2 pl2 hr2) im rd (enc kd fg pl hr) (nf kp) (nf so) (nf sz) el ki kf ti lo wa nu li to ot V) [(5, .int (nI (k + 1))), (4, .int (fsS (kd, fg, pl, hr) z k)), (0, .ref (ad 0)), (1, .int (nI n)), (3, .int (nI what))] 0 0 51 [] := by
          intro d51
          induction d51 with
          | zero =>
            intro k z2 kd2 fg2 pl2 hr2 hd51 hkn hsim ho2
            exact absurd hd51 (by omega)
          | succ d51 ih51 =>
            intro k z2 kd2 fg2 pl2 hr2 hd51 hkn hsim ho2
            refine g_iload (q := 0) (pc := 51) dX12_seeded_51 rfl ?_
            refine g_iload_n (q := 3) (pc := 53) dX12_seeded_53 rfl rfl ?_
            refine g_icmp_gt_N (tgt := 99) (pc := 54) (by omega) (by omega) dX12_seeded_54 (by decide) (fun c4 => ?_) (fun c4 => ?_)
            · -- T c4
              refine g_aload_n (q := 2) (pc := 99) dX12_seeded_99 rfl rfl ?_
              refine e_callV (k2 := 0) (n2 := 0) (As := []) (rest := []) (pc := 100) (wM_0 hA) rfl (c_X12_hours hA) mlX12_229 selX12_X12_hours_X12_hours mX12_hours ⟨Nat.le_of_ble_eq_true rfl, Nat.le_of_ble_eq_true rfl⟩ rfl rfl (Nat.le_of_ble_eq_true rfl) dX12_seeded_100 (by decide) rfl rfl ?_
              refine g_istore (lv' := [(5, .int (hr2 0 + hr2 1)), (4, .int (fsS (kd, fg, pl, hr) z k)), (0, .ref (ad 0)), (1, .int (nI n)), (3, .int (nI what))]) (pc := 103) dX12_seeded_103 (by decide) rfl ?_
              refine g_aload_n (q := 2) (pc := 105) dX12_seeded_105 rfl rfl ?_
              refine e_callVv (k2 := 0) (n2 := 0) (As := []) (rest := []) (pc := 106) (wM_0 hA) rfl (c_X12_ends hA) mlX12_195 selX12_X12_ends_X12_ends mX12_ends ⟨Nat.le_of_ble_eq_true rfl, Nat.le_of_ble_eq_true rfl⟩ rfl rfl (Nat.le_of_ble_eq_true rfl) dX12_seeded_106 (by decide) rfl rfl ?_
              refine g_iload_n (q := 4) (pc := 109) dX12_seeded_109 rfl rfl ?_
              refine g_if_ne_N (tgt := 118) (pc := 110) (by omega) dX12_seeded_110 (by decide) (fun c5 => ?_) (fun c5 => ?_)
              · -- T c5
                refine g_iload (q := 1) (pc := 118) dX12_seeded_118 rfl ?_
                exact g_iret (pc := 120) (by decide) (by decide) (gI hPo (by obtain rfl : k = n := (by omega); rw [spSeed, if_pos (by assumption), if_pos (by assumption), dN_N (by omega), dN_N (by omega), spSeedV, if_neg (by assumption)]) mxk) dX12_seeded_120
              · -- F c5
                refine g_iload (q := 0) (pc := 113) dX12_seeded_113 rfl ?_
                refine g_goto (tgt := 120) (pc := 115) dX12_seeded_115 (by decide) ?_
                exact g_iret (pc := 120) (by decide) (by decide) (gI hPo (by obtain rfl : k = n := (by omega); rw [spSeed, if_pos (by assumption), if_pos (by assumption), dN_N (by omega), dN_N (by omega), spSeedV, if_pos (by assumption), hsim]) mxk) dX12_seeded_120
            · -- F c4
              refine g_aload_n (q := 2) (pc := 57) dX12_seeded_57 rfl rfl ?_
              refine g_iconst (v := nI 2) (pc := 58) dX12_seeded_58 (by decide) ?_
              refine e_callV (k2 := 0) (n2 := 0) (As := [.int (nI 2)]) (rest := []) (pc := 59) (wM_0 hA) rfl (c_X12_drawn_2 hA) mlX12_226 selX12_X12_drawn_X12_drawn mX12_drawn ⟨Nat.le_of_ble_eq_true rfl, Nat.le_of_ble_eq_true rfl⟩ rfl rfl (Nat.le_of_ble_eq_true rfl) dX12_seeded_59 (by decide) rfl rfl ?_
              refine g_istore (lv' := [(6, .int (nI (drN (nextS z2) 2))), (5, .int (nI (k + 1))), (4, .int (fsS (kd, fg, pl, hr) z k)), (0, .ref (ad 0)), (1, .int (nI n)), (3, .int (nI what))]) (pc := 62) dX12_seeded_62 (by decide) rfl ?_
              refine g_aload_n (q := 3) (pc := 64) dX12_seeded_64 rfl rfl ?_
              refine g_iload (q := 0) (pc := 65) dX12_seeded_65 rfl ?_
              refine g_aload_n (q := 3) (pc := 67) dX12_seeded_67 rfl rfl ?_
              refine g_iconst (v := nI 4) (pc := 68) dX12_seeded_68 (by decide) ?_
              refine e_callV (k2 := 0) (n2 := 0) (As := [.int (nI 4)]) (rest := [.int (nI (drN (nextS z2) 2)), .ref (ad 0)]) (pc := 69) (wM_0 hA) rfl (c_X12_drawn_4 hA) mlX12_226 selX12_X12_drawn_X12_drawn mX12_drawn ⟨Nat.le_of_ble_eq_true rfl, Nat.le_of_ble_eq_true rfl⟩ rfl rfl (Nat.le_of_ble_eq_true rfl) dX12_seeded_69 (by decide) rfl rfl ?_
              rcases hd72 : nbo (pl2 (drN (nextS z2) 2)) (drN (nextS (nextS z2)) 4) with _ | u72
              · -- alt
                refine e_callV (k2 := 0) (n2 := 0) (As := [.int (nI (drN (nextS z2) 2)), .int (nI (drN (nextS (nextS z2)) 4))]) (rest := []) (pc := 72) (wM_0 hA) rfl (c_X12_digs_n hA ho2 (Nat.mod_lt _ (by decide)) (Nat.mod_lt _ (by decide)) hd72) mlX12_149 selX12_X12_digs_X12_digs mX12_digs ⟨Nat.le_of_ble_eq_true rfl, Nat.le_of_ble_eq_true rfl⟩ rfl rfl (Nat.le_of_ble_eq_true rfl) dX12_seeded_72 (by decide) rfl rfl ?_
                have hsn := (simS_s hsim).trans (congrArg (fun q => (q, _)) (digM_n hd72))
                have hon := ho2
                refine g_istore (lv' := [(7, .int (nI 0)), (6, .int (nI (drN (nextS z2) 2))), (5, .int (nI (k + 1))), (4, .int (fsS (kd, fg, pl, hr) z k)), (0, .ref (ad 0)), (1, .int (nI n)), (3, .int (nI what))]) (pc := 75) dX12_seeded_75 (by decide) rfl ?_
                refine g_iload (q := 3) (pc := 77) dX12_seeded_77 rfl ?_
                refine g_if_ge (tgt := 93) (pc := 79) dX12_seeded_79 (by decide) (fun c6 => ?_) (fun c6 => ?_)
                · -- T c6
                  rw [fs_f1 (k := k) (by rw [Int32.not_lt]; exact c6)]
                  refine g_iinc (q := 2) (lv' := [(5, .int (nI ((k + 1) + 1))), (7, .int (nI 0)), (6, .int (nI (drN (nextS z2) 2))), (4, .int (fsS (kd, fg, pl, hr) z (k + 1))), (0, .ref (ad 0)), (1, .int (nI n)), (3, .int (nI what))]) (pc := 93) dX12_seeded_93 rfl (nI_inc _ _) (by decide) rfl ?_
                  refine g_goto (tgt := 51) (pc := 96) dX12_seeded_96 (by decide) ?_
                  refine G.locals (L' := [(5, .int (nI ((k + 1) + 1))), (4, .int (fsS (kd, fg, pl, hr) z (k + 1))), (0, .ref (ad 0)), (1, .int (nI n)), (3, .int (nI what))]) [0, 3, 4, 5, 6] rfl ?_
                  exact ih51 (k + 1) (nextS (nextS z2)) kd2 fg2 pl2 hr2 (by omega) (by omega) hsn hon
                · -- F c6
                  have hf0 := Int32.not_le.mp c6
                  refine g_aload_n (q := 4) (pc := 82) dX12_seeded_82 rfl rfl ?_
                  refine e_callV (k2 := 0) (n2 := 0) (As := []) (rest := []) (pc := 83) (wM_0 hA) rfl (c_X12_haveMet hA hon) mlX12_170 selX12_X12_haveMet_X12_haveMet mX12_haveMet ⟨Nat.le_of_ble_eq_true rfl, Nat.le_of_ble_eq_true rfl⟩ rfl rfl (Nat.le_of_ble_eq_true rfl) dX12_seeded_83 (by decide) rfl rfl ?_
                  refine g_if_eq_B (tgt := 93) (pc := 86) dX12_seeded_86 (by decide) (fun c7 => ?_) (fun c7 => ?_)
                  · -- T c7
                    rw [fs_f2 (k := k) hsn c7]
                    refine g_iinc (q := 2) (lv' := [(5, .int (nI ((k + 1) + 1))), (7, .int (nI 0)), (6, .int (nI (drN (nextS z2) 2))), (4, .int (fsS (kd, fg, pl, hr) z (k + 1))), (0, .ref (ad 0)), (1, .int (nI n)), (3, .int (nI what))]) (pc := 93) dX12_seeded_93 rfl (nI_inc _ _) (by decide) rfl ?_
                    refine g_goto (tgt := 51) (pc := 96) dX12_seeded_96 (by decide) ?_
                    refine G.locals (L' := [(5, .int (nI ((k + 1) + 1))), (4, .int (fsS (kd, fg, pl, hr) z (k + 1))), (0, .ref (ad 0)), (1, .int (nI n)), (3, .int (nI what))]) [0, 3, 4, 5, 6] rfl ?_
                    exact ih51 (k + 1) (nextS (nextS z2)) kd2 fg2 pl2 hr2 (by omega) (by omega) hsn hon
                  · -- F c7
                    have hm0 := c7
                    refine g_iload (q := 2) (pc := 89) dX12_seeded_89 rfl ?_
                    refine g_top (x := nI (k + 1)) (y := fsS (kd, fg, pl, hr) z (k + 1)) (fs_t hf0 hsn hm0) ?_
                    refine g_istore (lv' := [(4, .int (fsS (kd, fg, pl, hr) z (k + 1))), (7, .int (nI 0)), (6, .int (nI (drN (nextS z2) 2))), (5, .int (nI (k + 1))), (0, .ref (ad 0)), (1, .int (nI n)), (3, .int (nI what))]) (pc := 91) dX12_seeded_91 (by decide) rfl ?_
                    refine g_iinc (q := 3) (lv' := [(5, .int (nI ((k + 1) + 1))), (4, .int (fsS (kd, fg, pl, hr) z (k + 1))), (7, .int (nI 0)), (6, .int (nI (drN (nextS z2) 2))), (0, .ref (ad 0)), (1, .int (nI n)), (3, .int (nI what))]) (pc := 93) dX12_seeded_93 rfl (nI_inc _ _) (by decide) rfl ?_
                    refine g_goto (tgt := 51) (pc := 96) dX12_seeded_96 (by decide) ?_
                    refine G.locals (L' := [(5, .int (nI ((k + 1) + 1))), (4, .int (fsS (kd, fg, pl, hr) z (k + 1))), (0, .ref (ad 0)), (1, .int (nI n)), (3, .int (nI what))]) [0, 1, 4, 5, 6] rfl ?_
                    exact ih51 (k + 1) (nextS (nextS z2)) kd2 fg2 pl2 hr2 (by omega) (by omega) hsn hon
              · -- alt
                have u72l := nbo_lt (c := pl2 (drN (nextS z2) 2)) (ho2.2 (drN (nextS z2) 2) (Nat.mod_lt _ (by decide))) hd72
                refine e_callV (k2 := 0) (n2 := 0) (As := [.int (nI (drN (nextS z2) 2)), .int (nI (drN (nextS (nextS z2)) 4))]) (rest := []) (pc := 72) (wM_0 hA) rfl (c_X12_digs_s hA ho2 (Nat.mod_lt _ (by decide)) (Nat.mod_lt _ (by decide)) hd72) mlX12_149 selX12_X12_digs_X12_digs mX12_digs ⟨Nat.le_of_ble_eq_true rfl, Nat.le_of_ble_eq_true rfl⟩ rfl rfl (Nat.le_of_ble_eq_true rfl) dX12_seeded_72 (by decide) rfl rfl ?_
                have hsn := (simS_s hsim).trans (congrArg (fun q => (q, _)) (digM_s hd72))
                have hon := okM_dig (g := drN (nextS z2) 2) ho2 u72l
                refine g_istore (lv' := [(7, .int (nI 1)), (6, .int (nI (drN (nextS z2) 2))), (5, .int (nI (k + 1))), (4, .int (fsS (kd, fg, pl, hr) z k)), (0, .ref (ad 0)), (1, .int (nI n)), (3, .int (nI what))]) (pc := 75) dX12_seeded_75 (by decide) rfl ?_
                refine g_iload (q := 3) (pc := 77) dX12_seeded_77 rfl ?_
                refine g_if_ge (tgt := 93) (pc := 79) dX12_seeded_79 (by decide) (fun c8 => ?_) (fun c8 => ?_)
                · -- T c8
                  rw [fs_f1 (k := k) (by rw [Int32.not_lt]; exact c8)]
                  refine g_iinc (q := 2) (lv' := [(5, .int (nI ((k + 1) + 1))), (7, .int (nI 1)), (6, .int (nI (drN (nextS z2) 2))), (4, .int (fsS (kd, fg, pl, hr) z (k + 1))), (0, .ref (ad 0)), (1, .int (nI n)), (3, .int (nI what))]) (pc := 93) dX12_seeded_93 rfl (nI_inc _ _) (by decide) rfl ?_
                  refine g_goto (tgt := 51) (pc := 96) dX12_seeded_96 (by decide) ?_
                  refine G.locals (L' := [(5, .int (nI ((k + 1) + 1))), (4, .int (fsS (kd, fg, pl, hr) z (k + 1))), (0, .ref (ad 0)), (1, .int (nI n)), (3, .int (nI what))]) [0, 3, 4, 5, 6] rfl ?_
                  exact ih51 (k + 1) (nextS (nextS z2)) (updN kd2 u72 7) (updN fg2 u72 0) (updN pl2 (drN (nextS z2) 2) u72) (upd hr2 (drN (nextS z2) 2) (hr2 (drN (nextS z2) 2) + nI (toilN (kd2 u72) (fg2 u72)))) (by omega) (by omega) hsn hon
                · -- F c8
                  have hf0 := Int32.not_le.mp c8
                  refine g_aload_n (q := 4) (pc := 82) dX12_seeded_82 rfl rfl ?_
                  refine e_callV (k2 := 0) (n2 := 0) (As := []) (rest := []) (pc := 83) (wM_0 hA) rfl (c_X12_haveMet hA hon) mlX12_170 selX12_X12_haveMet_X12_haveMet mX12_haveMet ⟨Nat.le_of_ble_eq_true rfl, Nat.le_of_ble_eq_true rfl⟩ rfl rfl (Nat.le_of_ble_eq_true rfl) dX12_seeded_83 (by decide) rfl rfl ?_
                  refine g_if_eq_B (tgt := 93) (pc := 86) dX12_seeded_86 (by decide) (fun c9 => ?_) (fun c9 => ?_)
                  · -- T c9
                    rw [fs_f2 (k := k) hsn c9]
                    refine g_iinc (q := 2) (lv' := [(5, .int (nI ((k + 1) + 1))), (7, .int (nI 1)), (6, .int (nI (drN (nextS z2) 2))), (4, .int (fsS (kd, fg, pl, hr) z (k + 1))), (0, .ref (ad 0)), (1, .int (nI n)), (3, .int (nI what))]) (pc := 93) dX12_seeded_93 rfl (nI_inc _ _) (by decide) rfl ?_
                    refine g_goto (tgt := 51) (pc := 96) dX12_seeded_96 (by decide) ?_
                    refine G.locals (L' := [(5, .int (nI ((k + 1) + 1))), (4, .int (fsS (kd, fg, pl, hr) z (k + 1))), (0, .ref (ad 0)), (1, .int (nI n)), (3, .int (nI what))]) [0, 3, 4, 5, 6] rfl ?_
                    exact ih51 (k + 1) (nextS (nextS z2)) (updN kd2 u72 7) (updN fg2 u72 0) (updN pl2 (drN (nextS z2) 2) u72) (upd hr2 (drN (nextS z2) 2) (hr2 (drN (nextS z2) 2) + nI (toilN (kd2 u72) (fg2 u72)))) (by omega) (by omega) hsn hon
                  · -- F c9
                    have hm0 := c9
                    refine g_iload (q := 2) (pc := 89) dX12_seeded_89 rfl ?_
                    refine g_top (x := nI (k + 1)) (y := fsS (kd, fg, pl, hr) z (k + 1)) (fs_t hf0 hsn hm0) ?_
                    refine g_istore (lv' := [(4, .int (fsS (kd, fg, pl, hr) z (k + 1))), (7, .int (nI 1)), (6, .int (nI (drN (nextS z2) 2))), (5, .int (nI (k + 1))), (0, .ref (ad 0)), (1, .int (nI n)), (3, .int (nI what))]) (pc := 91) dX12_seeded_91 (by decide) rfl ?_
                    refine g_iinc (q := 3) (lv' := [(5, .int (nI ((k + 1) + 1))), (4, .int (fsS (kd, fg, pl, hr) z (k + 1))), (7, .int (nI 1)), (6, .int (nI (drN (nextS z2) 2))), (0, .ref (ad 0)), (1, .int (nI n)), (3, .int (nI what))]) (pc := 93) dX12_seeded_93 rfl (nI_inc _ _) (by decide) rfl ?_
                    refine g_goto (tgt := 51) (pc := 96) dX12_seeded_96 (by decide) ?_
                    refine G.locals (L' := [(5, .int (nI ((k + 1) + 1))), (4, .int (fsS (kd, fg, pl, hr) z (k + 1))), (0, .ref (ad 0)), (1, .int (nI n)), (3, .int (nI what))]) [0, 1, 4, 5, 6] rfl ?_
                    exact ih51 (k + 1) (nextS (nextS z2)) (updN kd2 u72 7) (updN fg2 u72 0) (updN pl2 (drN (nextS z2) 2) u72) (upd hr2 (drN (nextS z2) 2) (hr2 (drN (nextS z2) 2) + nI (toilN (kd2 u72) (fg2 u72)))) (by omega) (by omega) hsn hon
        refine G.locals (L' := [(5, .int (nI 1)), (4, .int (fsS (kd, fg, pl, hr) z 0)), (0, .ref (ad 0)), (1, .int (nI n)), (3, .int (nI what))]) [0, 1, 2, 3, 5] rfl ?_
        exact lp51 (n + 1) 0 z kd fg pl hr (by omega) (by omega) rfl ho
      · -- F c3
        refine g_iconst (v := nI 0) (pc := 40) dX12_seeded_40 (by decide) ?_
        refine g_goto (tgt := 46) (pc := 41) dX12_seeded_41 (by decide) ?_
        refine g_top (x := nI 0) (y := fsS (kd, fg, pl, hr) z 0) (by rw [fsS, if_pos (by assumption)]) ?_
        refine g_istore (lv' := [(4, .int (fsS (kd, fg, pl, hr) z 0)), (0, .ref (ad 0)), (1, .int (nI n)), (2, .int z), (3, .int (nI what))]) (pc := 46) dX12_seeded_46 (by decide) rfl ?_
        refine g_iconst (v := nI 1) (pc := 48) dX12_seeded_48 (by decide) ?_
        refine g_istore (lv' := [(5, .int (nI 1)), (4, .int (fsS (kd, fg, pl, hr) z 0)), (0, .ref (ad 0)), (1, .int (nI n)), (2, .int z), (3, .int (nI what))]) (pc := 49) dX12_seeded_49 (by decide) rfl ?_
        have lp51 : ∀ (d51 : Nat) (k : Nat) (z2 : Int32) (kd2 : Nat → Nat) (fg2 : Nat → Nat) (pl2 : Nat → Nat) (hr2 : Nat → Int32), k + d51 = n + 1 → (k ≤ n) → (simS (kd, fg, pl, hr) z k = ((kd2, fg2, pl2, hr2), z2)) → (okM kd2 fg2 pl2) → G l D Z b0 rmX12_seeded RX12 cX12_seeded 8 (gE (some .int) "seeded") (gT D b0 Po rmX12_seeded.cells rmX12_seeded.slots) (wM Z ad hi th po ba en z2 (enc kd2 fg2 pl2 hr2) im rd (enc kd fg pl hr) (nf kp) (nf so) (nf sz) el ki kf ti lo wa nu li to ot V) [(5, .int (nI (k + 1))), (4, .int (fsS (kd, fg, pl, hr) z k)), (0, .ref (ad 0)), (1, .int (nI n)), (3, .int (nI what))] 0 0 51 [] := by
          intro d51
          induction d51 with
          | zero =>
            intro k z2 kd2 fg2 pl2 hr2 hd51 hkn hsim ho2
            exact absurd hd51 (by omega)
          | succ d51 ih51 =>
            intro k z2 kd2 fg2 pl2 hr2 hd51 hkn hsim ho2
            refine g_iload (q := 0) (pc := 51) dX12_seeded_51 rfl ?_
            refine g_iload_n (q := 3) (pc := 53) dX12_seeded_53 rfl rfl ?_
            refine g_icmp_gt_N (tgt := 99) (pc := 54) (by omega) (by omega) dX12_seeded_54 (by decide) (fun c10 => ?_) (fun c10 => ?_)
            · -- T c10
              refine g_aload_n (q := 2) (pc := 99) dX12_seeded_99 rfl rfl ?_
              refine e_callV (k2 := 0) (n2 := 0) (As := []) (rest := []) (pc := 100) (wM_0 hA) rfl (c_X12_hours hA) mlX12_229 selX12_X12_hours_X12_hours mX12_hours ⟨Nat.le_of_ble_eq_true rfl, Nat.le_of_ble_eq_true rfl⟩ rfl rfl (Nat.le_of_ble_eq_true rfl) dX12_seeded_100 (by decide) rfl rfl ?_
              refine g_istore (lv' := [(5, .int (hr2 0 + hr2 1)), (4, .int (fsS (kd, fg, pl, hr) z k)), (0, .ref (ad 0)), (1, .int (nI n)), (3, .int (nI what))]) (pc := 103) dX12_seeded_103 (by decide) rfl ?_
              refine g_aload_n (q := 2) (pc := 105) dX12_seeded_105 rfl rfl ?_
              refine e_callVv (k2 := 0) (n2 := 0) (As := []) (rest := []) (pc := 106) (wM_0 hA) rfl (c_X12_ends hA) mlX12_195 selX12_X12_ends_X12_ends mX12_ends ⟨Nat.le_of_ble_eq_true rfl, Nat.le_of_ble_eq_true rfl⟩ rfl rfl (Nat.le_of_ble_eq_true rfl) dX12_seeded_106 (by decide) rfl rfl ?_
              refine g_iload_n (q := 4) (pc := 109) dX12_seeded_109 rfl rfl ?_
              refine g_if_ne_N (tgt := 118) (pc := 110) (by omega) dX12_seeded_110 (by decide) (fun c11 => ?_) (fun c11 => ?_)
              · -- T c11
                refine g_iload (q := 1) (pc := 118) dX12_seeded_118 rfl ?_
                exact g_iret (pc := 120) (by decide) (by decide) (gI hPo (by obtain rfl : k = n := (by omega); rw [spSeed, if_pos (by assumption), if_pos (by assumption), dN_N (by omega), dN_N (by omega), spSeedV, if_neg (by assumption)]) mxk) dX12_seeded_120
              · -- F c11
                refine g_iload (q := 0) (pc := 113) dX12_seeded_113 rfl ?_
                refine g_goto (tgt := 120) (pc := 115) dX12_seeded_115 (by decide) ?_
                exact g_iret (pc := 120) (by decide) (by decide) (gI hPo (by obtain rfl : k = n := (by omega); rw [spSeed, if_pos (by assumption), if_pos (by assumption), dN_N (by omega), dN_N (by omega), spSeedV, if_pos (by assumption), hsim]) mxk) dX12_seeded_120
            · -- F c10
              refine g_aload_n (q := 2) (pc := 57) dX12_seeded_57 rfl rfl ?_
              refine g_iconst (v := nI 2) (pc := 58) dX12_seeded_58 (by decide) ?_
              refine e_callV (k2 := 0) (n2 := 0) (As := [.int (nI 2)]) (rest := []) (pc := 59) (wM_0 hA) rfl (c_X12_drawn_2 hA) mlX12_226 selX12_X12_drawn_X12_drawn mX12_drawn ⟨Nat.le_of_ble_eq_true rfl, Nat.le_of_ble_eq_true rfl⟩ rfl rfl (Nat.le_of_ble_eq_true rfl) dX12_seeded_59 (by decide) rfl rfl ?_
              refine g_istore (lv' := [(6, .int (nI (drN (nextS z2) 2))), (5, .int (nI (k + 1))), (4, .int (fsS (kd, fg, pl, hr) z k)), (0, .ref (ad 0)), (1, .int (nI n)), (3, .int (nI what))]) (pc := 62) dX12_seeded_62 (by decide) rfl ?_
              refine g_aload_n (q := 3) (pc := 64) dX12_seeded_64 rfl rfl ?_
              refine g_iload (q := 0) (pc := 65) dX12_seeded_65 rfl ?_
              refine g_aload_n (q := 3) (pc := 67) dX12_seeded_67 rfl rfl ?_
              refine g_iconst (v := nI 4) (pc := 68) dX12_seeded_68 (by decide) ?_
              refine e_callV (k2 := 0) (n2 := 0) (As := [.int (nI 4)]) (rest := [.int (nI (drN (nextS z2) 2)), .ref (ad 0)]) (pc := 69) (wM_0 hA) rfl (c_X12_drawn_4 hA) mlX12_226 selX12_X12_drawn_X12_drawn mX12_drawn ⟨Nat.le_of_ble_eq_true rfl, Nat.le_of_ble_eq_true rfl⟩ rfl rfl (Nat.le_of_ble_eq_true rfl) dX12_seeded_69 (by decide) rfl rfl ?_
              rcases hd72 : nbo (pl2 (drN (nextS z2) 2)) (drN (nextS (nextS z2)) 4) with _ | u72
              · -- alt
                refine e_callV (k2 := 0) (n2 := 0) (As := [.int (nI (drN (nextS z2) 2)), .int (nI (drN (nextS (nextS z2)) 4))]) (rest := []) (pc := 72) (wM_0 hA) rfl (c_X12_digs_n hA ho2 (Nat.mod_lt _ (by decide)) (Nat.mod_lt _ (by decide)) hd72) mlX12_149 selX12_X12_digs_X12_digs mX12_digs ⟨Nat.le_of_ble_eq_true rfl, Nat.le_of_ble_eq_true rfl⟩ rfl rfl (Nat.le_of_ble_eq_true rfl) dX12_seeded_72 (by decide) rfl rfl ?_
                have hsn := (simS_s hsim).trans (congrArg (fun q => (q, _)) (digM_n hd72))
                have hon := ho2
                refine g_istore (lv' := [(7, .int (nI 0)), (6, .int (nI (drN (nextS z2) 2))), (5, .int (nI (k + 1))), (4, .int (fsS (kd, fg, pl, hr) z k)), (0, .ref (ad 0)), (1, .int (nI n)), (3, .int (nI what))]) (pc := 75) dX12_seeded_75 (by decide) rfl ?_
                refine g_iload (q := 3) (pc := 77) dX12_seeded_77 rfl ?_
                refine g_if_ge (tgt := 93) (pc := 79) dX12_seeded_79 (by decide) (fun c12 => ?_) (fun c12 => ?_)
                · -- T c12
                  rw [fs_f1 (k := k) (by rw [Int32.not_lt]; exact c12)]
                  refine g_iinc (q := 2) (lv' := [(5, .int (nI ((k + 1) + 1))), (7, .int (nI 0)), (6, .int (nI (drN (nextS z2) 2))), (4, .int (fsS (kd, fg, pl, hr) z (k + 1))), (0, .ref (ad 0)), (1, .int (nI n)), (3, .int (nI what))]) (pc := 93) dX12_seeded_93 rfl (nI_inc _ _) (by decide) rfl ?_
                  refine g_goto (tgt := 51) (pc := 96) dX12_seeded_96 (by decide) ?_
                  refine G.locals (L' := [(5, .int (nI ((k + 1) + 1))), (4, .int (fsS (kd, fg, pl, hr) z (k + 1))), (0, .ref (ad 0)), (1, .int (nI n)), (3, .int (nI what))]) [0, 3, 4, 5, 6] rfl ?_
                  exact ih51 (k + 1) (nextS (nextS z2)) kd2 fg2 pl2 hr2 (by omega) (by omega) hsn hon
                · -- F c12
                  have hf0 := Int32.not_le.mp c12
                  refine g_aload_n (q := 4) (pc := 82) dX12_seeded_82 rfl rfl ?_
                  refine e_callV (k2 := 0) (n2 := 0) (As := []) (rest := []) (pc := 83) (wM_0 hA) rfl (c_X12_haveMet hA hon) mlX12_170 selX12_X12_haveMet_X12_haveMet mX12_haveMet ⟨Nat.le_of_ble_eq_true rfl, Nat.le_of_ble_eq_true rfl⟩ rfl rfl (Nat.le_of_ble_eq_true rfl) dX12_seeded_83 (by decide) rfl rfl ?_
                  refine g_if_eq_B (tgt := 93) (pc := 86) dX12_seeded_86 (by decide) (fun c13 => ?_) (fun c13 => ?_)
                  · -- T c13
                    rw [fs_f2 (k := k) hsn c13]
                    refine g_iinc (q := 2) (lv' := [(5, .int (nI ((k + 1) + 1))), (7, .int (nI 0)), (6, .int (nI (drN (nextS z2) 2))), (4, .int (fsS (kd, fg, pl, hr) z (k + 1))), (0, .ref (ad 0)), (1, .int (nI n)), (3, .int (nI what))]) (pc := 93) dX12_seeded_93 rfl (nI_inc _ _) (by decide) rfl ?_
                    refine g_goto (tgt := 51) (pc := 96) dX12_seeded_96 (by decide) ?_
                    refine G.locals (L' := [(5, .int (nI ((k + 1) + 1))), (4, .int (fsS (kd, fg, pl, hr) z (k + 1))), (0, .ref (ad 0)), (1, .int (nI n)), (3, .int (nI what))]) [0, 3, 4, 5, 6] rfl ?_
                    exact ih51 (k + 1) (nextS (nextS z2)) kd2 fg2 pl2 hr2 (by omega) (by omega) hsn hon
                  · -- F c13
                    have hm0 := c13
                    refine g_iload (q := 2) (pc := 89) dX12_seeded_89 rfl ?_
                    refine g_top (x := nI (k + 1)) (y := fsS (kd, fg, pl, hr) z (k + 1)) (fs_t hf0 hsn hm0) ?_
                    refine g_istore (lv' := [(4, .int (fsS (kd, fg, pl, hr) z (k + 1))), (7, .int (nI 0)), (6, .int (nI (drN (nextS z2) 2))), (5, .int (nI (k + 1))), (0, .ref (ad 0)), (1, .int (nI n)), (3, .int (nI what))]) (pc := 91) dX12_seeded_91 (by decide) rfl ?_
                    refine g_iinc (q := 3) (lv' := [(5, .int (nI ((k + 1) + 1))), (4, .int (fsS (kd, fg, pl, hr) z (k + 1))), (7, .int (nI 0)), (6, .int (nI (drN (nextS z2) 2))), (0, .ref (ad 0)), (1, .int (nI n)), (3, .int (nI what))]) (pc := 93) dX12_seeded_93 rfl (nI_inc _ _) (by decide) rfl ?_
                    refine g_goto (tgt := 51) (pc := 96) dX12_seeded_96 (by decide) ?_
                    refine G.locals (L' := [(5, .int (nI ((k + 1) + 1))), (4, .int (fsS (kd, fg, pl, hr) z (k + 1))), (0, .ref (ad 0)), (1, .int (nI n)), (3, .int (nI what))]) [0, 1, 4, 5, 6] rfl ?_
                    exact ih51 (k + 1) (nextS (nextS z2)) kd2 fg2 pl2 hr2 (by omega) (by omega) hsn hon
              · -- alt
                have u72l := nbo_lt (c := pl2 (drN (nextS z2) 2)) (ho2.2 (drN (nextS z2) 2) (Nat.mod_lt _ (by decide))) hd72
                refine e_callV (k2 := 0) (n2 := 0) (As := [.int (nI (drN (nextS z2) 2)), .int (nI (drN (nextS (nextS z2)) 4))]) (rest := []) (pc := 72) (wM_0 hA) rfl (c_X12_digs_s hA ho2 (Nat.mod_lt _ (by decide)) (Nat.mod_lt _ (by decide)) hd72) mlX12_149 selX12_X12_digs_X12_digs mX12_digs ⟨Nat.le_of_ble_eq_true rfl, Nat.le_of_ble_eq_true rfl⟩ rfl rfl (Nat.le_of_ble_eq_true rfl) dX12_seeded_72 (by decide) rfl rfl ?_
                have hsn := (simS_s hsim).trans (congrArg (fun q => (q, _)) (digM_s hd72))
                have hon := okM_dig (g := drN (nextS z2) 2) ho2 u72l
                refine g_istore (lv' := [(7, .int (nI 1)), (6, .int (nI (drN (nextS z2) 2))), (5, .int (nI (k + 1))), (4, .int (fsS (kd, fg, pl, hr) z k)), (0, .ref (ad 0)), (1, .int (nI n)), (3, .int (nI what))]) (pc := 75) dX12_seeded_75 (by decide) rfl ?_
                refine g_iload (q := 3) (pc := 77) dX12_seeded_77 rfl ?_
                refine g_if_ge (tgt := 93) (pc := 79) dX12_seeded_79 (by decide) (fun c14 => ?_) (fun c14 => ?_)
                · -- T c14
                  rw [fs_f1 (k := k) (by rw [Int32.not_lt]; exact c14)]
                  refine g_iinc (q := 2) (lv' := [(5, .int (nI ((k + 1) + 1))), (7, .int (nI 1)), (6, .int (nI (drN (nextS z2) 2))), (4, .int (fsS (kd, fg, pl, hr) z (k + 1))), (0, .ref (ad 0)), (1, .int (nI n)), (3, .int (nI what))]) (pc := 93) dX12_seeded_93 rfl (nI_inc _ _) (by decide) rfl ?_
                  refine g_goto (tgt := 51) (pc := 96) dX12_seeded_96 (by decide) ?_
                  refine G.locals (L' := [(5, .int (nI ((k + 1) + 1))), (4, .int (fsS (kd, fg, pl, hr) z (k + 1))), (0, .ref (ad 0)), (1, .int (nI n)), (3, .int (nI what))]) [0, 3, 4, 5, 6] rfl ?_
                  exact ih51 (k + 1) (nextS (nextS z2)) (updN kd2 u72 7) (updN fg2 u72 0) (updN pl2 (drN (nextS z2) 2) u72) (upd hr2 (drN (nextS z2) 2) (hr2 (drN (nextS z2) 2) + nI (toilN (kd2 u72) (fg2 u72)))) (by omega) (by omega) hsn hon
                · -- F c14
                  have hf0 := Int32.not_le.mp c14
                  refine g_aload_n (q := 4) (pc := 82) dX12_seeded_82 rfl rfl ?_
                  refine e_callV (k2 := 0) (n2 := 0) (As := []) (rest := []) (pc := 83) (wM_0 hA) rfl (c_X12_haveMet hA hon) mlX12_170 selX12_X12_haveMet_X12_haveMet mX12_haveMet ⟨Nat.le_of_ble_eq_true rfl, Nat.le_of_ble_eq_true rfl⟩ rfl rfl (Nat.le_of_ble_eq_true rfl) dX12_seeded_83 (by decide) rfl rfl ?_
                  refine g_if_eq_B (tgt := 93) (pc := 86) dX12_seeded_86 (by decide) (fun c15 => ?_) (fun c15 => ?_)
                  · -- T c15
                    rw [fs_f2 (k := k) hsn c15]
                    refine g_iinc (q := 2) (lv' := [(5, .int (nI ((k + 1) + 1))), (7, .int (nI 1)), (6, .int (nI (drN (nextS z2) 2))), (4, .int (fsS (kd, fg, pl, hr) z (k + 1))), (0, .ref (ad 0)), (1, .int (nI n)), (3, .int (nI what))]) (pc := 93) dX12_seeded_93 rfl (nI_inc _ _) (by decide) rfl ?_
                    refine g_goto (tgt := 51) (pc := 96) dX12_seeded_96 (by decide) ?_
                    refine G.locals (L' := [(5, .int (nI ((k + 1) + 1))), (4, .int (fsS (kd, fg, pl, hr) z (k + 1))), (0, .ref (ad 0)), (1, .int (nI n)), (3, .int (nI what))]) [0, 3, 4, 5, 6] rfl ?_
                    exact ih51 (k + 1) (nextS (nextS z2)) (updN kd2 u72 7) (updN fg2 u72 0) (updN pl2 (drN (nextS z2) 2) u72) (upd hr2 (drN (nextS z2) 2) (hr2 (drN (nextS z2) 2) + nI (toilN (kd2 u72) (fg2 u72)))) (by omega) (by omega) hsn hon
                  · -- F c15
                    have hm0 := c15
                    refine g_iload (q := 2) (pc := 89) dX12_seeded_89 rfl ?_
                    refine g_top (x := nI (k + 1)) (y := fsS (kd, fg, pl, hr) z (k + 1)) (fs_t hf0 hsn hm0) ?_
                    refine g_istore (lv' := [(4, .int (fsS (kd, fg, pl, hr) z (k + 1))), (7, .int (nI 1)), (6, .int (nI (drN (nextS z2) 2))), (5, .int (nI (k + 1))), (0, .ref (ad 0)), (1, .int (nI n)), (3, .int (nI what))]) (pc := 91) dX12_seeded_91 (by decide) rfl ?_
                    refine g_iinc (q := 3) (lv' := [(5, .int (nI ((k + 1) + 1))), (4, .int (fsS (kd, fg, pl, hr) z (k + 1))), (7, .int (nI 1)), (6, .int (nI (drN (nextS z2) 2))), (0, .ref (ad 0)), (1, .int (nI n)), (3, .int (nI what))]) (pc := 93) dX12_seeded_93 rfl (nI_inc _ _) (by decide) rfl ?_
                    refine g_goto (tgt := 51) (pc := 96) dX12_seeded_96 (by decide) ?_
                    refine G.locals (L' := [(5, .int (nI ((k + 1) + 1))), (4, .int (fsS (kd, fg, pl, hr) z (k + 1))), (0, .ref (ad 0)), (1, .int (nI n)), (3, .int (nI what))]) [0, 1, 4, 5, 6] rfl ?_
                    exact ih51 (k + 1) (nextS (nextS z2)) (updN kd2 u72 7) (updN fg2 u72 0) (updN pl2 (drN (nextS z2) 2) u72) (upd hr2 (drN (nextS z2) 2) (hr2 (drN (nextS z2) 2) + nI (toilN (kd2 u72) (fg2 u72)))) (by omega) (by omega) hsn hon
        refine G.locals (L' := [(5, .int (nI 1)), (4, .int (fsS (kd, fg, pl, hr) z 0)), (0, .ref (ad 0)), (1, .int (nI n)), (3, .int (nI what))]) [0, 1, 2, 3, 5] rfl ?_
        exact lp51 (n + 1) 0 z kd fg pl hr (by omega) (by omega) rfl ho
    · -- F c2
      refine g_iconst (v := (-1)) (pc := 22) dX12_seeded_22 (by decide) ?_
      exact g_iret (pc := 23) (by decide) (by decide) (gI hPo (by rw [spSeed, if_pos (by assumption), if_neg (by simp [*])]) mxk) dX12_seeded_23
end MS
