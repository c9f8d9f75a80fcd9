section MS
variable {l : Launch} {D : va_G} {Z : Nat → ClassId} {b0 : Nat} {ad : Nat → Nat} {hi th po ba en se : Int32} {s im rd mi el ki kf ti lo wa nu li to ot : Nat → Int32} {kd fg pl kp so sz ikd ifg ipl : Nat → Nat} {hr ihr : Nat → Int32} {V : HV}
def wrC (i e j n k q : Nat) : Prop := (j < i ∧ 100 * e + j ≤ q ∧ q < 100 * e + j + k) ∨ (i ≤ j ∧ 100 * e + j + n ≤ q + k ∧ q < 100 * e + j + n)
def CP (el : Nat → Int32) (d i e j n k : Nat) (h : Nat → Int32) : Prop := ∀ q, (wrC i e j n k q → h q = el (100 * d + i + (q - (100 * e + j)))) ∧ (¬ wrC i e j n k q → h q = el q)
theorem CP.ini {el : Nat → Int32} {d i e j n : Nat} : CP el d i e j n 0 el := fun q => ⟨fun h => by unfold wrC at h; omega, fun _ => rfl⟩
theorem CP.up {el h : Nat → Int32} {d i e j n k : Nat} (hi : i + n ≤ 100) (hj : j + n ≤ 100) (hk : k < n) (hc : CP el d i e j n k h) (hij : j < i) : CP el d i e j n (k + 1) (upd h (((100 * e) + j) + k) (h (((100 * d) + i) + k))) := fun q => by
  have hs : h (100 * d + i + k) = el (100 * d + i + k) := (hc _).2 (by unfold wrC; omega)
  refine ⟨fun hw => ?_, fun hw => ?_⟩
  · by_cases z : q = 100 * e + j + k
    · subst z; rw [upd_eq, hs]; congr 1; omega
    · rw [upd_ne z]; exact (hc q).1 (by unfold wrC at *; omega)
  · rw [upd_ne (by unfold wrC at hw; omega)]; exact (hc q).2 (by unfold wrC at *; omega)
theorem CP.dn {el h : Nat → Int32} {d i e j n k : Nat} (hi : i + n ≤ 100) (hj : j + n ≤ 100) (hk : k < n) (hc : CP el d i e j n k h) (hij : i ≤ j) : CP el d i e j n (k + 1) (upd h (((100 * e) + j) + ((n - 1) - k)) (h (((100 * d) + i) + ((n - 1) - k)))) := fun q => by
  have hs : h (100 * d + i + (n - 1 - k)) = el (100 * d + i + (n - 1 - k)) := (hc _).2 (by unfold wrC; omega)
  refine ⟨fun hw => ?_, fun hw => ?_⟩
  · by_cases z : q = 100 * e + j + (n - 1 - k)
    · subst z; rw [upd_eq, hs]; congr 1; omega
    · rw [upd_ne z]; exact (hc q).1 (by unfold wrC at *; omega)
  · rw [upd_ne (by unfold wrC at hw; omega)]; exact (hc q).2 (by unfold wrC at *; omega)
theorem CP.fin {el h : Nat → Int32} {d i e j n k : Nat} (hc : CP el d i e j n k h) (hk : k = n) (q : Nat) : h q = cpy el d i e j n q := by
  subst hk
  unfold cpy
  by_cases z : 100 * e + j ≤ q ∧ q < 100 * e + j + k
  · rw [if_pos z]; exact (hc q).1 (by unfold wrC; omega)
  · rw [if_neg z]; exact (hc q).2 (by unfold wrC; omega)
def rCopy (kp so : Nat → Nat) (d e : Int32) : Int32 := if inR d 8 = true then (if inR e 8 = true then (if kp (dN d) = 0 then (-11) else if kp (dN e) = 0 then (-11) else if kp (dN d) = 2 then (if kp (dN e) = 2 then (if so (dN d) = so (dN e) then (-13) else (-12)) else (-12)) else (-12)) else (-1)) else (-1)
def okCopy (kp so sz : Nat → Nat) (d i e j n : Int32) : Prop := inR d 8 = true ∧ inR e 8 = true ∧ kp (dN d) = 2 ∧ kp (dN e) = 2 ∧ so (dN d) = so (dN e) ∧ ¬ n < 0 ∧ ¬ i < 0 ∧ ¬ j < 0 ∧ n ≤ nI (sz (dN d)) - i ∧ n ≤ nI (sz (dN e)) - j
def spSafeG (kp so sz : Nat → Nat) (d e what : Int32) : Int32 := if inR d 8 = true then (if inR e 9 = true then (if inR what 2 = true then (if spWR kp so d (some 0) = 0 then (if sz (dN d) ≤ 8 then nI 0 else (-13)) else spWR kp so d (some 0)) else (-1)) else (-1)) else (-1)
def spListenG (kp so sz : Nat → Nat) (el : Nat → Int32) (d what : Int32) : Int32 := if inR d 8 = true then (if inR what 2 = true then (if spWR kp so d (some 0) = 0 then (if sz (dN d) ≤ 20 then (if cellsB el (dN d) 1 (sz (dN d)) = true then nI 0 else (-13)) else (-13)) else spWR kp so d (some 0)) else (-1)) else (-1)
theorem cellsStep1 {el : Nat → Int32} {d i : Nat} (h : ∀ q, q < i → q % 1 = 0 → inR (el (100 * d + q)) 20 = true) (h1 : inR (el (100 * d + i)) 20 = true) : ∀ q, q < i + 1 → q % 1 = 0 → inR (el (100 * d + q)) 20 = true := fun q hq hm => by
  by_cases z : q = i
  · subst z; exact h1
  · exact h q (by omega) hm
def rmX12_copy : Room := { frames := 2, cells := 0, slots := 0, locals := 45 }
set_option maxHeartbeats 8000000 in
theorem c_X12_copy_s {d i e j n : Nat} (hA : aB b0 18 ad) (hs : okS kp so sz ki kf) (hd : d < 8) (he : e < 8) (hk : kp d = 2) (hke : kp e = 2) (hso : so d = so e) (hin : i + n ≤ sz d) (hjn : j + n ≤ sz e) : KE l D Z b0 yX12_copy cX12_copy 8 (some .int) rmX12_copy [.ref (ad 0), .int (nI d), .int (nI i), .int (nI e), .int (nI j), .int (nI n)] (wM Z ad hi th po ba en se (enc kd fg pl hr) im rd mi (nf kp) (nf so) (nf sz) el ki kf ti lo wa nu li to ot V) (some (.int (nI n))) (wM Z ad hi th po ba en se (enc kd fg pl hr) im rd mi (nf kp) (nf so) (nf sz) (cpy el d i e j n) ki kf ti lo wa nu li to ot V) := by
  refine KE.of (by decide) (Nat.le_of_ble_eq_true rfl) (fun Po hPo => ?_)
  refine G.locals (L' := [(0, .ref (ad 0)), (1, .int (nI d)), (2, .int (nI i)), (3, .int (nI e)), (4, .int (nI j)), (5, .int (nI n))]) [0, 1, 2, 3, 4, 5] rfl ?_
  refine g_iload_n (q := 1) (pc := 0) dX12_copy_0 rfl rfl ?_
  refine e_callS (k2 := 0) (n2 := 0) (As := [.int (nI d)]) (rest := []) (pc := 1) (c_X12_isShelfN hA (by omega) (c_X12_isShelf hA)) mlX12_152 mX12_isShelf ⟨Nat.le_of_ble_eq_true rfl, Nat.le_of_ble_eq_true rfl⟩ rfl rfl (Nat.le_of_ble_eq_true rfl) dX12_copy_1 (by decide) rfl rfl ?_
  refine g_if_eq_B (tgt := 14) (pc := 4) dX12_copy_4 (by decide) (fun c1 => ?_) (fun c1 => ?_)
  · -- T c1
    exact absurd (of_decide_eq_false c1) (by omega)
  · -- F c1
    have c1 := of_decide_eq_true c1
    refine g_iload_n (q := 3) (pc := 7) dX12_copy_7 rfl rfl ?_
    refine e_callS (k2 := 0) (n2 := 0) (As := [.int (nI e)]) (rest := []) (pc := 8) (c_X12_isShelfN hA (by omega) (c_X12_isShelf hA)) mlX12_152 mX12_isShelf ⟨Nat.le_of_ble_eq_true rfl, Nat.le_of_ble_eq_true rfl⟩ rfl rfl (Nat.le_of_ble_eq_true rfl) dX12_copy_8 (by decide) rfl rfl ?_
    refine g_if_ne_B (tgt := 16) (pc := 11) dX12_copy_11 (by decide) (fun c2 => ?_) (fun c2 => ?_)
    · -- T c2
      have c2 := of_decide_eq_true c2
      refine g_aload_n (q := 0) (pc := 16) dX12_copy_16 rfl rfl ?_
      refine gm_get_kp (pc := 17) hA dX12_copy_17 ?_
      refine g_iload_n (q := 1) (pc := 20) dX12_copy_20 rfl rfl ?_
      refine gm_ld_kp (pc := 21) (j := d) (x := nI (kp d)) hA hd rfl dX12_copy_21 ?_
      refine g_if_eq_N (tgt := 34) (pc := 22) (by have := hs d hd; omega) dX12_copy_22 (by decide) (fun c3 => ?_) (fun c3 => ?_)
      · -- T c3
        exact absurd (hk.symm.trans c3) (by decide)
      · -- F c3
        refine g_aload_n (q := 0) (pc := 25) dX12_copy_25 rfl rfl ?_
        refine gm_get_kp (pc := 26) hA dX12_copy_26 ?_
        refine g_iload_n (q := 3) (pc := 29) dX12_copy_29 rfl rfl ?_
        refine gm_ld_kp (pc := 30) (j := e) (x := nI (kp e)) hA he rfl dX12_copy_30 ?_
        refine g_if_ne_N (tgt := 37) (pc := 31) (by have := hs e he; omega) dX12_copy_31 (by decide) (fun c4 => ?_) (fun c4 => ?_)
        · -- T c4
          refine g_aload_n (q := 0) (pc := 37) dX12_copy_37 rfl rfl ?_
          refine gm_get_kp (pc := 38) hA dX12_copy_38 ?_
          refine g_iload_n (q := 1) (pc := 41) dX12_copy_41 rfl rfl ?_
          refine gm_ld_kp (pc := 42) (j := d) (x := nI (kp d)) hA hd rfl dX12_copy_42 ?_
          refine g_iconst (v := nI 2) (pc := 43) dX12_copy_43 (by decide) ?_
          refine g_icmp_ne_N (tgt := 72) (pc := 44) (by have := hs d hd; omega) (by have h8 := (hs d hd).2.2.1; have h9 := (hs e he).2.2.1; omega) dX12_copy_44 (by decide) (fun c5 => ?_) (fun c5 => ?_)
          · -- T c5
            exact absurd hk c5
          · -- F c5
            refine g_aload_n (q := 0) (pc := 47) dX12_copy_47 rfl rfl ?_
            refine gm_get_kp (pc := 48) hA dX12_copy_48 ?_
            refine g_iload_n (q := 3) (pc := 51) dX12_copy_51 rfl rfl ?_
            refine gm_ld_kp (pc := 52) (j := e) (x := nI (kp e)) hA he rfl dX12_copy_52 ?_
            refine g_iconst (v := nI 2) (pc := 53) dX12_copy_53 (by decide) ?_
            refine g_icmp_ne_N (tgt := 72) (pc := 54) (by have := hs e he; omega) (by have h8 := (hs d hd).2.2.1; have h9 := (hs e he).2.2.1; omega) dX12_copy_54 (by decide) (fun c6 => ?_) (fun c6 => ?_)
            · -- T c6
              exact absurd hke c6
            · -- F c6
              refine g_aload_n (q := 0) (pc := 57) dX12_copy_57 rfl rfl ?_
              refine gm_get_so (pc := 58) hA dX12_copy_58 ?_
              refine g_iload_n (q := 1) (pc := 61) dX12_copy_61 rfl rfl ?_
              refine gm_ld_so (pc := 62) (j := d) (x := nI (so d)) hA hd rfl dX12_copy_62 ?_
              refine g_aload_n (q := 0) (pc := 63) dX12_copy_63 rfl rfl ?_
              refine gm_get_so (pc := 64) hA dX12_copy_64 ?_
              refine g_iload_n (q := 3) (pc := 67) dX12_copy_67 rfl rfl ?_
              refine gm_ld_so (pc := 68) (j := e) (x := nI (so e)) hA he rfl dX12_copy_68 ?_
              refine g_icmp_eq_N (tgt := 75) (pc := 69) (by have := hs d hd; omega) (by have := hs e he; omega) dX12_copy_69 (by decide) (fun c7 => ?_) (fun c7 => ?_)
              · -- T c7
                refine g_iload (q := 5) (pc := 75) dX12_copy_75 rfl ?_
                refine g_if_lt_N (tgt := 116) (pc := 77) (by have h8 := (hs d hd).2.2.1; have h9 := (hs e he).2.2.1; omega) dX12_copy_77 (by decide) ?_
                refine g_iload_n (q := 2) (pc := 80) dX12_copy_80 rfl rfl ?_
                refine g_if_lt_N (tgt := 116) (pc := 81) (by have h8 := (hs d hd).2.2.1; have h9 := (hs e he).2.2.1; omega) dX12_copy_81 (by decide) ?_
                refine g_iload (q := 4) (pc := 84) dX12_copy_84 rfl ?_
                refine g_if_lt_N (tgt := 116) (pc := 86) (by have h8 := (hs d hd).2.2.1; have h9 := (hs e he).2.2.1; omega) dX12_copy_86 (by decide) ?_
                refine g_iload (q := 5) (pc := 89) dX12_copy_89 rfl ?_
                refine g_aload_n (q := 0) (pc := 91) dX12_copy_91 rfl rfl ?_
                refine gm_get_sz (pc := 92) hA dX12_copy_92 ?_
                refine g_iload_n (q := 1) (pc := 95) dX12_copy_95 rfl rfl ?_
                refine gm_ld_sz (pc := 96) (j := d) (x := nI (sz d)) hA hd rfl dX12_copy_96 ?_
                refine g_iload_n (q := 2) (pc := 97) dX12_copy_97 rfl rfl ?_
                refine g_isub_N (pc := 98) (by have h8 := (hs d hd).2.2.1; have h9 := (hs e he).2.2.1; omega) dX12_copy_98 ?_
                refine g_icmp_gt_N (tgt := 116) (pc := 99) (by have h8 := (hs d hd).2.2.1; have h9 := (hs e he).2.2.1; omega) (by have h8 := (hs d hd).2.2.1; have h9 := (hs e he).2.2.1; omega) dX12_copy_99 (by decide) (fun c8 => ?_) (fun c8 => ?_)
                · -- T c8
                  exact absurd c8 (by omega)
                · -- F c8
                  refine g_iload (q := 5) (pc := 102) dX12_copy_102 rfl ?_
                  refine g_aload_n (q := 0) (pc := 104) dX12_copy_104 rfl rfl ?_
                  refine gm_get_sz (pc := 105) hA dX12_copy_105 ?_
                  refine g_iload_n (q := 3) (pc := 108) dX12_copy_108 rfl rfl ?_
                  refine gm_ld_sz (pc := 109) (j := e) (x := nI (sz e)) hA he rfl dX12_copy_109 ?_
                  refine g_iload (q := 4) (pc := 110) dX12_copy_110 rfl ?_
                  refine g_isub_N (pc := 112) (by have h8 := (hs d hd).2.2.1; have h9 := (hs e he).2.2.1; omega) dX12_copy_112 ?_
                  refine g_icmp_le_N (tgt := 119) (pc := 113) (by have h8 := (hs d hd).2.2.1; have h9 := (hs e he).2.2.1; omega) (by have h8 := (hs d hd).2.2.1; have h9 := (hs e he).2.2.1; omega) dX12_copy_113 (by decide) (fun c9 => ?_) (fun c9 => ?_)
                  · -- T c9
                    refine g_iconst (v := nI 0) (pc := 119) dX12_copy_119 (by decide) ?_
                    refine g_istore (lv' := [(6, .int (nI 0)), (0, .ref (ad 0)), (1, .int (nI d)), (2, .int (nI i)), (3, .int (nI e)), (4, .int (nI j)), (5, .int (nI n))]) (pc := 120) dX12_copy_120 (by decide) rfl ?_
                    have lp122 : ∀ (d122 : Nat) (k : Nat) (h : Nat → Int32), k + d122 = n + 1 → (k ≤ n) → (CP el d i e j n k h) → G l D Z b0 rmX12_copy RX12 cX12_copy 8 (gE (some .int) "copy") (gT D b0 Po rmX12_copy.cells rmX12_copy.slots) (wM Z ad hi th po ba en se (enc kd fg pl hr) im rd mi (nf kp) (nf so) (nf sz) h ki kf ti lo wa nu li to ot V) [(6, .int (nI k)), (0, .ref (ad 0)), (1, .int (nI d)), (2, .int (nI i)), (3, .int (nI e)), (4, .int (nI j)), (5, .int (nI n))] 0 0 122 [] := by
                      intro d122
                      induction d122 with
                      | zero =>
                        intro k h hd122 hkN hcp
                        exact absurd hd122 (by omega)
                      | succ d122 ih122 =>
                        intro k h hd122 hkN hcp
                        refine g_iload (q := 0) (pc := 122) dX12_copy_122 rfl ?_
                        refine g_iload (q := 6) (pc := 124) dX12_copy_124 rfl ?_
                        refine g_icmp_ge_N (tgt := 184) (pc := 126) (by have h8 := (hs d hd).2.2.1; have h9 := (hs e he).2.2.1; omega) (by have h8 := (hs d hd).2.2.1; have h9 := (hs e he).2.2.1; omega) dX12_copy_126 (by decide) (fun c10 => ?_) (fun c10 => ?_)
                        · -- T c10
                          refine gm_eq_el (f' := cpy el d i e j n) hA (fun q _ => hcp.fin (by omega) q) ?_
                          refine g_iload (q := 6) (pc := 184) dX12_copy_184 rfl ?_
                          exact g_iret (pc := 186) (by decide) (by decide) (hPo) dX12_copy_186
                        · -- F c10
                          refine g_iload_n (q := 3) (pc := 129) dX12_copy_129 rfl rfl ?_
                          refine g_iload (q := 5) (pc := 130) dX12_copy_130 rfl ?_
                          refine g_icmp_le_N (tgt := 140) (pc := 132) (by have h8 := (hs d hd).2.2.1; have h9 := (hs e he).2.2.1; omega) (by have h8 := (hs d hd).2.2.1; have h9 := (hs e he).2.2.1; omega) dX12_copy_132 (by decide) (fun c11 => ?_) (fun c11 => ?_)
                          · -- T c11
                            refine g_iload (q := 6) (pc := 140) dX12_copy_140 rfl ?_
                            refine g_iconst (v := nI 1) (pc := 142) dX12_copy_142 (by decide) ?_
                            refine g_isub_N (pc := 143) (by have h8 := (hs d hd).2.2.1; have h9 := (hs e he).2.2.1; omega) dX12_copy_143 ?_
                            refine g_iload (q := 0) (pc := 144) dX12_copy_144 rfl ?_
                            refine g_isub_N (pc := 146) (by have h8 := (hs d hd).2.2.1; have h9 := (hs e he).2.2.1; omega) dX12_copy_146 ?_
                            refine g_istore (lv' := [(7, .int (nI ((n - 1) - k))), (6, .int (nI k)), (0, .ref (ad 0)), (1, .int (nI d)), (2, .int (nI i)), (3, .int (nI e)), (4, .int (nI j)), (5, .int (nI n))]) (pc := 147) dX12_copy_147 (by decide) rfl ?_
                            refine g_aload_n (q := 2) (pc := 149) dX12_copy_149 rfl rfl ?_
                            refine gm_get_el (pc := 150) hA dX12_copy_150 ?_
                            refine g_bipush (v := nI 100) (pc := 153) dX12_copy_153 (by decide) ?_
                            refine g_iload_n (q := 5) (pc := 155) dX12_copy_155 rfl rfl ?_
                            refine g_imul_N (pc := 156) dX12_copy_156 ?_
                            refine g_iload (q := 6) (pc := 157) dX12_copy_157 rfl ?_
                            refine g_iadd_N (pc := 159) dX12_copy_159 ?_
                            refine g_iload (q := 0) (pc := 160) dX12_copy_160 rfl ?_
                            refine g_iadd_N (pc := 162) dX12_copy_162 ?_
                            refine g_aload_n (q := 2) (pc := 163) dX12_copy_163 rfl rfl ?_
                            refine gm_get_el (pc := 164) hA dX12_copy_164 ?_
                            refine g_bipush (v := nI 100) (pc := 167) dX12_copy_167 (by decide) ?_
                            refine g_iload_n (q := 3) (pc := 169) dX12_copy_169 rfl rfl ?_
                            refine g_imul_N (pc := 170) dX12_copy_170 ?_
                            refine g_iload_n (q := 4) (pc := 171) dX12_copy_171 rfl rfl ?_
                            refine g_iadd_N (pc := 172) dX12_copy_172 ?_
                            refine g_iload (q := 0) (pc := 173) dX12_copy_173 rfl ?_
                            refine g_iadd_N (pc := 175) dX12_copy_175 ?_
                            refine gm_ld_el (pc := 176) (j := ((100 * d) + i) + ((n - 1) - k)) (x := h (((100 * d) + i) + ((n - 1) - k))) hA (by have h8 := (hs d hd).2.2.1; have h9 := (hs e he).2.2.1; omega) rfl dX12_copy_176 ?_
                            refine gm_st_el (pc := 177) (j := ((100 * e) + j) + ((n - 1) - k)) (f' := (upd h (((100 * e) + j) + ((n - 1) - k)) (h (((100 * d) + i) + ((n - 1) - k))))) hA (by have h8 := (hs d hd).2.2.1; have h9 := (hs e he).2.2.1; omega) rfl dX12_copy_177 ?_
                            refine g_iinc (q := 1) (lv' := [(6, .int (nI (k + 1))), (7, .int (nI ((n - 1) - k))), (0, .ref (ad 0)), (1, .int (nI d)), (2, .int (nI i)), (3, .int (nI e)), (4, .int (nI j)), (5, .int (nI n))]) (pc := 178) dX12_copy_178 rfl (nI_inc _ _) (by decide) rfl ?_
                            refine g_goto (tgt := 122) (pc := 181) dX12_copy_181 (by decide) ?_
                            refine G.locals (L' := [(6, .int (nI (k + 1))), (0, .ref (ad 0)), (1, .int (nI d)), (2, .int (nI i)), (3, .int (nI e)), (4, .int (nI j)), (5, .int (nI n))]) [0, 2, 3, 4, 5, 6, 7] rfl ?_
                            exact ih122 (k + 1) (upd h (((100 * e) + j) + ((n - 1) - k)) (h (((100 * d) + i) + ((n - 1) - k)))) (by omega) (by omega) (CP.dn (by have h8 := (hs d hd).2.2.1; have h9 := (hs e he).2.2.1; omega) (by have h8 := (hs d hd).2.2.1; have h9 := (hs e he).2.2.1; omega) (by omega) hcp (by assumption))
                          · -- F c11
                            refine g_iload (q := 0) (pc := 135) dX12_copy_135 rfl ?_
                            refine g_goto (tgt := 147) (pc := 137) dX12_copy_137 (by decide) ?_
                            refine g_istore (lv' := [(7, .int (nI k)), (6, .int (nI k)), (0, .ref (ad 0)), (1, .int (nI d)), (2, .int (nI i)), (3, .int (nI e)), (4, .int (nI j)), (5, .int (nI n))]) (pc := 147) dX12_copy_147 (by decide) rfl ?_
                            refine g_aload_n (q := 2) (pc := 149) dX12_copy_149 rfl rfl ?_
                            refine gm_get_el (pc := 150) hA dX12_copy_150 ?_
                            refine g_bipush (v := nI 100) (pc := 153) dX12_copy_153 (by decide) ?_
                            refine g_iload_n (q := 5) (pc := 155) dX12_copy_155 rfl rfl ?_
                            refine g_imul_N (pc := 156) dX12_copy_156 ?_
                            refine g_iload (q := 6) (pc := 157) dX12_copy_157 rfl ?_
                            refine g_iadd_N (pc := 159) dX12_copy_159 ?_
                            refine g_iload (q := 0) (pc := 160) dX12_copy_160 rfl ?_
                            refine g_iadd_N (pc := 162) dX12_copy_162 ?_
                            refine g_aload_n (q := 2) (pc := 163) dX12_copy_163 rfl rfl ?_
                            refine gm_get_el (pc := 164) hA dX12_copy_164 ?_
                            refine g_bipush (v := nI 100) (pc := 167) dX12_copy_167 (by decide) ?_
                            refine g_iload_n (q := 3) (pc := 169) dX12_copy_169 rfl rfl ?_
                            refine g_imul_N (pc := 170) dX12_copy_170 ?_
                            refine g_iload_n (q := 4) (pc := 171) dX12_copy_171 rfl rfl ?_
                            refine g_iadd_N (pc := 172) dX12_copy_172 ?_
                            refine g_iload (q := 0) (pc := 173) dX12_copy_173 rfl ?_
                            refine g_iadd_N (pc := 175) dX12_copy_175 ?_
                            refine gm_ld_el (pc := 176) (j := ((100 * d) + i) + k) (x := h (((100 * d) + i) + k)) hA (by have h8 := (hs d hd).2.2.1; have h9 := (hs e he).2.2.1; omega) rfl dX12_copy_176 ?_
                            refine gm_st_el (pc := 177) (j := ((100 * e) + j) + k) (f' := (upd h (((100 * e) + j) + k) (h (((100 * d) + i) + k)))) hA (by have h8 := (hs d hd).2.2.1; have h9 := (hs e he).2.2.1; omega) rfl dX12_copy_177 ?_
                            refine g_iinc (q := 1) (lv' := [(6, .int (nI (k + 1))), (7, .int (nI k)), (0, .ref (ad 0)), (1, .int (nI d)), (2, .int (nI i)), (3, .int (nI e)), (4, .int (nI j)), (5, .int (nI n))]) (pc := 178) dX12_copy_178 rfl (nI_inc _ _) (by decide) rfl ?_
                            refine g_goto (tgt := 122) (pc := 181) dX12_copy_181 (by decide) ?_
                            refine G.locals (L' := [(6, .int (nI (k + 1))), (0, .ref (ad 0)), (1, .int (nI d)), (2, .int (nI i)), (3, .int (nI e)), (4, .int (nI j)), (5, .int (nI n))]) [0, 2, 3, 4, 5, 6, 7] rfl ?_
                            exact ih122 (k + 1) (upd h (((100 * e) + j) + k) (h (((100 * d) + i) + k))) (by omega) (by omega) (CP.up (by have h8 := (hs d hd).2.2.1; have h9 := (hs e he).2.2.1; omega) (by have h8 := (hs d hd).2.2.1; have h9 := (hs e he).2.2.1; omega) (by omega) hcp (by assumption))
                    refine G.locals (L' := [(6, .int (nI 0)), (0, .ref (ad 0)), (1, .int (nI d)), (2, .int (nI i)), (3, .int (nI e)), (4, .int (nI j)), (5, .int (nI n))]) [0, 1, 2, 3, 4, 5, 6] rfl ?_
                    exact lp122 (n + 1) 0 el (by omega) (by omega) CP.ini
                  · -- F c9
                    exact absurd c9 (by omega)
              · -- F c7
                exact absurd hso c7
        · -- F c4
          exact absurd (hke.symm.trans c4) (by decide)
    · -- F c2
      exact absurd (of_decide_eq_false c2) (by omega)
set_option maxHeartbeats 8000000 in
theorem c_X12_copy_n {d i e j n : Int32} (hA : aB b0 18 ad) (hs : okS kp so sz ki kf) (h : ¬ okCopy kp so sz d i e j n) : KE l D Z b0 yX12_copy cX12_copy 8 (some .int) rmX12_copy [.ref (ad 0), .int d, .int i, .int e, .int j, .int n] (wM Z ad hi th po ba en se (enc kd fg pl hr) im rd mi (nf kp) (nf so) (nf sz) el ki kf ti lo wa nu li to ot V) (some (.int (rCopy kp so d e))) (wM Z ad hi th po ba en se (enc kd fg pl hr) im rd mi (nf kp) (nf so) (nf sz) el ki kf ti lo wa nu li to ot V) := by
  refine KE.of (by decide) (Nat.le_of_ble_eq_true rfl) (fun Po hPo => ?_)
  refine G.locals (L' := [(0, .ref (ad 0)), (1, .int d), (2, .int i), (3, .int e), (4, .int j), (5, .int n)]) [0, 1, 2, 3, 4, 5] rfl ?_
  refine g_iload_n (q := 1) (pc := 0) dX12_copy_0 rfl rfl ?_
  refine e_callS (k2 := 0) (n2 := 0) (As := [.int d]) (rest := []) (pc := 1) (c_X12_isShelf hA) mlX12_152 mX12_isShelf ⟨Nat.le_of_ble_eq_true rfl, Nat.le_of_ble_eq_true rfl⟩ rfl rfl (Nat.le_of_ble_eq_true rfl) dX12_copy_1 (by decide) rfl rfl ?_
  refine g_if_eq_B (tgt := 14) (pc := 4) dX12_copy_4 (by decide) (fun c1 => ?_) (fun c1 => ?_)
  · -- T c1
    refine g_iconst (v := (-1)) (pc := 14) dX12_copy_14 (by decide) ?_
    exact g_iret (pc := 15) (by decide) (by decide) (eqI hPo (by rw [rCopy, if_neg (by simp [*])])) dX12_copy_15
  · -- F c1
    obtain ⟨d, hd, rfl⟩ := inR_t c1
    have hd8 := c1
    refine g_iload_n (q := 3) (pc := 7) dX12_copy_7 rfl rfl ?_
    refine e_callS (k2 := 0) (n2 := 0) (As := [.int e]) (rest := []) (pc := 8) (c_X12_isShelf hA) mlX12_152 mX12_isShelf ⟨Nat.le_of_ble_eq_true rfl, Nat.le_of_ble_eq_true rfl⟩ rfl rfl (Nat.le_of_ble_eq_true rfl) dX12_copy_8 (by decide) rfl rfl ?_
    refine g_if_ne_B (tgt := 16) (pc := 11) dX12_copy_11 (by decide) (fun c2 => ?_) (fun c2 => ?_)
    · -- T c2
      obtain ⟨e, he, rfl⟩ := inR_t c2
      have he8 := c2
      refine g_aload_n (q := 0) (pc := 16) dX12_copy_16 rfl rfl ?_
      refine gm_get_kp (pc := 17) hA dX12_copy_17 ?_
      refine g_iload_n (q := 1) (pc := 20) dX12_copy_20 rfl rfl ?_
      refine gm_ld_kp (pc := 21) (j := d) (x := nI (kp d)) hA hd rfl dX12_copy_21 ?_
      refine g_if_eq_N (tgt := 34) (pc := 22) (by have := hs d hd; omega) dX12_copy_22 (by decide) (fun c3 => ?_) (fun c3 => ?_)
      · -- T c3
        refine g_bipush (v := (-11)) (pc := 34) dX12_copy_34 (by decide) ?_
        exact g_iret (pc := 36) (by decide) (by decide) (eqI hPo (by rw [rCopy, if_pos hd8, if_pos he8, dN_N (by omega), dN_N (by omega)]; simp [*])) dX12_copy_36
      · -- F c3
        refine g_aload_n (q := 0) (pc := 25) dX12_copy_25 rfl rfl ?_
        refine gm_get_kp (pc := 26) hA dX12_copy_26 ?_
        refine g_iload_n (q := 3) (pc := 29) dX12_copy_29 rfl rfl ?_
        refine gm_ld_kp (pc := 30) (j := e) (x := nI (kp e)) hA he rfl dX12_copy_30 ?_
        refine g_if_ne_N (tgt := 37) (pc := 31) (by have := hs e he; omega) dX12_copy_31 (by decide) (fun c4 => ?_) (fun c4 => ?_)
        · -- T c4
          refine g_aload_n (q := 0) (pc := 37) dX12_copy_37 rfl rfl ?_
          refine gm_get_kp (pc := 38) hA dX12_copy_38 ?_
          refine g_iload_n (q := 1) (pc := 41) dX12_copy_41 rfl rfl ?_
          refine gm_ld_kp (pc := 42) (j := d) (x := nI (kp d)) hA hd rfl dX12_copy_42 ?_
          refine g_iconst (v := nI 2) (pc := 43) dX12_copy_43 (by decide) ?_
          refine g_icmp_ne_N (tgt := 72) (pc := 44) (by have := hs d hd; omega) (by have h8 := (hs d hd).2.2.1; have h9 := (hs e he).2.2.1; omega) dX12_copy_44 (by decide) (fun c5 => ?_) (fun c5 => ?_)
          · -- T c5
            refine g_bipush (v := (-12)) (pc := 72) dX12_copy_72 (by decide) ?_
            exact g_iret (pc := 74) (by decide) (by decide) (eqI hPo (by rw [rCopy, if_pos hd8, if_pos he8, dN_N (by omega), dN_N (by omega)]; simp [*])) dX12_copy_74
          · -- F c5
            refine g_aload_n (q := 0) (pc := 47) dX12_copy_47 rfl rfl ?_
            refine gm_get_kp (pc := 48) hA dX12_copy_48 ?_
            refine g_iload_n (q := 3) (pc := 51) dX12_copy_51 rfl rfl ?_
            refine gm_ld_kp (pc := 52) (j := e) (x := nI (kp e)) hA he rfl dX12_copy_52 ?_
            refine g_iconst (v := nI 2) (pc := 53) dX12_copy_53 (by decide) ?_
            refine g_icmp_ne_N (tgt := 72) (pc := 54) (by have := hs e he; omega) (by have h8 := (hs d hd).2.2.1; have h9 := (hs e he).2.2.1; omega) dX12_copy_54 (by decide) (fun c6 => ?_) (fun c6 => ?_)
            · -- T c6
              refine g_bipush (v := (-12)) (pc := 72) dX12_copy_72 (by decide) ?_
              exact g_iret (pc := 74) (by decide) (by decide) (eqI hPo (by rw [rCopy, if_pos hd8, if_pos he8, dN_N (by omega), dN_N (by omega)]; simp [*])) dX12_copy_74
            · -- F c6
              refine g_aload_n (q := 0) (pc := 57) dX12_copy_57 rfl rfl ?_
              refine gm_get_so (pc := 58) hA dX12_copy_58 ?_
              refine g_iload_n (q := 1) (pc := 61) dX12_copy_61 rfl rfl ?_
              refine gm_ld_so (pc := 62) (j := d) (x := nI (so d)) hA hd rfl dX12_copy_62 ?_
              refine g_aload_n (q := 0) (pc := 63) dX12_copy_63 rfl rfl ?_
              refine gm_get_so (pc := 64) hA dX12_copy_64 ?_
              refine g_iload_n (q := 3) (pc := 67) dX12_copy_67 rfl rfl ?_
              refine gm_ld_so (pc := 68) (j := e) (x := nI (so e)) hA he rfl dX12_copy_68 ?_
              refine g_icmp_eq_N (tgt := 75) (pc := 69) (by have := hs d hd; omega) (by have := hs e he; omega) dX12_copy_69 (by decide) (fun c7 => ?_) (fun c7 => ?_)
              · -- T c7
                refine g_iload (q := 5) (pc := 75) dX12_copy_75 rfl ?_
                refine g_if_lt (tgt := 116) (pc := 77) dX12_copy_77 (by decide) (fun c8 => ?_) (fun c8 => ?_)
                · -- T c8
                  refine g_bipush (v := (-13)) (pc := 116) dX12_copy_116 (by decide) ?_
                  exact g_iret (pc := 118) (by decide) (by decide) (eqI hPo (by rw [rCopy, if_pos hd8, if_pos he8, dN_N (by omega), dN_N (by omega)]; simp [*])) dX12_copy_118
                · -- F c8
                  refine g_iload_n (q := 2) (pc := 80) dX12_copy_80 rfl rfl ?_
                  refine g_if_lt (tgt := 116) (pc := 81) dX12_copy_81 (by decide) (fun c9 => ?_) (fun c9 => ?_)
                  · -- T c9
                    refine g_bipush (v := (-13)) (pc := 116) dX12_copy_116 (by decide) ?_
                    exact g_iret (pc := 118) (by decide) (by decide) (eqI hPo (by rw [rCopy, if_pos hd8, if_pos he8, dN_N (by omega), dN_N (by omega)]; simp [*])) dX12_copy_118
                  · -- F c9
                    refine g_iload (q := 4) (pc := 84) dX12_copy_84 rfl ?_
                    refine g_if_lt (tgt := 116) (pc := 86) dX12_copy_86 (by decide) (fun c10 => ?_) (fun c10 => ?_)
                    · -- T c10
                      refine g_bipush (v := (-13)) (pc := 116) dX12_copy_116 (by decide) ?_
                      exact g_iret (pc := 118) (by decide) (by decide) (eqI hPo (by rw [rCopy, if_pos hd8, if_pos he8, dN_N (by omega), dN_N (by omega)]; simp [*])) dX12_copy_118
                    · -- F c10
                      refine g_iload (q := 5) (pc := 89) dX12_copy_89 rfl ?_
                      refine g_aload_n (q := 0) (pc := 91) dX12_copy_91 rfl rfl ?_
                      refine gm_get_sz (pc := 92) hA dX12_copy_92 ?_
                      refine g_iload_n (q := 1) (pc := 95) dX12_copy_95 rfl rfl ?_
                      refine gm_ld_sz (pc := 96) (j := d) (x := nI (sz d)) hA hd rfl dX12_copy_96 ?_
                      refine g_iload_n (q := 2) (pc := 97) dX12_copy_97 rfl rfl ?_
                      refine g_isub (pc := 98) dX12_copy_98 ?_
                      refine g_icmp_gt (tgt := 116) (pc := 99) dX12_copy_99 (by decide) (fun c11 => ?_) (fun c11 => ?_)
                      · -- T c11
                        refine g_bipush (v := (-13)) (pc := 116) dX12_copy_116 (by decide) ?_
                        exact g_iret (pc := 118) (by decide) (by decide) (eqI hPo (by rw [rCopy, if_pos hd8, if_pos he8, dN_N (by omega), dN_N (by omega)]; simp [*])) dX12_copy_118
                      · -- F c11
                        refine g_iload (q := 5) (pc := 102) dX12_copy_102 rfl ?_
                        refine g_aload_n (q := 0) (pc := 104) dX12_copy_104 rfl rfl ?_
                        refine gm_get_sz (pc := 105) hA dX12_copy_105 ?_
                        refine g_iload_n (q := 3) (pc := 108) dX12_copy_108 rfl rfl ?_
                        refine gm_ld_sz (pc := 109) (j := e) (x := nI (sz e)) hA he rfl dX12_copy_109 ?_
                        refine g_iload (q := 4) (pc := 110) dX12_copy_110 rfl ?_
                        refine g_isub (pc := 112) dX12_copy_112 ?_
                        refine g_icmp_le (tgt := 119) (pc := 113) dX12_copy_113 (by decide) (fun c12 => ?_) (fun c12 => ?_)
                        · -- T c12
                          exact absurd ⟨hd8, he8, by rw [dN_N (by omega)]; assumption, by rw [dN_N (by omega)]; assumption, by rw [dN_N (by omega), dN_N (by omega)]; assumption, by assumption, by assumption, by assumption, by rw [dN_N (by omega)]; exact Int32.not_lt.mp (by assumption), by rw [dN_N (by omega)]; assumption⟩ h
                        · -- F c12
                          refine g_bipush (v := (-13)) (pc := 116) dX12_copy_116 (by decide) ?_
                          exact g_iret (pc := 118) (by decide) (by decide) (eqI hPo (by rw [rCopy, if_pos hd8, if_pos he8, dN_N (by omega), dN_N (by omega)]; simp [*])) dX12_copy_118
              · -- F c7
                refine g_bipush (v := (-12)) (pc := 72) dX12_copy_72 (by decide) ?_
                exact g_iret (pc := 74) (by decide) (by decide) (eqI hPo (by rw [rCopy, if_pos hd8, if_pos he8, dN_N (by omega), dN_N (by omega)]; simp [*])) dX12_copy_74
        · -- F c4
          refine g_bipush (v := (-11)) (pc := 34) dX12_copy_34 (by decide) ?_
          exact g_iret (pc := 36) (by decide) (by decide) (eqI hPo (by rw [rCopy, if_pos hd8, if_pos he8, dN_N (by omega), dN_N (by omega)]; simp [*])) dX12_copy_36
    · -- F c2
      refine g_iconst (v := (-1)) (pc := 14) dX12_copy_14 (by decide) ?_
      exact g_iret (pc := 15) (by decide) (by decide) (eqI hPo (by rw [rCopy, if_pos (by assumption), if_neg (by simp [*])])) dX12_copy_15
set_option maxHeartbeats 8000000 in
theorem c_X12_safe_n {d e what : Int32} (hA : aB b0 18 ad) (hs : okS kp so sz ki kf) (h : ¬ spSafeG kp so sz d e what = nI 0) : KE l D Z b0 yX12_safe cX12_safe 7 (some .int) rmX12_safe [.ref (ad 0), .int d, .int e, .int what] (wM Z ad hi th po ba en se (enc kd fg pl hr) im rd mi (nf kp) (nf so) (nf sz) el ki kf ti lo wa nu li to ot V) (some (.int (spSafeG kp so sz d e what))) (wM Z ad hi th po ba en se (enc kd fg pl hr) im rd mi (nf kp) (nf so) (nf sz) el ki kf ti lo wa nu li to ot V) := by
  refine KE.of (by decide) (Nat.le_of_ble_eq_true rfl) (fun Po hPo => ?_)
  refine G.locals (L' := [(0, .ref (ad 0)), (1, .int d), (2, .int e), (3, .int what)]) [0, 1, 2, 3] rfl ?_
  refine g_iload_n (q := 1) (pc := 0) dX12_safe_0 rfl rfl ?_
  refine e_callS (k2 := 0) (n2 := 0) (As := [.int d]) (rest := []) (pc := 1) (c_X12_isShelf hA) mlX12_152 mX12_isShelf ⟨Nat.le_of_ble_eq_true rfl, Nat.le_of_ble_eq_true rfl⟩ rfl rfl (Nat.le_of_ble_eq_true rfl) dX12_safe_1 (by decide) rfl rfl ?_
  refine g_if_eq_B (tgt := 29) (pc := 4) dX12_safe_4 (by decide) (fun c1 => ?_) (fun c1 => ?_)
  · -- T c1
    refine g_iconst (v := (-1)) (pc := 29) dX12_safe_29 (by decide) ?_
    refine g_goto (tgt := 39) (pc := 30) dX12_safe_30 (by decide) ?_
    refine g_istore (lv' := [(4, .int (-1)), (0, .ref (ad 0)), (1, .int d), (2, .int e), (3, .int what)]) (pc := 39) dX12_safe_39 (by decide) rfl ?_
    refine g_iload (q := 0) (pc := 41) dX12_safe_41 rfl ?_
    refine g_if_ne (tgt := 61) (pc := 43) dX12_safe_43 (by decide) (fun _ => ?_) (fun c0 => absurd c0 (by decide))
    refine g_iload (q := 0) (pc := 61) dX12_safe_61 rfl ?_
    refine g_if_eq (tgt := 69) (pc := 63) dX12_safe_63 (by decide) (fun c0 => absurd c0 (by decide)) (fun _ => ?_)
    refine g_iload (q := 0) (pc := 66) dX12_safe_66 rfl ?_
    exact g_iret (pc := 68) (by decide) (by decide) (eqI hPo (by rw [spSafeG, if_neg (by simp [*])])) dX12_safe_68
  · -- F c1
    obtain ⟨d, hd, rfl⟩ := inR_t c1
    refine g_iload_n (q := 2) (pc := 7) dX12_safe_7 rfl rfl ?_
    refine g_i2l (v := (e).toInt64) (pc := 8) dX12_safe_8 rfl ?_
    refine g_lconst (v := lN 0) (pc := 9) dX12_safe_9 (by decide) ?_
    refine g_ldc2 (v := lN 8) (pc := 10) klX12_209 dX12_safe_10 ?_
    refine e_callS (k2 := 0) (n2 := 0) (As := [.long ((e).toInt64), .long (lN 0), .long (lN 8)]) (rest := []) (pc := 13) (c_X12_isInR 9 rfl hA (by decide) (c_X12_isIn hA)) mlX12_67 mX12_isIn ⟨Nat.le_of_ble_eq_true rfl, Nat.le_of_ble_eq_true rfl⟩ rfl rfl (Nat.le_of_ble_eq_true rfl) dX12_safe_13 (by decide) rfl rfl ?_
    refine g_if_eq_B (tgt := 29) (pc := 16) dX12_safe_16 (by decide) (fun c2 => ?_) (fun c2 => ?_)
    · -- T c2
      refine g_iconst (v := (-1)) (pc := 29) dX12_safe_29 (by decide) ?_
      refine g_goto (tgt := 39) (pc := 30) dX12_safe_30 (by decide) ?_
      refine g_istore (lv' := [(4, .int (-1)), (0, .ref (ad 0)), (1, .int (nI d)), (2, .int e), (3, .int what)]) (pc := 39) dX12_safe_39 (by decide) rfl ?_
      refine g_iload (q := 0) (pc := 41) dX12_safe_41 rfl ?_
      refine g_if_ne (tgt := 61) (pc := 43) dX12_safe_43 (by decide) (fun _ => ?_) (fun c0 => absurd c0 (by decide))
      refine g_iload (q := 0) (pc := 61) dX12_safe_61 rfl ?_
      refine g_if_eq (tgt := 69) (pc := 63) dX12_safe_63 (by decide) (fun c0 => absurd c0 (by decide)) (fun _ => ?_)
      refine g_iload (q := 0) (pc := 66) dX12_safe_66 rfl ?_
      exact g_iret (pc := 68) (by decide) (by decide) (eqI hPo (by rw [spSafeG, if_pos (by assumption), if_neg (by simp [*])])) dX12_safe_68
    · -- F c2
      obtain ⟨e, he, rfl⟩ := inR_t c2
      refine g_iload_n (q := 3) (pc := 19) dX12_safe_19 rfl rfl ?_
      refine g_i2l (v := (what).toInt64) (pc := 20) dX12_safe_20 rfl ?_
      refine g_lconst (v := lN 0) (pc := 21) dX12_safe_21 (by decide) ?_
      refine g_lconst (v := lN 1) (pc := 22) dX12_safe_22 (by decide) ?_
      refine e_callS (k2 := 0) (n2 := 0) (As := [.long ((what).toInt64), .long (lN 0), .long (lN 1)]) (rest := []) (pc := 23) (c_X12_isInR 2 rfl hA (by decide) (c_X12_isIn hA)) mlX12_67 mX12_isIn ⟨Nat.le_of_ble_eq_true rfl, Nat.le_of_ble_eq_true rfl⟩ rfl rfl (Nat.le_of_ble_eq_true rfl) dX12_safe_23 (by decide) rfl rfl ?_
      refine g_if_ne_B (tgt := 33) (pc := 26) dX12_safe_26 (by decide) (fun c3 => ?_) (fun c3 => ?_)
      · -- T c3
        obtain ⟨what, hwhat, rfl⟩ := inR_t c3
        refine g_aload_n (q := 0) (pc := 33) dX12_safe_33 rfl rfl ?_
        refine g_iload_n (q := 1) (pc := 34) dX12_safe_34 rfl rfl ?_
        refine g_iconst (v := nI 0) (pc := 35) dX12_safe_35 (by decide) ?_
        refine e_callV (k2 := 0) (n2 := 0) (As := [.int (nI d), .int (nI 0)]) (rest := []) (pc := 36) (wM_0 hA) rfl (c_X12_wrongRow0 hA hs) mlX12_155 selX12_X12_wrongRow_X12_wrongRow mX12_wrongRow ⟨Nat.le_of_ble_eq_true rfl, Nat.le_of_ble_eq_true rfl⟩ rfl rfl (Nat.le_of_ble_eq_true rfl) dX12_safe_36 (by decide) rfl rfl ?_
        refine g_istore (lv' := [(4, .int (spWR kp so (nI d) (some 0))), (0, .ref (ad 0)), (1, .int (nI d)), (2, .int (nI e)), (3, .int (nI what))]) (pc := 39) dX12_safe_39 (by decide) rfl ?_
        refine g_iload (q := 0) (pc := 41) dX12_safe_41 rfl ?_
        refine g_if_ne (tgt := 61) (pc := 43) dX12_safe_43 (by decide) (fun c4 => ?_) (fun c4 => ?_)
        · -- T c4
          refine g_iload (q := 0) (pc := 61) dX12_safe_61 rfl ?_
          refine g_if_eq (tgt := 69) (pc := 63) dX12_safe_63 (by decide) (fun c5 => ?_) (fun c5 => ?_)
          · -- T c5
            exact absurd c5 (by assumption)
          · -- F c5
            refine g_iload (q := 0) (pc := 66) dX12_safe_66 rfl ?_
            exact g_iret (pc := 68) (by decide) (by decide) (eqI hPo (by rw [spSafeG, if_pos (by assumption), if_pos (by assumption), if_pos (by assumption), if_neg (by assumption)])) dX12_safe_68
        · -- F c4
          have hwr := c4
          rw [hwr.trans nI_0.symm]
          refine g_aload_n (q := 1) (pc := 46) dX12_safe_46 rfl rfl ?_
          refine gm_get_sz (pc := 47) hA dX12_safe_47 ?_
          refine g_iload_n (q := 2) (pc := 50) dX12_safe_50 rfl rfl ?_
          refine gm_ld_sz (pc := 51) (j := d) (x := nI (sz d)) hA hd rfl dX12_safe_51 ?_
          refine g_bipush (v := nI 8) (pc := 52) dX12_safe_52 (by decide) ?_
          refine g_icmp_le_N (tgt := 61) (pc := 54) (by have := (hs d hd).2.2.1; omega) (by omega) dX12_safe_54 (by decide) (fun c6 => ?_) (fun c6 => ?_)
          · -- T c6
            exact absurd (by rw [spSafeG, if_pos (by assumption), if_pos (by assumption), if_pos (by assumption), if_pos hwr, dN_N (by omega), if_pos (by assumption)]) h
          · -- F c6
            refine g_bipush (v := (-13)) (pc := 57) dX12_safe_57 (by decide) ?_
            refine g_istore (lv' := [(4, .int (-13)), (0, .ref (ad 0)), (1, .int (nI d)), (2, .int (nI e)), (3, .int (nI what))]) (pc := 59) dX12_safe_59 (by decide) rfl ?_
            refine g_iload (q := 0) (pc := 61) dX12_safe_61 rfl ?_
            refine g_if_eq (tgt := 69) (pc := 63) dX12_safe_63 (by decide) (fun c0 => absurd c0 (by decide)) (fun _ => ?_)
            refine g_iload (q := 0) (pc := 66) dX12_safe_66 rfl ?_
            exact g_iret (pc := 68) (by decide) (by decide) (eqI hPo (by rw [spSafeG, if_pos (by assumption), if_pos (by assumption), if_pos (by assumption), if_pos hwr, dN_N (by omega), if_neg (by omega)])) dX12_safe_68
      · -- F c3
        refine g_iconst (v := (-1)) (pc := 29) dX12_safe_29 (by decide) ?_
        refine g_goto (tgt := 39) (pc := 30) dX12_safe_30 (by decide) ?_
        refine g_istore (lv' := [(4, .int (-1)), (0, .ref (ad 0)), (1, .int (nI d)), (2, .int (nI e)), (3, .int what)]) (pc := 39) dX12_safe_39 (by decide) rfl ?_
        refine g_iload (q := 0) (pc := 41) dX12_safe_41 rfl ?_
        refine g_if_ne (tgt := 61) (pc := 43) dX12_safe_43 (by decide) (fun _ => ?_) (fun c0 => absurd c0 (by decide))
        refine g_iload (q := 0) (pc := 61) dX12_safe_61 rfl ?_
        refine g_if_eq (tgt := 69) (pc := 63) dX12_safe_63 (by decide) (fun c0 => absurd c0 (by decide)) (fun _ => ?_)
        refine g_iload (q := 0) (pc := 66) dX12_safe_66 rfl ?_
        exact g_iret (pc := 68) (by decide) (by decide) (eqI hPo (by rw [spSafeG, if_pos (by assumption), if_pos (by assumption), if_neg (by simp [*])])) dX12_safe_68
set_option maxHeartbeats 8000000 in
theorem c_X12_listen_n {d what : Int32} (hA : aB b0 18 ad) (hs : okS kp so sz ki kf) (h : ¬ spListenG kp so sz el d what = nI 0) : KE l D Z b0 yX12_listen cX12_listen 6 (some .int) rmX12_listen [.ref (ad 0), .int d, .int what] (wM Z ad hi th po ba en se (enc kd fg pl hr) im rd mi (nf kp) (nf so) (nf sz) el ki kf ti lo wa nu li to ot V) (some (.int (spListenG kp so sz el d what))) (wM Z ad hi th po ba en se (enc kd fg pl hr) im rd mi (nf kp) (nf so) (nf sz) el ki kf ti lo wa nu li to ot V) := by
  refine KE.of (by decide) (Nat.le_of_ble_eq_true rfl) (fun Po hPo => ?_)
  refine G.locals (L' := [(0, .ref (ad 0)), (1, .int d), (2, .int what)]) [0, 1, 2] rfl ?_
  refine g_iload_n (q := 1) (pc := 0) dX12_listen_0 rfl rfl ?_
  refine e_callS (k2 := 0) (n2 := 0) (As := [.int d]) (rest := []) (pc := 1) (c_X12_isShelf hA) mlX12_152 mX12_isShelf ⟨Nat.le_of_ble_eq_true rfl, Nat.le_of_ble_eq_true rfl⟩ rfl rfl (Nat.le_of_ble_eq_true rfl) dX12_listen_1 (by decide) rfl rfl ?_
  refine g_if_eq_B (tgt := 17) (pc := 4) dX12_listen_4 (by decide) (fun c1 => ?_) (fun c1 => ?_)
  · -- T c1
    refine g_iconst (v := (-1)) (pc := 17) dX12_listen_17 (by decide) ?_
    refine g_goto (tgt := 27) (pc := 18) dX12_listen_18 (by decide) ?_
    refine g_istore_n (lv' := [(3, .int (-1)), (0, .ref (ad 0)), (1, .int d), (2, .int what)]) (pc := 27) dX12_listen_27 rfl (by decide) rfl ?_
    refine g_iload_n (q := 0) (pc := 28) dX12_listen_28 rfl rfl ?_
    refine g_if_ne (tgt := 46) (pc := 29) dX12_listen_29 (by decide) (fun _ => ?_) (fun c0 => absurd c0 (by decide))
    refine g_iconst (v := nI 0) (pc := 46) dX12_listen_46 (by decide) ?_
    refine g_istore (lv' := [(4, .int (nI 0)), (3, .int (-1)), (0, .ref (ad 0)), (1, .int d), (2, .int what)]) (pc := 47) dX12_listen_47 (by decide) rfl ?_
    refine g_iload_n (q := 1) (pc := 49) dX12_listen_49 rfl rfl ?_
    refine g_if_ne (tgt := 90) (pc := 50) dX12_listen_50 (by decide) (fun _ => ?_) (fun c0 => absurd c0 (by decide))
    refine g_iload_n (q := 1) (pc := 90) dX12_listen_90 rfl rfl ?_
    refine g_if_eq (tgt := 96) (pc := 91) dX12_listen_91 (by decide) (fun c0 => absurd c0 (by decide)) (fun _ => ?_)
    refine g_iload_n (q := 1) (pc := 94) dX12_listen_94 rfl rfl ?_
    exact g_iret (pc := 95) (by decide) (by decide) (eqI hPo (by rw [spListenG, if_neg (by simp [*])])) dX12_listen_95
  · -- F c1
    obtain ⟨d, hd, rfl⟩ := inR_t c1
    have hd8 := c1
    refine g_iload_n (q := 2) (pc := 7) dX12_listen_7 rfl rfl ?_
    refine g_i2l (v := (what).toInt64) (pc := 8) dX12_listen_8 rfl ?_
    refine g_lconst (v := lN 0) (pc := 9) dX12_listen_9 (by decide) ?_
    refine g_lconst (v := lN 1) (pc := 10) dX12_listen_10 (by decide) ?_
    refine e_callS (k2 := 0) (n2 := 0) (As := [.long ((what).toInt64), .long (lN 0), .long (lN 1)]) (rest := []) (pc := 11) (c_X12_isInR 2 rfl hA (by decide) (c_X12_isIn hA)) mlX12_67 mX12_isIn ⟨Nat.le_of_ble_eq_true rfl, Nat.le_of_ble_eq_true rfl⟩ rfl rfl (Nat.le_of_ble_eq_true rfl) dX12_listen_11 (by decide) rfl rfl ?_
    refine g_if_ne_B (tgt := 21) (pc := 14) dX12_listen_14 (by decide) (fun c2 => ?_) (fun c2 => ?_)
    · -- T c2
      obtain ⟨what, hwhat, rfl⟩ := inR_t c2
      have hw2 := c2
      refine g_aload_n (q := 0) (pc := 21) dX12_listen_21 rfl rfl ?_
      refine g_iload_n (q := 1) (pc := 22) dX12_listen_22 rfl rfl ?_
      refine g_iconst (v := nI 0) (pc := 23) dX12_listen_23 (by decide) ?_
      refine e_callV (k2 := 0) (n2 := 0) (As := [.int (nI d), .int (nI 0)]) (rest := []) (pc := 24) (wM_0 hA) rfl (c_X12_wrongRow0 hA hs) mlX12_155 selX12_X12_wrongRow_X12_wrongRow mX12_wrongRow ⟨Nat.le_of_ble_eq_true rfl, Nat.le_of_ble_eq_true rfl⟩ rfl rfl (Nat.le_of_ble_eq_true rfl) dX12_listen_24 (by decide) rfl rfl ?_
      refine g_istore_n (lv' := [(3, .int (spWR kp so (nI d) (some 0))), (0, .ref (ad 0)), (1, .int (nI d)), (2, .int (nI what))]) (pc := 27) dX12_listen_27 rfl (by decide) rfl ?_
      refine g_iload_n (q := 0) (pc := 28) dX12_listen_28 rfl rfl ?_
      refine g_if_ne (tgt := 46) (pc := 29) dX12_listen_29 (by decide) (fun c3 => ?_) (fun c3 => ?_)
      · -- T c3
        refine g_iconst (v := nI 0) (pc := 46) dX12_listen_46 (by decide) ?_
        refine g_istore (lv' := [(4, .int (nI 0)), (3, .int (spWR kp so (nI d) (some 0))), (0, .ref (ad 0)), (1, .int (nI d)), (2, .int (nI what))]) (pc := 47) dX12_listen_47 (by decide) rfl ?_
        refine g_iload_n (q := 1) (pc := 49) dX12_listen_49 rfl rfl ?_
        refine g_if_ne (tgt := 90) (pc := 50) dX12_listen_50 (by decide) (fun c4 => ?_) (fun c4 => ?_)
        · -- T c4
          refine g_iload_n (q := 1) (pc := 90) dX12_listen_90 rfl rfl ?_
          refine g_if_eq (tgt := 96) (pc := 91) dX12_listen_91 (by decide) (fun c5 => ?_) (fun c5 => ?_)
          · -- T c5
            exact absurd c5 (by assumption)
          · -- F c5
            refine g_iload_n (q := 1) (pc := 94) dX12_listen_94 rfl rfl ?_
            exact g_iret (pc := 95) (by decide) (by decide) (eqI hPo (by rw [spListenG, if_pos hd8, if_pos hw2, if_neg (by assumption)])) dX12_listen_95
        · -- F c4
          exact absurd c4 (by assumption)
      · -- F c3
        have hwr := c3
        rw [hwr.trans nI_0.symm]
        refine g_aload_n (q := 1) (pc := 32) dX12_listen_32 rfl rfl ?_
        refine gm_get_sz (pc := 33) hA dX12_listen_33 ?_
        refine g_iload_n (q := 2) (pc := 36) dX12_listen_36 rfl rfl ?_
        refine gm_ld_sz (pc := 37) (j := d) (x := nI (sz d)) hA hd rfl dX12_listen_37 ?_
        refine g_bipush (v := nI 20) (pc := 38) dX12_listen_38 (by decide) ?_
        refine g_icmp_le_N (tgt := 46) (pc := 40) (by have := (hs d hd).2.2.1; omega) (by have := (hs d hd).2.2.1; omega) dX12_listen_40 (by decide) (fun c6 => ?_) (fun c6 => ?_)
        · -- T c6
          have hev := c6
          refine g_iconst (v := nI 0) (pc := 46) dX12_listen_46 (by decide) ?_
          refine g_istore (lv' := [(4, .int (nI 0)), (3, .int (nI 0)), (0, .ref (ad 0)), (1, .int (nI d)), (2, .int (nI what))]) (pc := 47) dX12_listen_47 (by decide) rfl ?_
          have lp49 : ∀ (d49 : Nat) (i : Nat) (nv : Int32), i + d49 = sz d + 1 → (i ≤ sz d) → ((nv = nI 0 ∧ ∀ q, q < i → q % 1 = 0 → inR (el (100 * d + q)) 20 = true) ∨ (nv = (-13) ∧ cellsB el d 1 (sz d) = false)) → G l D Z b0 rmX12_listen RX12 cX12_listen 6 (gE (some .int) "listen") (gT D b0 Po rmX12_listen.cells rmX12_listen.slots) (wM Z ad hi th po ba en se (enc kd fg pl hr) im rd mi (nf kp) (nf so) (nf sz) el ki kf ti lo wa nu li to ot V) [(4, .int (nI i)), (3, .int nv), (0, .ref (ad 0)), (1, .int (nI d)), (2, .int (nI what))] 0 0 49 [] := by
            intro d49
            induction d49 with
            | zero =>
              intro i nv hd49 hiN hnv
              omega
            | succ d49 ih49 =>
              intro i nv hd49 hiN hnv
              refine g_iload_n (q := 1) (pc := 49) dX12_listen_49 rfl rfl ?_
              refine g_if_ne (tgt := 90) (pc := 50) dX12_listen_50 (by decide) (fun c7 => ?_) (fun c7 => ?_)
              · -- T c7
                refine g_iload_n (q := 1) (pc := 90) dX12_listen_90 rfl rfl ?_
                refine g_if_eq (tgt := 96) (pc := 91) dX12_listen_91 (by decide) (fun c8 => ?_) (fun c8 => ?_)
                · -- T c8
                  exact absurd c8 (by assumption)
                · -- F c8
                  refine g_iload_n (q := 1) (pc := 94) dX12_listen_94 rfl rfl ?_
                  exact g_iret (pc := 95) (by decide) (by decide) (eqI hPo (by rcases hnv with ⟨q, -⟩ | ⟨rfl, hf⟩; exact absurd (q.trans nI_0) (by assumption); rw [spListenG, if_pos hd8, if_pos hw2, if_pos hwr, dN_N (by omega), if_pos hev, if_neg (by rw [hf]; decide)])) dX12_listen_95
              · -- F c7
                have hce := hnv.elim (fun q => q.2) (fun q => absurd (q.1.symm.trans c7) (by decide))
                refine g_iload (q := 0) (pc := 53) dX12_listen_53 rfl ?_
                refine g_aload_n (q := 2) (pc := 55) dX12_listen_55 rfl rfl ?_
                refine gm_get_sz (pc := 56) hA dX12_listen_56 ?_
                refine g_iload_n (q := 3) (pc := 59) dX12_listen_59 rfl rfl ?_
                refine gm_ld_sz (pc := 60) (j := d) (x := nI (sz d)) hA hd rfl dX12_listen_60 ?_
                refine g_icmp_ge_N (tgt := 90) (pc := 61) (by have := (hs d hd).2.2.1; omega) (by have := (hs d hd).2.2.1; omega) dX12_listen_61 (by decide) (fun c9 => ?_) (fun c9 => ?_)
                · -- T c9
                  exact absurd (by rw [spListenG, if_pos hd8, if_pos hw2, if_pos hwr, dN_N (by omega), if_pos hev, if_pos (cellsB_of (fun q hq => hce q (by omega)))]) h
                · -- F c9
                  refine g_aload_n (q := 2) (pc := 64) dX12_listen_64 rfl rfl ?_
                  refine g_iload_n (q := 3) (pc := 65) dX12_listen_65 rfl rfl ?_
                  refine g_iload (q := 0) (pc := 66) dX12_listen_66 rfl ?_
                  refine e_callV (k2 := 0) (n2 := 0) (As := [.int (nI d), .int (nI i)]) (rest := []) (pc := 68) (wM_0 hA) rfl (c_X12_told hA hd (by have := (hs d hd).2.2.1; omega)) mlX12_181 selX12_X12_told_X12_told mX12_told ⟨Nat.le_of_ble_eq_true rfl, Nat.le_of_ble_eq_true rfl⟩ rfl rfl (Nat.le_of_ble_eq_true rfl) dX12_listen_68 (by decide) rfl rfl ?_
                  refine e_callS (k2 := 0) (n2 := 0) (As := [.int (el (100 * d + i))]) (rest := []) (pc := 71) (c_X12_isCell hA) mlX12_143 mX12_isCell ⟨Nat.le_of_ble_eq_true rfl, Nat.le_of_ble_eq_true rfl⟩ rfl rfl (Nat.le_of_ble_eq_true rfl) dX12_listen_71 (by decide) rfl rfl ?_
                  refine g_if_eq_B (tgt := 81) (pc := 74) dX12_listen_74 (by decide) (fun c10 => ?_) (fun c10 => ?_)
                  · -- T c10
                    refine g_bipush (v := (-13)) (pc := 81) dX12_listen_81 (by decide) ?_
                    refine g_istore_n (lv' := [(3, .int (-13)), (4, .int (nI i)), (0, .ref (ad 0)), (1, .int (nI d)), (2, .int (nI what))]) (pc := 83) dX12_listen_83 rfl (by decide) rfl ?_
                    refine g_iinc (q := 1) (lv' := [(4, .int (nI (i + 1))), (3, .int (-13)), (0, .ref (ad 0)), (1, .int (nI d)), (2, .int (nI what))]) (pc := 84) dX12_listen_84 rfl (nI_inc _ _) (by decide) rfl ?_
                    refine g_goto (tgt := 49) (pc := 87) dX12_listen_87 (by decide) ?_
                    refine G.locals (L' := [(4, .int (nI (i + 1))), (3, .int (-13)), (0, .ref (ad 0)), (1, .int (nI d)), (2, .int (nI what))]) [0, 1, 2, 3, 4] rfl ?_
                    exact ih49 (i + 1) (-13) (by omega) (by omega) (Or.inr ⟨rfl, cellsB_f (by omega) (Nat.mod_one _) (by assumption)⟩)
                  · -- F c10
                    refine g_iconst (v := nI 0) (pc := 77) dX12_listen_77 (by decide) ?_
                    refine g_goto (tgt := 83) (pc := 78) dX12_listen_78 (by decide) ?_
                    refine g_istore_n (lv' := [(3, .int (nI 0)), (4, .int (nI i)), (0, .ref (ad 0)), (1, .int (nI d)), (2, .int (nI what))]) (pc := 83) dX12_listen_83 rfl (by decide) rfl ?_
                    refine g_iinc (q := 1) (lv' := [(4, .int (nI (i + 1))), (3, .int (nI 0)), (0, .ref (ad 0)), (1, .int (nI d)), (2, .int (nI what))]) (pc := 84) dX12_listen_84 rfl (nI_inc _ _) (by decide) rfl ?_
                    refine g_goto (tgt := 49) (pc := 87) dX12_listen_87 (by decide) ?_
                    refine G.locals (L' := [(4, .int (nI (i + 1))), (3, .int (nI 0)), (0, .ref (ad 0)), (1, .int (nI d)), (2, .int (nI what))]) [0, 1, 2, 3, 4] rfl ?_
                    exact ih49 (i + 1) (nI 0) (by omega) (by omega) (Or.inl ⟨rfl, cellsStep1 hce (by assumption)⟩)
          refine G.locals (L' := [(4, .int (nI 0)), (3, .int (nI 0)), (0, .ref (ad 0)), (1, .int (nI d)), (2, .int (nI what))]) [0, 1, 2, 3, 4] rfl ?_
          exact lp49 (sz d + 1) 0 (nI 0) (by omega) (by omega) (Or.inl ⟨rfl, fun q hq => absurd hq (Nat.not_lt_zero _)⟩)
        · -- F c6
          refine g_bipush (v := (-13)) (pc := 43) dX12_listen_43 (by decide) ?_
          refine g_istore_n (lv' := [(3, .int (-13)), (0, .ref (ad 0)), (1, .int (nI d)), (2, .int (nI what))]) (pc := 45) dX12_listen_45 rfl (by decide) rfl ?_
          refine g_iconst (v := nI 0) (pc := 46) dX12_listen_46 (by decide) ?_
          refine g_istore (lv' := [(4, .int (nI 0)), (3, .int (-13)), (0, .ref (ad 0)), (1, .int (nI d)), (2, .int (nI what))]) (pc := 47) dX12_listen_47 (by decide) rfl ?_
          refine g_iload_n (q := 1) (pc := 49) dX12_listen_49 rfl rfl ?_
          refine g_if_ne (tgt := 90) (pc := 50) dX12_listen_50 (by decide) (fun _ => ?_) (fun c0 => absurd c0 (by decide))
          refine g_iload_n (q := 1) (pc := 90) dX12_listen_90 rfl rfl ?_
          refine g_if_eq (tgt := 96) (pc := 91) dX12_listen_91 (by decide) (fun c0 => absurd c0 (by decide)) (fun _ => ?_)
          refine g_iload_n (q := 1) (pc := 94) dX12_listen_94 rfl rfl ?_
          exact g_iret (pc := 95) (by decide) (by decide) (eqI hPo (by rw [spListenG, if_pos hd8, if_pos hw2, if_pos hwr, dN_N (by omega), if_neg (by omega)])) dX12_listen_95
    · -- F c2
      refine g_iconst (v := (-1)) (pc := 17) dX12_listen_17 (by decide) ?_
      refine g_goto (tgt := 27) (pc := 18) dX12_listen_18 (by decide) ?_
      refine g_istore_n (lv' := [(3, .int (-1)), (0, .ref (ad 0)), (1, .int (nI d)), (2, .int what)]) (pc := 27) dX12_listen_27 rfl (by decide) rfl ?_
      refine g_iload_n (q := 0) (pc := 28) dX12_listen_28 rfl rfl ?_
      refine g_if_ne (tgt := 46) (pc := 29) dX12_listen_29 (by decide) (fun _ => ?_) (fun c0 => absurd c0 (by decide))
      refine g_iconst (v := nI 0) (pc := 46) dX12_listen_46 (by decide) ?_
      refine g_istore (lv' := [(4, .int (nI 0)), (3, .int (-1)), (0, .ref (ad 0)), (1, .int (nI d)), (2, .int what)]) (pc := 47) dX12_listen_47 (by decide) rfl ?_
      refine g_iload_n (q := 1) (pc := 49) dX12_listen_49 rfl rfl ?_
      refine g_if_ne (tgt := 90) (pc := 50) dX12_listen_50 (by decide) (fun _ => ?_) (fun c0 => absurd c0 (by decide))
      refine g_iload_n (q := 1) (pc := 90) dX12_listen_90 rfl rfl ?_
      refine g_if_eq (tgt := 96) (pc := 91) dX12_listen_91 (by decide) (fun c0 => absurd c0 (by decide)) (fun _ => ?_)
      refine g_iload_n (q := 1) (pc := 94) dX12_listen_94 rfl rfl ?_
      exact g_iret (pc := 95) (by decide) (by decide) (eqI hPo (by rw [spListenG, if_pos hd8, if_neg (by simp [*])])) dX12_listen_95
end MS
