section MS
variable {l : Launch} {D : va_G} {Z : Nat → ClassId} {b0 : Nat} {ad : Nat → Nat} {hi th po ba en se : Int32} {s im rd mi el ki kf ti lo wa nu li to ot : Nat → Int32} {kd fg pl kp so sz ikd ifg ipl : Nat → Nat} {hr ihr : Nat → Int32} {V : HV}
def tvF (el : Nat → Int32) (d : Nat) (Li : Nat → Nat) (c k : Nat) : Nat := Li (20 * dN (el (100 * d + k)) + c)
noncomputable def LTf (kd fg : Nat → Nat) (q : Nat) : Nat := dT kd fg (q / 20) (q % 20)
noncomputable def alA (kd fg : Nat → Nat) (el : Nat → Int32) (d n c : Nat) : Nat := mxA (tvF el d (LTf kd fg) c) n n
def lbF (A : Nat → Nat) : Nat → Nat
  | 0 => 0
  | c + 1 => if A c < A (lbF A c) then c else lbF A c
theorem lbF_1 (A : Nat → Nat) : lbF A 1 = 0 := by rw [lbF]; split <;> rfl
theorem lbF_lt (A : Nat → Nat) : ∀ c, 1 ≤ c → lbF A c < c
  | 0, h => absurd h (by decide)
  | 1, _ => by rw [lbF_1]; decide
  | c + 2, _ => by
    have := lbF_lt A (c + 1) (by omega)
    rw [lbF]; split <;> omega
theorem lbF_f {A : Nat → Nat} {c : Nat} (h : A (lbF A c) ≤ A c) : lbF A (c + 1) = lbF A c := by rw [lbF, if_neg (Nat.not_lt.mpr h)]
noncomputable def spListenV (kd fg : Nat → Nat) (el : Nat → Int32) (d n what : Nat) : Int32 := if n = 0 then (-4) else if what = 0 then nI (lbF (alA kd fg el d n) 20) else nI (alA kd fg el d n (lbF (alA kd fg el d n) 20))
theorem eqF_t {T : Nat → Nat} {i k : Nat} (h : T k = T i) : eqF T i k = 1 := if_pos h
theorem eqF_f {T : Nat → Nat} {i k : Nat} (h : ¬ T k = T i) : eqF T i k = 0 := if_neg h
theorem tvF_e {el : Nat → Int32} {d c k u : Nat} {Li : Nat → Nat} (h : dN (el (100 * d + k)) = u) : tvF el d Li c k = Li (20 * u + c) := by unfold tvF; rw [h]
theorem mxA_t {T : Nat → Nat} {n i : Nat} (h : mxA T n i < sumN (eqF T i) n) : mxA T n (i + 1) = sumN (eqF T i) n := by rw [mxA, if_pos h]
theorem mxA_f {T : Nat → Nat} {n i : Nat} (h : ¬ mxA T n i < sumN (eqF T i) n) : mxA T n (i + 1) = mxA T n i := by rw [mxA, if_neg h]
theorem sumE_le (T : Nat → Nat) (i k : Nat) : sumN (eqF T i) k ≤ k := by
  have h2 := sumN_le (f := eqF T i) (b := 1) (n := k) (fun j _ => by unfold eqF; split <;> omega)
  omega
theorem LTf_e {kd fg : Nat → Nat} {c k : Nat} (hk : k < 20) : LTf kd fg (20 * c + k) = dT kd fg c k := by
  unfold LTf; rw [show (20 * c + k) / 20 = c by omega, show (20 * c + k) % 20 = k by omega]
theorem stepL {f : Nat → Int32} {kd fg : Nat → Nat} {c k : Nat} (hk : k < 20) (h : ∀ q, q < 20 * c + k → f q = nf (LTf kd fg) q) : ∀ q, q < 20 * c + (k + 1) → upd f ((20 * c) + k) (nI (dT kd fg c k)) q = nf (LTf kd fg) q := fun q hq => by
  by_cases z : q = 20 * c + k
  · subst z; rw [upd_eq]; exact congrArg nI (LTf_e hk).symm
  · rw [upd_ne z]; exact h q (by omega)
def rmX12_alikeAt : Room := { frames := 1, cells := 0, slots := 0, locals := 22 }
set_option maxHeartbeats 8000000 in
theorem c_X12_alikeAt {d c : Nat} {Li : Nat → Nat} (hA : aB b0 18 ad) (hs : okS kp so sz ki kf) (hd : d < 8) (hcl : cellsAt el d 1 (sz d)) (hc : c < 20) (hLi : ∀ q, q < 400 → Li q ≤ 494) : KE l D Z b0 yX12_alikeAt cX12_alikeAt 7 (some .int) rmX12_alikeAt [.ref (ad 0), .int (nI d), .int (nI c)] (wM Z ad hi th po ba en se (enc kd fg pl hr) im rd mi (nf kp) (nf so) (nf sz) el ki kf ti lo wa nu (nf Li) to ot V) (some (.int (nI (mxA (tvF el d Li c) (sz d) (sz d))))) (wM Z ad hi th po ba en se (enc kd fg pl hr) im rd mi (nf kp) (nf so) (nf sz) el ki kf ti lo wa nu (nf Li) to ot V) := by
  refine KE.of (by decide) (Nat.le_of_ble_eq_true rfl) (fun Po hPo => ?_)
  refine G.locals (L' := [(0, .ref (ad 0)), (1, .int (nI d)), (2, .int (nI c))]) [0, 1, 2] rfl ?_
  refine g_iconst (v := nI 0) (pc := 0) dX12_alikeAt_0 (by decide) ?_
  refine g_istore_n (lv' := [(3, .int (nI 0)), (0, .ref (ad 0)), (1, .int (nI d)), (2, .int (nI c))]) (pc := 1) dX12_alikeAt_1 rfl (by decide) rfl ?_
  refine g_iconst (v := nI 0) (pc := 2) dX12_alikeAt_2 (by decide) ?_
  refine g_istore (lv' := [(4, .int (nI 0)), (3, .int (nI 0)), (0, .ref (ad 0)), (1, .int (nI d)), (2, .int (nI c))]) (pc := 3) dX12_alikeAt_3 (by decide) rfl ?_
  have lp5 : ∀ (d5 : Nat) (i : Nat), i + d5 = sz d + 1 → (i ≤ sz d) → G l D Z b0 rmX12_alikeAt RX12 cX12_alikeAt 7 (gE (some .int) "alikeAt") (gT D b0 Po rmX12_alikeAt.cells rmX12_alikeAt.slots) (wM Z ad hi th po ba en se (enc kd fg pl hr) im rd mi (nf kp) (nf so) (nf sz) el ki kf ti lo wa nu (nf Li) to ot V) [(4, .int (nI i)), (3, .int (nI (mxA (tvF el d Li c) (sz d) i))), (0, .ref (ad 0)), (1, .int (nI d)), (2, .int (nI c))] 0 0 5 [] := by
    intro d5
    induction d5 with
    | zero =>
      intro i hd5 hiN
      exact absurd hd5 (by omega)
    | succ d5 ih5 =>
      intro i hd5 hiN
      refine g_iload (q := 0) (pc := 5) dX12_alikeAt_5 rfl ?_
      refine g_aload_n (q := 2) (pc := 7) dX12_alikeAt_7 rfl rfl ?_
      refine gm_get_sz (pc := 8) hA dX12_alikeAt_8 ?_
      refine g_iload_n (q := 3) (pc := 11) dX12_alikeAt_11 rfl rfl ?_
      refine gm_ld_sz (pc := 12) (j := d) (x := nI (sz d)) hA hd rfl dX12_alikeAt_12 ?_
      refine g_icmp_ge_N (tgt := 105) (pc := 13) (by have := (hs d hd).2.2.1; omega) (by have := (hs d hd).2.2.1; omega) dX12_alikeAt_13 (by decide) (fun c1 => ?_) (fun c1 => ?_)
      · -- T c1
        refine g_iload_n (q := 1) (pc := 105) dX12_alikeAt_105 rfl rfl ?_
        exact g_iret (pc := 106) (by decide) (by decide) (eqI hPo (by have q9 : i = sz d := (by omega); rw [q9])) dX12_alikeAt_106
      · -- F c1
        refine g_iconst (v := nI 0) (pc := 16) dX12_alikeAt_16 (by decide) ?_
        refine g_istore (lv' := [(5, .int (nI 0)), (4, .int (nI i)), (3, .int (nI (mxA (tvF el d Li c) (sz d) i))), (0, .ref (ad 0)), (1, .int (nI d)), (2, .int (nI c))]) (pc := 17) dX12_alikeAt_17 (by decide) rfl ?_
        refine g_iconst (v := nI 0) (pc := 19) dX12_alikeAt_19 (by decide) ?_
        refine g_istore (lv' := [(6, .int (nI 0)), (5, .int (nI 0)), (4, .int (nI i)), (3, .int (nI (mxA (tvF el d Li c) (sz d) i))), (0, .ref (ad 0)), (1, .int (nI d)), (2, .int (nI c))]) (pc := 20) dX12_alikeAt_20 (by decide) rfl ?_
        have lp22 : ∀ (d22 : Nat) (k : Nat), k + d22 = sz d + 1 → (k ≤ sz d) → G l D Z b0 rmX12_alikeAt RX12 cX12_alikeAt 7 (gE (some .int) "alikeAt") (gT D b0 Po rmX12_alikeAt.cells rmX12_alikeAt.slots) (wM Z ad hi th po ba en se (enc kd fg pl hr) im rd mi (nf kp) (nf so) (nf sz) el ki kf ti lo wa nu (nf Li) to ot V) [(6, .int (nI k)), (5, .int (nI (sumN (eqF (tvF el d Li c) i) k))), (4, .int (nI i)), (3, .int (nI (mxA (tvF el d Li c) (sz d) i))), (0, .ref (ad 0)), (1, .int (nI d)), (2, .int (nI c))] 0 0 22 [] := by
          intro d22
          induction d22 with
          | zero =>
            intro k hd22 hkN
            exact absurd hd22 (by omega)
          | succ d22 ih22 =>
            intro k hd22 hkN
            refine g_iload (q := 0) (pc := 22) dX12_alikeAt_22 rfl ?_
            refine g_aload_n (q := 4) (pc := 24) dX12_alikeAt_24 rfl rfl ?_
            refine gm_get_sz (pc := 25) hA dX12_alikeAt_25 ?_
            refine g_iload_n (q := 5) (pc := 28) dX12_alikeAt_28 rfl rfl ?_
            refine gm_ld_sz (pc := 29) (j := d) (x := nI (sz d)) hA hd rfl dX12_alikeAt_29 ?_
            refine g_icmp_ge_N (tgt := 86) (pc := 30) (by have := (hs d hd).2.2.1; omega) (by have := (hs d hd).2.2.1; omega) dX12_alikeAt_30 (by decide) (fun c2 => ?_) (fun c2 => ?_)
            · -- T c2
              have hk9 : k = sz d := (by omega)
              rw [hk9]
              refine g_iload (q := 1) (pc := 86) dX12_alikeAt_86 rfl ?_
              refine g_iload_n (q := 3) (pc := 88) dX12_alikeAt_88 rfl rfl ?_
              refine g_icmp_le_N (tgt := 97) (pc := 89) (by have h1 := sumE_le (tvF el d Li c) i (sz d); have := (hs d hd).2.2.1; omega) (by have h1 := mxA_le (tvF el d Li c) (sz d) i; have := (hs d hd).2.2.1; omega) dX12_alikeAt_89 (by decide) (fun c3 => ?_) (fun c3 => ?_)
              · -- T c3
                refine g_iload_n (q := 3) (pc := 97) dX12_alikeAt_97 rfl rfl ?_
                refine g_top (x := nI (mxA (tvF el d Li c) (sz d) i)) (y := nI (mxA (tvF el d Li c) (sz d) (i + 1))) (congrArg nI (mxA_f (by omega)).symm) ?_
                refine g_istore_n (lv' := [(3, .int (nI (mxA (tvF el d Li c) (sz d) (i + 1)))), (6, .int (nI (sz d))), (5, .int (nI (sumN (eqF (tvF el d Li c) i) (sz d)))), (4, .int (nI i)), (0, .ref (ad 0)), (1, .int (nI d)), (2, .int (nI c))]) (pc := 98) dX12_alikeAt_98 rfl (by decide) rfl ?_
                refine g_iinc (q := 3) (lv' := [(4, .int (nI (i + 1))), (3, .int (nI (mxA (tvF el d Li c) (sz d) (i + 1)))), (6, .int (nI (sz d))), (5, .int (nI (sumN (eqF (tvF el d Li c) i) (sz d)))), (0, .ref (ad 0)), (1, .int (nI d)), (2, .int (nI c))]) (pc := 99) dX12_alikeAt_99 rfl (nI_inc _ _) (by decide) rfl ?_
                refine g_goto (tgt := 5) (pc := 102) dX12_alikeAt_102 (by decide) ?_
                refine G.locals (L' := [(4, .int (nI (i + 1))), (3, .int (nI (mxA (tvF el d Li c) (sz d) (i + 1)))), (0, .ref (ad 0)), (1, .int (nI d)), (2, .int (nI c))]) [0, 1, 4, 5, 6] rfl ?_
                exact ih5 (i + 1) (by omega) (by omega)
              · -- F c3
                refine g_iload (q := 1) (pc := 92) dX12_alikeAt_92 rfl ?_
                refine g_goto (tgt := 98) (pc := 94) dX12_alikeAt_94 (by decide) ?_
                refine g_top (x := nI (sumN (eqF (tvF el d Li c) i) (sz d))) (y := nI (mxA (tvF el d Li c) (sz d) (i + 1))) (congrArg nI (mxA_t (by omega)).symm) ?_
                refine g_istore_n (lv' := [(3, .int (nI (mxA (tvF el d Li c) (sz d) (i + 1)))), (6, .int (nI (sz d))), (5, .int (nI (sumN (eqF (tvF el d Li c) i) (sz d)))), (4, .int (nI i)), (0, .ref (ad 0)), (1, .int (nI d)), (2, .int (nI c))]) (pc := 98) dX12_alikeAt_98 rfl (by decide) rfl ?_
                refine g_iinc (q := 3) (lv' := [(4, .int (nI (i + 1))), (3, .int (nI (mxA (tvF el d Li c) (sz d) (i + 1)))), (6, .int (nI (sz d))), (5, .int (nI (sumN (eqF (tvF el d Li c) i) (sz d)))), (0, .ref (ad 0)), (1, .int (nI d)), (2, .int (nI c))]) (pc := 99) dX12_alikeAt_99 rfl (nI_inc _ _) (by decide) rfl ?_
                refine g_goto (tgt := 5) (pc := 102) dX12_alikeAt_102 (by decide) ?_
                refine G.locals (L' := [(4, .int (nI (i + 1))), (3, .int (nI (mxA (tvF el d Li c) (sz d) (i + 1)))), (0, .ref (ad 0)), (1, .int (nI d)), (2, .int (nI c))]) [0, 1, 4, 5, 6] rfl ?_
                exact ih5 (i + 1) (by omega) (by omega)
            · -- F c2
              refine g_iload (q := 1) (pc := 33) dX12_alikeAt_33 rfl ?_
              refine g_aload_n (q := 4) (pc := 35) dX12_alikeAt_35 rfl rfl ?_
              refine gm_get_li (pc := 36) hA dX12_alikeAt_36 ?_
              refine g_bipush (v := nI 20) (pc := 39) dX12_alikeAt_39 (by decide) ?_
              refine g_aload_n (q := 4) (pc := 41) dX12_alikeAt_41 rfl rfl ?_
              refine g_iload_n (q := 5) (pc := 42) dX12_alikeAt_42 rfl rfl ?_
              refine g_iload (q := 0) (pc := 43) dX12_alikeAt_43 rfl ?_
              refine e_callV (k2 := 0) (n2 := 0) (As := [.int (nI d), .int (nI k)]) (rest := [.int (nI 20), .ref (ad 15), .int (nI (sumN (eqF (tvF el d Li c) i) k))]) (pc := 45) (wM_0 hA) rfl (c_X12_told hA hd (by have := (hs d hd).2.2.1; omega)) mlX12_181 selX12_X12_told_X12_told mX12_told ⟨Nat.le_of_ble_eq_true rfl, Nat.le_of_ble_eq_true rfl⟩ rfl rfl (Nat.le_of_ble_eq_true rfl) dX12_alikeAt_45 (by decide) rfl rfl ?_
              obtain ⟨u, hu, eu, fu⟩ := cellsAt_get hcl (i := k) (by omega) (by omega)
              rw [eu]
              refine g_imul_N (pc := 48) dX12_alikeAt_48 ?_
              refine g_iload_n (q := 6) (pc := 49) dX12_alikeAt_49 rfl rfl ?_
              refine g_iadd_N (pc := 50) dX12_alikeAt_50 ?_
              refine gm_ld_li (pc := 51) (j := (20 * u) + c) (x := nI (Li ((20 * u) + c))) hA (by omega) rfl dX12_alikeAt_51 ?_
              refine g_aload_n (q := 4) (pc := 52) dX12_alikeAt_52 rfl rfl ?_
              refine gm_get_li (pc := 53) hA dX12_alikeAt_53 ?_
              refine g_bipush (v := nI 20) (pc := 56) dX12_alikeAt_56 (by decide) ?_
              refine g_aload_n (q := 4) (pc := 58) dX12_alikeAt_58 rfl rfl ?_
              refine g_iload_n (q := 5) (pc := 59) dX12_alikeAt_59 rfl rfl ?_
              refine g_iload (q := 2) (pc := 60) dX12_alikeAt_60 rfl ?_
              refine e_callV (k2 := 0) (n2 := 0) (As := [.int (nI d), .int (nI i)]) (rest := [.int (nI 20), .ref (ad 15), .int (nI (Li ((20 * u) + c))), .int (nI (sumN (eqF (tvF el d Li c) i) k))]) (pc := 62) (wM_0 hA) rfl (c_X12_told hA hd (by have := (hs d hd).2.2.1; omega)) mlX12_181 selX12_X12_told_X12_told mX12_told ⟨Nat.le_of_ble_eq_true rfl, Nat.le_of_ble_eq_true rfl⟩ rfl rfl (Nat.le_of_ble_eq_true rfl) dX12_alikeAt_62 (by decide) rfl rfl ?_
              obtain ⟨v, hv, ev, fv⟩ := cellsAt_get hcl (i := i) (by omega) (by omega)
              rw [ev]
              refine g_imul_N (pc := 65) dX12_alikeAt_65 ?_
              refine g_iload_n (q := 6) (pc := 66) dX12_alikeAt_66 rfl rfl ?_
              refine g_iadd_N (pc := 67) dX12_alikeAt_67 ?_
              refine gm_ld_li (pc := 68) (j := (20 * v) + c) (x := nI (Li ((20 * v) + c))) hA (by omega) rfl dX12_alikeAt_68 ?_
              refine g_icmp_ne_N (tgt := 76) (pc := 69) (by have := hLi ((20 * u) + c) (by omega); omega) (by have := hLi ((20 * v) + c) (by omega); omega) dX12_alikeAt_69 (by decide) (fun c4 => ?_) (fun c4 => ?_)
              · -- T c4
                refine g_iconst (v := nI 0) (pc := 76) dX12_alikeAt_76 (by decide) ?_
                refine g_top (x := nI 0) (y := nI (eqF (tvF el d Li c) i k)) (congrArg nI (eqF_f (by rw [tvF_e fu, tvF_e fv]; assumption)).symm) ?_
                refine g_iadd_N (pc := 77) dX12_alikeAt_77 ?_
                refine g_istore (lv' := [(5, .int (nI ((sumN (eqF (tvF el d Li c) i) k) + (eqF (tvF el d Li c) i k)))), (6, .int (nI k)), (4, .int (nI i)), (3, .int (nI (mxA (tvF el d Li c) (sz d) i))), (0, .ref (ad 0)), (1, .int (nI d)), (2, .int (nI c))]) (pc := 78) dX12_alikeAt_78 (by decide) rfl ?_
                refine g_iinc (q := 1) (lv' := [(6, .int (nI (k + 1))), (5, .int (nI ((sumN (eqF (tvF el d Li c) i) k) + (eqF (tvF el d Li c) i k)))), (4, .int (nI i)), (3, .int (nI (mxA (tvF el d Li c) (sz d) i))), (0, .ref (ad 0)), (1, .int (nI d)), (2, .int (nI c))]) (pc := 80) dX12_alikeAt_80 rfl (nI_inc _ _) (by decide) rfl ?_
                refine g_goto (tgt := 22) (pc := 83) dX12_alikeAt_83 (by decide) ?_
                refine G.locals (L' := [(6, .int (nI (k + 1))), (5, .int (nI ((sumN (eqF (tvF el d Li c) i) k) + (eqF (tvF el d Li c) i k)))), (4, .int (nI i)), (3, .int (nI (mxA (tvF el d Li c) (sz d) i))), (0, .ref (ad 0)), (1, .int (nI d)), (2, .int (nI c))]) [0, 1, 2, 3, 4, 5, 6] rfl ?_
                exact ih22 (k + 1) (by omega) (by omega)
              · -- F c4
                refine g_iconst (v := nI 1) (pc := 72) dX12_alikeAt_72 (by decide) ?_
                refine g_goto (tgt := 77) (pc := 73) dX12_alikeAt_73 (by decide) ?_
                refine g_top (x := nI 1) (y := nI (eqF (tvF el d Li c) i k)) (congrArg nI (eqF_t (by rw [tvF_e fu, tvF_e fv]; assumption)).symm) ?_
                refine g_iadd_N (pc := 77) dX12_alikeAt_77 ?_
                refine g_istore (lv' := [(5, .int (nI ((sumN (eqF (tvF el d Li c) i) k) + (eqF (tvF el d Li c) i k)))), (6, .int (nI k)), (4, .int (nI i)), (3, .int (nI (mxA (tvF el d Li c) (sz d) i))), (0, .ref (ad 0)), (1, .int (nI d)), (2, .int (nI c))]) (pc := 78) dX12_alikeAt_78 (by decide) rfl ?_
                refine g_iinc (q := 1) (lv' := [(6, .int (nI (k + 1))), (5, .int (nI ((sumN (eqF (tvF el d Li c) i) k) + (eqF (tvF el d Li c) i k)))), (4, .int (nI i)), (3, .int (nI (mxA (tvF el d Li c) (sz d) i))), (0, .ref (ad 0)), (1, .int (nI d)), (2, .int (nI c))]) (pc := 80) dX12_alikeAt_80 rfl (nI_inc _ _) (by decide) rfl ?_
                refine g_goto (tgt := 22) (pc := 83) dX12_alikeAt_83 (by decide) ?_
                refine G.locals (L' := [(6, .int (nI (k + 1))), (5, .int (nI ((sumN (eqF (tvF el d Li c) i) k) + (eqF (tvF el d Li c) i k)))), (4, .int (nI i)), (3, .int (nI (mxA (tvF el d Li c) (sz d) i))), (0, .ref (ad 0)), (1, .int (nI d)), (2, .int (nI c))]) [0, 1, 2, 3, 4, 5, 6] rfl ?_
                exact ih22 (k + 1) (by omega) (by omega)
        refine G.locals (L' := [(6, .int (nI 0)), (5, .int (nI 0)), (4, .int (nI i)), (3, .int (nI (mxA (tvF el d Li c) (sz d) i))), (0, .ref (ad 0)), (1, .int (nI d)), (2, .int (nI c))]) [0, 1, 2, 3, 4, 5, 6] rfl ?_
        exact lp22 (sz d + 1) 0 (by omega) (by omega)
  refine G.locals (L' := [(4, .int (nI 0)), (3, .int (nI 0)), (0, .ref (ad 0)), (1, .int (nI d)), (2, .int (nI c))]) [0, 1, 2, 3, 4] rfl ?_
  exact lp5 (sz d + 1) 0 (by omega) (by omega)
def rmX12_listen : Room := { frames := 4, cells := 0, slots := 0, locals := 91 }
set_option maxHeartbeats 8000000 in
theorem c_X12_listen_s {d what : Nat} (hA : aB b0 18 ad) (ho : okM kd fg pl) (hs : okS kp so sz ki kf) (hd : d < 8) (hk : kp d = 2) (hr9 : okSort (some 0) (so d) = true) (hz20 : sz d ≤ 20) (hcl : cellsAt el d 1 (sz d)) (hw : what < 2) : KM l D Z b0 yX12_listen cX12_listen 6 (some .int) rmX12_listen [.ref (ad 0), .int (nI d), .int (nI what)] (wM Z ad hi th po ba en se (enc kd fg pl hr) im rd mi (nf kp) (nf so) (nf sz) el ki kf ti lo wa nu li to ot V) (fun v V' => v = some (.int (spListenV kd fg el d (sz d) what)) ∧ MX Z ad hi (enc kd fg pl hr) im (nf kp) (nf so) (nf sz) el ki kf V V') := by
  refine KM.ofP (by decide) (Nat.le_of_ble_eq_true rfl) (fun Po hPo => ?_)
  refine G.locals (L' := [(0, .ref (ad 0)), (1, .int (nI d)), (2, .int (nI what))]) [0, 1, 2] rfl ?_
  refine g_iload_n (q := 1) (pc := 0) dX12_listen_0 rfl rfl ?_
  refine e_callS (k2 := 0) (n2 := 0) (As := [.int (nI d)]) (rest := []) (pc := 1) (c_X12_isShelfN hA (by omega) (c_X12_isShelf hA)) mlX12_152 mX12_isShelf ⟨Nat.le_of_ble_eq_true rfl, Nat.le_of_ble_eq_true rfl⟩ rfl rfl (Nat.le_of_ble_eq_true rfl) dX12_listen_1 (by decide) rfl rfl ?_
  refine g_if_eq_B (tgt := 17) (pc := 4) dX12_listen_4 (by decide) (fun c1 => ?_) (fun c1 => ?_)
  · -- T c1
    exact absurd (of_decide_eq_false c1) (by omega)
  · -- F c1
    have c1 := of_decide_eq_true c1
    refine g_iload_n (q := 2) (pc := 7) dX12_listen_7 rfl rfl ?_
    refine g_i2l (v := lN what) (pc := 8) dX12_listen_8 (nI_l (by omega)) ?_
    refine g_lconst (v := lN 0) (pc := 9) dX12_listen_9 (by decide) ?_
    refine g_lconst (v := lN 1) (pc := 10) dX12_listen_10 (by decide) ?_
    refine e_callS (k2 := 0) (n2 := 0) (As := [.long (lN what), .long (lN 0), .long (lN 1)]) (rest := []) (pc := 11) (c_X12_isInN hA (by omega) (by decide) (by decide) (c_X12_isIn hA)) mlX12_67 mX12_isIn ⟨Nat.le_of_ble_eq_true rfl, Nat.le_of_ble_eq_true rfl⟩ rfl rfl (Nat.le_of_ble_eq_true rfl) dX12_listen_11 (by decide) rfl rfl ?_
    refine g_if_ne_B (tgt := 21) (pc := 14) dX12_listen_14 (by decide) (fun c2 => ?_) (fun c2 => ?_)
    · -- T c2
      have c2 := of_decide_eq_true c2
      refine g_aload_n (q := 0) (pc := 21) dX12_listen_21 rfl rfl ?_
      refine g_iload_n (q := 1) (pc := 22) dX12_listen_22 rfl rfl ?_
      refine g_iconst (v := nI 0) (pc := 23) dX12_listen_23 (by decide) ?_
      refine e_callV (k2 := 0) (n2 := 0) (As := [.int (nI d), .int (nI 0)]) (rest := []) (pc := 24) (wM_0 hA) rfl (c_X12_wrongRow_ok (r := (some 0)) hA hd hk hr9 (c_X12_wrongRow0 hA hs)) mlX12_155 selX12_X12_wrongRow_X12_wrongRow mX12_wrongRow ⟨Nat.le_of_ble_eq_true rfl, Nat.le_of_ble_eq_true rfl⟩ rfl rfl (Nat.le_of_ble_eq_true rfl) dX12_listen_24 (by decide) rfl rfl ?_
      refine g_istore_n (lv' := [(3, .int (nI 0)), (0, .ref (ad 0)), (1, .int (nI d)), (2, .int (nI what))]) (pc := 27) dX12_listen_27 rfl (by decide) rfl ?_
      refine g_iload_n (q := 0) (pc := 28) dX12_listen_28 rfl rfl ?_
      refine g_if_ne (tgt := 46) (pc := 29) dX12_listen_29 (by decide) (fun c0 => absurd c0 (by decide)) (fun _ => ?_)
      refine g_aload_n (q := 1) (pc := 32) dX12_listen_32 rfl rfl ?_
      refine gm_get_sz (pc := 33) hA dX12_listen_33 ?_
      refine g_iload_n (q := 2) (pc := 36) dX12_listen_36 rfl rfl ?_
      refine gm_ld_sz (pc := 37) (j := d) (x := nI (sz d)) hA hd rfl dX12_listen_37 ?_
      refine g_bipush (v := nI 20) (pc := 38) dX12_listen_38 (by decide) ?_
      refine g_icmp_le_N (tgt := 46) (pc := 40) (by have := (hs d hd).2.2.1; omega) (by have := (hs d hd).2.2.1; omega) dX12_listen_40 (by decide) (fun c3 => ?_) (fun c3 => ?_)
      · -- T c3
        refine g_iconst (v := nI 0) (pc := 46) dX12_listen_46 (by decide) ?_
        refine g_istore (lv' := [(4, .int (nI 0)), (3, .int (nI 0)), (0, .ref (ad 0)), (1, .int (nI d)), (2, .int (nI what))]) (pc := 47) dX12_listen_47 (by decide) rfl ?_
        have lp49 : ∀ (d49 : Nat) (i : Nat), i + d49 = sz d + 1 → (i ≤ sz d) → G l D Z b0 rmX12_listen RX12 cX12_listen 6 (gE (some .int) "listen") (gT D b0 Po rmX12_listen.cells rmX12_listen.slots) (wM Z ad hi th po ba en se (enc kd fg pl hr) im rd mi (nf kp) (nf so) (nf sz) el ki kf ti lo wa nu li to ot V) [(4, .int (nI i)), (3, .int (nI 0)), (0, .ref (ad 0)), (1, .int (nI d)), (2, .int (nI what))] 0 0 49 [] := by
          intro d49
          induction d49 with
          | zero =>
            intro i hd49 hiN
            exact absurd hd49 (by omega)
          | succ d49 ih49 =>
            intro i hd49 hiN
            refine g_iload_n (q := 1) (pc := 49) dX12_listen_49 rfl rfl ?_
            refine g_if_ne (tgt := 90) (pc := 50) dX12_listen_50 (by decide) (fun c0 => absurd c0 (by decide)) (fun _ => ?_)
            refine g_iload (q := 0) (pc := 53) dX12_listen_53 rfl ?_
            refine g_aload_n (q := 2) (pc := 55) dX12_listen_55 rfl rfl ?_
            refine gm_get_sz (pc := 56) hA dX12_listen_56 ?_
            refine g_iload_n (q := 3) (pc := 59) dX12_listen_59 rfl rfl ?_
            refine gm_ld_sz (pc := 60) (j := d) (x := nI (sz d)) hA hd rfl dX12_listen_60 ?_
            refine g_icmp_ge_N (tgt := 90) (pc := 61) (by have := (hs d hd).2.2.1; omega) (by have := (hs d hd).2.2.1; omega) dX12_listen_61 (by decide) (fun c4 => ?_) (fun c4 => ?_)
            · -- T c4
              refine g_iload_n (q := 1) (pc := 90) dX12_listen_90 rfl rfl ?_
              refine g_if_eq (tgt := 96) (pc := 91) dX12_listen_91 (by decide) (fun _ => ?_) (fun c0 => absurd c0 (by decide))
              refine g_aload_n (q := 2) (pc := 96) dX12_listen_96 rfl rfl ?_
              refine gm_get_sz (pc := 97) hA dX12_listen_97 ?_
              refine g_iload_n (q := 3) (pc := 100) dX12_listen_100 rfl rfl ?_
              refine gm_ld_sz (pc := 101) (j := d) (x := nI (sz d)) hA hd rfl dX12_listen_101 ?_
              refine g_if_ne_N (tgt := 108) (pc := 102) (by have := (hs d hd).2.2.1; omega) dX12_listen_102 (by decide) (fun c5 => ?_) (fun c5 => ?_)
              · -- T c5
                refine g_iconst (v := nI 0) (pc := 108) dX12_listen_108 (by decide) ?_
                refine g_istore (lv' := [(4, .int (nI 0)), (3, .int (nI 0)), (0, .ref (ad 0)), (1, .int (nI d)), (2, .int (nI what))]) (pc := 109) dX12_listen_109 (by decide) rfl ?_
                have lp111 : ∀ (d111 : Nat) (c : Nat) (f : Nat → Int32) (f1 : Nat → Int32) (g1 : Nat → Int32), c + d111 = 21 → (c ≤ 20) → (∀ q, q < 20 * c → f q = nf (LTf kd fg) q) → G l D Z b0 rmX12_listen RX12 cX12_listen 6 (gE (some .int) "listen") (gT D b0 Po rmX12_listen.cells rmX12_listen.slots) (wM Z ad hi th po ba en se (enc kd fg pl hr) im rd mi (nf kp) (nf so) (nf sz) el ki kf f1 g1 wa nu f to ot V) [(4, .int (nI c)), (0, .ref (ad 0)), (1, .int (nI d)), (2, .int (nI what))] 0 0 111 [] := by
                  intro d111
                  induction d111 with
                  | zero =>
                    intro c f f1 g1 hd111 hcN hf
                    exact absurd hd111 (by omega)
                  | succ d111 ih111 =>
                    intro c f f1 g1 hd111 hcN hf
                    refine g_iload (q := 0) (pc := 111) dX12_listen_111 rfl ?_
                    refine g_bipush (v := nI 20) (pc := 113) dX12_listen_113 (by decide) ?_
                    refine g_icmp_ge_N (tgt := 166) (pc := 115) (by have := (hs d hd).2.2.1; omega) (by have := (hs d hd).2.2.1; omega) dX12_listen_115 (by decide) (fun c6 => ?_) (fun c6 => ?_)
                    · -- T c6
                      refine gm_eq_li (f' := nf (LTf kd fg)) hA (fun q hq => hf q (by omega)) ?_
                      refine g_iconst (v := nI 0) (pc := 166) dX12_listen_166 (by decide) ?_
                      refine g_top (x := nI 0) (y := nI (lbF (alA kd fg el d (sz d)) 1)) (congrArg nI (lbF_1 _).symm) ?_
                      refine g_istore (lv' := [(4, .int (nI (lbF (alA kd fg el d (sz d)) 1))), (0, .ref (ad 0)), (1, .int (nI d)), (2, .int (nI what))]) (pc := 167) dX12_listen_167 (by decide) rfl ?_
                      refine g_iconst (v := nI 1) (pc := 169) dX12_listen_169 (by decide) ?_
                      refine g_istore (lv' := [(5, .int (nI 1)), (4, .int (nI (lbF (alA kd fg el d (sz d)) 1))), (0, .ref (ad 0)), (1, .int (nI d)), (2, .int (nI what))]) (pc := 170) dX12_listen_170 (by decide) rfl ?_
                      have lp172 : ∀ (d172 : Nat) (c : Nat), c + d172 = 21 → (1 ≤ c ∧ c ≤ 20) → G l D Z b0 rmX12_listen RX12 cX12_listen 6 (gE (some .int) "listen") (gT D b0 Po rmX12_listen.cells rmX12_listen.slots) (wM Z ad hi th po ba en se (enc kd fg pl hr) im rd mi (nf kp) (nf so) (nf sz) el ki kf f1 g1 wa nu (nf (LTf kd fg)) to ot V) [(5, .int (nI c)), (4, .int (nI (lbF (alA kd fg el d (sz d)) c))), (0, .ref (ad 0)), (1, .int (nI d)), (2, .int (nI what))] 0 0 172 [] := by
                        intro d172
                        induction d172 with
                        | zero =>
                          intro c hd172 hcN
                          exact absurd hd172 (by omega)
                        | succ d172 ih172 =>
                          intro c hd172 hcN
                          refine g_iload (q := 0) (pc := 172) dX12_listen_172 rfl ?_
                          refine g_bipush (v := nI 20) (pc := 174) dX12_listen_174 (by decide) ?_
                          refine g_icmp_ge_N (tgt := 206) (pc := 176) (by have := (hs d hd).2.2.1; omega) (by have := (hs d hd).2.2.1; omega) dX12_listen_176 (by decide) (fun c7 => ?_) (fun c7 => ?_)
                          · -- T c7
                            refine g_iload_n (q := 4) (pc := 206) dX12_listen_206 rfl rfl ?_
                            refine g_if_ne_N (tgt := 215) (pc := 207) (by have := (hs d hd).2.2.1; omega) dX12_listen_207 (by decide) (fun c8 => ?_) (fun c8 => ?_)
                            · -- T c8
                              refine g_aload_n (q := 2) (pc := 215) dX12_listen_215 rfl rfl ?_
                              refine g_iload_n (q := 3) (pc := 216) dX12_listen_216 rfl rfl ?_
                              refine g_iload (q := 1) (pc := 217) dX12_listen_217 rfl ?_
                              refine e_callV (k2 := 0) (n2 := 0) (As := [.int (nI d), .int (nI (lbF (alA kd fg el d (sz d)) c))]) (rest := []) (pc := 219) (wM_0 hA) rfl (c_X12_alikeAt hA hs hd hcl (by have := lbF_lt (alA kd fg el d (sz d)) c hcN.1; omega) (fun q hq => (dT_b ho (by omega) (by omega)).1)) mlX12_187 selX12_X12_alikeAt_X12_alikeAt mX12_alikeAt ⟨Nat.le_of_ble_eq_true rfl, Nat.le_of_ble_eq_true rfl⟩ rfl rfl (Nat.le_of_ble_eq_true rfl) dX12_listen_219 (by decide) rfl rfl ?_
                              exact g_iret (pc := 222) (by decide) (by decide) (gI hPo (by have q9 : c = 20 := (by omega); rw [spListenV, if_neg (by assumption), if_neg (by assumption), ← q9] <;> rfl) mxk) dX12_listen_222
                            · -- F c8
                              refine g_iload (q := 1) (pc := 210) dX12_listen_210 rfl ?_
                              refine g_goto (tgt := 222) (pc := 212) dX12_listen_212 (by decide) ?_
                              exact g_iret (pc := 222) (by decide) (by decide) (gI hPo (by have q9 : c = 20 := (by omega); rw [spListenV, if_neg (by assumption), if_pos (by assumption), ← q9] <;> rfl) mxk) dX12_listen_222
                          · -- F c7
                            refine g_aload_n (q := 2) (pc := 179) dX12_listen_179 rfl rfl ?_
                            refine g_iload_n (q := 3) (pc := 180) dX12_listen_180 rfl rfl ?_
                            refine g_iload (q := 0) (pc := 181) dX12_listen_181 rfl ?_
                            refine e_callV (k2 := 0) (n2 := 0) (As := [.int (nI d), .int (nI c)]) (rest := []) (pc := 183) (wM_0 hA) rfl (c_X12_alikeAt hA hs hd hcl (by omega) (fun q hq => (dT_b ho (by omega) (by omega)).1)) mlX12_187 selX12_X12_alikeAt_X12_alikeAt mX12_alikeAt ⟨Nat.le_of_ble_eq_true rfl, Nat.le_of_ble_eq_true rfl⟩ rfl rfl (Nat.le_of_ble_eq_true rfl) dX12_listen_183 (by decide) rfl rfl ?_
                            refine g_aload_n (q := 2) (pc := 186) dX12_listen_186 rfl rfl ?_
                            refine g_iload_n (q := 3) (pc := 187) dX12_listen_187 rfl rfl ?_
                            refine g_iload (q := 1) (pc := 188) dX12_listen_188 rfl ?_
                            refine e_callV (k2 := 0) (n2 := 0) (As := [.int (nI d), .int (nI (lbF (alA kd fg el d (sz d)) c))]) (rest := [.int (nI (alA kd fg el d (sz d) c))]) (pc := 190) (wM_0 hA) rfl (c_X12_alikeAt hA hs hd hcl (by have := lbF_lt (alA kd fg el d (sz d)) c hcN.1; omega) (fun q hq => (dT_b ho (by omega) (by omega)).1)) mlX12_187 selX12_X12_alikeAt_X12_alikeAt mX12_alikeAt ⟨Nat.le_of_ble_eq_true rfl, Nat.le_of_ble_eq_true rfl⟩ rfl rfl (Nat.le_of_ble_eq_true rfl) dX12_listen_190 (by decide) rfl rfl ?_
                            refine g_icmp_ge_N (tgt := 200) (pc := 193) (by have h1 := mxA_le (tvF el d (LTf kd fg) c) (sz d) (sz d); have h2 := (hs d hd).2.2.1; exact Nat.lt_of_le_of_lt h1 (by omega)) (by have h1 := mxA_le (tvF el d (LTf kd fg) (lbF (alA kd fg el d (sz d)) c)) (sz d) (sz d); have h2 := (hs d hd).2.2.1; exact Nat.lt_of_le_of_lt h1 (by omega)) dX12_listen_193 (by decide) (fun c9 => ?_) (fun c9 => ?_)
                            · -- T c9
                              rw [← lbF_f (A := (alA kd fg el d (sz d))) (c := c) c9]
                              refine g_iinc (q := 0) (lv' := [(5, .int (nI (c + 1))), (4, .int (nI (lbF (alA kd fg el d (sz d)) (c + 1)))), (0, .ref (ad 0)), (1, .int (nI d)), (2, .int (nI what))]) (pc := 200) dX12_listen_200 rfl (nI_inc _ _) (by decide) rfl ?_
                              refine g_goto (tgt := 172) (pc := 203) dX12_listen_203 (by decide) ?_
                              refine G.locals (L' := [(5, .int (nI (c + 1))), (4, .int (nI (lbF (alA kd fg el d (sz d)) (c + 1)))), (0, .ref (ad 0)), (1, .int (nI d)), (2, .int (nI what))]) [0, 1, 2, 3, 4] rfl ?_
                              exact ih172 (c + 1) (by omega) (by omega)
                            · -- F c9
                              refine g_iload (q := 0) (pc := 196) dX12_listen_196 rfl ?_
                              refine g_top (x := nI c) (y := nI (lbF (alA kd fg el d (sz d)) (c + 1))) (congrArg nI (show lbF (alA kd fg el d (sz d)) (c + 1) = c by rw [lbF, if_pos (by assumption)]).symm) ?_
                              refine g_istore (lv' := [(4, .int (nI (lbF (alA kd fg el d (sz d)) (c + 1)))), (5, .int (nI c)), (0, .ref (ad 0)), (1, .int (nI d)), (2, .int (nI what))]) (pc := 198) dX12_listen_198 (by decide) rfl ?_
                              refine g_iinc (q := 1) (lv' := [(5, .int (nI (c + 1))), (4, .int (nI (lbF (alA kd fg el d (sz d)) (c + 1)))), (0, .ref (ad 0)), (1, .int (nI d)), (2, .int (nI what))]) (pc := 200) dX12_listen_200 rfl (nI_inc _ _) (by decide) rfl ?_
                              refine g_goto (tgt := 172) (pc := 203) dX12_listen_203 (by decide) ?_
                              refine G.locals (L' := [(5, .int (nI (c + 1))), (4, .int (nI (lbF (alA kd fg el d (sz d)) (c + 1)))), (0, .ref (ad 0)), (1, .int (nI d)), (2, .int (nI what))]) [0, 1, 2, 3, 4] rfl ?_
                              exact ih172 (c + 1) (by omega) (by omega)
                      refine G.locals (L' := [(5, .int (nI 1)), (4, .int (nI (lbF (alA kd fg el d (sz d)) 1))), (0, .ref (ad 0)), (1, .int (nI d)), (2, .int (nI what))]) [0, 1, 2, 3, 4] rfl ?_
                      exact lp172 20 1 (by omega) (by decide)
                    · -- F c6
                      refine g_aload_n (q := 1) (pc := 118) dX12_listen_118 rfl rfl ?_
                      refine g_iload (q := 0) (pc := 119) dX12_listen_119 rfl ?_
                      refine e_callVv (k2 := 0) (n2 := 0) (As := [.int (nI c)]) (rest := []) (pc := 121) (wM_0 hA) rfl (c_X12_finds hA ho (by omega)) mlX12_118 selX12_X12_finds_X12_finds mX12_finds ⟨Nat.le_of_ble_eq_true rfl, Nat.le_of_ble_eq_true rfl⟩ rfl rfl (Nat.le_of_ble_eq_true rfl) dX12_listen_121 (by decide) rfl rfl ?_
                      refine g_iconst (v := nI 0) (pc := 124) dX12_listen_124 (by decide) ?_
                      refine g_istore (lv' := [(5, .int (nI 0)), (4, .int (nI c)), (0, .ref (ad 0)), (1, .int (nI d)), (2, .int (nI what))]) (pc := 125) dX12_listen_125 (by decide) rfl ?_
                      have lp127 : ∀ (d127 : Nat) (k : Nat) (f2 : Nat → Int32), k + d127 = 21 → (k ≤ 20) → (∀ q, q < 20 * c + k → f2 q = nf (LTf kd fg) q) → G l D Z b0 rmX12_listen RX12 cX12_listen 6 (gE (some .int) "listen") (gT D b0 Po rmX12_listen.cells rmX12_listen.slots) (wM Z ad hi th po ba en se (enc kd fg pl hr) im rd mi (nf kp) (nf so) (nf sz) el ki kf (nf (dT kd fg c)) (nf (dL kd fg c)) wa nu f2 to ot V) [(5, .int (nI k)), (4, .int (nI c)), (0, .ref (ad 0)), (1, .int (nI d)), (2, .int (nI what))] 0 0 127 [] := by
                        intro d127
                        induction d127 with
                        | zero =>
                          intro k f2 hd127 hkN hf2
                          exact absurd hd127 (by omega)
                        | succ d127 ih127 =>
                          intro k f2 hd127 hkN hf2
                          refine g_iload (q := 0) (pc := 127) dX12_listen_127 rfl ?_
                          refine g_bipush (v := nI 20) (pc := 129) dX12_listen_129 (by decide) ?_
                          refine g_icmp_ge_N (tgt := 160) (pc := 131) (by have := (hs d hd).2.2.1; omega) (by have := (hs d hd).2.2.1; omega) dX12_listen_131 (by decide) (fun c10 => ?_) (fun c10 => ?_)
                          · -- T c10
                            refine g_iinc (q := 1) (lv' := [(4, .int (nI (c + 1))), (5, .int (nI k)), (0, .ref (ad 0)), (1, .int (nI d)), (2, .int (nI what))]) (pc := 160) dX12_listen_160 rfl (nI_inc _ _) (by decide) rfl ?_
                            refine g_goto (tgt := 111) (pc := 163) dX12_listen_163 (by decide) ?_
                            refine G.locals (L' := [(4, .int (nI (c + 1))), (0, .ref (ad 0)), (1, .int (nI d)), (2, .int (nI what))]) [0, 2, 3, 4] rfl ?_
                            exact ih111 (c + 1) f2 (nf (dT kd fg c)) (nf (dL kd fg c)) (by omega) (by omega) (fun q hq => hf2 q (by omega))
                          · -- F c10
                            refine g_aload_n (q := 2) (pc := 134) dX12_listen_134 rfl rfl ?_
                            refine gm_get_li (pc := 135) hA dX12_listen_135 ?_
                            refine g_bipush (v := nI 20) (pc := 138) dX12_listen_138 (by decide) ?_
                            refine g_iload (q := 1) (pc := 140) dX12_listen_140 rfl ?_
                            refine g_imul_N (pc := 142) dX12_listen_142 ?_
                            refine g_iload (q := 0) (pc := 143) dX12_listen_143 rfl ?_
                            refine g_iadd_N (pc := 145) dX12_listen_145 ?_
                            refine g_aload_n (q := 2) (pc := 146) dX12_listen_146 rfl rfl ?_
                            refine gm_get_ti (pc := 147) hA dX12_listen_147 ?_
                            refine g_iload (q := 0) (pc := 150) dX12_listen_150 rfl ?_
                            refine gm_ld_ti (pc := 152) (j := k) (x := nI ((dT kd fg c) k)) hA (by omega) rfl dX12_listen_152 ?_
                            refine gm_st_li (pc := 153) (j := (20 * c) + k) (f' := (upd f2 ((20 * c) + k) (nI ((dT kd fg c) k)))) hA (by omega) rfl dX12_listen_153 ?_
                            refine g_iinc (q := 0) (lv' := [(5, .int (nI (k + 1))), (4, .int (nI c)), (0, .ref (ad 0)), (1, .int (nI d)), (2, .int (nI what))]) (pc := 154) dX12_listen_154 rfl (nI_inc _ _) (by decide) rfl ?_
                            refine g_goto (tgt := 127) (pc := 157) dX12_listen_157 (by decide) ?_
                            refine G.locals (L' := [(5, .int (nI (k + 1))), (4, .int (nI c)), (0, .ref (ad 0)), (1, .int (nI d)), (2, .int (nI what))]) [0, 1, 2, 3, 4] rfl ?_
                            exact ih127 (k + 1) (upd f2 ((20 * c) + k) (nI ((dT kd fg c) k))) (by omega) (by omega) (stepL (by omega) hf2)
                      refine G.locals (L' := [(5, .int (nI 0)), (4, .int (nI c)), (0, .ref (ad 0)), (1, .int (nI d)), (2, .int (nI what))]) [0, 1, 2, 3, 4] rfl ?_
                      exact lp127 21 0 f (by omega) (by decide) hf
                refine G.locals (L' := [(4, .int (nI 0)), (0, .ref (ad 0)), (1, .int (nI d)), (2, .int (nI what))]) [0, 2, 3, 4] rfl ?_
                exact lp111 21 0 li ti lo (by omega) (by decide) (fun q hq => absurd hq (by omega))
              · -- F c5
                refine g_bipush (v := (-4)) (pc := 105) dX12_listen_105 (by decide) ?_
                exact g_iret (pc := 107) (by decide) (by decide) (gI hPo (by rw [spListenV, if_pos (by assumption)]) mxk) dX12_listen_107
            · -- F c4
              refine g_aload_n (q := 2) (pc := 64) dX12_listen_64 rfl rfl ?_
              refine g_iload_n (q := 3) (pc := 65) dX12_listen_65 rfl rfl ?_
              refine g_iload (q := 0) (pc := 66) dX12_listen_66 rfl ?_
              refine e_callV (k2 := 0) (n2 := 0) (As := [.int (nI d), .int (nI i)]) (rest := []) (pc := 68) (wM_0 hA) rfl (c_X12_told hA hd (by have := (hs d hd).2.2.1; omega)) mlX12_181 selX12_X12_told_X12_told mX12_told ⟨Nat.le_of_ble_eq_true rfl, Nat.le_of_ble_eq_true rfl⟩ rfl rfl (Nat.le_of_ble_eq_true rfl) dX12_listen_68 (by decide) rfl rfl ?_
              obtain ⟨u, hu, eu, fu⟩ := cellsAt_get hcl (i := i) (by omega) (by omega)
              rw [eu]
              refine e_callS (k2 := 0) (n2 := 0) (As := [.int (nI u)]) (rest := []) (pc := 71) (c_X12_isCellN hA (by omega) (c_X12_isCell hA)) mlX12_143 mX12_isCell ⟨Nat.le_of_ble_eq_true rfl, Nat.le_of_ble_eq_true rfl⟩ rfl rfl (Nat.le_of_ble_eq_true rfl) dX12_listen_71 (by decide) rfl rfl ?_
              refine g_if_eq_B (tgt := 81) (pc := 74) dX12_listen_74 (by decide) (fun c11 => ?_) (fun c11 => ?_)
              · -- T c11
                exact absurd (of_decide_eq_false c11) (by omega)
              · -- F c11
                have c11 := of_decide_eq_true c11
                refine g_iconst (v := nI 0) (pc := 77) dX12_listen_77 (by decide) ?_
                refine g_goto (tgt := 83) (pc := 78) dX12_listen_78 (by decide) ?_
                refine g_istore_n (lv' := [(3, .int (nI 0)), (4, .int (nI i)), (0, .ref (ad 0)), (1, .int (nI d)), (2, .int (nI what))]) (pc := 83) dX12_listen_83 rfl (by decide) rfl ?_
                refine g_iinc (q := 1) (lv' := [(4, .int (nI (i + 1))), (3, .int (nI 0)), (0, .ref (ad 0)), (1, .int (nI d)), (2, .int (nI what))]) (pc := 84) dX12_listen_84 rfl (nI_inc _ _) (by decide) rfl ?_
                refine g_goto (tgt := 49) (pc := 87) dX12_listen_87 (by decide) ?_
                refine G.locals (L' := [(4, .int (nI (i + 1))), (3, .int (nI 0)), (0, .ref (ad 0)), (1, .int (nI d)), (2, .int (nI what))]) [0, 1, 2, 3, 4] rfl ?_
                exact ih49 (i + 1) (by omega) (by omega)
        refine G.locals (L' := [(4, .int (nI 0)), (3, .int (nI 0)), (0, .ref (ad 0)), (1, .int (nI d)), (2, .int (nI what))]) [0, 1, 2, 3, 4] rfl ?_
        exact lp49 (sz d + 1) 0 (by omega) (by omega)
      · -- F c3
        exact absurd c3 (by omega)
    · -- F c2
      exact absurd (of_decide_eq_false c2) (by omega)
end MS
