/-- the first of the cells from c on that may be it -/
def FD (P : Nat → Bool) (c : Nat) (f : Int32) : Prop := ((∀ j, c ≤ j → j < 20 → P j = false) ∧ f = (-4)) ∨ ∃ j, c ≤ j ∧ j < 20 ∧ P j = true ∧ (∀ x, c ≤ x → x < j → P x = false) ∧ f = nI j
theorem FD_0 {P : Nat → Bool} : FD P 20 (-4) := Or.inl ⟨fun j h1 h2 => absurd h2 (by omega), rfl⟩
theorem FD_t {P : Nat → Bool} {c : Nat} (hc : c < 20) (h : P c = true) : FD P c (nI c) := Or.inr ⟨c, Nat.le_refl _, hc, h, fun x h1 h2 => absurd h2 (by omega), rfl⟩
theorem FD_f {P : Nat → Bool} {c : Nat} {f : Int32} (hf : FD P (c + 1) f) (h : P c = false) : FD P c f := by
  rcases hf with ⟨h1, h2⟩ | ⟨j, h1, h2, h3, h4, h5⟩
  · exact Or.inl ⟨fun j q1 q2 => by
      by_cases z : j = c
      · subst z; exact h
      · exact h1 j (by omega) q2, h2⟩
  · exact Or.inr ⟨j, by omega, h2, h3, fun x q1 q2 => by
      by_cases z : x = c
      · subst z; exact h
      · exact h4 x (by omega) q2, h5⟩
theorem frF_no {P : Nat → Bool} : ∀ n, (∀ x, x < n → P x = false) → frF P n = (-4)
  | 0, _ => rfl
  | n + 1, h => by rw [frF_f (h n (by omega))]; exact frF_no n (fun x hx => h x (by omega))
theorem frF_at {P : Nat → Bool} {j : Nat} (h : P j = true) (h1 : ∀ x, x < j → P x = false) : ∀ n, j < n → n < 1000 → frF P n = nI j
  | 0, hn, _ => absurd hn (Nat.not_lt_zero _)
  | n + 1, hn, hn2 => by
    by_cases q : j = n
    · subst q
      show (if P j = true then (if frF P j < 0 then nI j else frF P j) else frF P j) = nI j
      rw [if_pos h, frF_no j h1, if_pos (by decide)]
    · have e := frF_at h h1 n (by omega) (by omega)
      show (if P n = true then (if frF P n < 0 then nI n else frF P n) else frF P n) = nI j
      rw [e, if_neg (nI_nneg (by omega))]
      split <;> rfl
theorem FD_fin {P : Nat → Bool} {f : Int32} (h : FD P 0 f) : frF P 20 = f := by
  rcases h with ⟨h1, h2⟩ | ⟨j, h1, h2, h3, h4, h5⟩
  · rw [h2]; exact frF_no 20 (fun x hx => h1 x (Nat.zero_le _) hx)
  · rw [h5]; exact frF_at h3 (fun x hx => h4 x (Nat.zero_le _) hx) 20 h2 (by decide)
theorem cM_2 (c : Nat) : nI (c + 1) + (-1) = nI c := by
  have h := nI_dec (a := c + 1) (by omega)
  rw [Nat.add_sub_cancel] at h; exact h
theorem cM_0 {c : Nat} (hc : c ≤ 20) (h : nI c + (-1) < 0) : c = 0 := by
  by_cases q : c = 0
  · exact q
  · obtain ⟨x, rfl⟩ : ∃ x, c = x + 1 := ⟨c - 1, by omega⟩
    rw [cM_2] at h; exact absurd h (nI_nneg (by omega))
theorem cM_1 {c : Nat} (h : ¬ nI c + (-1) < 0) : ∃ x, c = x + 1 := by
  by_cases q : c = 0
  · subst q; exact absurd (by decide) h
  · exact ⟨c - 1, by omega⟩
theorem spFromG_o {kp so sz : Nat → Nat} {el : Nat → Int32} {d what : Int32} (h : inR d 8 = false) : spFromG kp so sz el d what = (-1) := by rw [spFromG, if_neg (by rw [h]; decide)]
theorem spFromG_w {kp so sz : Nat → Nat} {el : Nat → Int32} {d what : Int32} (h : inR what 2 = false) : spFromG kp so sz el d what = (-1) := by
  unfold spFromG; split
  · rw [if_neg (by rw [h]; decide)]
  · rfl
theorem spFromG_r {kp so sz : Nat → Nat} {el : Nat → Int32} {n : Nat} {what : Int32} (hn : n < 8) (hw : inR what 2 = true) : spFromG kp so sz el (nI n) what = if spWR kp so (nI n) (some 2) = 0 then (if sz n % 2 = 0 then (if cellsB el n 2 (sz n) = true then nI 0 else (-13)) else (-13)) else spWR kp so (nI n) (some 2) := by
  rw [spFromG, if_pos (inR_lt hn (by omega)), if_pos hw, dN_N (by omega)]
theorem spListenG_o {kp so sz : Nat → Nat} {el : Nat → Int32} {d what : Int32} (h : inR d 8 = false) : spListenG kp so sz el d what = (-1) := by rw [spListenG, if_neg (by rw [h]; decide)]
theorem spListenG_w {kp so sz : Nat → Nat} {el : Nat → Int32} {d what : Int32} (h : inR what 2 = false) : spListenG kp so sz el d what = (-1) := by
  unfold spListenG; split
  · rw [if_neg (by rw [h]; decide)]
  · rfl
theorem spListenG_r {kp so sz : Nat → Nat} {el : Nat → Int32} {n : Nat} {what : Int32} (hn : n < 8) (hw : inR what 2 = true) : spListenG kp so sz el (nI n) what = if spWR kp so (nI n) (some 0) = 0 then (if sz n ≤ 20 then (if cellsB el n 1 (sz n) = true then nI 0 else (-13)) else (-13)) else spWR kp so (nI n) (some 0) := by
  rw [spListenG, if_pos (inR_lt hn (by omega)), if_pos hw, dN_N (by omega)]
/-! ===== alike from a place on ===== -/
def cF (T : Nat → Nat) (i : Nat) : Nat → Nat := sumN (fun j => if i ≤ j ∧ T j = T i then 1 else 0)
theorem cF_0 {T : Nat → Nat} {i : Nat} : ∀ n, n ≤ i → cF T i n = 0
  | 0, _ => rfl
  | n + 1, h => by
    show cF T i n + (if i ≤ n ∧ T n = T i then 1 else 0) = 0
    rw [cF_0 n (by omega), if_neg (by omega)]
theorem cF_t {T : Nat → Nat} {i j : Nat} (h : i ≤ j) (e : T j = T i) : cF T i (j + 1) = cF T i j + 1 := by
  show cF T i j + (if i ≤ j ∧ T j = T i then 1 else 0) = _
  rw [if_pos ⟨h, e⟩]
theorem cF_f {T : Nat → Nat} {i j : Nat} (e : ¬ T j = T i) : cF T i (j + 1) = cF T i j := by
  show cF T i j + (if i ≤ j ∧ T j = T i then 1 else 0) = _
  rw [if_neg (fun q => e q.2)]; rfl
theorem cF_le {T : Nat → Nat} {i : Nat} : ∀ n, cF T i n ≤ sumN (eqF T i) n
  | 0 => Nat.le_refl _
  | n + 1 => by
    show cF T i n + (if i ≤ n ∧ T n = T i then 1 else 0) ≤ sumN (eqF T i) n + (if T n = T i then 1 else 0)
    have h := cF_le (T := T) (i := i) n
    by_cases q : T n = T i
    · rw [if_pos q]; split <;> omega
    · rw [if_neg q, if_neg (fun z => q z.2)]; omega
theorem cF_eq {T : Nat → Nat} {i : Nat} (hm : ∀ j, j < i → ¬ T j = T i) : ∀ n, cF T i n = sumN (eqF T i) n
  | 0 => rfl
  | n + 1 => by
    show cF T i n + (if i ≤ n ∧ T n = T i then 1 else 0) = sumN (eqF T i) n + (if T n = T i then 1 else 0)
    rw [cF_eq hm n]
    by_cases q : T n = T i
    · have : i ≤ n := by
        by_cases z : n < i
        · exact absurd q (hm n z)
        · omega
      rw [if_pos q, if_pos ⟨this, q⟩]
    · rw [if_neg q, if_neg (fun z => q z.2)]
def mxB (T : Nat → Nat) (n : Nat) : Nat → Nat
  | 0 => 0
  | i + 1 => if mxB T n i < cF T i n then cF T i n else mxB T n i
theorem mxB_ge {T : Nat → Nat} {n i : Nat} : ∀ k, i < k → cF T i n ≤ mxB T n k
  | 0, h => absurd h (Nat.not_lt_zero _)
  | k + 1, h => by
    rw [mxB]
    by_cases q : i = k
    · subst q; split <;> omega
    · have := mxB_ge (T := T) (n := n) k (show i < k by omega)
      split <;> omega
theorem mxB_le {T : Nat → Nat} {n : Nat} : ∀ k, mxB T n k ≤ mxA T n k
  | 0 => Nat.le_refl _
  | k + 1 => by
    have h1 := mxB_le (T := T) (n := n) k
    have h2 := cF_le (T := T) (i := k) n
    rw [mxB, mxA]
    split <;> split <;> omega
theorem first_of {T : Nat → Nat} : ∀ k, ∃ i, i ≤ k ∧ T i = T k ∧ ∀ j, j < i → ¬ T j = T i := by
  intro k
  induction k using Nat.strongRecOn with
  | ind k ih =>
    by_cases h : ∃ j, j < k ∧ T j = T k
    · obtain ⟨j, h1, h2⟩ := h
      obtain ⟨i, g1, g2, g3⟩ := ih j h1
      exact ⟨i, by omega, g2.trans h2, g3⟩
    · exact ⟨k, Nat.le_refl _, rfl, fun j hj e => h ⟨j, hj, e⟩⟩
theorem mxA_B {T : Nat → Nat} {n : Nat} : ∀ k, mxA T n k ≤ mxB T n k
  | 0 => Nat.le_refl _
  | k + 1 => by
    have h1 := mxA_B (T := T) (n := n) k
    have h3 : mxB T n k ≤ mxB T n (k + 1) := by rw [mxB]; split <;> omega
    rw [mxA]; split
    · obtain ⟨i, g1, g2, g3⟩ := first_of (T := T) k
      have e1 := cF_eq (T := T) (i := i) g3 n
      have e2 : sumN (eqF T i) n = sumN (eqF T k) n := sumN_congr (fun j _ => by unfold eqF; rw [g2])
      have := mxB_ge (T := T) (n := n) (i := i) (k + 1) (by omega)
      omega
    · omega
theorem mxB_eq {T : Nat → Nat} {n k : Nat} : mxB T n k = mxA T n k := Nat.le_antisymm (mxB_le k) (mxA_B k)
theorem tmS {f : Nat → Int32} {kd fg : Nat → Nat} {c : Nat} (h : ∀ q, q < 20 * c → f q = nf (LTf kd fg) q) : ∀ q, q < 20 * (c + 1) → va_cpy (nf (dT kd fg c)) f 0 (c * 20) 20 q = nf (LTf kd fg) q := fun q hq => by
  show (if c * 20 ≤ q ∧ q < c * 20 + 20 then nf (dT kd fg c) (0 + (q - c * 20)) else f q) = _
  by_cases z : q < 20 * c
  · rw [if_neg (by omega)]; exact h q z
  · rw [if_pos (by omega)]
    have e : q = 20 * c + (q - c * 20) := by omega
    show nI (dT kd fg c (0 + (q - c * 20))) = nI (LTf kd fg q)
    rw [Nat.zero_add]
    conv => rhs; rw [e]
    rw [LTf_e (by omega)]
def LB (A : Nat → Nat) (c b t : Nat) : Prop := (c = 0 ∧ b = 0 ∧ t = 1000000) ∨ (1 ≤ c ∧ b = lbF A c ∧ t = A (lbF A c))
theorem LB.lt {A : Nat → Nat} {c b t : Nat} (h : LB A c b t) (hl : A c < t) : LB A (c + 1) c (A c) := by
  rcases h with ⟨h1, h2, h3⟩ | ⟨h1, h2, h3⟩
  · subst h1; exact Or.inr ⟨by omega, (lbF_1 A).symm, by rw [lbF_1]⟩
  · have e : lbF A (c + 1) = c := by rw [lbF, if_pos (by omega)]
    exact Or.inr ⟨by omega, e.symm, by rw [e]⟩
theorem LB.ge {A : Nat → Nat} {c b t : Nat} (h : LB A c b t) (hA : A c < 1000000) (hl : t ≤ A c) : LB A (c + 1) b t := by
  rcases h with ⟨h1, h2, h3⟩ | ⟨h1, h2, h3⟩
  · omega
  · have e : lbF A (c + 1) = lbF A c := lbF_f (by omega)
    exact Or.inr ⟨by omega, by rw [e]; exact h2, by rw [e]; exact h3⟩
theorem LB.t {A : Nat → Nat} {c b t : Nat} (h : LB A c b t) (hA : ∀ x, A x < 1000000) : t ≤ 1000000 := by
  rcases h with ⟨h1, h2, h3⟩ | ⟨h1, h2, h3⟩
  · omega
  · have := hA (lbF A c); omega
section MS
variable {l : Launch} {D : va_G} {Z : Nat → ClassId} {b0 : Nat} {cd : Nat → Nat} {ik : Int32} {ugA ugB ugC : Nat} {rA : Nat → Nat} {pA tA : Nat → Int32} {rB : Nat → Nat} {pB tB : Nat → Int32} {rC : Nat → Nat} {pC tC cX lX oX nX sX zX cY lY oY nY sY zY tm cl : Nat → Int32} {KR : Nat → Option Nat} {SO : Nat → Int32} {SZ : Nat → Nat} {EL : Nat → Nat → Int32} {V Vb : HV} {kd fg pl ikd ifg ipl kp so sz : Nat → Nat} {hr ihr el ki kf : Nat → Int32}
def rmX11_from : Room := { frames := 4, cells := 0, slots := 0, locals := 86 }
set_option maxHeartbeats 8000000 in
theorem c_X11_from_s {d what : Nat} (hA : oC b0 cd V) (hE : Ext Vb V) (hgA : Rk V ugA 7 0) (hgB : Rk V ugB 7 0) (hmA : mo V rA kd fg) (hmC : mo V rC ikd ifg) (hpl : ∀ g, g < 2 → pl g < 20) (hipl : ∀ g, g < 2 → ipl g < 20) (hSh : Sh V KR SO SZ EL kp so sz el ki kf) (hd : d < 8) (hw : what < 2) (hk : kp d = 2) (hsr : so d = 2) (hev : sz d % 2 = 0) (hcl : cellsAt el d 2 (sz d)) : KM l D Z b0 yX11_from cX11_from 7 (some .int) rmX11_from [.ref (cd 0), .int (nI d), .int (nI what)] (wC Z cd ik ugA ugB ugC rA (nf pl) hr rB pB tB rC (nf ipl) ihr cX lX oX nX sX zX cY lY oY nY sY zY tm cl KR SO SZ EL V) (fun v0 V' => v0 = some (.int (spFromV kd fg sz el d what)) ∧ CI Z b0 cd Vb ik kd fg pl hr ikd ifg ipl ihr kp so sz el ki kf V') := by
  refine KM.ofP (by decide) (Nat.le_of_ble_eq_true rfl) (fun Po hPo => ?_)
  refine G.locals (L' := [(0, .ref (cd 0)), (1, .int (nI d)), (2, .int (nI what))]) [0, 1, 2] rfl ?_
  have h2 := And.intro hk (Sh.r2 hSh hd hk)
  have hz9 := h2.2.2.2.2.2.1
  refine g_iload_n (q := 2) (pc := 0) dX11_from_0 rfl rfl ?_
  refine g_iconst (v := nI 2) (pc := 1) dX11_from_1 (by decide) ?_
  refine e_callS (k2 := 0) (n2 := 0) (As := [.int (nI what), .int (nI 2)]) (rest := []) (pc := 2) (c_X11_isBelowN (by decide) (by omega)) mlX11_69 mX11_isBelow ⟨Nat.le_of_ble_eq_true rfl, Nat.le_of_ble_eq_true rfl⟩ rfl rfl (Nat.le_of_ble_eq_true rfl) dX11_from_2 (by decide) rfl rfl ?_
  refine g_if_ne_B (tgt := 10) (pc := 5) dX11_from_5 (by decide) (fun c1 => ?_) (fun c1 => ?_)
  · -- T c1
    have c1 := of_decide_eq_true c1
    refine g_aload_n (q := 0) (pc := 10) dX11_from_10 rfl rfl ?_
    refine g_iload_n (q := 1) (pc := 11) dX11_from_11 rfl rfl ?_
    refine g_iconst (v := nI 2) (pc := 12) dX11_from_12 (by decide) ?_
    refine e_callV (k2 := 0) (n2 := 0) (As := [.int (nI d), .int (nI 2)]) (rest := []) (pc := 13) (wC_0 hA) rfl (c_X11_rowOn__s hA hd h2.2.2.1 h2.2.2.2.1 hsr) mlX11_50 selX11_X11_rowOn__X11_rowOn_ mX11_rowOn_ ⟨Nat.le_of_ble_eq_true rfl, Nat.le_of_ble_eq_true rfl⟩ rfl rfl (Nat.le_of_ble_eq_true rfl) dX11_from_13 (by decide) rfl rfl ?_
    refine g_astore_n (lv' := [(3, .ref (cd (30 + d))), (0, .ref (cd 0)), (1, .int (nI d)), (2, .int (nI what))]) (pc := 16) dX11_from_16 rfl (by decide) rfl ?_
    refine g_aload_n (q := 0) (pc := 17) dX11_from_17 rfl rfl ?_
    refine g_ifnonnull (tgt := 27) (pc := 18) dX11_from_18 (by decide) ?_
    refine g_aload_n (q := 0) (pc := 27) dX11_from_27 rfl rfl ?_
    refine gc_get_S_size (pc := 28) (d := d) hA (by omega) flX11_132 dX11_from_28 ?_
    refine g_top (x := nI (SZ d)) (y := nI (sz d)) (congrArg nI h2.2.2.2.2.1) ?_
    refine g_iconst (v := nI 2) (pc := 31) dX11_from_31 (by decide) ?_
    refine g_irem_N (pc := 32) (by omega) (by decide) (by decide) dX11_from_32 ?_
    refine g_if_ne_N (tgt := 44) (pc := 33) (by omega) dX11_from_33 (by decide) (fun c2 => ?_) (fun c2 => ?_)
    · -- T c2
      exfalso; omega
    · -- F c2
      refine g_aload_n (q := 0) (pc := 36) dX11_from_36 rfl rfl ?_
      refine g_iconst (v := nI 2) (pc := 37) dX11_from_37 (by decide) ?_
      refine e_callS (k2 := 0) (n2 := 0) (As := [.ref (cd (30 + d)), .int (nI 2)]) (rest := []) (pc := 38) (c_X11_tellsCells_2 hA hd h2.2.2.2.2.1 h2.2.2.2.2.2.1 h2.2.2.2.2.2.2) mlX11_135 mX11_tellsCells ⟨Nat.le_of_ble_eq_true rfl, Nat.le_of_ble_eq_true rfl⟩ rfl rfl (Nat.le_of_ble_eq_true rfl) dX11_from_38 (by decide) rfl rfl ?_
      refine g_if_ne_B (tgt := 47) (pc := 41) dX11_from_41 (by decide) (fun c3 => ?_) (fun c3 => ?_)
      · -- T c3
        refine g_aload_n (q := 1) (pc := 47) dX11_from_47 rfl rfl ?_
        refine gc_get_O_ways (pc := 48) hA flX11_35 dX11_from_48 ?_
        refine g_aload_n (q := 1) (pc := 51) dX11_from_51 rfl rfl ?_
        refine gc_get_O_now (pc := 52) hA flX11_12 dX11_from_52 ?_
        refine e_callVv (k2 := 0) (n2 := 0) (As := [.ref (cd 1)]) (rest := []) (pc := 55) (wC_14 hA) rfl (c_X10_byKnocks_XA hA hmA) mlX11_139 selX10_X10_byKnocks_X10_byKnocks mX10_byKnocks ⟨Nat.le_of_ble_eq_true rfl, Nat.le_of_ble_eq_true rfl⟩ rfl rfl (Nat.le_of_ble_eq_true rfl) dX11_from_55 (by decide) rfl rfl ?_
        refine g_iconst (v := nI 0) (pc := 58) dX11_from_58 (by decide) ?_
        refine g_istore (lv' := [(4, .int (nI 0)), (3, .ref (cd (30 + d))), (0, .ref (cd 0)), (1, .int (nI d)), (2, .int (nI what))]) (pc := 59) dX11_from_59 (by decide) rfl ?_
        refine g_bipush (v := (-4)) (pc := 61) dX11_from_61 (by decide) ?_
        refine g_istore (lv' := [(5, .int (-4)), (4, .int (nI 0)), (3, .ref (cd (30 + d))), (0, .ref (cd 0)), (1, .int (nI d)), (2, .int (nI what))]) (pc := 63) dX11_from_63 (by decide) rfl ?_
        refine g_bipush (v := nI 19) (pc := 65) dX11_from_65 (by decide) ?_
        refine g_top (x := nI 19) (y := nI 20 + (-1)) (by decide) ?_
        refine g_istore (lv' := [(6, .int (nI 20 + (-1))), (5, .int (-4)), (4, .int (nI 0)), (3, .ref (cd (30 + d))), (0, .ref (cd 0)), (1, .int (nI d)), (2, .int (nI what))]) (pc := 67) dX11_from_67 (by decide) rfl ?_
        have lp69 : ∀ (d69 : Nat) (c : Nat) (f9 : Int32) (many : Nat) (l8 : Nat → Int32) (o8 : Nat → Int32) (n8 : Nat → Int32) (z8 : Nat → Int32), c < d69 → (c ≤ 20) → (many + cntB (frP kd fg sz el d) c = cntB (frP kd fg sz el d) 20) → (FD (frP kd fg sz el d) c f9) → G l D Z b0 rmX11_from RX11 cX11_from 7 (gE (some .int) "from") (gT D b0 Po rmX11_from.cells rmX11_from.slots) (wC Z cd ik ugA ugB ugC rA (nf pl) hr rB pB tB rC (nf ipl) ihr (nf (sw kd fg)) l8 o8 n8 (nf (lw kd fg)) z8 cY lY oY nY sY zY tm cl KR SO SZ EL V) [(6, .int (nI c + (-1))), (5, .int f9), (4, .int (nI many)), (0, .ref (cd 0)), (1, .int (nI d)), (2, .int (nI what)), (3, .ref (cd (30 + d)))] 0 0 69 [] := by
          intro d69
          induction d69 with
          | zero =>
            intro c f9 many l8 o8 n8 z8 hd69 hc20 hmn hff
            exact absurd hd69 (by omega)
          | succ d69 ih69 =>
            intro c f9 many l8 o8 n8 z8 hd69 hc20 hmn hff
            refine g_iload (q := 0) (pc := 69) dX11_from_69 rfl ?_
            refine g_if_lt (tgt := 104) (pc := 71) dX11_from_71 (by decide) (fun c4 => ?_) (fun c4 => ?_)
            · -- T c4
              obtain rfl : c = 0 := cM_0 hc20 c4
              refine g_iload_n (q := 5) (pc := 104) dX11_from_104 rfl rfl ?_
              refine g_if_ne_N (tgt := 113) (pc := 105) (by omega) dX11_from_105 (by decide) (fun c5 => ?_) (fun c5 => ?_)
              · -- T c5
                refine g_iload (q := 1) (pc := 113) dX11_from_113 rfl ?_
                exact g_iret (pc := 115) (by decide) (by decide) (gC hPo (by rw [spFromV, if_neg (by omega), FD_fin hff]) (CI.mk ⟨hA, hE, hgA, hgB, hmA, hmC, hpl, hipl, hSh⟩)) dX11_from_115
              · -- F c5
                refine g_iload (q := 2) (pc := 108) dX11_from_108 rfl ?_
                refine g_goto (tgt := 115) (pc := 110) dX11_from_110 (by decide) ?_
                exact g_iret (pc := 115) (by decide) (by decide) (gC hPo (by rw [spFromV, if_pos (by assumption), ← hmn]; rfl) (CI.mk ⟨hA, hE, hgA, hgB, hmA, hmC, hpl, hipl, hSh⟩)) dX11_from_115
            · -- F c4
              obtain ⟨c9, rfl⟩ := cM_1 c4
              rw [cM_2 c9]
              refine g_aload_n (q := 3) (pc := 74) dX11_from_74 rfl rfl ?_
              refine gc_get_O_ways (pc := 75) hA flX11_35 dX11_from_75 ?_
              refine g_iload (q := 0) (pc := 78) dX11_from_78 rfl ?_
              refine g_callV (As := [.int (nI c9)]) (rest := []) (pc := 80) (wC_14 hA) rfl (c_X10_spread_X hA (by omega) (mo.sw hmA) (mo.lw hmA)) mlX11_142 selX10_X10_spread_X10_spread mX10_spread ⟨Nat.le_of_ble_eq_true rfl, Nat.le_of_ble_eq_true rfl⟩ rfl rfl (Nat.le_of_ble_eq_true rfl) dX11_from_80 (by decide)  (fun v9 V9 h9 => ?_)
              obtain ⟨T80, L80, N80, rfl, hSP80, rfl⟩ := h9
              refine G.eqst (k2 := 0) (n2 := 0) (st2 := []) rfl rfl rfl ?_
              have hQ80 := SP.k (pl := fun _ => 0) (mo.ok hmA) (by omega) hSP80
              refine gc_eq_lX (f' := nf (dT kd fg c9)) hA hQ80.1 ?_
              refine gc_eq_oX (f' := nf (dL kd fg c9)) hA hQ80.2.1 ?_
              refine gc_eq_nX (f' := dC kd fg c9) hA hQ80.2.2 ?_
              refine g_aload_n (q := 3) (pc := 83) dX11_from_83 rfl rfl ?_
              refine g_aload_n (q := 6) (pc := 84) dX11_from_84 rfl rfl ?_
              refine e_callV (k2 := 0) (n2 := 0) (As := [.ref (cd (30 + d))]) (rest := []) (pc := 85) (wC_0 hA) rfl (c_X11_mayHaveKnocked hA hd h2.2.2.2.2.1 h2.2.2.2.2.2.1 h2.2.2.2.2.2.2 (fun v hv => (dT_b (pl := fun _ => 0) ⟨mo.ok hmA, fun _ _ => Nat.zero_lt_succ _⟩ (a := c9) (by omega) hv).1) hev hcl) mlX11_145 selX11_X11_mayHaveKnocked_X11_mayHaveKnocked mX11_mayHaveKnocked ⟨Nat.le_of_ble_eq_true rfl, Nat.le_of_ble_eq_true rfl⟩ rfl rfl (Nat.le_of_ble_eq_true rfl) dX11_from_85 (by decide) rfl rfl ?_
              refine g_if_eq_B (tgt := 98) (pc := 88) dX11_from_88 (by decide) (fun c6 => ?_) (fun c6 => ?_)
              · -- T c6
                have hP9 : frP kd fg sz el d c9 = false := c6
                refine g_iinc (q := 0) (lv' := [(6, .int ((nI c9) + (-1))), (5, .int f9), (4, .int (nI many)), (0, .ref (cd 0)), (1, .int (nI d)), (2, .int (nI what)), (3, .ref (cd (30 + d)))]) (pc := 98) dX11_from_98 rfl (rfl) (by decide) rfl ?_
                refine g_goto (tgt := 69) (pc := 101) dX11_from_101 (by decide) ?_
                refine G.locals (L' := [(6, .int ((nI c9) + (-1))), (5, .int f9), (4, .int (nI many)), (0, .ref (cd 0)), (1, .int (nI d)), (2, .int (nI what)), (3, .ref (cd (30 + d)))]) [0, 1, 2, 3, 4, 5, 6] rfl ?_
                exact ih69 c9 f9 many (nf (dT kd fg c9)) (nf (dL kd fg c9)) (dC kd fg c9) (bf (fun _ => true)) (by omega) (by omega) (by first | (have := cntB_t hP9; omega) | (have := cntB_f hP9; omega)) (by first | exact FD_t (by omega) hP9 | exact FD_f hff hP9)
              · -- F c6
                have hP9 : frP kd fg sz el d c9 = true := c6
                refine g_iinc (q := 2) (lv' := [(4, .int (nI (many + 1))), (6, .int (nI c9)), (5, .int f9), (0, .ref (cd 0)), (1, .int (nI d)), (2, .int (nI what)), (3, .ref (cd (30 + d)))]) (pc := 91) dX11_from_91 rfl (nI_inc _ _) (by decide) rfl ?_
                refine g_iload (q := 1) (pc := 94) dX11_from_94 rfl ?_
                refine g_istore (lv' := [(5, .int (nI c9)), (4, .int (nI (many + 1))), (6, .int (nI c9)), (0, .ref (cd 0)), (1, .int (nI d)), (2, .int (nI what)), (3, .ref (cd (30 + d)))]) (pc := 96) dX11_from_96 (by decide) rfl ?_
                refine g_iinc (q := 2) (lv' := [(6, .int ((nI c9) + (-1))), (5, .int (nI c9)), (4, .int (nI (many + 1))), (0, .ref (cd 0)), (1, .int (nI d)), (2, .int (nI what)), (3, .ref (cd (30 + d)))]) (pc := 98) dX11_from_98 rfl (rfl) (by decide) rfl ?_
                refine g_goto (tgt := 69) (pc := 101) dX11_from_101 (by decide) ?_
                refine G.locals (L' := [(6, .int ((nI c9) + (-1))), (5, .int (nI c9)), (4, .int (nI (many + 1))), (0, .ref (cd 0)), (1, .int (nI d)), (2, .int (nI what)), (3, .ref (cd (30 + d)))]) [0, 1, 2, 3, 4, 5, 6] rfl ?_
                exact ih69 c9 (nI c9) (many + 1) (nf (dT kd fg c9)) (nf (dL kd fg c9)) (dC kd fg c9) (bf (fun _ => true)) (by omega) (by omega) (by first | (have := cntB_t hP9; omega) | (have := cntB_f hP9; omega)) (by first | exact FD_t (by omega) hP9 | exact FD_f hff hP9)
        refine G.locals (L' := [(6, .int (nI 20 + (-1))), (5, .int (-4)), (4, .int (nI 0)), (0, .ref (cd 0)), (1, .int (nI d)), (2, .int (nI what)), (3, .ref (cd (30 + d)))]) [0, 1, 2, 4, 5, 6, 3] rfl ?_
        exact lp69 21 20 (-4) 0 lX oX nX zX (by omega) (by decide) (Nat.zero_add _) FD_0
      · -- F c3
        rw [cellsB_of hcl] at c3; cases c3
  · -- F c1
    exact absurd hw (of_decide_eq_false c1)
theorem d_X11_from_s {d what : Nat} {V2 : HV} (hCI : CI Z b0 cd Vb ik kd fg pl hr ikd ifg ipl ihr kp so sz el ki kf V2) (hd : d < 8) (hw : what < 2) (hk : kp d = 2) (hsr : so d = 2) (hev : sz d % 2 = 0) (hcl : cellsAt el d 2 (sz d)) : KM l D Z b0 yX11_from cX11_from 7 (some .int) rmX11_from [.ref (cd 0), .int (nI d), .int (nI what)] V2 (fun v0 V' => v0 = some (.int (spFromV kd fg sz el d what)) ∧ CI Z b0 cd Vb ik kd fg pl hr ikd ifg ipl ihr kp so sz el ki kf V') := by
  obtain ⟨ugA, ugB, ugC, rA, rB, pB, tB, rC, cX, lX, oX, nX, sX, zX, cY, lY, oY, nY, sY, zY, tm, cl, KR, SO, SZ, EL, V, rfl, hA, hE, hgA, hgB, hmA, hmC, hpl, hipl, hSh⟩ := hCI
  exact c_X11_from_s hA hE hgA hgB hmA hmC hpl hipl hSh hd hw hk hsr hev hcl
set_option maxHeartbeats 8000000 in
theorem c_X11_from_n {d what : Int32} (hA : oC b0 cd V) (hE : Ext Vb V) (hgA : Rk V ugA 7 0) (hgB : Rk V ugB 7 0) (hmA : mo V rA kd fg) (hmC : mo V rC ikd ifg) (hpl : ∀ g, g < 2 → pl g < 20) (hipl : ∀ g, g < 2 → ipl g < 20) (hSh : Sh V KR SO SZ EL kp so sz el ki kf) (h : ¬ spFromG kp so sz el d what = nI 0) : KM l D Z b0 yX11_from cX11_from 7 (some .int) rmX11_from [.ref (cd 0), .int d, .int what] (wC Z cd ik ugA ugB ugC rA (nf pl) hr rB pB tB rC (nf ipl) ihr cX lX oX nX sX zX cY lY oY nY sY zY tm cl KR SO SZ EL V) (fun v0 V' => v0 = some (.int (spFromG kp so sz el d what)) ∧ CI Z b0 cd Vb ik kd fg pl hr ikd ifg ipl ihr kp so sz el ki kf V') := by
  refine KM.ofP (by decide) (Nat.le_of_ble_eq_true rfl) (fun Po hPo => ?_)
  refine G.locals (L' := [(0, .ref (cd 0)), (1, .int d), (2, .int what)]) [0, 1, 2] rfl ?_
  refine g_iload_n (q := 2) (pc := 0) dX11_from_0 rfl rfl ?_
  refine g_iconst (v := nI 2) (pc := 1) dX11_from_1 (by decide) ?_
  refine e_callS (k2 := 0) (n2 := 0) (As := [.int what, .int (nI 2)]) (rest := []) (pc := 2) (c_X11_isBelow (by decide)) mlX11_69 mX11_isBelow ⟨Nat.le_of_ble_eq_true rfl, Nat.le_of_ble_eq_true rfl⟩ rfl rfl (Nat.le_of_ble_eq_true rfl) dX11_from_2 (by decide) rfl rfl ?_
  refine g_if_ne_B (tgt := 10) (pc := 5) dX11_from_5 (by decide) (fun c1 => ?_) (fun c1 => ?_)
  · -- T c1
    obtain ⟨what, hwhat, rfl⟩ := inR_t c1
    refine g_aload_n (q := 0) (pc := 10) dX11_from_10 rfl rfl ?_
    refine g_iload_n (q := 1) (pc := 11) dX11_from_11 rfl rfl ?_
    refine g_iconst (v := nI 2) (pc := 12) dX11_from_12 (by decide) ?_
    rcases Sh.k2 hSh d 2 with ho | ⟨d, hd, rfl, h0⟩ | ⟨d, hd, rfl, h1, a, q, f, hk1, hr1, hi1, hf1, hs1⟩ | ⟨d, hd, rfl, h2, hsx⟩ | ⟨d, hd, rfl, h2, hsr⟩
    · -- alt
      refine e_callV (k2 := 0) (n2 := 0) (As := [.int d, .int (nI 2)]) (rest := []) (pc := 13) (wC_0 hA) rfl (c_X11_rowOn__o (r := 2) hA ho) mlX11_50 selX11_X11_rowOn__X11_rowOn_ mX11_rowOn_ ⟨Nat.le_of_ble_eq_true rfl, Nat.le_of_ble_eq_true rfl⟩ rfl rfl (Nat.le_of_ble_eq_true rfl) dX11_from_13 (by decide) rfl rfl ?_
      refine g_astore_nN (lv' := [(3, .null), (0, .ref (cd 0)), (1, .int d), (2, .int (nI what))]) (pc := 16) dX11_from_16 rfl (by decide) rfl ?_
      refine g_aload_nN (q := 0) (pc := 17) dX11_from_17 rfl rfl ?_
      refine g_ifnonnullN (pc := 18) dX11_from_18 ?_
      refine g_aload_n (q := 1) (pc := 21) dX11_from_21 rfl rfl ?_
      refine g_iload_n (q := 2) (pc := 22) dX11_from_22 rfl rfl ?_
      refine e_callV (k2 := 0) (n2 := 0) (As := [.int d]) (rest := []) (pc := 23) (wC_0 hA) rfl (c_X11_whyNot_o hA ho) mlX11_54 selX11_X11_whyNot_X11_whyNot mX11_whyNot ⟨Nat.le_of_ble_eq_true rfl, Nat.le_of_ble_eq_true rfl⟩ rfl rfl (Nat.le_of_ble_eq_true rfl) dX11_from_23 (by decide) rfl rfl ?_
      exact g_iret (pc := 26) (by decide) (by decide) (gC hPo (by first | exact spFromG_o ho | (rw [spFromG_r hd (by assumption), spWR_0c hd h0.1]; rfl) | (rw [spFromG_r hd (by assumption), spWR_1c hd h1]; rfl) | (rw [spFromG_r hd (by assumption), spWR_xc (r := some 2) hd h2.1 (decide_eq_false hsx)]; rfl)) (CI.mk ⟨hA, hE, hgA, hgB, hmA, hmC, hpl, hipl, hSh⟩)) dX11_from_26
    · -- alt
      refine e_callV (k2 := 0) (n2 := 0) (As := [.int (nI d), .int (nI 2)]) (rest := []) (pc := 13) (wC_0 hA) rfl (c_X11_rowOn__e (r := 2) hA hd h0.2.2) mlX11_50 selX11_X11_rowOn__X11_rowOn_ mX11_rowOn_ ⟨Nat.le_of_ble_eq_true rfl, Nat.le_of_ble_eq_true rfl⟩ rfl rfl (Nat.le_of_ble_eq_true rfl) dX11_from_13 (by decide) rfl rfl ?_
      refine g_astore_nN (lv' := [(3, .null), (0, .ref (cd 0)), (1, .int (nI d)), (2, .int (nI what))]) (pc := 16) dX11_from_16 rfl (by decide) rfl ?_
      refine g_aload_nN (q := 0) (pc := 17) dX11_from_17 rfl rfl ?_
      refine g_ifnonnullN (pc := 18) dX11_from_18 ?_
      refine g_aload_n (q := 1) (pc := 21) dX11_from_21 rfl rfl ?_
      refine g_iload_n (q := 2) (pc := 22) dX11_from_22 rfl rfl ?_
      refine e_callV (k2 := 0) (n2 := 0) (As := [.int (nI d)]) (rest := []) (pc := 23) (wC_0 hA) rfl (c_X11_whyNot_0 hA hd h0.2.1 h0.2.2) mlX11_54 selX11_X11_whyNot_X11_whyNot mX11_whyNot ⟨Nat.le_of_ble_eq_true rfl, Nat.le_of_ble_eq_true rfl⟩ rfl rfl (Nat.le_of_ble_eq_true rfl) dX11_from_23 (by decide) rfl rfl ?_
      exact g_iret (pc := 26) (by decide) (by decide) (gC hPo (by first | exact spFromG_o ho | (rw [spFromG_r hd (by assumption), spWR_0c hd h0.1]; rfl) | (rw [spFromG_r hd (by assumption), spWR_1c hd h1]; rfl) | (rw [spFromG_r hd (by assumption), spWR_xc (r := some 2) hd h2.1 (decide_eq_false hsx)]; rfl)) (CI.mk ⟨hA, hE, hgA, hgB, hmA, hmC, hpl, hipl, hSh⟩)) dX11_from_26
    · -- alt
      refine e_callV (k2 := 0) (n2 := 0) (As := [.int (nI d), .int (nI 2)]) (rest := []) (pc := 13) (wC_0 hA) rfl (c_X11_rowOn__e (r := 2) hA hd hs1) mlX11_50 selX11_X11_rowOn__X11_rowOn_ mX11_rowOn_ ⟨Nat.le_of_ble_eq_true rfl, Nat.le_of_ble_eq_true rfl⟩ rfl rfl (Nat.le_of_ble_eq_true rfl) dX11_from_13 (by decide) rfl rfl ?_
      refine g_astore_nN (lv' := [(3, .null), (0, .ref (cd 0)), (1, .int (nI d)), (2, .int (nI what))]) (pc := 16) dX11_from_16 rfl (by decide) rfl ?_
      refine g_aload_nN (q := 0) (pc := 17) dX11_from_17 rfl rfl ?_
      refine g_ifnonnullN (pc := 18) dX11_from_18 ?_
      refine g_aload_n (q := 1) (pc := 21) dX11_from_21 rfl rfl ?_
      refine g_iload_n (q := 2) (pc := 22) dX11_from_22 rfl rfl ?_
      refine e_callV (k2 := 0) (n2 := 0) (As := [.int (nI d)]) (rest := []) (pc := 23) (wC_0 hA) rfl (c_X11_whyNot_1 hA hd hk1) mlX11_54 selX11_X11_whyNot_X11_whyNot mX11_whyNot ⟨Nat.le_of_ble_eq_true rfl, Nat.le_of_ble_eq_true rfl⟩ rfl rfl (Nat.le_of_ble_eq_true rfl) dX11_from_23 (by decide) rfl rfl ?_
      exact g_iret (pc := 26) (by decide) (by decide) (gC hPo (by first | exact spFromG_o ho | (rw [spFromG_r hd (by assumption), spWR_0c hd h0.1]; rfl) | (rw [spFromG_r hd (by assumption), spWR_1c hd h1]; rfl) | (rw [spFromG_r hd (by assumption), spWR_xc (r := some 2) hd h2.1 (decide_eq_false hsx)]; rfl)) (CI.mk ⟨hA, hE, hgA, hgB, hmA, hmC, hpl, hipl, hSh⟩)) dX11_from_26
    · -- alt
      refine e_callV (k2 := 0) (n2 := 0) (As := [.int (nI d), .int (nI 2)]) (rest := []) (pc := 13) (wC_0 hA) rfl (c_X11_rowOn__x hA hd h2.2.2.1 h2.2.2.2.1 hsx (by decide)) mlX11_50 selX11_X11_rowOn__X11_rowOn_ mX11_rowOn_ ⟨Nat.le_of_ble_eq_true rfl, Nat.le_of_ble_eq_true rfl⟩ rfl rfl (Nat.le_of_ble_eq_true rfl) dX11_from_13 (by decide) rfl rfl ?_
      refine g_astore_nN (lv' := [(3, .null), (0, .ref (cd 0)), (1, .int (nI d)), (2, .int (nI what))]) (pc := 16) dX11_from_16 rfl (by decide) rfl ?_
      refine g_aload_nN (q := 0) (pc := 17) dX11_from_17 rfl rfl ?_
      refine g_ifnonnullN (pc := 18) dX11_from_18 ?_
      refine g_aload_n (q := 1) (pc := 21) dX11_from_21 rfl rfl ?_
      refine g_iload_n (q := 2) (pc := 22) dX11_from_22 rfl rfl ?_
      refine e_callV (k2 := 0) (n2 := 0) (As := [.int (nI d)]) (rest := []) (pc := 23) (wC_0 hA) rfl (c_X11_whyNot_2 hA hd h2.2.1 h2.2.2.1 h2.2.2.2.1) mlX11_54 selX11_X11_whyNot_X11_whyNot mX11_whyNot ⟨Nat.le_of_ble_eq_true rfl, Nat.le_of_ble_eq_true rfl⟩ rfl rfl (Nat.le_of_ble_eq_true rfl) dX11_from_23 (by decide) rfl rfl ?_
      exact g_iret (pc := 26) (by decide) (by decide) (gC hPo (by first | exact spFromG_o ho | (rw [spFromG_r hd (by assumption), spWR_0c hd h0.1]; rfl) | (rw [spFromG_r hd (by assumption), spWR_1c hd h1]; rfl) | (rw [spFromG_r hd (by assumption), spWR_xc (r := some 2) hd h2.1 (decide_eq_false hsx)]; rfl)) (CI.mk ⟨hA, hE, hgA, hgB, hmA, hmC, hpl, hipl, hSh⟩)) dX11_from_26
    · -- alt
      refine e_callV (k2 := 0) (n2 := 0) (As := [.int (nI d), .int (nI 2)]) (rest := []) (pc := 13) (wC_0 hA) rfl (c_X11_rowOn__s hA hd h2.2.2.1 h2.2.2.2.1 hsr) mlX11_50 selX11_X11_rowOn__X11_rowOn_ mX11_rowOn_ ⟨Nat.le_of_ble_eq_true rfl, Nat.le_of_ble_eq_true rfl⟩ rfl rfl (Nat.le_of_ble_eq_true rfl) dX11_from_13 (by decide) rfl rfl ?_
      refine g_astore_n (lv' := [(3, .ref (cd (30 + d))), (0, .ref (cd 0)), (1, .int (nI d)), (2, .int (nI what))]) (pc := 16) dX11_from_16 rfl (by decide) rfl ?_
      refine g_aload_n (q := 0) (pc := 17) dX11_from_17 rfl rfl ?_
      refine g_ifnonnull (tgt := 27) (pc := 18) dX11_from_18 (by decide) ?_
      refine g_aload_n (q := 0) (pc := 27) dX11_from_27 rfl rfl ?_
      refine gc_get_S_size (pc := 28) (d := d) hA (by omega) flX11_132 dX11_from_28 ?_
      refine g_top (x := nI (SZ d)) (y := nI (sz d)) (congrArg nI h2.2.2.2.2.1) ?_
      refine g_iconst (v := nI 2) (pc := 31) dX11_from_31 (by decide) ?_
      refine g_irem_N (pc := 32) (by omega) (by decide) (by decide) dX11_from_32 ?_
      refine g_if_ne_N (tgt := 44) (pc := 33) (by omega) dX11_from_33 (by decide) (fun c2 => ?_) (fun c2 => ?_)
      · -- T c2
        refine g_bipush (v := (-13)) (pc := 44) dX11_from_44 (by decide) ?_
        exact g_iret (pc := 46) (by decide) (by decide) (gC hPo (by rw [spFromG_r hd (by assumption), if_pos (show spWR kp so (nI d) (some 2) = 0 from spWR_ok hd h2.1 (decide_eq_true hsr))]; first | (rw [if_neg (by omega)]; done) | (rw [if_pos (by omega), if_neg (by simp [*])])) (CI.mk ⟨hA, hE, hgA, hgB, hmA, hmC, hpl, hipl, hSh⟩)) dX11_from_46
      · -- F c2
        refine g_aload_n (q := 0) (pc := 36) dX11_from_36 rfl rfl ?_
        refine g_iconst (v := nI 2) (pc := 37) dX11_from_37 (by decide) ?_
        refine e_callS (k2 := 0) (n2 := 0) (As := [.ref (cd (30 + d)), .int (nI 2)]) (rest := []) (pc := 38) (c_X11_tellsCells_2 hA hd h2.2.2.2.2.1 h2.2.2.2.2.2.1 h2.2.2.2.2.2.2) mlX11_135 mX11_tellsCells ⟨Nat.le_of_ble_eq_true rfl, Nat.le_of_ble_eq_true rfl⟩ rfl rfl (Nat.le_of_ble_eq_true rfl) dX11_from_38 (by decide) rfl rfl ?_
        refine g_if_ne_B (tgt := 47) (pc := 41) dX11_from_41 (by decide) (fun c3 => ?_) (fun c3 => ?_)
        · -- T c3
          exact absurd (by rw [spFromG_r hd (by assumption), if_pos (show spWR kp so (nI d) (some 2) = 0 from spWR_ok hd h2.1 (decide_eq_true hsr)), if_pos (by omega), if_pos (by assumption)]) h
        · -- F c3
          refine g_bipush (v := (-13)) (pc := 44) dX11_from_44 (by decide) ?_
          exact g_iret (pc := 46) (by decide) (by decide) (gC hPo (by rw [spFromG_r hd (by assumption), if_pos (show spWR kp so (nI d) (some 2) = 0 from spWR_ok hd h2.1 (decide_eq_true hsr))]; first | (rw [if_neg (by omega)]; done) | (rw [if_pos (by omega), if_neg (by simp [*])])) (CI.mk ⟨hA, hE, hgA, hgB, hmA, hmC, hpl, hipl, hSh⟩)) dX11_from_46
  · -- F c1
    refine g_iconst (v := (-1)) (pc := 8) dX11_from_8 (by decide) ?_
    exact g_iret (pc := 9) (by decide) (by decide) (gC hPo (spFromG_w (by assumption)) (CI.mk ⟨hA, hE, hgA, hgB, hmA, hmC, hpl, hipl, hSh⟩)) dX11_from_9
theorem d_X11_from_n {d what : Int32} {V2 : HV} (hCI : CI Z b0 cd Vb ik kd fg pl hr ikd ifg ipl ihr kp so sz el ki kf V2) (h : ¬ spFromG kp so sz el d what = nI 0) : KM l D Z b0 yX11_from cX11_from 7 (some .int) rmX11_from [.ref (cd 0), .int d, .int what] V2 (fun v0 V' => v0 = some (.int (spFromG kp so sz el d what)) ∧ CI Z b0 cd Vb ik kd fg pl hr ikd ifg ipl ihr kp so sz el ki kf V') := by
  obtain ⟨ugA, ugB, ugC, rA, rB, pB, tB, rC, cX, lX, oX, nX, sX, zX, cY, lY, oY, nY, sY, zY, tm, cl, KR, SO, SZ, EL, V, rfl, hA, hE, hgA, hgB, hmA, hmC, hpl, hipl, hSh⟩ := hCI
  exact c_X11_from_n hA hE hgA hgB hmA hmC hpl hipl hSh h
def rmX11_takeTimes : Room := { frames := 4, cells := 0, slots := 0, locals := 82 }
set_option maxHeartbeats 8000000 in
theorem c_X11_takeTimes  (hA : oC b0 cd V) (hmA : mo V rA kd fg) : KM l D Z b0 yX11_takeTimes cX11_takeTimes 2 none rmX11_takeTimes [.ref (cd 0)] (wC Z cd ik ugA ugB ugC rA (nf pl) hr rB pB tB rC (nf ipl) ihr cX lX oX nX sX zX cY lY oY nY sY zY tm cl KR SO SZ EL V) (fun v0 V' => v0 = none ∧ ∃ (l9 o9 n9 z9 : Nat → Int32), V' = wC Z cd ik ugA ugB ugC rA (nf pl) hr rB pB tB rC (nf ipl) ihr (nf (sw kd fg)) l9 o9 n9 (nf (lw kd fg)) z9 cY lY oY nY sY zY (nf (LTf kd fg)) cl KR SO SZ EL V) := by
  refine KM.ofP (by decide) (Nat.le_of_ble_eq_true rfl) (fun Po hPo => ?_)
  refine G.locals (L' := [(0, .ref (cd 0))]) [0] rfl ?_
  refine g_aload_n (q := 0) (pc := 0) dX11_takeTimes_0 rfl rfl ?_
  refine gc_get_O_ways (pc := 1) hA flX11_35 dX11_takeTimes_1 ?_
  refine g_aload_n (q := 0) (pc := 4) dX11_takeTimes_4 rfl rfl ?_
  refine gc_get_O_now (pc := 5) hA flX11_12 dX11_takeTimes_5 ?_
  refine e_callVv (k2 := 0) (n2 := 0) (As := [.ref (cd 1)]) (rest := []) (pc := 8) (wC_14 hA) rfl (c_X10_byKnocks_XA hA hmA) mlX11_139 selX10_X10_byKnocks_X10_byKnocks mX10_byKnocks ⟨Nat.le_of_ble_eq_true rfl, Nat.le_of_ble_eq_true rfl⟩ rfl rfl (Nat.le_of_ble_eq_true rfl) dX11_takeTimes_8 (by decide) rfl rfl ?_
  refine g_iconst (v := nI 0) (pc := 11) dX11_takeTimes_11 (by decide) ?_
  refine g_istore_n (lv' := [(1, .int (nI 0)), (0, .ref (cd 0))]) (pc := 12) dX11_takeTimes_12 rfl (by decide) rfl ?_
  have lp13 : ∀ (d13 : Nat) (c : Nat) (tm8 : Nat → Int32) (l8 : Nat → Int32) (o8 : Nat → Int32) (n8 : Nat → Int32) (z8 : Nat → Int32), c + d13 = 21 → (c ≤ 20) → (∀ q, q < 20 * c → tm8 q = nf (LTf kd fg) q) → G l D Z b0 rmX11_takeTimes RX11 cX11_takeTimes 2 (gE none "takeTimes") (gT D b0 Po rmX11_takeTimes.cells rmX11_takeTimes.slots) (wC Z cd ik ugA ugB ugC rA (nf pl) hr rB pB tB rC (nf ipl) ihr (nf (sw kd fg)) l8 o8 n8 (nf (lw kd fg)) z8 cY lY oY nY sY zY tm8 cl KR SO SZ EL V) [(1, .int (nI c)), (0, .ref (cd 0))] 0 0 13 [] := by
    intro d13
    induction d13 with
    | zero =>
      intro c tm8 l8 o8 n8 z8 hd13 hc20 htm
      exact absurd hd13 (by omega)
    | succ d13 ih13 =>
      intro c tm8 l8 o8 n8 z8 hd13 hc20 htm
      refine g_iload_n (q := 0) (pc := 13) dX11_takeTimes_13 rfl rfl ?_
      refine g_bipush (v := nI 20) (pc := 14) dX11_takeTimes_14 (by decide) ?_
      refine g_icmp_ge_N (tgt := 54) (pc := 16) (by omega) (by omega) dX11_takeTimes_16 (by decide) (fun c1 => ?_) (fun c1 => ?_)
      · -- T c1
        refine gc_eq_tm (f' := nf (LTf kd fg)) hA (fun q hq => htm q (by omega)) ?_
        exact g_vret (pc := 54) (by decide) (by decide) (hPo _ _ ⟨rfl, _, _, _, _, rfl⟩) dX11_takeTimes_54
      · -- F c1
        refine g_aload_n (q := 1) (pc := 19) dX11_takeTimes_19 rfl rfl ?_
        refine gc_get_O_ways (pc := 20) hA flX11_35 dX11_takeTimes_20 ?_
        refine g_iload_n (q := 0) (pc := 23) dX11_takeTimes_23 rfl rfl ?_
        refine g_callV (As := [.int (nI c)]) (rest := []) (pc := 24) (wC_14 hA) rfl (c_X10_spread_X hA (by omega) (mo.sw hmA) (mo.lw hmA)) mlX11_142 selX10_X10_spread_X10_spread mX10_spread ⟨Nat.le_of_ble_eq_true rfl, Nat.le_of_ble_eq_true rfl⟩ rfl rfl (Nat.le_of_ble_eq_true rfl) dX11_takeTimes_24 (by decide)  (fun v9 V9 h9 => ?_)
        obtain ⟨T24, L24, N24, rfl, hSP24, rfl⟩ := h9
        refine G.eqst (k2 := 0) (n2 := 0) (st2 := []) rfl rfl rfl ?_
        have hQ24 := SP.k (pl := fun _ => 0) (mo.ok hmA) (by omega) hSP24
        refine gc_eq_lX (f' := nf (dT kd fg c)) hA hQ24.1 ?_
        refine gc_eq_oX (f' := nf (dL kd fg c)) hA hQ24.2.1 ?_
        refine gc_eq_nX (f' := dC kd fg c) hA hQ24.2.2 ?_
        refine g_aload_n (q := 1) (pc := 27) dX11_takeTimes_27 rfl rfl ?_
        refine gc_get_O_ways (pc := 28) hA flX11_35 dX11_takeTimes_28 ?_
        refine gc_get_WX_least (pc := 31) hA flX11_118 dX11_takeTimes_31 ?_
        refine g_iconst (v := nI 0) (pc := 34) dX11_takeTimes_34 (by decide) ?_
        refine g_aload_n (q := 1) (pc := 35) dX11_takeTimes_35 rfl rfl ?_
        refine gc_get_O_times (pc := 36) hA flX11_42 dX11_takeTimes_36 ?_
        refine g_iload_n (q := 0) (pc := 39) dX11_takeTimes_39 rfl rfl ?_
        refine g_bipush (v := nI 20) (pc := 40) dX11_takeTimes_40 (by decide) ?_
        refine g_imul_N (pc := 42) dX11_takeTimes_42 ?_
        refine g_bipush (v := nI 20) (pc := 43) dX11_takeTimes_43 (by decide) ?_
        refine g_copy (pc := 45) (sp := 0) (dp := c * 20) (w := 20) (wC_17 hA) (wC_28 hA) (by omega) (by omega) (by decide) (by decide) (hA.1.2 _ (by decide)) ⟨Nat.le_of_ble_eq_true rfl, Nat.le_of_ble_eq_true rfl⟩ (Nat.le_of_ble_eq_true rfl) dX11_takeTimes_45 ?_
        refine G.veq (wCs_tm hA) ?_
        refine g_iinc (q := 0) (lv' := [(1, .int (nI (c + 1))), (0, .ref (cd 0))]) (pc := 48) dX11_takeTimes_48 rfl (nI_inc _ _) (by decide) rfl ?_
        refine g_goto (tgt := 13) (pc := 51) dX11_takeTimes_51 (by decide) ?_
        refine G.locals (L' := [(1, .int (nI (c + 1))), (0, .ref (cd 0))]) [0, 1] rfl ?_
        exact ih13 (c + 1) (va_cpy (nf (dT kd fg c)) tm8 0 (c * 20) 20) (nf (dT kd fg c)) (nf (dL kd fg c)) (dC kd fg c) (bf (fun _ => true)) (by omega) (by omega) (tmS htm)
  refine G.locals (L' := [(1, .int (nI 0)), (0, .ref (cd 0))]) [0, 1] rfl ?_
  exact lp13 21 0 tm lX oX nX zX (by omega) (by decide) (fun q hq => absurd hq (Nat.not_lt_zero _))
def rmX11_mostAlike : Room := { frames := 2, cells := 0, slots := 0, locals := 42 }
set_option maxHeartbeats 8000000 in
theorem c_X11_mostAlike {d to : Nat} {Li : Nat → Nat} (hA : oC b0 cd V) (hd : d < 8) (hze : SZ d = sz d) (hz1 : sz d ≤ 100) (hel : ∀ i, i < sz d → EL d i = el (100 * d + i)) (hcl : cellsAt el d 1 (sz d)) (hto : to < 20) (hLi : ∀ q, q < 400 → Li q ≤ 494) : KE l D Z b0 yX11_mostAlike cX11_mostAlike 8 (some .int) rmX11_mostAlike [.ref (cd 0), .ref (cd (30 + d)), .int (nI to)] (wC Z cd ik ugA ugB ugC rA (nf pl) hr rB pB tB rC (nf ipl) ihr cX lX oX nX sX zX cY lY oY nY sY zY (nf Li) cl KR SO SZ EL V) (some (.int (nI (mxA (tvF el d Li to) (sz d) (sz d))))) (wC Z cd ik ugA ugB ugC rA (nf pl) hr rB pB tB rC (nf ipl) ihr cX lX oX nX sX zX cY lY oY nY sY zY (nf Li) cl KR SO SZ EL V) := by
  refine KE.of (by decide) (Nat.le_of_ble_eq_true rfl) (fun Po hPo => ?_)
  refine G.locals (L' := [(0, .ref (cd 0)), (1, .ref (cd (30 + d))), (2, .int (nI to))]) [0, 1, 2] rfl ?_
  refine g_iconst (v := nI 0) (pc := 0) dX11_mostAlike_0 (by decide) ?_
  refine g_istore_n (lv' := [(3, .int (nI 0)), (0, .ref (cd 0)), (1, .ref (cd (30 + d))), (2, .int (nI to))]) (pc := 1) dX11_mostAlike_1 rfl (by decide) rfl ?_
  refine g_iconst (v := nI 0) (pc := 2) dX11_mostAlike_2 (by decide) ?_
  refine g_istore (lv' := [(4, .int (nI 0)), (3, .int (nI 0)), (0, .ref (cd 0)), (1, .ref (cd (30 + d))), (2, .int (nI to))]) (pc := 3) dX11_mostAlike_3 (by decide) rfl ?_
  have lp5 : ∀ (d5 : Nat) (i : Nat), i + d5 = sz d + 1 → (i ≤ sz d) → G l D Z b0 rmX11_mostAlike RX11 cX11_mostAlike 8 (gE (some .int) "mostAlike") (gT D b0 Po rmX11_mostAlike.cells rmX11_mostAlike.slots) (wC Z cd ik ugA ugB ugC rA (nf pl) hr rB pB tB rC (nf ipl) ihr cX lX oX nX sX zX cY lY oY nY sY zY (nf Li) cl KR SO SZ EL V) [(4, .int (nI i)), (3, .int (nI (mxB (tvF el d Li to) (sz d) i))), (0, .ref (cd 0)), (1, .ref (cd (30 + d))), (2, .int (nI to))] 0 0 5 [] := by
    intro d5
    induction d5 with
    | zero =>
      intro i hd5 hiN
      exact absurd hd5 (by omega)
    | succ d5 ih5 =>
      intro i hd5 hiN
      refine g_iload (q := 0) (pc := 5) dX11_mostAlike_5 rfl ?_
      refine g_aload_n (q := 3) (pc := 7) dX11_mostAlike_7 rfl rfl ?_
      refine gc_get_S_size (pc := 8) (d := d) hA (by omega) flX11_132 dX11_mostAlike_8 ?_
      refine g_top (x := nI (SZ d)) (y := nI (sz d)) (congrArg nI hze) ?_
      refine g_icmp_ge_N (tgt := 91) (pc := 11) (by omega) (by omega) dX11_mostAlike_11 (by decide) (fun c1 => ?_) (fun c1 => ?_)
      · -- T c1
        refine g_iload_n (q := 1) (pc := 91) dX11_mostAlike_91 rfl rfl ?_
        exact g_iret (pc := 92) (by decide) (by decide) (eqI hPo (by rw [show i = sz d by omega, mxB_eq])) dX11_mostAlike_92
      · -- F c1
        refine g_aload_n (q := 2) (pc := 14) dX11_mostAlike_14 rfl rfl ?_
        refine gc_get_O_times (pc := 15) hA flX11_42 dX11_mostAlike_15 ?_
        refine g_aload_n (q := 3) (pc := 18) dX11_mostAlike_18 rfl rfl ?_
        refine g_iload (q := 0) (pc := 19) dX11_mostAlike_19 rfl ?_
        obtain ⟨u21, hu21, hu21e, hu21d⟩ := cellsAt_get hcl (i := i) (by omega) (Nat.mod_one _)
        refine e_callV (k2 := 0) (n2 := 0) (As := [.int (nI i)]) (rest := [.ref (cd 28)]) (pc := 21) (wC_sh hA hd) rfl (c_X7_at_s (x := nI u21) hA hd (by rw [hze]; omega) (by rw [hze]; exact hz1) ((hel i (by omega)).trans hu21e)) mlX11_200 selX7_X7_at_X7_at mX7_at ⟨Nat.le_of_ble_eq_true rfl, Nat.le_of_ble_eq_true rfl⟩ rfl rfl (Nat.le_of_ble_eq_true rfl) dX11_mostAlike_21 (by decide) rfl rfl ?_
        refine g_bipush (v := nI 20) (pc := 24) dX11_mostAlike_24 (by decide) ?_
        refine g_imul_N (pc := 26) dX11_mostAlike_26 ?_
        refine g_iload_n (q := 4) (pc := 27) dX11_mostAlike_27 rfl rfl ?_
        refine g_iadd_N (pc := 28) dX11_mostAlike_28 ?_
        refine gc_ld_tm (pc := 29) (j := (u21 * 20) + to) (x := nI (tvF el d Li to i)) hA (by omega) (congrArg nI (by rw [tvF_e hu21d, Nat.mul_comm 20])) dX11_mostAlike_29 ?_
        refine g_istore (lv' := [(5, .int (nI (tvF el d Li to i))), (4, .int (nI i)), (3, .int (nI (mxB (tvF el d Li to) (sz d) i))), (0, .ref (cd 0)), (1, .ref (cd (30 + d))), (2, .int (nI to))]) (pc := 30) dX11_mostAlike_30 (by decide) rfl ?_
        refine g_iconst (v := nI 0) (pc := 32) dX11_mostAlike_32 (by decide) ?_
        refine g_istore (lv' := [(6, .int (nI 0)), (5, .int (nI (tvF el d Li to i))), (4, .int (nI i)), (3, .int (nI (mxB (tvF el d Li to) (sz d) i))), (0, .ref (cd 0)), (1, .ref (cd (30 + d))), (2, .int (nI to))]) (pc := 33) dX11_mostAlike_33 (by decide) rfl ?_
        refine g_iload (q := 2) (pc := 35) dX11_mostAlike_35 rfl ?_
        refine g_istore (lv' := [(7, .int (nI i)), (6, .int (nI 0)), (5, .int (nI (tvF el d Li to i))), (4, .int (nI i)), (3, .int (nI (mxB (tvF el d Li to) (sz d) i))), (0, .ref (cd 0)), (1, .ref (cd (30 + d))), (2, .int (nI to))]) (pc := 37) dX11_mostAlike_37 (by decide) rfl ?_
        have lp39 : ∀ (d39 : Nat) (j : Nat) (a9 : Nat), j + d39 = sz d + 1 → (j ≤ sz d) → (i ≤ j) → (a9 = cF (tvF el d Li to) i j) → G l D Z b0 rmX11_mostAlike RX11 cX11_mostAlike 8 (gE (some .int) "mostAlike") (gT D b0 Po rmX11_mostAlike.cells rmX11_mostAlike.slots) (wC Z cd ik ugA ugB ugC rA (nf pl) hr rB pB tB rC (nf ipl) ihr cX lX oX nX sX zX cY lY oY nY sY zY (nf Li) cl KR SO SZ EL V) [(7, .int (nI j)), (6, .int (nI a9)), (5, .int (nI (tvF el d Li to i))), (4, .int (nI i)), (3, .int (nI (mxB (tvF el d Li to) (sz d) i))), (0, .ref (cd 0)), (1, .ref (cd (30 + d))), (2, .int (nI to))] 0 0 39 [] := by
          intro d39
          induction d39 with
          | zero =>
            intro j a9 hd39 hjN hij ha9
            exact absurd hd39 (by omega)
          | succ d39 ih39 =>
            intro j a9 hd39 hjN hij ha9
            refine g_iload (q := 0) (pc := 39) dX11_mostAlike_39 rfl ?_
            refine g_aload_n (q := 6) (pc := 41) dX11_mostAlike_41 rfl rfl ?_
            refine gc_get_S_size (pc := 42) (d := d) hA (by omega) flX11_132 dX11_mostAlike_42 ?_
            refine g_top (x := nI (SZ d)) (y := nI (sz d)) (congrArg nI hze) ?_
            refine g_icmp_ge_N (tgt := 78) (pc := 45) (by omega) (by omega) dX11_mostAlike_45 (by decide) (fun c2 => ?_) (fun c2 => ?_)
            · -- T c2
              refine g_iload_n (q := 4) (pc := 78) dX11_mostAlike_78 rfl rfl ?_
              refine g_iload (q := 1) (pc := 79) dX11_mostAlike_79 rfl ?_
              refine g_jmax (pc := 81) mlX11_124 ⟨Nat.le_of_ble_eq_true rfl, Nat.le_of_ble_eq_true rfl⟩ (Nat.le_of_ble_eq_true rfl) dX11_mostAlike_81 (by decide) ?_
              refine g_top (x := mxI (nI (mxB (tvF el d Li to) (sz d) i)) (nI a9)) (y := nI (mxB (tvF el d Li to) (sz d) (i + 1))) (by rw [mxI_n (by have := mxB_le (T := (tvF el d Li to)) (n := sz d) i; have := mxA_le (tvF el d Li to) (sz d) i; omega) (by have := cF_le (T := (tvF el d Li to)) (i := i) j; have := sumE_le (tvF el d Li to) i j; omega), ha9, show j = sz d by omega]; rfl) ?_
              refine g_istore_n (lv' := [(3, .int (nI (mxB (tvF el d Li to) (sz d) (i + 1)))), (7, .int (nI j)), (6, .int (nI a9)), (5, .int (nI (tvF el d Li to i))), (4, .int (nI i)), (0, .ref (cd 0)), (1, .ref (cd (30 + d))), (2, .int (nI to))]) (pc := 84) dX11_mostAlike_84 rfl (by decide) rfl ?_
              refine g_iinc (q := 4) (lv' := [(4, .int (nI (i + 1))), (3, .int (nI (mxB (tvF el d Li to) (sz d) (i + 1)))), (7, .int (nI j)), (6, .int (nI a9)), (5, .int (nI (tvF el d Li to i))), (0, .ref (cd 0)), (1, .ref (cd (30 + d))), (2, .int (nI to))]) (pc := 85) dX11_mostAlike_85 rfl (nI_inc _ _) (by decide) rfl ?_
              refine g_goto (tgt := 5) (pc := 88) dX11_mostAlike_88 (by decide) ?_
              refine G.locals (L' := [(4, .int (nI (i + 1))), (3, .int (nI (mxB (tvF el d Li to) (sz d) (i + 1)))), (0, .ref (cd 0)), (1, .ref (cd (30 + d))), (2, .int (nI to))]) [0, 1, 5, 6, 7] rfl ?_
              exact ih5 (i + 1) (by omega) (by omega)
            · -- F c2
              refine g_aload_n (q := 5) (pc := 48) dX11_mostAlike_48 rfl rfl ?_
              refine gc_get_O_times (pc := 49) hA flX11_42 dX11_mostAlike_49 ?_
              refine g_aload_n (q := 6) (pc := 52) dX11_mostAlike_52 rfl rfl ?_
              refine g_iload (q := 0) (pc := 53) dX11_mostAlike_53 rfl ?_
              obtain ⟨u55, hu55, hu55e, hu55d⟩ := cellsAt_get hcl (i := j) (by omega) (Nat.mod_one _)
              refine e_callV (k2 := 0) (n2 := 0) (As := [.int (nI j)]) (rest := [.ref (cd 28)]) (pc := 55) (wC_sh hA hd) rfl (c_X7_at_s (x := nI u55) hA hd (by rw [hze]; omega) (by rw [hze]; exact hz1) ((hel j (by omega)).trans hu55e)) mlX11_200 selX7_X7_at_X7_at mX7_at ⟨Nat.le_of_ble_eq_true rfl, Nat.le_of_ble_eq_true rfl⟩ rfl rfl (Nat.le_of_ble_eq_true rfl) dX11_mostAlike_55 (by decide) rfl rfl ?_
              refine g_bipush (v := nI 20) (pc := 58) dX11_mostAlike_58 (by decide) ?_
              refine g_imul_N (pc := 60) dX11_mostAlike_60 ?_
              refine g_iload_n (q := 7) (pc := 61) dX11_mostAlike_61 rfl rfl ?_
              refine g_iadd_N (pc := 62) dX11_mostAlike_62 ?_
              refine gc_ld_tm (pc := 63) (j := (u55 * 20) + to) (x := nI (tvF el d Li to j)) hA (by omega) (congrArg nI (by rw [tvF_e hu55d, Nat.mul_comm 20])) dX11_mostAlike_63 ?_
              refine g_iload (q := 2) (pc := 64) dX11_mostAlike_64 rfl ?_
              refine g_icmp_ne_N (tgt := 72) (pc := 66) (by have := hLi (20 * u55 + to) (by omega); rw [tvF_e hu55d]; omega) (by obtain ⟨u9, hu9, -, hd9⟩ := cellsAt_get hcl (i := i) (by omega) (Nat.mod_one _); rw [tvF_e hd9]; have := hLi (20 * u9 + to) (by omega); omega) dX11_mostAlike_66 (by decide) (fun c3 => ?_) (fun c3 => ?_)
              · -- T c3
                refine g_iinc (q := 0) (lv' := [(7, .int (nI (j + 1))), (6, .int (nI a9)), (5, .int (nI (tvF el d Li to i))), (4, .int (nI i)), (3, .int (nI (mxB (tvF el d Li to) (sz d) i))), (0, .ref (cd 0)), (1, .ref (cd (30 + d))), (2, .int (nI to))]) (pc := 72) dX11_mostAlike_72 rfl (nI_inc _ _) (by decide) rfl ?_
                refine g_goto (tgt := 39) (pc := 75) dX11_mostAlike_75 (by decide) ?_
                refine G.locals (L' := [(7, .int (nI (j + 1))), (6, .int (nI a9)), (5, .int (nI (tvF el d Li to i))), (4, .int (nI i)), (3, .int (nI (mxB (tvF el d Li to) (sz d) i))), (0, .ref (cd 0)), (1, .ref (cd (30 + d))), (2, .int (nI to))]) [0, 1, 2, 3, 4, 5, 6, 7] rfl ?_
                exact ih39 (j + 1) a9 (by omega) (by omega) (by omega) (by first | (rw [cF_t hij (by assumption), ha9]; done) | (rw [cF_f (by assumption)]; exact ha9))
              · -- F c3
                refine g_iinc (q := 1) (lv' := [(6, .int (nI (a9 + 1))), (7, .int (nI j)), (5, .int (nI (tvF el d Li to i))), (4, .int (nI i)), (3, .int (nI (mxB (tvF el d Li to) (sz d) i))), (0, .ref (cd 0)), (1, .ref (cd (30 + d))), (2, .int (nI to))]) (pc := 69) dX11_mostAlike_69 rfl (nI_inc _ _) (by decide) rfl ?_
                refine g_iinc (q := 1) (lv' := [(7, .int (nI (j + 1))), (6, .int (nI (a9 + 1))), (5, .int (nI (tvF el d Li to i))), (4, .int (nI i)), (3, .int (nI (mxB (tvF el d Li to) (sz d) i))), (0, .ref (cd 0)), (1, .ref (cd (30 + d))), (2, .int (nI to))]) (pc := 72) dX11_mostAlike_72 rfl (nI_inc _ _) (by decide) rfl ?_
                refine g_goto (tgt := 39) (pc := 75) dX11_mostAlike_75 (by decide) ?_
                refine G.locals (L' := [(7, .int (nI (j + 1))), (6, .int (nI (a9 + 1))), (5, .int (nI (tvF el d Li to i))), (4, .int (nI i)), (3, .int (nI (mxB (tvF el d Li to) (sz d) i))), (0, .ref (cd 0)), (1, .ref (cd (30 + d))), (2, .int (nI to))]) [0, 1, 2, 3, 4, 5, 6, 7] rfl ?_
                exact ih39 (j + 1) (a9 + 1) (by omega) (by omega) (by omega) (by first | (rw [cF_t hij (by assumption), ha9]; done) | (rw [cF_f (by assumption)]; exact ha9))
        refine G.locals (L' := [(7, .int (nI i)), (6, .int (nI 0)), (5, .int (nI (tvF el d Li to i))), (4, .int (nI i)), (3, .int (nI (mxB (tvF el d Li to) (sz d) i))), (0, .ref (cd 0)), (1, .ref (cd (30 + d))), (2, .int (nI to))]) [0, 1, 2, 3, 4, 5, 6, 7] rfl ?_
        exact lp39 (sz d + 1 - i) i 0 (by omega) (by omega) (Nat.le_refl _) (cF_0 i (Nat.le_refl _)).symm
  refine G.locals (L' := [(4, .int (nI 0)), (3, .int (nI 0)), (0, .ref (cd 0)), (1, .ref (cd (30 + d))), (2, .int (nI to))]) [0, 1, 2, 3, 4] rfl ?_
  exact lp5 (sz d + 1) 0 (by omega) (Nat.zero_le _)
def rmX11_listen : Room := { frames := 5, cells := 0, slots := 0, locals := 103 }
set_option maxHeartbeats 8000000 in
theorem c_X11_listen_s {d what : Nat} (hA : oC b0 cd V) (hE : Ext Vb V) (hgA : Rk V ugA 7 0) (hgB : Rk V ugB 7 0) (hmA : mo V rA kd fg) (hmC : mo V rC ikd ifg) (hpl : ∀ g, g < 2 → pl g < 20) (hipl : ∀ g, g < 2 → ipl g < 20) (hSh : Sh V KR SO SZ EL kp so sz el ki kf) (hd : d < 8) (hw : what < 2) (hk : kp d = 2) (hsr : so d = 0) (hz20 : sz d ≤ 20) (hcl : cellsAt el d 1 (sz d)) : KM l D Z b0 yX11_listen cX11_listen 8 (some .int) rmX11_listen [.ref (cd 0), .int (nI d), .int (nI what)] (wC Z cd ik ugA ugB ugC rA (nf pl) hr rB pB tB rC (nf ipl) ihr cX lX oX nX sX zX cY lY oY nY sY zY tm cl KR SO SZ EL V) (fun v0 V' => v0 = some (.int (spListenV kd fg el d (sz d) what)) ∧ CI Z b0 cd Vb ik kd fg pl hr ikd ifg ipl ihr kp so sz el ki kf V') := by
  refine KM.ofP (by decide) (Nat.le_of_ble_eq_true rfl) (fun Po hPo => ?_)
  refine G.locals (L' := [(0, .ref (cd 0)), (1, .int (nI d)), (2, .int (nI what))]) [0, 1, 2] rfl ?_
  have h2 := And.intro hk (Sh.r2 hSh hd hk)
  have hz9 := h2.2.2.2.2.2.1
  refine g_iload_n (q := 2) (pc := 0) dX11_listen_0 rfl rfl ?_
  refine g_iconst (v := nI 2) (pc := 1) dX11_listen_1 (by decide) ?_
  refine e_callS (k2 := 0) (n2 := 0) (As := [.int (nI what), .int (nI 2)]) (rest := []) (pc := 2) (c_X11_isBelowN (by decide) (by omega)) mlX11_69 mX11_isBelow ⟨Nat.le_of_ble_eq_true rfl, Nat.le_of_ble_eq_true rfl⟩ rfl rfl (Nat.le_of_ble_eq_true rfl) dX11_listen_2 (by decide) rfl rfl ?_
  refine g_if_ne_B (tgt := 10) (pc := 5) dX11_listen_5 (by decide) (fun c1 => ?_) (fun c1 => ?_)
  · -- T c1
    have c1 := of_decide_eq_true c1
    refine g_aload_n (q := 0) (pc := 10) dX11_listen_10 rfl rfl ?_
    refine g_iload_n (q := 1) (pc := 11) dX11_listen_11 rfl rfl ?_
    refine g_iconst (v := nI 0) (pc := 12) dX11_listen_12 (by decide) ?_
    refine e_callV (k2 := 0) (n2 := 0) (As := [.int (nI d), .int (nI 0)]) (rest := []) (pc := 13) (wC_0 hA) rfl (c_X11_rowOn__s hA hd h2.2.2.1 h2.2.2.2.1 hsr) mlX11_50 selX11_X11_rowOn__X11_rowOn_ mX11_rowOn_ ⟨Nat.le_of_ble_eq_true rfl, Nat.le_of_ble_eq_true rfl⟩ rfl rfl (Nat.le_of_ble_eq_true rfl) dX11_listen_13 (by decide) rfl rfl ?_
    refine g_astore_n (lv' := [(3, .ref (cd (30 + d))), (0, .ref (cd 0)), (1, .int (nI d)), (2, .int (nI what))]) (pc := 16) dX11_listen_16 rfl (by decide) rfl ?_
    refine g_aload_n (q := 0) (pc := 17) dX11_listen_17 rfl rfl ?_
    refine g_ifnonnull (tgt := 27) (pc := 18) dX11_listen_18 (by decide) ?_
    refine g_aload_n (q := 0) (pc := 27) dX11_listen_27 rfl rfl ?_
    refine gc_get_S_size (pc := 28) (d := d) hA (by omega) flX11_132 dX11_listen_28 ?_
    refine g_top (x := nI (SZ d)) (y := nI (sz d)) (congrArg nI h2.2.2.2.2.1) ?_
    refine g_bipush (v := nI 20) (pc := 31) dX11_listen_31 (by decide) ?_
    refine g_icmp_gt_N (tgt := 44) (pc := 33) (by omega) (by omega) dX11_listen_33 (by decide) (fun c2 => ?_) (fun c2 => ?_)
    · -- T c2
      exfalso; omega
    · -- F c2
      refine g_aload_n (q := 0) (pc := 36) dX11_listen_36 rfl rfl ?_
      refine g_iconst (v := nI 1) (pc := 37) dX11_listen_37 (by decide) ?_
      refine e_callS (k2 := 0) (n2 := 0) (As := [.ref (cd (30 + d)), .int (nI 1)]) (rest := []) (pc := 38) (c_X11_tellsCells_1 hA hd h2.2.2.2.2.1 h2.2.2.2.2.2.1 h2.2.2.2.2.2.2) mlX11_135 mX11_tellsCells ⟨Nat.le_of_ble_eq_true rfl, Nat.le_of_ble_eq_true rfl⟩ rfl rfl (Nat.le_of_ble_eq_true rfl) dX11_listen_38 (by decide) rfl rfl ?_
      refine g_if_ne_B (tgt := 47) (pc := 41) dX11_listen_41 (by decide) (fun c3 => ?_) (fun c3 => ?_)
      · -- T c3
        refine g_aload_n (q := 0) (pc := 47) dX11_listen_47 rfl rfl ?_
        refine gc_get_S_size (pc := 48) (d := d) hA (by omega) flX11_132 dX11_listen_48 ?_
        refine g_top (x := nI (SZ d)) (y := nI (sz d)) (congrArg nI h2.2.2.2.2.1) ?_
        refine g_if_ne_N (tgt := 57) (pc := 51) (by omega) dX11_listen_51 (by decide) (fun c4 => ?_) (fun c4 => ?_)
        · -- T c4
          have hAb : ∀ x, (alA kd fg el d (sz d)) x < 1000000 := fun x => Nat.lt_of_le_of_lt (mxA_le _ _ _) (by have := h2.2.2.2.2.2.1; omega)
          refine g_aload_n (q := 1) (pc := 57) dX11_listen_57 rfl rfl ?_
          refine g_callV (As := []) (rest := []) (pc := 58) (wC_0 hA) rfl (c_X11_takeTimes hA hmA) mlX11_149 selX11_X11_takeTimes_X11_takeTimes mX11_takeTimes ⟨Nat.le_of_ble_eq_true rfl, Nat.le_of_ble_eq_true rfl⟩ rfl rfl (Nat.le_of_ble_eq_true rfl) dX11_listen_58 (by decide)  (fun v9 V9 h9 => ?_)
          obtain ⟨rfl, l_58, o_58, n_58, z_58, rfl⟩ := h9
          refine G.eqst (k2 := 0) (n2 := 0) (st2 := []) rfl rfl rfl ?_
          refine g_iconst (v := nI 0) (pc := 61) dX11_listen_61 (by decide) ?_
          refine g_istore (lv' := [(4, .int (nI 0)), (3, .ref (cd (30 + d))), (0, .ref (cd 0)), (1, .int (nI d)), (2, .int (nI what))]) (pc := 62) dX11_listen_62 (by decide) rfl ?_
          refine g_ldc (v := nI 1000000) (pc := 64) ctX11_152 dX11_listen_64 ?_
          refine g_istore (lv' := [(5, .int (nI 1000000)), (4, .int (nI 0)), (3, .ref (cd (30 + d))), (0, .ref (cd 0)), (1, .int (nI d)), (2, .int (nI what))]) (pc := 66) dX11_listen_66 (by decide) rfl ?_
          refine g_iconst (v := nI 0) (pc := 68) dX11_listen_68 (by decide) ?_
          refine g_istore (lv' := [(6, .int (nI 0)), (5, .int (nI 1000000)), (4, .int (nI 0)), (3, .ref (cd (30 + d))), (0, .ref (cd 0)), (1, .int (nI d)), (2, .int (nI what))]) (pc := 69) dX11_listen_69 (by decide) rfl ?_
          have lp71 : ∀ (d71 : Nat) (c : Nat) (b : Nat) (t : Nat), c + d71 = 21 → (c ≤ 20) → (LB (alA kd fg el d (sz d)) c b t) → G l D Z b0 rmX11_listen RX11 cX11_listen 8 (gE (some .int) "listen") (gT D b0 Po rmX11_listen.cells rmX11_listen.slots) (wC Z cd ik ugA ugB ugC rA (nf pl) hr rB pB tB rC (nf ipl) ihr (nf (sw kd fg)) l_58 o_58 n_58 (nf (lw kd fg)) z_58 cY lY oY nY sY zY (nf (LTf kd fg)) cl KR SO SZ EL V) [(6, .int (nI c)), (5, .int (nI t)), (4, .int (nI b)), (0, .ref (cd 0)), (1, .int (nI d)), (2, .int (nI what)), (3, .ref (cd (30 + d)))] 0 0 71 [] := by
            intro d71
            induction d71 with
            | zero =>
              intro c b t hd71 hc20 hLB
              exact absurd hd71 (by omega)
            | succ d71 ih71 =>
              intro c b t hd71 hc20 hLB
              refine g_iload (q := 0) (pc := 71) dX11_listen_71 rfl ?_
              refine g_bipush (v := nI 20) (pc := 73) dX11_listen_73 (by decide) ?_
              refine g_icmp_ge_N (tgt := 108) (pc := 75) (by omega) (by omega) dX11_listen_75 (by decide) (fun c5 => ?_) (fun c5 => ?_)
              · -- T c5
                refine g_iload_n (q := 5) (pc := 108) dX11_listen_108 rfl rfl ?_
                refine g_if_ne_N (tgt := 117) (pc := 109) (by omega) dX11_listen_109 (by decide) (fun c6 => ?_) (fun c6 => ?_)
                · -- T c6
                  refine g_iload (q := 1) (pc := 117) dX11_listen_117 rfl ?_
                  exact g_iret (pc := 119) (by decide) (by decide) (gC hPo (by obtain rfl : c = 20 := (by omega); rcases hLB with ⟨q1, -, -⟩ | ⟨-, q2, q3⟩; (exfalso; omega); rw [spListenV, if_neg (by omega), if_neg (by omega), q3]) (CI.mk ⟨hA, hE, hgA, hgB, hmA, hmC, hpl, hipl, hSh⟩)) dX11_listen_119
                · -- F c6
                  refine g_iload (q := 2) (pc := 112) dX11_listen_112 rfl ?_
                  refine g_goto (tgt := 119) (pc := 114) dX11_listen_114 (by decide) ?_
                  exact g_iret (pc := 119) (by decide) (by decide) (gC hPo (by obtain rfl : c = 20 := (by omega); rcases hLB with ⟨q1, -, -⟩ | ⟨-, q2, q3⟩; (exfalso; omega); rw [spListenV, if_neg (by omega), if_pos (by assumption), q2]) (CI.mk ⟨hA, hE, hgA, hgB, hmA, hmC, hpl, hipl, hSh⟩)) dX11_listen_119
              · -- F c5
                refine g_aload_n (q := 3) (pc := 78) dX11_listen_78 rfl rfl ?_
                refine g_aload_n (q := 6) (pc := 79) dX11_listen_79 rfl rfl ?_
                refine g_iload (q := 0) (pc := 80) dX11_listen_80 rfl ?_
                refine e_callV (k2 := 0) (n2 := 0) (As := [.ref (cd (30 + d)), .int (nI c)]) (rest := []) (pc := 82) (wC_0 hA) rfl (c_X11_mostAlike hA hd h2.2.2.2.2.1 h2.2.2.2.2.2.1 h2.2.2.2.2.2.2 hcl (by omega) (fun q hq => (dT_b (pl := fun _ => 0) ⟨mo.ok hmA, fun _ _ => Nat.zero_lt_succ _⟩ (a := q / 20) (by omega) (v := q % 20) (by omega)).1)) mlX11_153 selX11_X11_mostAlike_X11_mostAlike mX11_mostAlike ⟨Nat.le_of_ble_eq_true rfl, Nat.le_of_ble_eq_true rfl⟩ rfl rfl (Nat.le_of_ble_eq_true rfl) dX11_listen_82 (by decide) rfl rfl ?_
                refine g_istore (lv' := [(7, .int (nI (alA kd fg el d (sz d) c))), (6, .int (nI c)), (5, .int (nI t)), (4, .int (nI b)), (0, .ref (cd 0)), (1, .int (nI d)), (2, .int (nI what)), (3, .ref (cd (30 + d)))]) (pc := 85) dX11_listen_85 (by decide) rfl ?_
                refine g_iload (q := 0) (pc := 87) dX11_listen_87 rfl ?_
                refine g_iload (q := 2) (pc := 89) dX11_listen_89 rfl ?_
                refine g_icmp_ge_N (tgt := 102) (pc := 91) (by have := hAb c; omega) (by have := hLB.t hAb; omega) dX11_listen_91 (by decide) (fun c7 => ?_) (fun c7 => ?_)
                · -- T c7
                  refine g_iinc (q := 1) (lv' := [(6, .int (nI (c + 1))), (7, .int (nI (alA kd fg el d (sz d) c))), (5, .int (nI t)), (4, .int (nI b)), (0, .ref (cd 0)), (1, .int (nI d)), (2, .int (nI what)), (3, .ref (cd (30 + d)))]) (pc := 102) dX11_listen_102 rfl (nI_inc _ _) (by decide) rfl ?_
                  refine g_goto (tgt := 71) (pc := 105) dX11_listen_105 (by decide) ?_
                  refine G.locals (L' := [(6, .int (nI (c + 1))), (5, .int (nI t)), (4, .int (nI b)), (0, .ref (cd 0)), (1, .int (nI d)), (2, .int (nI what)), (3, .ref (cd (30 + d)))]) [0, 2, 3, 4, 5, 6, 7] rfl ?_
                  exact ih71 (c + 1) b t (by omega) (by omega) (by first | exact LB.ge hLB (hAb c) (by assumption) | exact LB.lt hLB (by assumption))
                · -- F c7
                  refine g_iload (q := 0) (pc := 94) dX11_listen_94 rfl ?_
                  refine g_istore (lv' := [(5, .int (nI (alA kd fg el d (sz d) c))), (7, .int (nI (alA kd fg el d (sz d) c))), (6, .int (nI c)), (4, .int (nI b)), (0, .ref (cd 0)), (1, .int (nI d)), (2, .int (nI what)), (3, .ref (cd (30 + d)))]) (pc := 96) dX11_listen_96 (by decide) rfl ?_
                  refine g_iload (q := 2) (pc := 98) dX11_listen_98 rfl ?_
                  refine g_istore (lv' := [(4, .int (nI c)), (5, .int (nI (alA kd fg el d (sz d) c))), (7, .int (nI (alA kd fg el d (sz d) c))), (6, .int (nI c)), (0, .ref (cd 0)), (1, .int (nI d)), (2, .int (nI what)), (3, .ref (cd (30 + d)))]) (pc := 100) dX11_listen_100 (by decide) rfl ?_
                  refine g_iinc (q := 3) (lv' := [(6, .int (nI (c + 1))), (4, .int (nI c)), (5, .int (nI (alA kd fg el d (sz d) c))), (7, .int (nI (alA kd fg el d (sz d) c))), (0, .ref (cd 0)), (1, .int (nI d)), (2, .int (nI what)), (3, .ref (cd (30 + d)))]) (pc := 102) dX11_listen_102 rfl (nI_inc _ _) (by decide) rfl ?_
                  refine g_goto (tgt := 71) (pc := 105) dX11_listen_105 (by decide) ?_
                  refine G.locals (L' := [(6, .int (nI (c + 1))), (5, .int (nI (alA kd fg el d (sz d) c))), (4, .int (nI c)), (0, .ref (cd 0)), (1, .int (nI d)), (2, .int (nI what)), (3, .ref (cd (30 + d)))]) [0, 2, 1, 4, 5, 6, 7] rfl ?_
                  exact ih71 (c + 1) c (alA kd fg el d (sz d) c) (by omega) (by omega) (by first | exact LB.ge hLB (hAb c) (by assumption) | exact LB.lt hLB (by assumption))
          refine G.locals (L' := [(6, .int (nI 0)), (5, .int (nI 1000000)), (4, .int (nI 0)), (0, .ref (cd 0)), (1, .int (nI d)), (2, .int (nI what)), (3, .ref (cd (30 + d)))]) [0, 1, 2, 4, 5, 6, 3] rfl ?_
          exact lp71 21 0 0 1000000 (by omega) (by decide) (Or.inl ⟨rfl, rfl, rfl⟩)
        · -- F c4
          refine g_bipush (v := (-4)) (pc := 54) dX11_listen_54 (by decide) ?_
          exact g_iret (pc := 56) (by decide) (by decide) (gC hPo (by rw [spListenV, if_pos (by assumption)]) (CI.mk ⟨hA, hE, hgA, hgB, hmA, hmC, hpl, hipl, hSh⟩)) dX11_listen_56
      · -- F c3
        rw [cellsB_of hcl] at c3; cases c3
  · -- F c1
    exact absurd hw (of_decide_eq_false c1)
theorem d_X11_listen_s {d what : Nat} {V2 : HV} (hCI : CI Z b0 cd Vb ik kd fg pl hr ikd ifg ipl ihr kp so sz el ki kf V2) (hd : d < 8) (hw : what < 2) (hk : kp d = 2) (hsr : so d = 0) (hz20 : sz d ≤ 20) (hcl : cellsAt el d 1 (sz d)) : KM l D Z b0 yX11_listen cX11_listen 8 (some .int) rmX11_listen [.ref (cd 0), .int (nI d), .int (nI what)] V2 (fun v0 V' => v0 = some (.int (spListenV kd fg el d (sz d) what)) ∧ CI Z b0 cd Vb ik kd fg pl hr ikd ifg ipl ihr kp so sz el ki kf V') := by
  obtain ⟨ugA, ugB, ugC, rA, rB, pB, tB, rC, cX, lX, oX, nX, sX, zX, cY, lY, oY, nY, sY, zY, tm, cl, KR, SO, SZ, EL, V, rfl, hA, hE, hgA, hgB, hmA, hmC, hpl, hipl, hSh⟩ := hCI
  exact c_X11_listen_s hA hE hgA hgB hmA hmC hpl hipl hSh hd hw hk hsr hz20 hcl
set_option maxHeartbeats 8000000 in
theorem c_X11_listen_n {d what : Int32} (hA : oC b0 cd V) (hE : Ext Vb V) (hgA : Rk V ugA 7 0) (hgB : Rk V ugB 7 0) (hmA : mo V rA kd fg) (hmC : mo V rC ikd ifg) (hpl : ∀ g, g < 2 → pl g < 20) (hipl : ∀ g, g < 2 → ipl g < 20) (hSh : Sh V KR SO SZ EL kp so sz el ki kf) (h : ¬ spListenG kp so sz el d what = nI 0) : KM l D Z b0 yX11_listen cX11_listen 8 (some .int) rmX11_listen [.ref (cd 0), .int d, .int what] (wC Z cd ik ugA ugB ugC rA (nf pl) hr rB pB tB rC (nf ipl) ihr cX lX oX nX sX zX cY lY oY nY sY zY tm cl KR SO SZ EL V) (fun v0 V' => v0 = some (.int (spListenG kp so sz el d what)) ∧ CI Z b0 cd Vb ik kd fg pl hr ikd ifg ipl ihr kp so sz el ki kf V') := by
  refine KM.ofP (by decide) (Nat.le_of_ble_eq_true rfl) (fun Po hPo => ?_)
  refine G.locals (L' := [(0, .ref (cd 0)), (1, .int d), (2, .int what)]) [0, 1, 2] rfl ?_
  refine g_iload_n (q := 2) (pc := 0) dX11_listen_0 rfl rfl ?_
  refine g_iconst (v := nI 2) (pc := 1) dX11_listen_1 (by decide) ?_
  refine e_callS (k2 := 0) (n2 := 0) (As := [.int what, .int (nI 2)]) (rest := []) (pc := 2) (c_X11_isBelow (by decide)) mlX11_69 mX11_isBelow ⟨Nat.le_of_ble_eq_true rfl, Nat.le_of_ble_eq_true rfl⟩ rfl rfl (Nat.le_of_ble_eq_true rfl) dX11_listen_2 (by decide) rfl rfl ?_
  refine g_if_ne_B (tgt := 10) (pc := 5) dX11_listen_5 (by decide) (fun c1 => ?_) (fun c1 => ?_)
  · -- T c1
    obtain ⟨what, hwhat, rfl⟩ := inR_t c1
    refine g_aload_n (q := 0) (pc := 10) dX11_listen_10 rfl rfl ?_
    refine g_iload_n (q := 1) (pc := 11) dX11_listen_11 rfl rfl ?_
    refine g_iconst (v := nI 0) (pc := 12) dX11_listen_12 (by decide) ?_
    rcases Sh.k2 hSh d 0 with ho | ⟨d, hd, rfl, h0⟩ | ⟨d, hd, rfl, h1, a, q, f, hk1, hr1, hi1, hf1, hs1⟩ | ⟨d, hd, rfl, h2, hsx⟩ | ⟨d, hd, rfl, h2, hsr⟩
    · -- alt
      refine e_callV (k2 := 0) (n2 := 0) (As := [.int d, .int (nI 0)]) (rest := []) (pc := 13) (wC_0 hA) rfl (c_X11_rowOn__o (r := 0) hA ho) mlX11_50 selX11_X11_rowOn__X11_rowOn_ mX11_rowOn_ ⟨Nat.le_of_ble_eq_true rfl, Nat.le_of_ble_eq_true rfl⟩ rfl rfl (Nat.le_of_ble_eq_true rfl) dX11_listen_13 (by decide) rfl rfl ?_
      refine g_astore_nN (lv' := [(3, .null), (0, .ref (cd 0)), (1, .int d), (2, .int (nI what))]) (pc := 16) dX11_listen_16 rfl (by decide) rfl ?_
      refine g_aload_nN (q := 0) (pc := 17) dX11_listen_17 rfl rfl ?_
      refine g_ifnonnullN (pc := 18) dX11_listen_18 ?_
      refine g_aload_n (q := 1) (pc := 21) dX11_listen_21 rfl rfl ?_
      refine g_iload_n (q := 2) (pc := 22) dX11_listen_22 rfl rfl ?_
      refine e_callV (k2 := 0) (n2 := 0) (As := [.int d]) (rest := []) (pc := 23) (wC_0 hA) rfl (c_X11_whyNot_o hA ho) mlX11_54 selX11_X11_whyNot_X11_whyNot mX11_whyNot ⟨Nat.le_of_ble_eq_true rfl, Nat.le_of_ble_eq_true rfl⟩ rfl rfl (Nat.le_of_ble_eq_true rfl) dX11_listen_23 (by decide) rfl rfl ?_
      exact g_iret (pc := 26) (by decide) (by decide) (gC hPo (by first | exact spListenG_o ho | (rw [spListenG_r hd (by assumption), spWR_0c hd h0.1]; rfl) | (rw [spListenG_r hd (by assumption), spWR_1c hd h1]; rfl) | (rw [spListenG_r hd (by assumption), spWR_xc (r := some 0) hd h2.1 (decide_eq_false hsx)]; rfl)) (CI.mk ⟨hA, hE, hgA, hgB, hmA, hmC, hpl, hipl, hSh⟩)) dX11_listen_26
    · -- alt
      refine e_callV (k2 := 0) (n2 := 0) (As := [.int (nI d), .int (nI 0)]) (rest := []) (pc := 13) (wC_0 hA) rfl (c_X11_rowOn__e (r := 0) hA hd h0.2.2) mlX11_50 selX11_X11_rowOn__X11_rowOn_ mX11_rowOn_ ⟨Nat.le_of_ble_eq_true rfl, Nat.le_of_ble_eq_true rfl⟩ rfl rfl (Nat.le_of_ble_eq_true rfl) dX11_listen_13 (by decide) rfl rfl ?_
      refine g_astore_nN (lv' := [(3, .null), (0, .ref (cd 0)), (1, .int (nI d)), (2, .int (nI what))]) (pc := 16) dX11_listen_16 rfl (by decide) rfl ?_
      refine g_aload_nN (q := 0) (pc := 17) dX11_listen_17 rfl rfl ?_
      refine g_ifnonnullN (pc := 18) dX11_listen_18 ?_
      refine g_aload_n (q := 1) (pc := 21) dX11_listen_21 rfl rfl ?_
      refine g_iload_n (q := 2) (pc := 22) dX11_listen_22 rfl rfl ?_
      refine e_callV (k2 := 0) (n2 := 0) (As := [.int (nI d)]) (rest := []) (pc := 23) (wC_0 hA) rfl (c_X11_whyNot_0 hA hd h0.2.1 h0.2.2) mlX11_54 selX11_X11_whyNot_X11_whyNot mX11_whyNot ⟨Nat.le_of_ble_eq_true rfl, Nat.le_of_ble_eq_true rfl⟩ rfl rfl (Nat.le_of_ble_eq_true rfl) dX11_listen_23 (by decide) rfl rfl ?_
      exact g_iret (pc := 26) (by decide) (by decide) (gC hPo (by first | exact spListenG_o ho | (rw [spListenG_r hd (by assumption), spWR_0c hd h0.1]; rfl) | (rw [spListenG_r hd (by assumption), spWR_1c hd h1]; rfl) | (rw [spListenG_r hd (by assumption), spWR_xc (r := some 0) hd h2.1 (decide_eq_false hsx)]; rfl)) (CI.mk ⟨hA, hE, hgA, hgB, hmA, hmC, hpl, hipl, hSh⟩)) dX11_listen_26
    · -- alt
      refine e_callV (k2 := 0) (n2 := 0) (As := [.int (nI d), .int (nI 0)]) (rest := []) (pc := 13) (wC_0 hA) rfl (c_X11_rowOn__e (r := 0) hA hd hs1) mlX11_50 selX11_X11_rowOn__X11_rowOn_ mX11_rowOn_ ⟨Nat.le_of_ble_eq_true rfl, Nat.le_of_ble_eq_true rfl⟩ rfl rfl (Nat.le_of_ble_eq_true rfl) dX11_listen_13 (by decide) rfl rfl ?_
      refine g_astore_nN (lv' := [(3, .null), (0, .ref (cd 0)), (1, .int (nI d)), (2, .int (nI what))]) (pc := 16) dX11_listen_16 rfl (by decide) rfl ?_
      refine g_aload_nN (q := 0) (pc := 17) dX11_listen_17 rfl rfl ?_
      refine g_ifnonnullN (pc := 18) dX11_listen_18 ?_
      refine g_aload_n (q := 1) (pc := 21) dX11_listen_21 rfl rfl ?_
      refine g_iload_n (q := 2) (pc := 22) dX11_listen_22 rfl rfl ?_
      refine e_callV (k2 := 0) (n2 := 0) (As := [.int (nI d)]) (rest := []) (pc := 23) (wC_0 hA) rfl (c_X11_whyNot_1 hA hd hk1) mlX11_54 selX11_X11_whyNot_X11_whyNot mX11_whyNot ⟨Nat.le_of_ble_eq_true rfl, Nat.le_of_ble_eq_true rfl⟩ rfl rfl (Nat.le_of_ble_eq_true rfl) dX11_listen_23 (by decide) rfl rfl ?_
      exact g_iret (pc := 26) (by decide) (by decide) (gC hPo (by first | exact spListenG_o ho | (rw [spListenG_r hd (by assumption), spWR_0c hd h0.1]; rfl) | (rw [spListenG_r hd (by assumption), spWR_1c hd h1]; rfl) | (rw [spListenG_r hd (by assumption), spWR_xc (r := some 0) hd h2.1 (decide_eq_false hsx)]; rfl)) (CI.mk ⟨hA, hE, hgA, hgB, hmA, hmC, hpl, hipl, hSh⟩)) dX11_listen_26
    · -- alt
      refine e_callV (k2 := 0) (n2 := 0) (As := [.int (nI d), .int (nI 0)]) (rest := []) (pc := 13) (wC_0 hA) rfl (c_X11_rowOn__x hA hd h2.2.2.1 h2.2.2.2.1 hsx (by decide)) mlX11_50 selX11_X11_rowOn__X11_rowOn_ mX11_rowOn_ ⟨Nat.le_of_ble_eq_true rfl, Nat.le_of_ble_eq_true rfl⟩ rfl rfl (Nat.le_of_ble_eq_true rfl) dX11_listen_13 (by decide) rfl rfl ?_
      refine g_astore_nN (lv' := [(3, .null), (0, .ref (cd 0)), (1, .int (nI d)), (2, .int (nI what))]) (pc := 16) dX11_listen_16 rfl (by decide) rfl ?_
      refine g_aload_nN (q := 0) (pc := 17) dX11_listen_17 rfl rfl ?_
      refine g_ifnonnullN (pc := 18) dX11_listen_18 ?_
      refine g_aload_n (q := 1) (pc := 21) dX11_listen_21 rfl rfl ?_
      refine g_iload_n (q := 2) (pc := 22) dX11_listen_22 rfl rfl ?_
      refine e_callV (k2 := 0) (n2 := 0) (As := [.int (nI d)]) (rest := []) (pc := 23) (wC_0 hA) rfl (c_X11_whyNot_2 hA hd h2.2.1 h2.2.2.1 h2.2.2.2.1) mlX11_54 selX11_X11_whyNot_X11_whyNot mX11_whyNot ⟨Nat.le_of_ble_eq_true rfl, Nat.le_of_ble_eq_true rfl⟩ rfl rfl (Nat.le_of_ble_eq_true rfl) dX11_listen_23 (by decide) rfl rfl ?_
      exact g_iret (pc := 26) (by decide) (by decide) (gC hPo (by first | exact spListenG_o ho | (rw [spListenG_r hd (by assumption), spWR_0c hd h0.1]; rfl) | (rw [spListenG_r hd (by assumption), spWR_1c hd h1]; rfl) | (rw [spListenG_r hd (by assumption), spWR_xc (r := some 0) hd h2.1 (decide_eq_false hsx)]; rfl)) (CI.mk ⟨hA, hE, hgA, hgB, hmA, hmC, hpl, hipl, hSh⟩)) dX11_listen_26
    · -- alt
      refine e_callV (k2 := 0) (n2 := 0) (As := [.int (nI d), .int (nI 0)]) (rest := []) (pc := 13) (wC_0 hA) rfl (c_X11_rowOn__s hA hd h2.2.2.1 h2.2.2.2.1 hsr) mlX11_50 selX11_X11_rowOn__X11_rowOn_ mX11_rowOn_ ⟨Nat.le_of_ble_eq_true rfl, Nat.le_of_ble_eq_true rfl⟩ rfl rfl (Nat.le_of_ble_eq_true rfl) dX11_listen_13 (by decide) rfl rfl ?_
      refine g_astore_n (lv' := [(3, .ref (cd (30 + d))), (0, .ref (cd 0)), (1, .int (nI d)), (2, .int (nI what))]) (pc := 16) dX11_listen_16 rfl (by decide) rfl ?_
      refine g_aload_n (q := 0) (pc := 17) dX11_listen_17 rfl rfl ?_
      refine g_ifnonnull (tgt := 27) (pc := 18) dX11_listen_18 (by decide) ?_
      refine g_aload_n (q := 0) (pc := 27) dX11_listen_27 rfl rfl ?_
      refine gc_get_S_size (pc := 28) (d := d) hA (by omega) flX11_132 dX11_listen_28 ?_
      refine g_top (x := nI (SZ d)) (y := nI (sz d)) (congrArg nI h2.2.2.2.2.1) ?_
      refine g_bipush (v := nI 20) (pc := 31) dX11_listen_31 (by decide) ?_
      refine g_icmp_gt_N (tgt := 44) (pc := 33) (by have := h2.2.2.2.2.2.1; omega) (by omega) dX11_listen_33 (by decide) (fun c2 => ?_) (fun c2 => ?_)
      · -- T c2
        refine g_bipush (v := (-13)) (pc := 44) dX11_listen_44 (by decide) ?_
        exact g_iret (pc := 46) (by decide) (by decide) (gC hPo (by rw [spListenG_r hd (by assumption), if_pos (show spWR kp so (nI d) (some 0) = 0 from spWR_ok hd h2.1 (decide_eq_true hsr))]; first | (rw [if_neg (by omega)]; done) | (rw [if_pos (by omega), if_neg (by simp [*])])) (CI.mk ⟨hA, hE, hgA, hgB, hmA, hmC, hpl, hipl, hSh⟩)) dX11_listen_46
      · -- F c2
        refine g_aload_n (q := 0) (pc := 36) dX11_listen_36 rfl rfl ?_
        refine g_iconst (v := nI 1) (pc := 37) dX11_listen_37 (by decide) ?_
        refine e_callS (k2 := 0) (n2 := 0) (As := [.ref (cd (30 + d)), .int (nI 1)]) (rest := []) (pc := 38) (c_X11_tellsCells_1 hA hd h2.2.2.2.2.1 h2.2.2.2.2.2.1 h2.2.2.2.2.2.2) mlX11_135 mX11_tellsCells ⟨Nat.le_of_ble_eq_true rfl, Nat.le_of_ble_eq_true rfl⟩ rfl rfl (Nat.le_of_ble_eq_true rfl) dX11_listen_38 (by decide) rfl rfl ?_
        refine g_if_ne_B (tgt := 47) (pc := 41) dX11_listen_41 (by decide) (fun c3 => ?_) (fun c3 => ?_)
        · -- T c3
          exact absurd (by rw [spListenG_r hd (by assumption), if_pos (show spWR kp so (nI d) (some 0) = 0 from spWR_ok hd h2.1 (decide_eq_true hsr)), if_pos (by omega), if_pos (by assumption)]) h
        · -- F c3
          refine g_bipush (v := (-13)) (pc := 44) dX11_listen_44 (by decide) ?_
          exact g_iret (pc := 46) (by decide) (by decide) (gC hPo (by rw [spListenG_r hd (by assumption), if_pos (show spWR kp so (nI d) (some 0) = 0 from spWR_ok hd h2.1 (decide_eq_true hsr))]; first | (rw [if_neg (by omega)]; done) | (rw [if_pos (by omega), if_neg (by simp [*])])) (CI.mk ⟨hA, hE, hgA, hgB, hmA, hmC, hpl, hipl, hSh⟩)) dX11_listen_46
  · -- F c1
    refine g_iconst (v := (-1)) (pc := 8) dX11_listen_8 (by decide) ?_
    exact g_iret (pc := 9) (by decide) (by decide) (gC hPo (spListenG_w (by assumption)) (CI.mk ⟨hA, hE, hgA, hgB, hmA, hmC, hpl, hipl, hSh⟩)) dX11_listen_9
theorem d_X11_listen_n {d what : Int32} {V2 : HV} (hCI : CI Z b0 cd Vb ik kd fg pl hr ikd ifg ipl ihr kp so sz el ki kf V2) (h : ¬ spListenG kp so sz el d what = nI 0) : KM l D Z b0 yX11_listen cX11_listen 8 (some .int) rmX11_listen [.ref (cd 0), .int d, .int what] V2 (fun v0 V' => v0 = some (.int (spListenG kp so sz el d what)) ∧ CI Z b0 cd Vb ik kd fg pl hr ikd ifg ipl ihr kp so sz el ki kf V') := by
  obtain ⟨ugA, ugB, ugC, rA, rB, pB, tB, rC, cX, lX, oX, nX, sX, zX, cY, lY, oY, nY, sY, zY, tm, cl, KR, SO, SZ, EL, V, rfl, hA, hE, hgA, hgB, hmA, hmC, hpl, hipl, hSh⟩ := hCI
  exact c_X11_listen_n hA hE hgA hgB hmA hmC hpl hipl hSh h
end MS
