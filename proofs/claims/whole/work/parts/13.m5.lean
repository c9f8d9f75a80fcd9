section MS
variable {l : Launch} {D : va_G} {Z : Nat → ClassId} {b0 : Nat} {ad : Nat → Nat} {hi th po ba en se : Int32} {s im rd mi el ki kf ti lo wa nu li to ot : Nat → Int32} {kd fg pl kp so sz ikd ifg ipl : Nat → Nat} {hr ihr : Nat → Int32} {V : HV}
theorem JF.ex {kd fg pl : Nat → Nat} (ho : okM kd fg pl) {a : Nat} (ha : a < 20) : ∀ (n : Nat) (T L : Nat → Nat), muTL T L = n → JF (sw kd fg) (lw kd fg) a T L → ∃ T' L', SolK (sw kd fg) (lw kd fg) a T' L' ∧ ∀ v, v < 20 → T' v ≤ 494 ∧ L' v ≤ 6916 := by
  intro n
  induction n using Nat.strongRecOn with
  | ind n ih =>
    intro T L hn hJ
    by_cases h : ∃ u s v, u < 20 ∧ s < 4 ∧ nbo u s = some v ∧ T u < 1000000 ∧ bett (sw kd fg) (lw kd fg) T L u v
    · obtain ⟨u, s, v, hu, hs, hb, hM, hbt⟩ := h
      have h1 := hJ.step (wK ho) ha hu hs hb hM hbt
      exact ih _ (by rw [← hn]; exact h1.2) _ _ rfl h1.1
    · have hfix : ∀ u, u < 20 → ∀ s, s < 4 → ∀ v, nbo u s = some v → T u < 1000000 → ¬ bett (sw kd fg) (lw kd fg) T L u v := fun u hu s hs v hb hM hbt => h ⟨u, s, v, hu, hs, hb, hM, hbt⟩
      have hS := hJ.sol (wK ho) ha hfix
      refine ⟨T, L, hS, ?_⟩
      have hall : ∀ c, c < 20 → T c < 1000000 := by
        refine grid_all (P := fun c => T c < 1000000) (fun u hu s hs v hb hTu => ?_) ha (by have := hJ.1.1; omega)
        have h1 := hfix u hu s hs v hb hTu
        have h2 := hJ.b hu
        have h3 := wK ho v (nbo_lt hu hb)
        have h4 := h2.2.2 hTu
        unfold bett at h1
        show T v < 1000000
        omega
      exact fun v hv => (hJ.b hv).2.2 (hall v hv)
theorem dT_sol {kd fg pl : Nat → Nat} (ho : okM kd fg pl) {a : Nat} (ha : a < 20) : SolK (sw kd fg) (lw kd fg) a (dT kd fg a) (dL kd fg a) := by
  obtain ⟨T, L, h, -⟩ := JF.ex ho ha _ _ _ rfl (JF.ini ha)
  exact dTL_sol h
theorem dT_b {kd fg pl : Nat → Nat} (ho : okM kd fg pl) {a : Nat} (ha : a < 20) {v : Nat} (hv : v < 20) : dT kd fg a v ≤ 494 ∧ dL kd fg a v ≤ 6916 := by
  obtain ⟨T, L, h, hb⟩ := JF.ex ho ha _ _ _ rfl (JF.ini ha)
  rw [← (h.d hv).1, ← (h.d hv).2]
  exact hb v hv
/-! ===== how many ways ===== -/
def trm (w1 T : Nat → Nat) (N : Nat → Int32) (v s : Nat) : Int32 := match nbo v s with
  | none => nI 0
  | some u => if T u + w1 v = T v then N u else nI 0
def psm (w1 T : Nat → Nat) (N : Nat → Int32) (v : Nat) : Nat → Int32
  | 0 => nI 0
  | s + 1 => psm w1 T N v s + trm w1 T N v s
def NFu (w1 T : Nat → Nat) (a : Nat) : Nat → Nat → Int32
  | 0, _ => nI 0
  | k + 1, v => if v = a then nI 1 else psm w1 T (NFu w1 T a k) v 4
theorem psm_congr {w1 T : Nat → Nat} {N N' : Nat → Int32} {v : Nat} (h : ∀ u, T u + w1 v = T v → N u = N' u) : ∀ s, psm w1 T N v s = psm w1 T N' v s
  | 0 => rfl
  | s + 1 => by
    show psm w1 T N v s + trm w1 T N v s = psm w1 T N' v s + trm w1 T N' v s
    rw [psm_congr h s]
    congr 1
    unfold trm
    cases nbo v s with
    | none => rfl
    | some u =>
      show (if T u + w1 v = T v then N u else nI 0) = (if T u + w1 v = T v then N' u else nI 0)
      by_cases q : T u + w1 v = T v
      · rw [if_pos q, if_pos q, h u q]
      · rw [if_neg q, if_neg q]
theorem NFu_st {w1 T : Nat → Nat} {a : Nat} (hw : ∀ c, 1 ≤ w1 c) : ∀ (n v k : Nat), T v = n → n < k → NFu w1 T a k v = NFu w1 T a (n + 1) v := by
  intro n
  induction n using Nat.strongRecOn with
  | ind n ih =>
    intro v k hn hk
    obtain ⟨k, rfl⟩ : ∃ q, k = q + 1 := ⟨k - 1, by omega⟩
    show (if v = a then nI 1 else psm w1 T (NFu w1 T a k) v 4) = (if v = a then nI 1 else psm w1 T (NFu w1 T a n) v 4)
    by_cases hva : v = a
    · rw [if_pos hva, if_pos hva]
    · rw [if_neg hva, if_neg hva]
      refine psm_congr (fun u hu => ?_) 4
      have := hw v
      rw [ih (T u) (by omega) u k rfl (by omega), ih (T u) (by omega) u n rfl (by omega)]
noncomputable def dC (kd fg : Nat → Nat) (a v : Nat) : Int32 := NFu (sw kd fg) (dT kd fg a) a (dT kd fg a v + 1) v
theorem dC_rec {kd fg : Nat → Nat} {a v : Nat} (hva : v ≠ a) : dC kd fg a v = psm (sw kd fg) (dT kd fg a) (dC kd fg a) v 4 := by
  show (if v = a then nI 1 else psm (sw kd fg) (dT kd fg a) (NFu (sw kd fg) (dT kd fg a) a (dT kd fg a v)) v 4) = _
  rw [if_neg hva]
  refine psm_congr (fun u hu => ?_) 4
  have h1 : 1 ≤ sw kd fg v := slowN_pos _ _
  exact NFu_st (fun c => slowN_pos _ _) _ u _ rfl (by omega)
theorem dC_a {kd fg : Nat → Nat} {a : Nat} : dC kd fg a a = nI 1 := if_pos rfl
/-- the solution of the ways' recurrence is one -/
theorem dC_uq {kd fg : Nat → Nat} {a : Nat} {N : Nat → Int32} (h0 : N a = nI 1) (h : ∀ v, v < 20 → v ≠ a → N v = psm (sw kd fg) (dT kd fg a) N v 4) : ∀ n v, v < 20 → dT kd fg a v = n → N v = dC kd fg a v := by
  intro n
  induction n using Nat.strongRecOn with
  | ind n ih =>
    intro v hv hn
    by_cases hva : v = a
    · subst hva; rw [h0, dC_a]
    · rw [h v hv hva, dC_rec hva]
      have key : ∀ s, s ≤ 4 → psm (sw kd fg) (dT kd fg a) N v s = psm (sw kd fg) (dT kd fg a) (dC kd fg a) v s := by
        intro s
        induction s with
        | zero => intro _; rfl
        | succ s ihs =>
          intro hs
          show psm _ _ N v s + trm _ _ N v s = psm _ _ (dC kd fg a) v s + trm _ _ (dC kd fg a) v s
          rw [ihs (by omega)]
          congr 1
          unfold trm
          cases hb : nbo v s with
          | none => rfl
          | some u =>
            show (if dT kd fg a u + sw kd fg v = dT kd fg a v then N u else nI 0) = (if dT kd fg a u + sw kd fg v = dT kd fg a v then dC kd fg a u else nI 0)
            by_cases q : dT kd fg a u + sw kd fg v = dT kd fg a v
            · have h1 : 1 ≤ sw kd fg v := slowN_pos _ _
              rw [if_pos q, if_pos q, ih (dT kd fg a u) (by omega) u (nbo_lt hv hb) rfl]
            · rw [if_neg q, if_neg q]
      exact key 4 (Nat.le_refl _)
def iniW (a v : Nat) : Int32 := if v = a then nI 1 else nI 0
def CWv (T : Nat → Nat) (N : Nat → Int32) (t c : Nat) (f : Nat → Int32) (v : Nat) : Prop := (T v < t → f v = N v) ∧ (T v = t → v < c → f v = N v) ∧ (T v = t → c ≤ v → f v = nI 0) ∧ (t < T v → f v = nI 0)
def CW (T : Nat → Nat) (N : Nat → Int32) (t c : Nat) (f : Nat → Int32) : Prop := ∀ v, v < 20 → CWv T N t c f v
def CX (kd fg : Nat → Nat) (a t c s1 : Nat) (f : Nat → Int32) : Prop := (∀ v, v < 20 → v ≠ c → CWv (dT kd fg a) (dC kd fg a) t c f v) ∧ f c = psm (sw kd fg) (dT kd fg a) (dC kd fg a) c s1
theorem CW.ini {kd fg pl : Nat → Nat} (ho : okM kd fg pl) {a : Nat} (ha : a < 20) {f : Nat → Int32} (hf : ∀ j, j < 20 → f j = iniW a j) : CW (dT kd fg a) (dC kd fg a) 1 0 f := fun v hv => by
  have hS := dT_sol ho ha
  have hp : v ≠ a → 1 ≤ dT kd fg a v := fun q => by
    obtain ⟨u, s, _, _, _, e, _⟩ := hS.2.2.2 v hv q
    have h1 : 1 ≤ sw kd fg v := slowN_pos _ _
    omega
  have h0 := hS.1
  have e := hf v hv
  refine ⟨fun q => ?_, fun _ q => absurd q (Nat.not_lt_zero _), fun q _ => ?_, fun q => ?_⟩
  · by_cases hva : v = a
    · subst hva; rw [e, dC_a]; exact if_pos rfl
    · have := hp hva; omega
  · rw [e]; exact if_neg (fun z => by subst z; omega)
  · rw [e]; exact if_neg (fun z => by subst z; omega)
theorem CW.skip {T : Nat → Nat} {N f : Nat → Int32} {t c : Nat} (h : CW T N t c f) (hc : ¬ T c = t) : CW T N t (c + 1) f := fun v hv => by
  have h1 := h v hv
  refine ⟨h1.1, fun q z => ?_, fun q z => h1.2.2.1 q (by omega), h1.2.2.2⟩
  by_cases w : v = c
  · subst w; exact absurd q hc
  · exact h1.2.1 q (by omega)
theorem CW.next {T : Nat → Nat} {N f : Nat → Int32} {t c : Nat} (h : CW T N t c f) (hc : 20 ≤ c) : CW T N (t + 1) 0 f := fun v hv => by
  have h1 := h v hv
  refine ⟨fun q => ?_, fun _ q => absurd q (Nat.not_lt_zero _), fun q _ => h1.2.2.2 (by omega), fun q => h1.2.2.2 (by omega)⟩
  by_cases w : T v = t
  · exact h1.2.1 w (by omega)
  · exact h1.1 (by omega)
theorem CX.start {kd fg : Nat → Nat} {a t c : Nat} {f : Nat → Int32} (h : CW (dT kd fg a) (dC kd fg a) t c f) (hc : c < 20) (ht : dT kd fg a c = t) : CX kd fg a t c 0 f := ⟨fun v hv _ => h v hv, (h c hc).2.2.1 ht (Nat.le_refl _)⟩
theorem CX.out {kd fg pl : Nat → Nat} (ho : okM kd fg pl) {a t c s1 : Nat} {f : Nat → Int32} (ha : a < 20) (ht1 : 1 ≤ t) (h : CX kd fg a t c s1 f) (hs : s1 ≤ 4) (hs4 : 4 ≤ s1) (ht : dT kd fg a c = t) : CW (dT kd fg a) (dC kd fg a) t (c + 1) f := fun v hv => by
  by_cases w : v = c
  · subst w
    have hva : v ≠ a := fun q => by subst q; have := (dT_sol ho ha).1; omega
    have e : f v = dC kd fg a v := by rw [h.2, dC_rec hva, show s1 = 4 by omega]
    exact ⟨fun _ => e, fun _ _ => e, fun _ q => absurd q (by omega), fun q => absurd q (by omega)⟩
  · have h1 := h.1 v hv w
    exact ⟨h1.1, fun q z => h1.2.1 q (by omega), fun q z => h1.2.2.1 q (by omega), h1.2.2.2⟩
theorem nI_z (x : Int32) : x + nI 0 = x := by rw [nI_0, Int32.add_zero]
theorem CX.none {kd fg : Nat → Nat} {a t c s1 : Nat} {f : Nat → Int32} (h : CX kd fg a t c s1 f) (hb : nbo c s1 = none) : CX kd fg a t c (s1 + 1) f := ⟨h.1, by
  show f c = psm _ _ _ c s1 + trm _ _ _ c s1
  rw [h.2]; unfold trm; rw [hb]; exact (nI_z _).symm⟩
theorem CX.far {kd fg : Nat → Nat} {a t c s1 u : Nat} {f : Nat → Int32} (h : CX kd fg a t c s1 f) (ht : dT kd fg a c = t) (hb : nbo c s1 = some u) (hq : ¬ dT kd fg a u + slowN (kd c) (fg c) = t) : CX kd fg a t c (s1 + 1) f := ⟨h.1, by
  show f c = psm _ _ _ c s1 + trm _ _ _ c s1
  rw [h.2]; unfold trm; rw [hb]
  show _ = _ + (if dT kd fg a u + sw kd fg c = dT kd fg a c then _ else nI 0)
  rw [if_neg (by rw [ht]; exact hq)]; exact (nI_z _).symm⟩
theorem CX.yes {kd fg : Nat → Nat} {a t c s1 u : Nat} {f : Nat → Int32} (h : CX kd fg a t c s1 f) (hc : c < 20) (ht : dT kd fg a c = t) (hb : nbo c s1 = some u) (hq : dT kd fg a u + slowN (kd c) (fg c) = t) : CX kd fg a t c (s1 + 1) (upd f c (f c + f u)) := by
  have huc := nbo_ne hc hb
  have h1 : 1 ≤ slowN (kd c) (fg c) := slowN_pos _ _
  have hu : f u = dC kd fg a u := (h.1 u (nbo_lt hc hb) huc).1 (by omega)
  refine ⟨fun v hv hvc => ?_, ?_⟩
  · have h2 := h.1 v hv hvc
    unfold CWv at *
    rw [upd_ne hvc]; exact h2
  · rw [upd_eq]
    show f c + f u = psm _ _ _ c s1 + trm _ _ _ c s1
    rw [h.2]; unfold trm; rw [hb]
    show _ = _ + (if dT kd fg a u + sw kd fg c = dT kd fg a c then dC kd fg a u else nI 0)
    rw [if_pos (by rw [ht]; exact hq), hu]
theorem stepG {f g : Nat → Int32} {i : Nat} (h : ∀ j, j < i → f j = g j) : ∀ j, j < i + 1 → upd f i (g i) j = g j := fun j hj => by
  by_cases z : j = i
  · subst z; exact upd_eq _ _ _
  · rw [upd_ne z]; exact h j (by omega)
theorem maxT1 {T : Nat → Nat} {i m : Nat} (h : ∀ j, j < i → T j ≤ m) (hi : m < T i) : ∀ j, j < i + 1 → T j ≤ T i := fun j hj => by
  by_cases z : j = i
  · subst z; exact Nat.le_refl _
  · have := h j (by omega); omega
theorem maxT2 {T : Nat → Nat} {i m : Nat} (h : ∀ j, j < i → T j ≤ m) (hi : T i ≤ m) : ∀ j, j < i + 1 → T j ≤ m := fun j hj => by
  by_cases z : j = i
  · subst z; exact hi
  · exact h j (by omega)
def MX (Z : Nat → ClassId) (ad : Nat → Nat) (hi : Int32) (s im kp so sz el ki kf : Nat → Int32) (V V' : HV) : Prop := ∃ (th po ba en se : Int32) (rd mi ti lo wa nu li to ot : Nat → Int32), V' = wM Z ad hi th po ba en se s im rd mi kp so sz el ki kf ti lo wa nu li to ot V
theorem mxk {Z : Nat → ClassId} {ad : Nat → Nat} {hi th po ba en se : Int32} {s im rd mi kp so sz el ki kf ti lo wa nu li to ot : Nat → Int32} {V : HV} : MX Z ad hi s im kp so sz el ki kf V (wM Z ad hi th po ba en se s im rd mi kp so sz el ki kf ti lo wa nu li to ot V) := ⟨_, _, _, _, _, _, _, _, _, _, _, _, _, _, rfl⟩
theorem gI {Po : Option Value → HV → Prop} {a b : Int32} {P : HV → Prop} {V : HV} (hPo : ∀ v V', (v = some (.int a) ∧ P V') → Po v V') (e : b = a) (h : P V) : Po (some (.int b)) V := hPo _ _ ⟨by rw [e], h⟩
def rmX12_countsWays : Room := { frames := 4, cells := 0, slots := 0, locals := 91 }
set_option maxHeartbeats 8000000 in
theorem c_X12_countsWays {a : Nat} (hA : aB b0 18 ad) (ho : okM kd fg pl) (ha : a < 20) : KE l D Z b0 yX12_countsWays cX12_countsWays 7 none rmX12_countsWays [.ref (ad 0), .int (nI a)] (wM Z ad hi th po ba en se (enc kd fg pl hr) im rd mi (nf kp) (nf so) (nf sz) el ki kf ti lo wa nu li to ot V) none (wM Z ad hi th po ba en se (enc kd fg pl hr) im rd mi (nf kp) (nf so) (nf sz) el ki kf (nf (dT kd fg a)) (nf (dL kd fg a)) (dC kd fg a) nu li to ot V) := by
  refine KE.of (by decide) (Nat.le_of_ble_eq_true rfl) (fun Po hPo => ?_)
  refine G.locals (L' := [(0, .ref (ad 0)), (1, .int (nI a))]) [0, 1] rfl ?_
  refine g_aload_n (q := 0) (pc := 0) dX12_countsWays_0 rfl rfl ?_
  refine g_iload_n (q := 1) (pc := 1) dX12_countsWays_1 rfl rfl ?_
  refine e_callVv (k2 := 0) (n2 := 0) (As := [.int (nI a)]) (rest := []) (pc := 2) (wM_0 hA) rfl (c_X12_finds hA ho (by omega)) mlX12_118 selX12_X12_finds_X12_finds mX12_finds ⟨Nat.le_of_ble_eq_true rfl, Nat.le_of_ble_eq_true rfl⟩ rfl rfl (Nat.le_of_ble_eq_true rfl) dX12_countsWays_2 (by decide) rfl rfl ?_
  refine g_iconst (v := nI 0) (pc := 5) dX12_countsWays_5 (by decide) ?_
  refine g_istore_n (lv' := [(2, .int (nI 0)), (0, .ref (ad 0)), (1, .int (nI a))]) (pc := 6) dX12_countsWays_6 rfl (by decide) rfl ?_
  have lp7 : ∀ (d7 : Nat) (i : Nat) (f : Nat → Int32), i + d7 = 21 → (i ≤ 20) → (∀ j, j < i → f j = iniW a j) → G l D Z b0 rmX12_countsWays RX12 cX12_countsWays 7 (gE none "countsWays") (gT D b0 Po rmX12_countsWays.cells rmX12_countsWays.slots) (wM Z ad hi th po ba en se (enc kd fg pl hr) im rd mi (nf kp) (nf so) (nf sz) el ki kf (nf (dT kd fg a)) (nf (dL kd fg a)) f nu li to ot V) [(2, .int (nI i)), (0, .ref (ad 0)), (1, .int (nI a))] 0 0 7 [] := by
    intro d7
    induction d7 with
    | zero =>
      intro i f hd7 hiN h1
      exact absurd hd7 (by omega)
    | succ d7 ih7 =>
      intro i f hd7 hiN h1
      refine g_iload_n (q := 0) (pc := 7) dX12_countsWays_7 rfl rfl ?_
      refine g_bipush (v := nI 20) (pc := 8) dX12_countsWays_8 (by decide) ?_
      refine g_icmp_ge_N (tgt := 35) (pc := 10) (by omega) (by omega) dX12_countsWays_10 (by decide) (fun c1 => ?_) (fun c1 => ?_)
      · -- T c1
        obtain rfl : i = 20 := (by omega)
        have hfa := h1
        refine g_iconst (v := nI 0) (pc := 35) dX12_countsWays_35 (by decide) ?_
        refine g_istore_n (lv' := [(2, .int (nI 0)), (0, .ref (ad 0)), (1, .int (nI a))]) (pc := 36) dX12_countsWays_36 rfl (by decide) rfl ?_
        refine g_iconst (v := nI 0) (pc := 37) dX12_countsWays_37 (by decide) ?_
        refine g_istore_n (lv' := [(3, .int (nI 0)), (2, .int (nI 0)), (0, .ref (ad 0)), (1, .int (nI a))]) (pc := 38) dX12_countsWays_38 rfl (by decide) rfl ?_
        have lp39 : ∀ (d39 : Nat) (i : Nat) (m : Nat), i + d39 = 21 → (i ≤ 20) → (∀ j, j < i → dT kd fg a j ≤ m) → (m ≤ 494) → G l D Z b0 rmX12_countsWays RX12 cX12_countsWays 7 (gE none "countsWays") (gT D b0 Po rmX12_countsWays.cells rmX12_countsWays.slots) (wM Z ad hi th po ba en se (enc kd fg pl hr) im rd mi (nf kp) (nf so) (nf sz) el ki kf (nf (dT kd fg a)) (nf (dL kd fg a)) f nu li to ot V) [(3, .int (nI i)), (2, .int (nI m)), (0, .ref (ad 0)), (1, .int (nI a))] 0 0 39 [] := by
          intro d39
          induction d39 with
          | zero =>
            intro i m hd39 hiN hm hm2
            exact absurd hd39 (by omega)
          | succ d39 ih39 =>
            intro i m hd39 hiN hm hm2
            refine g_iload_n (q := 0) (pc := 39) dX12_countsWays_39 rfl rfl ?_
            refine g_bipush (v := nI 20) (pc := 40) dX12_countsWays_40 (by decide) ?_
            refine g_icmp_ge_N (tgt := 72) (pc := 42) (by omega) (by omega) dX12_countsWays_42 (by decide) (fun c2 => ?_) (fun c2 => ?_)
            · -- T c2
              have hmall := hm
              refine g_iconst (v := nI 1) (pc := 72) dX12_countsWays_72 (by decide) ?_
              refine g_istore_n (lv' := [(3, .int (nI 1)), (2, .int (nI m)), (0, .ref (ad 0)), (1, .int (nI a))]) (pc := 73) dX12_countsWays_73 rfl (by decide) rfl ?_
              have lp74 : ∀ (d74 : Nat) (t : Nat) (f2 : Nat → Int32), t + d74 = m + 2 → (1 ≤ t ∧ t ≤ m + 1) → (CW (dT kd fg a) (dC kd fg a) t 0 f2) → G l D Z b0 rmX12_countsWays RX12 cX12_countsWays 7 (gE none "countsWays") (gT D b0 Po rmX12_countsWays.cells rmX12_countsWays.slots) (wM Z ad hi th po ba en se (enc kd fg pl hr) im rd mi (nf kp) (nf so) (nf sz) el ki kf (nf (dT kd fg a)) (nf (dL kd fg a)) f2 nu li to ot V) [(3, .int (nI t)), (2, .int (nI m)), (0, .ref (ad 0)), (1, .int (nI a))] 0 0 74 [] := by
                intro d74
                induction d74 with
                | zero =>
                  intro t f2 hd74 ht h74
                  exact absurd hd74 (by omega)
                | succ d74 ih74 =>
                  intro t f2 hd74 ht h74
                  refine g_iload_n (q := 0) (pc := 74) dX12_countsWays_74 rfl rfl ?_
                  refine g_iload_n (q := 1) (pc := 75) dX12_countsWays_75 rfl rfl ?_
                  refine g_icmp_gt_N (tgt := 179) (pc := 76) (by omega) (by omega) dX12_countsWays_76 (by decide) (fun c3 => ?_) (fun c3 => ?_)
                  · -- T c3
                    refine gm_eq_wa (f' := dC kd fg a) hA (fun j hj => (h74 j hj).1 (by have := hmall j (by omega); omega)) ?_
                    exact g_vret (pc := 179) (by decide) (by decide) (hPo) dX12_countsWays_179
                  · -- F c3
                    refine g_iconst (v := nI 0) (pc := 79) dX12_countsWays_79 (by decide) ?_
                    refine g_istore (lv' := [(4, .int (nI 0)), (3, .int (nI t)), (2, .int (nI m)), (0, .ref (ad 0)), (1, .int (nI a))]) (pc := 80) dX12_countsWays_80 (by decide) rfl ?_
                    have lp82 : ∀ (d82 : Nat) (c : Nat) (f3 : Nat → Int32), c + d82 = 21 → (c ≤ 20) → (CW (dT kd fg a) (dC kd fg a) t c f3) → G l D Z b0 rmX12_countsWays RX12 cX12_countsWays 7 (gE none "countsWays") (gT D b0 Po rmX12_countsWays.cells rmX12_countsWays.slots) (wM Z ad hi th po ba en se (enc kd fg pl hr) im rd mi (nf kp) (nf so) (nf sz) el ki kf (nf (dT kd fg a)) (nf (dL kd fg a)) f3 nu li to ot V) [(4, .int (nI c)), (3, .int (nI t)), (2, .int (nI m)), (0, .ref (ad 0)), (1, .int (nI a))] 0 0 82 [] := by
                      intro d82
                      induction d82 with
                      | zero =>
                        intro c f3 hd82 hc h82
                        exact absurd hd82 (by omega)
                      | succ d82 ih82 =>
                        intro c f3 hd82 hc h82
                        refine g_iload (q := 0) (pc := 82) dX12_countsWays_82 rfl ?_
                        refine g_bipush (v := nI 20) (pc := 84) dX12_countsWays_84 (by decide) ?_
                        refine g_icmp_ge_N (tgt := 173) (pc := 86) (by omega) (by omega) dX12_countsWays_86 (by decide) (fun c4 => ?_) (fun c4 => ?_)
                        · -- T c4
                          refine g_iinc (q := 1) (lv' := [(3, .int (nI (t + 1))), (4, .int (nI c)), (2, .int (nI m)), (0, .ref (ad 0)), (1, .int (nI a))]) (pc := 173) dX12_countsWays_173 rfl (nI_inc _ _) (by decide) rfl ?_
                          refine g_goto (tgt := 74) (pc := 176) dX12_countsWays_176 (by decide) ?_
                          refine G.locals (L' := [(3, .int (nI (t + 1))), (2, .int (nI m)), (0, .ref (ad 0)), (1, .int (nI a))]) [0, 2, 3, 4] rfl ?_
                          exact ih74 (t + 1) f3 (by omega) (by omega) (h82.next (by omega))
                        · -- F c4
                          refine g_aload_n (q := 3) (pc := 89) dX12_countsWays_89 rfl rfl ?_
                          refine gm_get_ti (pc := 90) hA dX12_countsWays_90 ?_
                          refine g_iload (q := 0) (pc := 93) dX12_countsWays_93 rfl ?_
                          refine gm_ld_ti (pc := 95) (j := c) (x := nI ((dT kd fg a) c)) hA (by omega) rfl dX12_countsWays_95 ?_
                          refine g_iload_n (q := 1) (pc := 96) dX12_countsWays_96 rfl rfl ?_
                          refine g_icmp_eq_N (tgt := 103) (pc := 97) (by have := (dT_b ho ha (v := c) (by omega)).1; omega) (by omega) dX12_countsWays_97 (by decide) (fun c5 => ?_) (fun c5 => ?_)
                          · -- T c5
                            have hct := c5
                            refine g_iconst (v := nI 0) (pc := 103) dX12_countsWays_103 (by decide) ?_
                            refine g_istore (lv' := [(5, .int (nI 0)), (4, .int (nI c)), (3, .int (nI t)), (2, .int (nI m)), (0, .ref (ad 0)), (1, .int (nI a))]) (pc := 104) dX12_countsWays_104 (by decide) rfl ?_
                            have lp106 : ∀ (d106 : Nat) (s1 : Nat) (f4 : Nat → Int32), s1 + d106 = 5 → (s1 ≤ 4) → (CX kd fg a t c s1 f4) → G l D Z b0 rmX12_countsWays RX12 cX12_countsWays 7 (gE none "countsWays") (gT D b0 Po rmX12_countsWays.cells rmX12_countsWays.slots) (wM Z ad hi th po ba en se (enc kd fg pl hr) im rd mi (nf kp) (nf so) (nf sz) el ki kf (nf (dT kd fg a)) (nf (dL kd fg a)) f4 nu li to ot V) [(5, .int (nI s1)), (4, .int (nI c)), (3, .int (nI t)), (2, .int (nI m)), (0, .ref (ad 0)), (1, .int (nI a))] 0 0 106 [] := by
                              intro d106
                              induction d106 with
                              | zero =>
                                intro s1 f4 hd106 hs1 h106
                                exact absurd hd106 (by omega)
                              | succ d106 ih106 =>
                                intro s1 f4 hd106 hs1 h106
                                refine g_iload (q := 0) (pc := 106) dX12_countsWays_106 rfl ?_
                                refine g_iconst (v := nI 4) (pc := 108) dX12_countsWays_108 (by decide) ?_
                                refine g_icmp_ge_N (tgt := 167) (pc := 109) (by omega) (by omega) dX12_countsWays_109 (by decide) (fun c6 => ?_) (fun c6 => ?_)
                                · -- T c6
                                  refine g_iinc (q := 1) (lv' := [(4, .int (nI (c + 1))), (5, .int (nI s1)), (3, .int (nI t)), (2, .int (nI m)), (0, .ref (ad 0)), (1, .int (nI a))]) (pc := 167) dX12_countsWays_167 rfl (nI_inc _ _) (by decide) rfl ?_
                                  refine g_goto (tgt := 82) (pc := 170) dX12_countsWays_170 (by decide) ?_
                                  refine G.locals (L' := [(4, .int (nI (c + 1))), (3, .int (nI t)), (2, .int (nI m)), (0, .ref (ad 0)), (1, .int (nI a))]) [0, 2, 3, 4, 5] rfl ?_
                                  exact ih82 (c + 1) f4 (by omega) (by omega) (h106.out ho ha ht.1 hs1 (by omega) hct)
                                · -- F c6
                                  refine g_iload (q := 1) (pc := 112) dX12_countsWays_112 rfl ?_
                                  refine g_iload (q := 0) (pc := 114) dX12_countsWays_114 rfl ?_
                                  rcases hn116 : nbo c s1 with _ | t116
                                  · -- alt
                                    refine e_callS (k2 := 0) (n2 := 0) (As := [.int (nI c), .int (nI s1)]) (rest := []) (pc := 116) (c_X12_beside_n hA (by omega) (by omega) hn116 (c_X12_beside hA (by omega) (by omega))) mlX12_97 mX12_beside ⟨Nat.le_of_ble_eq_true rfl, Nat.le_of_ble_eq_true rfl⟩ rfl rfl (Nat.le_of_ble_eq_true rfl) dX12_countsWays_116 (by decide) rfl rfl ?_
                                    refine g_istore (lv' := [(6, .int (-4)), (5, .int (nI s1)), (4, .int (nI c)), (3, .int (nI t)), (2, .int (nI m)), (0, .ref (ad 0)), (1, .int (nI a))]) (pc := 119) dX12_countsWays_119 (by decide) rfl ?_
                                    refine g_iload (q := 0) (pc := 121) dX12_countsWays_121 rfl ?_
                                    refine g_if_lt (tgt := 161) (pc := 123) dX12_countsWays_123 (by decide) (fun _ => ?_) (fun c0 => absurd c0 (by decide))
                                    refine g_iinc (q := 1) (lv' := [(5, .int (nI (s1 + 1))), (6, .int (-4)), (4, .int (nI c)), (3, .int (nI t)), (2, .int (nI m)), (0, .ref (ad 0)), (1, .int (nI a))]) (pc := 161) dX12_countsWays_161 rfl (nI_inc _ _) (by decide) rfl ?_
                                    refine g_goto (tgt := 106) (pc := 164) dX12_countsWays_164 (by decide) ?_
                                    refine G.locals (L' := [(5, .int (nI (s1 + 1))), (4, .int (nI c)), (3, .int (nI t)), (2, .int (nI m)), (0, .ref (ad 0)), (1, .int (nI a))]) [0, 2, 3, 4, 5, 6] rfl ?_
                                    exact ih106 (s1 + 1) f4 (by omega) (by omega) (h106.none hn116)
                                  · -- alt
                                    have t116l := nbo_lt (c := c) (by omega) hn116
                                    refine e_callS (k2 := 0) (n2 := 0) (As := [.int (nI c), .int (nI s1)]) (rest := []) (pc := 116) (c_X12_beside_s hA (by omega) (by omega) hn116 (c_X12_beside hA (by omega) (by omega))) mlX12_97 mX12_beside ⟨Nat.le_of_ble_eq_true rfl, Nat.le_of_ble_eq_true rfl⟩ rfl rfl (Nat.le_of_ble_eq_true rfl) dX12_countsWays_116 (by decide) rfl rfl ?_
                                    refine g_istore (lv' := [(6, .int (nI t116)), (5, .int (nI s1)), (4, .int (nI c)), (3, .int (nI t)), (2, .int (nI m)), (0, .ref (ad 0)), (1, .int (nI a))]) (pc := 119) dX12_countsWays_119 (by decide) rfl ?_
                                    refine g_iload (q := 0) (pc := 121) dX12_countsWays_121 rfl ?_
                                    refine g_if_lt_N (tgt := 161) (pc := 123) (by omega) dX12_countsWays_123 (by decide) ?_
                                    refine g_aload_n (q := 5) (pc := 126) dX12_countsWays_126 rfl rfl ?_
                                    refine gm_get_ti (pc := 127) hA dX12_countsWays_127 ?_
                                    refine g_iload (q := 0) (pc := 130) dX12_countsWays_130 rfl ?_
                                    refine gm_ld_ti (pc := 132) (j := t116) (x := nI ((dT kd fg a) t116)) hA (by omega) rfl dX12_countsWays_132 ?_
                                    refine g_aload_n (q := 5) (pc := 133) dX12_countsWays_133 rfl rfl ?_
                                    refine g_iload (q := 2) (pc := 134) dX12_countsWays_134 rfl ?_
                                    refine e_callV (k2 := 0) (n2 := 0) (As := [.int (nI c)]) (rest := [.int (nI ((dT kd fg a) t116))]) (pc := 136) (wM_0 hA) rfl (c_X12_slow hA ho (by omega)) mlX12_107 selX12_X12_slow_X12_slow mX12_slow ⟨Nat.le_of_ble_eq_true rfl, Nat.le_of_ble_eq_true rfl⟩ rfl rfl (Nat.le_of_ble_eq_true rfl) dX12_countsWays_136 (by decide) rfl rfl ?_
                                    refine g_iadd_N (pc := 139) dX12_countsWays_139 ?_
                                    refine g_iload_n (q := 3) (pc := 140) dX12_countsWays_140 rfl rfl ?_
                                    refine g_icmp_ne_N (tgt := 161) (pc := 141) (by have h1 := (dT_b ho ha (v := t116) t116l).1; have h2 := slowN_le (k := kd c) (ho.1 c (by omega)).2; omega) (by omega) dX12_countsWays_141 (by decide) (fun c7 => ?_) (fun c7 => ?_)
                                    · -- T c7
                                      refine g_iinc (q := 1) (lv' := [(5, .int (nI (s1 + 1))), (6, .int (nI t116)), (4, .int (nI c)), (3, .int (nI t)), (2, .int (nI m)), (0, .ref (ad 0)), (1, .int (nI a))]) (pc := 161) dX12_countsWays_161 rfl (nI_inc _ _) (by decide) rfl ?_
                                      refine g_goto (tgt := 106) (pc := 164) dX12_countsWays_164 (by decide) ?_
                                      refine G.locals (L' := [(5, .int (nI (s1 + 1))), (4, .int (nI c)), (3, .int (nI t)), (2, .int (nI m)), (0, .ref (ad 0)), (1, .int (nI a))]) [0, 2, 3, 4, 5, 6] rfl ?_
                                      exact ih106 (s1 + 1) f4 (by omega) (by omega) (h106.far hct hn116 (by assumption))
                                    · -- F c7
                                      refine g_aload_n (q := 5) (pc := 144) dX12_countsWays_144 rfl rfl ?_
                                      refine gm_get_wa (pc := 145) hA dX12_countsWays_145 ?_
                                      refine g_iload (q := 2) (pc := 148) dX12_countsWays_148 rfl ?_
                                      refine g_dup2_11 (pc := 150) dX12_countsWays_150 rfl rfl ?_
                                      refine gm_ld_wa (pc := 151) (j := c) (x := f4 c) hA (by omega) rfl dX12_countsWays_151 ?_
                                      refine g_aload_n (q := 5) (pc := 152) dX12_countsWays_152 rfl rfl ?_
                                      refine gm_get_wa (pc := 153) hA dX12_countsWays_153 ?_
                                      refine g_iload (q := 0) (pc := 156) dX12_countsWays_156 rfl ?_
                                      refine gm_ld_wa (pc := 158) (j := t116) (x := f4 t116) hA (by omega) rfl dX12_countsWays_158 ?_
                                      refine g_iadd (pc := 159) dX12_countsWays_159 ?_
                                      refine gm_st_wa (pc := 160) (j := c) (f' := (upd f4 c ((f4 c) + (f4 t116)))) hA (by omega) rfl dX12_countsWays_160 ?_
                                      refine g_iinc (q := 1) (lv' := [(5, .int (nI (s1 + 1))), (6, .int (nI t116)), (4, .int (nI c)), (3, .int (nI t)), (2, .int (nI m)), (0, .ref (ad 0)), (1, .int (nI a))]) (pc := 161) dX12_countsWays_161 rfl (nI_inc _ _) (by decide) rfl ?_
                                      refine g_goto (tgt := 106) (pc := 164) dX12_countsWays_164 (by decide) ?_
                                      refine G.locals (L' := [(5, .int (nI (s1 + 1))), (4, .int (nI c)), (3, .int (nI t)), (2, .int (nI m)), (0, .ref (ad 0)), (1, .int (nI a))]) [0, 2, 3, 4, 5, 6] rfl ?_
                                      exact ih106 (s1 + 1) (upd f4 c ((f4 c) + (f4 t116))) (by omega) (by omega) (h106.yes (by omega) hct hn116 (by assumption))
                            refine G.locals (L' := [(5, .int (nI 0)), (4, .int (nI c)), (3, .int (nI t)), (2, .int (nI m)), (0, .ref (ad 0)), (1, .int (nI a))]) [0, 1, 2, 3, 4, 5] rfl ?_
                            exact lp106 5 0 f3 (by omega) (by decide) (CX.start h82 (by omega) hct)
                          · -- F c5
                            refine g_goto (tgt := 167) (pc := 100) dX12_countsWays_100 (by decide) ?_
                            refine g_iinc (q := 0) (lv' := [(4, .int (nI (c + 1))), (3, .int (nI t)), (2, .int (nI m)), (0, .ref (ad 0)), (1, .int (nI a))]) (pc := 167) dX12_countsWays_167 rfl (nI_inc _ _) (by decide) rfl ?_
                            refine g_goto (tgt := 82) (pc := 170) dX12_countsWays_170 (by decide) ?_
                            refine G.locals (L' := [(4, .int (nI (c + 1))), (3, .int (nI t)), (2, .int (nI m)), (0, .ref (ad 0)), (1, .int (nI a))]) [0, 1, 2, 3, 4] rfl ?_
                            exact ih82 (c + 1) f3 (by omega) (by omega) (h82.skip c5)
                    refine G.locals (L' := [(4, .int (nI 0)), (3, .int (nI t)), (2, .int (nI m)), (0, .ref (ad 0)), (1, .int (nI a))]) [0, 1, 2, 3, 4] rfl ?_
                    exact lp82 21 0 f2 (by omega) (by decide) h74
              refine G.locals (L' := [(3, .int (nI 1)), (2, .int (nI m)), (0, .ref (ad 0)), (1, .int (nI a))]) [0, 1, 2, 3] rfl ?_
              exact lp74 (m + 1) 1 f (by omega) (by omega) (CW.ini ho ha hfa)
            · -- F c2
              refine g_aload_n (q := 2) (pc := 45) dX12_countsWays_45 rfl rfl ?_
              refine gm_get_ti (pc := 46) hA dX12_countsWays_46 ?_
              refine g_iload_n (q := 0) (pc := 49) dX12_countsWays_49 rfl rfl ?_
              refine gm_ld_ti (pc := 50) (j := i) (x := nI ((dT kd fg a) i)) hA (by omega) rfl dX12_countsWays_50 ?_
              refine g_iload_n (q := 1) (pc := 51) dX12_countsWays_51 rfl rfl ?_
              refine g_icmp_le_N (tgt := 64) (pc := 52) (by have := (dT_b ho ha (v := i) (by omega)).1; omega) (by omega) dX12_countsWays_52 (by decide) (fun c8 => ?_) (fun c8 => ?_)
              · -- T c8
                refine g_iload_n (q := 1) (pc := 64) dX12_countsWays_64 rfl rfl ?_
                refine g_istore_n (lv' := [(2, .int (nI m)), (3, .int (nI i)), (0, .ref (ad 0)), (1, .int (nI a))]) (pc := 65) dX12_countsWays_65 rfl (by decide) rfl ?_
                refine g_iinc (q := 1) (lv' := [(3, .int (nI (i + 1))), (2, .int (nI m)), (0, .ref (ad 0)), (1, .int (nI a))]) (pc := 66) dX12_countsWays_66 rfl (nI_inc _ _) (by decide) rfl ?_
                refine g_goto (tgt := 39) (pc := 69) dX12_countsWays_69 (by decide) ?_
                refine G.locals (L' := [(3, .int (nI (i + 1))), (2, .int (nI m)), (0, .ref (ad 0)), (1, .int (nI a))]) [0, 1, 2, 3] rfl ?_
                exact ih39 (i + 1) m (by omega) (by omega) (maxT2 hm (by omega)) (by first | exact hm2 | exact (dT_b ho ha (by omega)).1)
              · -- F c8
                refine g_aload_n (q := 2) (pc := 55) dX12_countsWays_55 rfl rfl ?_
                refine gm_get_ti (pc := 56) hA dX12_countsWays_56 ?_
                refine g_iload_n (q := 0) (pc := 59) dX12_countsWays_59 rfl rfl ?_
                refine gm_ld_ti (pc := 60) (j := i) (x := nI ((dT kd fg a) i)) hA (by omega) rfl dX12_countsWays_60 ?_
                refine g_goto (tgt := 65) (pc := 61) dX12_countsWays_61 (by decide) ?_
                refine g_istore_n (lv' := [(2, .int (nI ((dT kd fg a) i))), (3, .int (nI i)), (0, .ref (ad 0)), (1, .int (nI a))]) (pc := 65) dX12_countsWays_65 rfl (by decide) rfl ?_
                refine g_iinc (q := 1) (lv' := [(3, .int (nI (i + 1))), (2, .int (nI ((dT kd fg a) i))), (0, .ref (ad 0)), (1, .int (nI a))]) (pc := 66) dX12_countsWays_66 rfl (nI_inc _ _) (by decide) rfl ?_
                refine g_goto (tgt := 39) (pc := 69) dX12_countsWays_69 (by decide) ?_
                refine G.locals (L' := [(3, .int (nI (i + 1))), (2, .int (nI ((dT kd fg a) i))), (0, .ref (ad 0)), (1, .int (nI a))]) [0, 1, 2, 3] rfl ?_
                exact ih39 (i + 1) ((dT kd fg a) i) (by omega) (by omega) (maxT1 hm (by omega)) (by first | exact hm2 | exact (dT_b ho ha (by omega)).1)
        refine G.locals (L' := [(3, .int (nI 0)), (2, .int (nI 0)), (0, .ref (ad 0)), (1, .int (nI a))]) [0, 1, 2, 3] rfl ?_
        exact lp39 21 0 0 (by omega) (by decide) (fun j hj => absurd hj (Nat.not_lt_zero _)) (by decide)
      · -- F c1
        refine g_aload_n (q := 1) (pc := 13) dX12_countsWays_13 rfl rfl ?_
        refine gm_get_wa (pc := 14) hA dX12_countsWays_14 ?_
        refine g_iload_n (q := 0) (pc := 17) dX12_countsWays_17 rfl rfl ?_
        refine g_iload_n (q := 0) (pc := 18) dX12_countsWays_18 rfl rfl ?_
        refine g_iload_n (q := 2) (pc := 19) dX12_countsWays_19 rfl rfl ?_
        refine g_icmp_ne_N (tgt := 27) (pc := 20) (by omega) (by omega) dX12_countsWays_20 (by decide) (fun c9 => ?_) (fun c9 => ?_)
        · -- T c9
          refine g_iconst (v := nI 0) (pc := 27) dX12_countsWays_27 (by decide) ?_
          refine g_top (x := nI 0) (y := iniW a i) (by first | (exfalso; omega) | (simp [iniW, *]; done)) ?_
          refine gm_st_wa (pc := 28) (j := i) (f' := (upd f i (iniW a i))) hA (by omega) rfl dX12_countsWays_28 ?_
          refine g_iinc (q := 0) (lv' := [(2, .int (nI (i + 1))), (0, .ref (ad 0)), (1, .int (nI a))]) (pc := 29) dX12_countsWays_29 rfl (nI_inc _ _) (by decide) rfl ?_
          refine g_goto (tgt := 7) (pc := 32) dX12_countsWays_32 (by decide) ?_
          refine G.locals (L' := [(2, .int (nI (i + 1))), (0, .ref (ad 0)), (1, .int (nI a))]) [0, 1, 2] rfl ?_
          exact ih7 (i + 1) (upd f i (iniW a i)) (by omega) (by omega) (stepG h1)
        · -- F c9
          refine g_iconst (v := nI 1) (pc := 23) dX12_countsWays_23 (by decide) ?_
          refine g_goto (tgt := 28) (pc := 24) dX12_countsWays_24 (by decide) ?_
          refine g_top (x := nI 1) (y := iniW a i) (by first | (exfalso; omega) | (simp [iniW, *]; done)) ?_
          refine gm_st_wa (pc := 28) (j := i) (f' := (upd f i (iniW a i))) hA (by omega) rfl dX12_countsWays_28 ?_
          refine g_iinc (q := 0) (lv' := [(2, .int (nI (i + 1))), (0, .ref (ad 0)), (1, .int (nI a))]) (pc := 29) dX12_countsWays_29 rfl (nI_inc _ _) (by decide) rfl ?_
          refine g_goto (tgt := 7) (pc := 32) dX12_countsWays_32 (by decide) ?_
          refine G.locals (L' := [(2, .int (nI (i + 1))), (0, .ref (ad 0)), (1, .int (nI a))]) [0, 1, 2] rfl ?_
          exact ih7 (i + 1) (upd f i (iniW a i)) (by omega) (by omega) (stepG h1)
  refine G.locals (L' := [(2, .int (nI 0)), (0, .ref (ad 0)), (1, .int (nI a))]) [0, 1, 2] rfl ?_
  exact lp7 21 0 wa (by omega) (by decide) (fun j hj => absurd hj (Nat.not_lt_zero _))
noncomputable def spTime (kd fg : Nat → Nat) (a c : Int32) : Int32 := if inR a 20 = true then (if inR c 20 = true then nI (dT kd fg (dN a) (dN c)) else (-1)) else (-1)
noncomputable def spPaths (kd fg : Nat → Nat) (a c : Int32) : Int32 := if inR a 20 = true then (if inR c 20 = true then dC kd fg (dN a) (dN c) else (-1)) else (-1)
noncomputable def spLoud (kd fg : Nat → Nat) (a c z : Int32) : Int32 := if inR a 20 = true then (if inR c 20 = true then (if inR z 100 = true then nI (dN z - dL kd fg (dN a) (dN c)) else (-1)) else (-1)) else (-1)
def rch (L : Nat → Nat) (z : Nat) : Nat → Int32
  | 0 => nI 0
  | i + 1 => rch L z i ||| (if L i < z then nI 1 <<< (nI i &&& 31) else nI 0)
noncomputable def spReach (kd fg : Nat → Nat) (a z : Int32) : Int32 := if inR a 20 = true then (if inB z 1 99 = true then rch (dL kd fg (dN a)) (dN z) 20 else (-1)) else (-1)
def rmX12_time : Room := { frames := 5, cells := 0, slots := 0, locals := 113 }
set_option maxHeartbeats 8000000 in
theorem c_X12_time {a c : Int32} (hA : aB b0 18 ad) (ho : okM kd fg pl) : KM l D Z b0 yX12_time cX12_time 3 (some .int) rmX12_time [.ref (ad 0), .int a, .int c] (wM Z ad hi th po ba en se (enc kd fg pl hr) im rd mi (nf kp) (nf so) (nf sz) el ki kf ti lo wa nu li to ot V) (fun v V' => v = some (.int (spTime kd fg a c)) ∧ MX Z ad hi (enc kd fg pl hr) im (nf kp) (nf so) (nf sz) el ki kf V V') := by
  refine KM.ofP (by decide) (Nat.le_of_ble_eq_true rfl) (fun Po hPo => ?_)
  refine G.locals (L' := [(0, .ref (ad 0)), (1, .int a), (2, .int c)]) [0, 1, 2] rfl ?_
  refine g_iload_n (q := 1) (pc := 0) dX12_time_0 rfl rfl ?_
  refine e_callS (k2 := 0) (n2 := 0) (As := [.int a]) (rest := []) (pc := 1) (c_X12_isCell hA) mlX12_143 mX12_isCell ⟨Nat.le_of_ble_eq_true rfl, Nat.le_of_ble_eq_true rfl⟩ rfl rfl (Nat.le_of_ble_eq_true rfl) dX12_time_1 (by decide) rfl rfl ?_
  refine g_if_eq_B (tgt := 23) (pc := 4) dX12_time_4 (by decide) (fun c1 => ?_) (fun c1 => ?_)
  · -- T c1
    refine g_iconst (v := (-1)) (pc := 23) dX12_time_23 (by decide) ?_
    exact g_iret (pc := 24) (by decide) (by decide) (gI hPo (by rw [spTime, if_neg (by simp [*])]) mxk) dX12_time_24
  · -- F c1
    obtain ⟨a, ha, rfl⟩ := inR_t c1
    refine g_iload_n (q := 2) (pc := 7) dX12_time_7 rfl rfl ?_
    refine e_callS (k2 := 0) (n2 := 0) (As := [.int c]) (rest := []) (pc := 8) (c_X12_isCell hA) mlX12_143 mX12_isCell ⟨Nat.le_of_ble_eq_true rfl, Nat.le_of_ble_eq_true rfl⟩ rfl rfl (Nat.le_of_ble_eq_true rfl) dX12_time_8 (by decide) rfl rfl ?_
    refine g_if_eq_B (tgt := 23) (pc := 11) dX12_time_11 (by decide) (fun c2 => ?_) (fun c2 => ?_)
    · -- T c2
      refine g_iconst (v := (-1)) (pc := 23) dX12_time_23 (by decide) ?_
      exact g_iret (pc := 24) (by decide) (by decide) (gI hPo (by rw [spTime, if_pos (by assumption), if_neg (by simp [*])]) mxk) dX12_time_24
    · -- F c2
      obtain ⟨c, hc, rfl⟩ := inR_t c2
      refine g_aload_n (q := 0) (pc := 14) dX12_time_14 rfl rfl ?_
      refine g_iload_n (q := 1) (pc := 15) dX12_time_15 rfl rfl ?_
      refine g_iload_n (q := 2) (pc := 16) dX12_time_16 rfl rfl ?_
      refine e_callV (k2 := 0) (n2 := 0) (As := [.int (nI a), .int (nI c)]) (rest := []) (pc := 17) (wM_0 hA) rfl (c_X12_timeOf hA ho (by omega) (by omega)) mlX12_173 selX12_X12_timeOf_X12_timeOf mX12_timeOf ⟨Nat.le_of_ble_eq_true rfl, Nat.le_of_ble_eq_true rfl⟩ rfl rfl (Nat.le_of_ble_eq_true rfl) dX12_time_17 (by decide) rfl rfl ?_
      refine g_goto (tgt := 24) (pc := 20) dX12_time_20 (by decide) ?_
      exact g_iret (pc := 24) (by decide) (by decide) (gI hPo (by rw [spTime, if_pos (by assumption), if_pos (by assumption), dN_N (by omega), dN_N (by omega)]) mxk) dX12_time_24
def rmX12_paths : Room := { frames := 5, cells := 0, slots := 0, locals := 117 }
set_option maxHeartbeats 8000000 in
theorem c_X12_paths {a c : Int32} (hA : aB b0 18 ad) (ho : okM kd fg pl) : KM l D Z b0 yX12_paths cX12_paths 3 (some .int) rmX12_paths [.ref (ad 0), .int a, .int c] (wM Z ad hi th po ba en se (enc kd fg pl hr) im rd mi (nf kp) (nf so) (nf sz) el ki kf ti lo wa nu li to ot V) (fun v V' => v = some (.int (spPaths kd fg a c)) ∧ MX Z ad hi (enc kd fg pl hr) im (nf kp) (nf so) (nf sz) el ki kf V V') := by
  refine KM.ofP (by decide) (Nat.le_of_ble_eq_true rfl) (fun Po hPo => ?_)
  refine G.locals (L' := [(0, .ref (ad 0)), (1, .int a), (2, .int c)]) [0, 1, 2] rfl ?_
  refine g_iload_n (q := 1) (pc := 0) dX12_paths_0 rfl rfl ?_
  refine e_callS (k2 := 0) (n2 := 0) (As := [.int a]) (rest := []) (pc := 1) (c_X12_isCell hA) mlX12_143 mX12_isCell ⟨Nat.le_of_ble_eq_true rfl, Nat.le_of_ble_eq_true rfl⟩ rfl rfl (Nat.le_of_ble_eq_true rfl) dX12_paths_1 (by decide) rfl rfl ?_
  refine g_if_eq_B (tgt := 14) (pc := 4) dX12_paths_4 (by decide) (fun c1 => ?_) (fun c1 => ?_)
  · -- T c1
    refine g_iconst (v := (-1)) (pc := 14) dX12_paths_14 (by decide) ?_
    exact g_iret (pc := 15) (by decide) (by decide) (gI hPo (by rw [spPaths, if_neg (by simp [*])]) mxk) dX12_paths_15
  · -- F c1
    obtain ⟨a, ha, rfl⟩ := inR_t c1
    refine g_iload_n (q := 2) (pc := 7) dX12_paths_7 rfl rfl ?_
    refine e_callS (k2 := 0) (n2 := 0) (As := [.int c]) (rest := []) (pc := 8) (c_X12_isCell hA) mlX12_143 mX12_isCell ⟨Nat.le_of_ble_eq_true rfl, Nat.le_of_ble_eq_true rfl⟩ rfl rfl (Nat.le_of_ble_eq_true rfl) dX12_paths_8 (by decide) rfl rfl ?_
    refine g_if_ne_B (tgt := 16) (pc := 11) dX12_paths_11 (by decide) (fun c2 => ?_) (fun c2 => ?_)
    · -- T c2
      obtain ⟨c, hc, rfl⟩ := inR_t c2
      refine g_aload_n (q := 0) (pc := 16) dX12_paths_16 rfl rfl ?_
      refine g_iload_n (q := 1) (pc := 17) dX12_paths_17 rfl rfl ?_
      refine e_callVv (k2 := 0) (n2 := 0) (As := [.int (nI a)]) (rest := []) (pc := 18) (wM_0 hA) rfl (c_X12_countsWays hA ho (by omega)) mlX12_178 selX12_X12_countsWays_X12_countsWays mX12_countsWays ⟨Nat.le_of_ble_eq_true rfl, Nat.le_of_ble_eq_true rfl⟩ rfl rfl (Nat.le_of_ble_eq_true rfl) dX12_paths_18 (by decide) rfl rfl ?_
      refine g_aload_n (q := 0) (pc := 21) dX12_paths_21 rfl rfl ?_
      refine gm_get_wa (pc := 22) hA dX12_paths_22 ?_
      refine g_iload_n (q := 2) (pc := 25) dX12_paths_25 rfl rfl ?_
      refine gm_ld_wa (pc := 26) (j := c) (x := (dC kd fg a) c) hA (by omega) rfl dX12_paths_26 ?_
      exact g_iret (pc := 27) (by decide) (by decide) (gI hPo (by rw [spPaths, if_pos (by assumption), if_pos (by assumption), dN_N (by omega), dN_N (by omega)]) mxk) dX12_paths_27
    · -- F c2
      refine g_iconst (v := (-1)) (pc := 14) dX12_paths_14 (by decide) ?_
      exact g_iret (pc := 15) (by decide) (by decide) (gI hPo (by rw [spPaths, if_pos (by assumption), if_neg (by simp [*])]) mxk) dX12_paths_15
def rmX12_loud : Room := { frames := 4, cells := 0, slots := 0, locals := 91 }
set_option maxHeartbeats 8000000 in
theorem c_X12_loud {a c z : Int32} (hA : aB b0 18 ad) (ho : okM kd fg pl) : KM l D Z b0 yX12_loud cX12_loud 4 (some .int) rmX12_loud [.ref (ad 0), .int a, .int c, .int z] (wM Z ad hi th po ba en se (enc kd fg pl hr) im rd mi (nf kp) (nf so) (nf sz) el ki kf ti lo wa nu li to ot V) (fun v V' => v = some (.int (spLoud kd fg a c z)) ∧ MX Z ad hi (enc kd fg pl hr) im (nf kp) (nf so) (nf sz) el ki kf V V') := by
  refine KM.ofP (by decide) (Nat.le_of_ble_eq_true rfl) (fun Po hPo => ?_)
  refine G.locals (L' := [(0, .ref (ad 0)), (1, .int a), (2, .int c), (3, .int z)]) [0, 1, 2, 3] rfl ?_
  refine g_iload_n (q := 1) (pc := 0) dX12_loud_0 rfl rfl ?_
  refine e_callS (k2 := 0) (n2 := 0) (As := [.int a]) (rest := []) (pc := 1) (c_X12_isCell hA) mlX12_143 mX12_isCell ⟨Nat.le_of_ble_eq_true rfl, Nat.le_of_ble_eq_true rfl⟩ rfl rfl (Nat.le_of_ble_eq_true rfl) dX12_loud_1 (by decide) rfl rfl ?_
  refine g_if_eq_B (tgt := 26) (pc := 4) dX12_loud_4 (by decide) (fun c1 => ?_) (fun c1 => ?_)
  · -- T c1
    refine g_iconst (v := (-1)) (pc := 26) dX12_loud_26 (by decide) ?_
    exact g_iret (pc := 27) (by decide) (by decide) (gI hPo (by rw [spLoud, if_neg (by simp [*])]) mxk) dX12_loud_27
  · -- F c1
    obtain ⟨a, ha, rfl⟩ := inR_t c1
    refine g_iload_n (q := 2) (pc := 7) dX12_loud_7 rfl rfl ?_
    refine e_callS (k2 := 0) (n2 := 0) (As := [.int c]) (rest := []) (pc := 8) (c_X12_isCell hA) mlX12_143 mX12_isCell ⟨Nat.le_of_ble_eq_true rfl, Nat.le_of_ble_eq_true rfl⟩ rfl rfl (Nat.le_of_ble_eq_true rfl) dX12_loud_8 (by decide) rfl rfl ?_
    refine g_if_eq_B (tgt := 26) (pc := 11) dX12_loud_11 (by decide) (fun c2 => ?_) (fun c2 => ?_)
    · -- T c2
      refine g_iconst (v := (-1)) (pc := 26) dX12_loud_26 (by decide) ?_
      exact g_iret (pc := 27) (by decide) (by decide) (gI hPo (by rw [spLoud, if_pos (by assumption), if_neg (by simp [*])]) mxk) dX12_loud_27
    · -- F c2
      obtain ⟨c, hc, rfl⟩ := inR_t c2
      refine g_iload_n (q := 3) (pc := 14) dX12_loud_14 rfl rfl ?_
      refine g_i2l (v := (z).toInt64) (pc := 15) dX12_loud_15 rfl ?_
      refine g_lconst (v := lN 0) (pc := 16) dX12_loud_16 (by decide) ?_
      refine g_ldc2 (v := lN 99) (pc := 17) klX12_176 dX12_loud_17 ?_
      refine e_callS (k2 := 0) (n2 := 0) (As := [.long ((z).toInt64), .long (lN 0), .long (lN 99)]) (rest := []) (pc := 20) (c_X12_isInR 100 rfl hA (by decide) (c_X12_isIn hA)) mlX12_67 mX12_isIn ⟨Nat.le_of_ble_eq_true rfl, Nat.le_of_ble_eq_true rfl⟩ rfl rfl (Nat.le_of_ble_eq_true rfl) dX12_loud_20 (by decide) rfl rfl ?_
      refine g_if_ne_B (tgt := 28) (pc := 23) dX12_loud_23 (by decide) (fun c3 => ?_) (fun c3 => ?_)
      · -- T c3
        obtain ⟨z, hz, rfl⟩ := inR_t c3
        refine g_aload_n (q := 0) (pc := 28) dX12_loud_28 rfl rfl ?_
        refine g_iload_n (q := 1) (pc := 29) dX12_loud_29 rfl rfl ?_
        refine e_callVv (k2 := 0) (n2 := 0) (As := [.int (nI a)]) (rest := []) (pc := 30) (wM_0 hA) rfl (c_X12_finds hA ho (by omega)) mlX12_118 selX12_X12_finds_X12_finds mX12_finds ⟨Nat.le_of_ble_eq_true rfl, Nat.le_of_ble_eq_true rfl⟩ rfl rfl (Nat.le_of_ble_eq_true rfl) dX12_loud_30 (by decide) rfl rfl ?_
        refine g_iload_n (q := 3) (pc := 33) dX12_loud_33 rfl rfl ?_
        refine g_aload_n (q := 0) (pc := 34) dX12_loud_34 rfl rfl ?_
        refine gm_get_lo (pc := 35) hA dX12_loud_35 ?_
        refine g_iload_n (q := 2) (pc := 38) dX12_loud_38 rfl rfl ?_
        refine gm_ld_lo (pc := 39) (j := c) (x := nI ((dL kd fg a) c)) hA (by omega) rfl dX12_loud_39 ?_
        refine g_icmp_le_N (tgt := 54) (pc := 40) (by omega) (by have := (dT_b ho ha hc).2; omega) dX12_loud_40 (by decide) (fun c4 => ?_) (fun c4 => ?_)
        · -- T c4
          refine g_iconst (v := nI 0) (pc := 54) dX12_loud_54 (by decide) ?_
          exact g_iret (pc := 55) (by decide) (by decide) (gI hPo (by rw [spLoud, if_pos (by assumption), if_pos (by assumption), if_pos (by assumption), dN_N (by omega), dN_N (by omega), dN_N (by omega)] <;> congr 1 <;> omega) mxk) dX12_loud_55
        · -- F c4
          refine g_iload_n (q := 3) (pc := 43) dX12_loud_43 rfl rfl ?_
          refine g_aload_n (q := 0) (pc := 44) dX12_loud_44 rfl rfl ?_
          refine gm_get_lo (pc := 45) hA dX12_loud_45 ?_
          refine g_iload_n (q := 2) (pc := 48) dX12_loud_48 rfl rfl ?_
          refine gm_ld_lo (pc := 49) (j := c) (x := nI ((dL kd fg a) c)) hA (by omega) rfl dX12_loud_49 ?_
          refine g_isub_N (pc := 50) (by omega) dX12_loud_50 ?_
          refine g_goto (tgt := 55) (pc := 51) dX12_loud_51 (by decide) ?_
          exact g_iret (pc := 55) (by decide) (by decide) (gI hPo (by rw [spLoud, if_pos (by assumption), if_pos (by assumption), if_pos (by assumption), dN_N (by omega), dN_N (by omega), dN_N (by omega)] <;> congr 1 <;> omega) mxk) dX12_loud_55
      · -- F c3
        refine g_iconst (v := (-1)) (pc := 26) dX12_loud_26 (by decide) ?_
        exact g_iret (pc := 27) (by decide) (by decide) (gI hPo (by rw [spLoud, if_pos (by assumption), if_pos (by assumption), if_neg (by simp [*])]) mxk) dX12_loud_27
def rmX12_reaches : Room := { frames := 4, cells := 0, slots := 0, locals := 91 }
set_option maxHeartbeats 8000000 in
theorem c_X12_reaches {a z : Int32} (hA : aB b0 18 ad) (ho : okM kd fg pl) : KM l D Z b0 yX12_reaches cX12_reaches 5 (some .int) rmX12_reaches [.ref (ad 0), .int a, .int z] (wM Z ad hi th po ba en se (enc kd fg pl hr) im rd mi (nf kp) (nf so) (nf sz) el ki kf ti lo wa nu li to ot V) (fun v V' => v = some (.int (spReach kd fg a z)) ∧ MX Z ad hi (enc kd fg pl hr) im (nf kp) (nf so) (nf sz) el ki kf V V') := by
  refine KM.ofP (by decide) (Nat.le_of_ble_eq_true rfl) (fun Po hPo => ?_)
  refine G.locals (L' := [(0, .ref (ad 0)), (1, .int a), (2, .int z)]) [0, 1, 2] rfl ?_
  refine g_iload_n (q := 1) (pc := 0) dX12_reaches_0 rfl rfl ?_
  refine e_callS (k2 := 0) (n2 := 0) (As := [.int a]) (rest := []) (pc := 1) (c_X12_isCell hA) mlX12_143 mX12_isCell ⟨Nat.le_of_ble_eq_true rfl, Nat.le_of_ble_eq_true rfl⟩ rfl rfl (Nat.le_of_ble_eq_true rfl) dX12_reaches_1 (by decide) rfl rfl ?_
  refine g_if_eq_B (tgt := 19) (pc := 4) dX12_reaches_4 (by decide) (fun c1 => ?_) (fun c1 => ?_)
  · -- T c1
    refine g_iconst (v := (-1)) (pc := 19) dX12_reaches_19 (by decide) ?_
    exact g_iret (pc := 20) (by decide) (by decide) (gI hPo (by rw [spReach, if_neg (by simp [*])]) mxk) dX12_reaches_20
  · -- F c1
    obtain ⟨a, ha, rfl⟩ := inR_t c1
    refine g_iload_n (q := 2) (pc := 7) dX12_reaches_7 rfl rfl ?_
    refine g_i2l (v := (z).toInt64) (pc := 8) dX12_reaches_8 rfl ?_
    refine g_lconst (v := lN 1) (pc := 9) dX12_reaches_9 (by decide) ?_
    refine g_ldc2 (v := lN 99) (pc := 10) klX12_176 dX12_reaches_10 ?_
    refine e_callS (k2 := 0) (n2 := 0) (As := [.long ((z).toInt64), .long (lN 1), .long (lN 99)]) (rest := []) (pc := 13) (c_X12_isInB hA (by decide) (by decide) (c_X12_isIn hA)) mlX12_67 mX12_isIn ⟨Nat.le_of_ble_eq_true rfl, Nat.le_of_ble_eq_true rfl⟩ rfl rfl (Nat.le_of_ble_eq_true rfl) dX12_reaches_13 (by decide) rfl rfl ?_
    refine g_if_ne_B (tgt := 21) (pc := 16) dX12_reaches_16 (by decide) (fun c2 => ?_) (fun c2 => ?_)
    · -- T c2
      obtain ⟨z, hz1, hz2, rfl⟩ := inB_t c2
      refine g_aload_n (q := 0) (pc := 21) dX12_reaches_21 rfl rfl ?_
      refine g_iload_n (q := 1) (pc := 22) dX12_reaches_22 rfl rfl ?_
      refine e_callVv (k2 := 0) (n2 := 0) (As := [.int (nI a)]) (rest := []) (pc := 23) (wM_0 hA) rfl (c_X12_finds hA ho (by omega)) mlX12_118 selX12_X12_finds_X12_finds mX12_finds ⟨Nat.le_of_ble_eq_true rfl, Nat.le_of_ble_eq_true rfl⟩ rfl rfl (Nat.le_of_ble_eq_true rfl) dX12_reaches_23 (by decide) rfl rfl ?_
      refine g_iconst (v := nI 0) (pc := 26) dX12_reaches_26 (by decide) ?_
      refine g_istore_n (lv' := [(3, .int (nI 0)), (0, .ref (ad 0)), (1, .int (nI a)), (2, .int (nI z))]) (pc := 27) dX12_reaches_27 rfl (by decide) rfl ?_
      refine g_iconst (v := nI 0) (pc := 28) dX12_reaches_28 (by decide) ?_
      refine g_istore (lv' := [(4, .int (nI 0)), (3, .int (nI 0)), (0, .ref (ad 0)), (1, .int (nI a)), (2, .int (nI z))]) (pc := 29) dX12_reaches_29 (by decide) rfl ?_
      have lp31 : ∀ (d31 : Nat) (i : Nat), i + d31 = 21 → (i ≤ 20) → G l D Z b0 rmX12_reaches RX12 cX12_reaches 5 (gE (some .int) "reaches") (gT D b0 Po rmX12_reaches.cells rmX12_reaches.slots) (wM Z ad hi th po ba en se (enc kd fg pl hr) im rd mi (nf kp) (nf so) (nf sz) el ki kf (nf (dT kd fg a)) (nf (dL kd fg a)) wa nu li to ot V) [(4, .int (nI i)), (3, .int (rch (dL kd fg a) z i)), (0, .ref (ad 0)), (1, .int (nI a)), (2, .int (nI z))] 0 0 31 [] := by
        intro d31
        induction d31 with
        | zero =>
          intro i hd31 hiN
          exact absurd hd31 (by omega)
        | succ d31 ih31 =>
          intro i hd31 hiN
          refine g_iload (q := 0) (pc := 31) dX12_reaches_31 rfl ?_
          refine g_bipush (v := nI 20) (pc := 33) dX12_reaches_33 (by decide) ?_
          refine g_icmp_ge_N (tgt := 66) (pc := 35) (by omega) (by omega) dX12_reaches_35 (by decide) (fun c3 => ?_) (fun c3 => ?_)
          · -- T c3
            refine g_iload_n (q := 1) (pc := 66) dX12_reaches_66 rfl rfl ?_
            exact g_iret (pc := 67) (by decide) (by decide) (gI hPo (by obtain rfl : i = 20 := (by omega); rw [spReach, if_pos (by assumption), if_pos (by assumption), dN_N (by omega), dN_N (by omega)]) mxk) dX12_reaches_67
          · -- F c3
            refine g_iload_n (q := 1) (pc := 38) dX12_reaches_38 rfl rfl ?_
            refine g_iload_n (q := 4) (pc := 39) dX12_reaches_39 rfl rfl ?_
            refine g_aload_n (q := 2) (pc := 40) dX12_reaches_40 rfl rfl ?_
            refine gm_get_lo (pc := 41) hA dX12_reaches_41 ?_
            refine g_iload (q := 0) (pc := 44) dX12_reaches_44 rfl ?_
            refine gm_ld_lo (pc := 46) (j := i) (x := nI ((dL kd fg a) i)) hA (by omega) rfl dX12_reaches_46 ?_
            refine g_icmp_le_N (tgt := 57) (pc := 47) (by omega) (by have := (dT_b ho ha (v := i) (by omega)).2; omega) dX12_reaches_47 (by decide) (fun c4 => ?_) (fun c4 => ?_)
            · -- T c4
              refine g_iconst (v := nI 0) (pc := 57) dX12_reaches_57 (by decide) ?_
              refine g_ior (pc := 58) dX12_reaches_58 ?_
              refine g_top (x := (rch (dL kd fg a) z i) ||| (nI 0)) (y := rch (dL kd fg a) z (i + 1)) (by rw [rch, if_neg (by omega)]) ?_
              refine g_istore_n (lv' := [(3, .int (rch (dL kd fg a) z (i + 1))), (4, .int (nI i)), (0, .ref (ad 0)), (1, .int (nI a)), (2, .int (nI z))]) (pc := 59) dX12_reaches_59 rfl (by decide) rfl ?_
              refine g_iinc (q := 1) (lv' := [(4, .int (nI (i + 1))), (3, .int (rch (dL kd fg a) z (i + 1))), (0, .ref (ad 0)), (1, .int (nI a)), (2, .int (nI z))]) (pc := 60) dX12_reaches_60 rfl (nI_inc _ _) (by decide) rfl ?_
              refine g_goto (tgt := 31) (pc := 63) dX12_reaches_63 (by decide) ?_
              refine G.locals (L' := [(4, .int (nI (i + 1))), (3, .int (rch (dL kd fg a) z (i + 1))), (0, .ref (ad 0)), (1, .int (nI a)), (2, .int (nI z))]) [0, 1, 2, 3, 4] rfl ?_
              exact ih31 (i + 1) (by omega) (by omega)
            · -- F c4
              refine g_iconst (v := nI 1) (pc := 50) dX12_reaches_50 (by decide) ?_
              refine g_iload (q := 0) (pc := 51) dX12_reaches_51 rfl ?_
              refine g_ishl (pc := 53) dX12_reaches_53 ?_
              refine g_goto (tgt := 58) (pc := 54) dX12_reaches_54 (by decide) ?_
              refine g_ior (pc := 58) dX12_reaches_58 ?_
              refine g_top (x := (rch (dL kd fg a) z i) ||| ((nI 1) <<< ((nI i) &&& 31))) (y := rch (dL kd fg a) z (i + 1)) (by rw [rch, if_pos (by omega)]) ?_
              refine g_istore_n (lv' := [(3, .int (rch (dL kd fg a) z (i + 1))), (4, .int (nI i)), (0, .ref (ad 0)), (1, .int (nI a)), (2, .int (nI z))]) (pc := 59) dX12_reaches_59 rfl (by decide) rfl ?_
              refine g_iinc (q := 1) (lv' := [(4, .int (nI (i + 1))), (3, .int (rch (dL kd fg a) z (i + 1))), (0, .ref (ad 0)), (1, .int (nI a)), (2, .int (nI z))]) (pc := 60) dX12_reaches_60 rfl (nI_inc _ _) (by decide) rfl ?_
              refine g_goto (tgt := 31) (pc := 63) dX12_reaches_63 (by decide) ?_
              refine G.locals (L' := [(4, .int (nI (i + 1))), (3, .int (rch (dL kd fg a) z (i + 1))), (0, .ref (ad 0)), (1, .int (nI a)), (2, .int (nI z))]) [0, 1, 2, 3, 4] rfl ?_
              exact ih31 (i + 1) (by omega) (by omega)
      refine G.locals (L' := [(4, .int (nI 0)), (3, .int (nI 0)), (0, .ref (ad 0)), (1, .int (nI a)), (2, .int (nI z))]) [0, 1, 2, 3, 4] rfl ?_
      exact lp31 21 0 (by omega) (by decide)
    · -- F c2
      refine g_iconst (v := (-1)) (pc := 19) dX12_reaches_19 (by decide) ?_
      exact g_iret (pc := 20) (by decide) (by decide) (gI hPo (by rw [spReach, if_pos (by assumption), if_neg (by simp [*])]) mxk) dX12_reaches_20
end MS
