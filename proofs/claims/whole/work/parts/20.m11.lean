section MS
variable {l : Launch} {D : va_G} {Z : Nat → ClassId} {b0 : Nat} {ad : Nat → Nat} {hi th po ba en se : Int32} {s im rd mi el ki kf ti lo wa nu li to ot : Nat → Int32} {kd fg pl kp so sz ikd ifg ipl : Nat → Nat} {hr ihr : Nat → Int32} {V : HV}
theorem SolO.bd {w : Nat → Nat} {a : Nat} {T : Nat → Nat} (hw : ∀ c, c < 20 → w c ≤ 30) (h : SolO w a T) {v : Nat} (hv : v < 20) : T v ≤ 570 := by
  obtain ⟨h1, h2, rk, h3, h4, h5⟩ := h
  have key : ∀ n v, v < 20 → rk v = n → T v ≤ 30 * n := by
    intro n
    induction n using Nat.strongRecOn with
    | ind n ih =>
      intro v hv hn
      by_cases q : v = a
      · subst q; omega
      · obtain ⟨u, s, g1, g2, g3, g4, g5⟩ := h5 v hv q
        have g6 := ih (rk u) (by omega) u g1 rfl
        have g7 := hw v hv
        omega
  have := key _ v hv rfl
  have := h4 v hv
  omega
def FT (D w rk : Nat → Nat) (r : Nat) (P : Nat → Nat → Prop) (T : Nat → Nat) : Prop := (∀ v, v < 20 → D v ≤ T v ∧ T v ≤ 1000000) ∧ (∀ v, v < 20 → rk v ≤ r → T v = D v) ∧ ∀ u, u < 20 → ∀ s, s < 4 → P u s → ∀ v, nbo u s = some v → rk u ≤ r → T v ≤ D u + w v
def pcC (c : Nat) : Nat → Nat → Prop := fun u _ => u < c
def pcS (c s1 : Nat) : Nat → Nat → Prop := fun u s => u < c ∨ (u = c ∧ s < s1)
theorem FT.p {D w rk : Nat → Nat} {r : Nat} {P P' : Nat → Nat → Prop} {T : Nat → Nat} (h : FT D w rk r P T) (hp : ∀ u, u < 20 → ∀ s, s < 4 → P' u s → P u s) : FT D w rk r P' T := ⟨h.1, h.2.1, fun u hu s hs q => h.2.2 u hu s hs (hp u hu s hs q)⟩
theorem FT.ini {w : Nat → Nat} {a : Nat} {D rk : Nat → Nat} (hD : SolO w a D) (hb : ∀ v, v < 20 → D v ≤ 570) (h5 : ∀ v, v < 20 → v ≠ a → ∃ u s, u < 20 ∧ s < 4 ∧ nbo u s = some v ∧ rk u < rk v ∧ D v = D u + w v) : FT D w rk 0 (pcC 0) (iniT a) := ⟨fun v hv => by
    have := hb v hv
    unfold iniT; split
    · rename_i q; subst q; have := hD.1; omega
    · omega, fun v hv q => by
    by_cases z : v = a
    · subst z; rw [hD.1]; exact if_pos rfl
    · obtain ⟨u, s, _, _, _, g4, _⟩ := h5 v hv z; omega, fun u _ s _ q => absurd q (Nat.not_lt_zero _)⟩
theorem FT.next {w : Nat → Nat} {a r c : Nat} {D rk T : Nat → Nat} (hD : SolO w a D) (h5 : ∀ v, v < 20 → v ≠ a → ∃ u s, u < 20 ∧ s < 4 ∧ nbo u s = some v ∧ rk u < rk v ∧ D v = D u + w v) (h0 : rk a = 0) (h : FT D w rk r (pcC c) T) (hc : 20 ≤ c) : FT D w rk (r + 1) (pcC 0) T := ⟨h.1, fun v hv q => by
    by_cases z : rk v ≤ r
    · exact h.2.1 v hv z
    · have hva : v ≠ a := fun e => by subst e; omega
      obtain ⟨u, s, g1, g2, g3, g4, g5⟩ := h5 v hv hva
      have g6 := h.2.2 u g1 s g2 (show u < c by omega) v g3 (by omega)
      have g7 := (h.1 v hv).1
      omega, fun u _ s _ q => absurd q (Nat.not_lt_zero _)⟩
theorem FT.nxt {w : Nat → Nat} {r c s1 : Nat} {D rk T : Nat → Nat} (h : FT D w rk r (pcS c s1) T) (he : ∀ v, nbo c s1 = some v → T v ≤ T c + w v) (hc : c < 20) : FT D w rk r (pcS c (s1 + 1)) T := ⟨h.1, h.2.1, fun u hu s hs q v hb hr => by
    by_cases z : u = c ∧ s = s1
    · obtain ⟨rfl, rfl⟩ := z
      have g1 := he v hb
      have g2 := h.2.1 u hu hr
      omega
    · exact h.2.2 u hu s hs (by unfold pcS at *; omega) v hb hr⟩
theorem FT.none {w : Nat → Nat} {r c s1 : Nat} {D rk T : Nat → Nat} (h : FT D w rk r (pcS c s1) T) (hc : c < 20) (hb : nbo c s1 = none) : FT D w rk r (pcS c (s1 + 1)) T := h.nxt (fun v hv => by rw [hb] at hv; cases hv) hc
theorem FT.not {w : Nat → Nat} {r c s1 v : Nat} {D rk T : Nat → Nat} (h : FT D w rk r (pcS c s1) T) (hc : c < 20) (hb : nbo c s1 = some v) (hn : T v ≤ T c + w v) : FT D w rk r (pcS c (s1 + 1)) T := h.nxt (fun v' hv => by rw [hb] at hv; cases hv; exact hn) hc
theorem FT.yes {w : Nat → Nat} {a r c s1 v : Nat} {D rk T : Nat → Nat} (hD : SolO w a D) (h : FT D w rk r (pcS c s1) T) (hc : c < 20) (hs : s1 < 4) (hb : nbo c s1 = some v) (hn : T c + w v < T v) : FT D w rk r (pcS c (s1 + 1)) (updN T v (T c + w v)) := by
  have hv := nbo_lt hc hb
  have hvc := nbo_ne hc hb
  have g1 := h.1 c hc
  have g2 := hD.2.1 c hc s1 hs v hb
  have g3 := h.1 v hv
  refine ⟨fun x hx => ?_, fun x hx q => ?_, fun u hu s hs2 q x hb2 hr => ?_⟩
  · by_cases z : x = v
    · subst z; rw [updN_eq]; omega
    · rw [updN_ne z]; exact h.1 x hx
  · by_cases z : x = v
    · subst z; have := h.2.1 x hx q; omega
    · rw [updN_ne z]; exact h.2.1 x hx q
  · by_cases z : u = c ∧ s = s1
    · obtain ⟨rfl, rfl⟩ := z
      rw [hb] at hb2; cases hb2
      rw [updN_eq]
      have := h.2.1 u hu hr
      omega
    · have g5 := h.2.2 u hu s hs2 (by unfold pcS at *; omega) x hb2 hr
      by_cases z2 : x = v
      · subst z2; rw [updN_eq]; omega
      · rw [updN_ne z2]; exact g5
def lsS (D0 D1 : Nat → Nat) (u m : Nat) : Nat → Nat
  | 0 => m
  | s + 1 => match nbo u s with
    | none => lsS D0 D1 u m s
    | some v => if (if D1 v < D0 u then D0 u else D1 v) < lsS D0 D1 u m s then (if D1 v < D0 u then D0 u else D1 v) else lsS D0 D1 u m s
def lsU (D0 D1 : Nat → Nat) : Nat → Nat
  | 0 => 1000000
  | u + 1 => lsS D0 D1 u (lsU D0 D1 u) 4
noncomputable def soonV (kd fg pl : Nat → Nat) : Nat := if metB (pl 0) (pl 1) = true then 0 else lsU (dO kd fg (pl 0)) (dO kd fg (pl 1)) 20
noncomputable def spToils (kd fg pl : Nat → Nat) : Int32 := if pl 0 = pl 1 then nI 0 else nI (dO kd fg (pl 0) (pl 1) - tw kd fg (pl 1))
theorem dO_w {kd fg pl : Nat → Nat} (ho : okM kd fg pl) {a b : Nat} (ha : a < 20) (hb : b < 20) (h : ¬ a = b) : tw kd fg b ≤ dO kd fg a b := by
  obtain ⟨_, _, _, _, _, h5⟩ := dO_sol ho ha
  obtain ⟨u, s, _, _, _, _, e⟩ := h5 b hb (Ne.symm h)
  omega
theorem lsS_le (D0 D1 : Nat → Nat) (u m : Nat) : ∀ s, lsS D0 D1 u m s ≤ m
  | 0 => Nat.le_refl _
  | s + 1 => by
    have := lsS_le D0 D1 u m s
    rw [lsS]; repeat' split
    all_goals omega
theorem lsU_le (D0 D1 : Nat → Nat) : ∀ u, lsU D0 D1 u ≤ 1000000
  | 0 => Nat.le_refl _
  | u + 1 => Nat.le_trans (lsS_le D0 D1 u _ 4) (lsU_le D0 D1 u)
theorem lsS_n {D0 D1 : Nat → Nat} {u m s : Nat} (h : nbo u s = none) : lsS D0 D1 u m (s + 1) = lsS D0 D1 u m s := by rw [lsS, h]
theorem lsS_s {D0 D1 : Nat → Nat} {u m s v : Nat} (h : nbo u s = some v) : lsS D0 D1 u m (s + 1) = if (if D1 v < D0 u then D0 u else D1 v) < lsS D0 D1 u m s then (if D1 v < D0 u then D0 u else D1 v) else lsS D0 D1 u m s := by rw [lsS, h]
theorem soonV_le (kd fg pl : Nat → Nat) : soonV kd fg pl ≤ 1000000 := by
  unfold soonV; split
  · omega
  · exact lsU_le _ _ _
def rmX12_findsToils : Room := { frames := 2, cells := 0, slots := 0, locals := 42 }
set_option maxHeartbeats 8000000 in
theorem c_X12_findsToils {a : Nat} (hA : aB b0 18 ad) (ho : okM kd fg pl) (ha : a < 20) : KE l D Z b0 yX12_findsToils cX12_findsToils 6 none rmX12_findsToils [.ref (ad 0), .int (nI a)] (wM Z ad hi th po ba en se (enc kd fg pl hr) im rd mi (nf kp) (nf so) (nf sz) el ki kf ti lo wa nu li to ot V) none (wM Z ad hi th po ba en se (enc kd fg pl hr) im rd mi (nf kp) (nf so) (nf sz) el ki kf ti lo wa nu li (nf (dO kd fg a)) ot V) := by
  refine KE.of (by decide) (Nat.le_of_ble_eq_true rfl) (fun Po hPo => ?_)
  refine G.locals (L' := [(0, .ref (ad 0)), (1, .int (nI a))]) [0, 1] rfl ?_
  have hD9 := dO_sol ho ha
  have hDb := fun v hv => SolO.bd (tw_le ho) hD9 (v := v) hv
  obtain ⟨rk, hrk0, hrk4, hrk5⟩ := hD9.2.2
  refine g_iconst (v := nI 0) (pc := 0) dX12_findsToils_0 (by decide) ?_
  refine g_istore_n (lv' := [(2, .int (nI 0)), (0, .ref (ad 0)), (1, .int (nI a))]) (pc := 1) dX12_findsToils_1 rfl (by decide) rfl ?_
  have lp2 : ∀ (d2 : Nat) (i : Nat) (f : Nat → Int32), i + d2 = 21 → (i ≤ 20) → (∀ j, j < i → f j = nf (iniT a) j) → G l D Z b0 rmX12_findsToils RX12 cX12_findsToils 6 (gE none "findsToils") (gT D b0 Po rmX12_findsToils.cells rmX12_findsToils.slots) (wM Z ad hi th po ba en se (enc kd fg pl hr) im rd mi (nf kp) (nf so) (nf sz) el ki kf ti lo wa nu li f ot V) [(2, .int (nI i)), (0, .ref (ad 0)), (1, .int (nI a))] 0 0 2 [] := by
    intro d2
    induction d2 with
    | zero =>
      intro i f hd2 hiN h1
      exact absurd hd2 (by omega)
    | succ d2 ih2 =>
      intro i f hd2 hiN h1
      refine g_iload_n (q := 0) (pc := 2) dX12_findsToils_2 rfl rfl ?_
      refine g_bipush (v := nI 20) (pc := 3) dX12_findsToils_3 (by decide) ?_
      refine g_icmp_ge_N (tgt := 31) (pc := 5) (by omega) (by omega) dX12_findsToils_5 (by decide) (fun c1 => ?_) (fun c1 => ?_)
      · -- T c1
        obtain rfl : i = 20 := (by omega)
        refine gm_eq_to (f' := nf (iniT a)) hA h1 ?_
        refine g_iconst (v := nI 0) (pc := 31) dX12_findsToils_31 (by decide) ?_
        refine g_istore_n (lv' := [(2, .int (nI 0)), (0, .ref (ad 0)), (1, .int (nI a))]) (pc := 32) dX12_findsToils_32 rfl (by decide) rfl ?_
        have lp33 : ∀ (d33 : Nat) (r : Nat) (T : Nat → Nat), r + d33 = 21 → (r ≤ 20) → (FT (dO kd fg a) (tw kd fg) rk r (pcC 0) T) → G l D Z b0 rmX12_findsToils RX12 cX12_findsToils 6 (gE none "findsToils") (gT D b0 Po rmX12_findsToils.cells rmX12_findsToils.slots) (wM Z ad hi th po ba en se (enc kd fg pl hr) im rd mi (nf kp) (nf so) (nf sz) el ki kf ti lo wa nu li (nf T) ot V) [(2, .int (nI r)), (0, .ref (ad 0)), (1, .int (nI a))] 0 0 33 [] := by
          intro d33
          induction d33 with
          | zero =>
            intro r T hd33 hrN h33
            exact absurd hd33 (by omega)
          | succ d33 ih33 =>
            intro r T hd33 hrN h33
            refine g_iload_n (q := 0) (pc := 33) dX12_findsToils_33 rfl rfl ?_
            refine g_bipush (v := nI 20) (pc := 34) dX12_findsToils_34 (by decide) ?_
            refine g_icmp_ge_N (tgt := 130) (pc := 36) (by omega) (by omega) dX12_findsToils_36 (by decide) (fun c2 => ?_) (fun c2 => ?_)
            · -- T c2
              refine gm_eq_to (f' := nf (dO kd fg a)) hA (fun j hj => congrArg nI (h33.2.1 j hj (by have := hrk4 j hj; omega))) ?_
              exact g_vret (pc := 130) (by decide) (by decide) (hPo) dX12_findsToils_130
            · -- F c2
              refine g_iconst (v := nI 0) (pc := 39) dX12_findsToils_39 (by decide) ?_
              refine g_istore_n (lv' := [(3, .int (nI 0)), (2, .int (nI r)), (0, .ref (ad 0)), (1, .int (nI a))]) (pc := 40) dX12_findsToils_40 rfl (by decide) rfl ?_
              have lp41 : ∀ (d41 : Nat) (c : Nat) (T2 : Nat → Nat), c + d41 = 21 → (c ≤ 20) → (FT (dO kd fg a) (tw kd fg) rk r (pcC c) T2) → G l D Z b0 rmX12_findsToils RX12 cX12_findsToils 6 (gE none "findsToils") (gT D b0 Po rmX12_findsToils.cells rmX12_findsToils.slots) (wM Z ad hi th po ba en se (enc kd fg pl hr) im rd mi (nf kp) (nf so) (nf sz) el ki kf ti lo wa nu li (nf T2) ot V) [(3, .int (nI c)), (2, .int (nI r)), (0, .ref (ad 0)), (1, .int (nI a))] 0 0 41 [] := by
                intro d41
                induction d41 with
                | zero =>
                  intro c T2 hd41 hcN h41
                  exact absurd hd41 (by omega)
                | succ d41 ih41 =>
                  intro c T2 hd41 hcN h41
                  refine g_iload_n (q := 0) (pc := 41) dX12_findsToils_41 rfl rfl ?_
                  refine g_bipush (v := nI 20) (pc := 42) dX12_findsToils_42 (by decide) ?_
                  refine g_icmp_ge_N (tgt := 124) (pc := 44) (by omega) (by omega) dX12_findsToils_44 (by decide) (fun c3 => ?_) (fun c3 => ?_)
                  · -- T c3
                    refine g_iinc (q := 1) (lv' := [(2, .int (nI (r + 1))), (3, .int (nI c)), (0, .ref (ad 0)), (1, .int (nI a))]) (pc := 124) dX12_findsToils_124 rfl (nI_inc _ _) (by decide) rfl ?_
                    refine g_goto (tgt := 33) (pc := 127) dX12_findsToils_127 (by decide) ?_
                    refine G.locals (L' := [(2, .int (nI (r + 1))), (0, .ref (ad 0)), (1, .int (nI a))]) [0, 2, 3] rfl ?_
                    exact ih33 (r + 1) T2 (by omega) (by omega) (FT.next hD9 hrk5 hrk0 h41 (by omega))
                  · -- F c3
                    refine g_iconst (v := nI 0) (pc := 47) dX12_findsToils_47 (by decide) ?_
                    refine g_istore (lv' := [(4, .int (nI 0)), (3, .int (nI c)), (2, .int (nI r)), (0, .ref (ad 0)), (1, .int (nI a))]) (pc := 48) dX12_findsToils_48 (by decide) rfl ?_
                    have lp50 : ∀ (d50 : Nat) (s1 : Nat) (T3 : Nat → Nat), s1 + d50 = 5 → (s1 ≤ 4) → (FT (dO kd fg a) (tw kd fg) rk r (pcS c s1) T3) → G l D Z b0 rmX12_findsToils RX12 cX12_findsToils 6 (gE none "findsToils") (gT D b0 Po rmX12_findsToils.cells rmX12_findsToils.slots) (wM Z ad hi th po ba en se (enc kd fg pl hr) im rd mi (nf kp) (nf so) (nf sz) el ki kf ti lo wa nu li (nf T3) ot V) [(4, .int (nI s1)), (3, .int (nI c)), (2, .int (nI r)), (0, .ref (ad 0)), (1, .int (nI a))] 0 0 50 [] := by
                      intro d50
                      induction d50 with
                      | zero =>
                        intro s1 T3 hd50 hs1 h50
                        exact absurd hd50 (by omega)
                      | succ d50 ih50 =>
                        intro s1 T3 hd50 hs1 h50
                        refine g_iload (q := 0) (pc := 50) dX12_findsToils_50 rfl ?_
                        refine g_iconst (v := nI 4) (pc := 52) dX12_findsToils_52 (by decide) ?_
                        refine g_icmp_ge_N (tgt := 118) (pc := 53) (by omega) (by omega) dX12_findsToils_53 (by decide) (fun c4 => ?_) (fun c4 => ?_)
                        · -- T c4
                          refine g_iinc (q := 1) (lv' := [(3, .int (nI (c + 1))), (4, .int (nI s1)), (2, .int (nI r)), (0, .ref (ad 0)), (1, .int (nI a))]) (pc := 118) dX12_findsToils_118 rfl (nI_inc _ _) (by decide) rfl ?_
                          refine g_goto (tgt := 41) (pc := 121) dX12_findsToils_121 (by decide) ?_
                          refine G.locals (L' := [(3, .int (nI (c + 1))), (2, .int (nI r)), (0, .ref (ad 0)), (1, .int (nI a))]) [0, 2, 3, 4] rfl ?_
                          exact ih41 (c + 1) T3 (by omega) (by omega) (h50.p (fun u _ s _ q => by unfold pcC at q; unfold pcS; omega))
                        · -- F c4
                          refine g_iload_n (q := 1) (pc := 56) dX12_findsToils_56 rfl rfl ?_
                          refine g_iload (q := 0) (pc := 57) dX12_findsToils_57 rfl ?_
                          rcases hn59 : nbo c s1 with _ | t59
                          · -- alt
                            refine e_callS (k2 := 0) (n2 := 0) (As := [.int (nI c), .int (nI s1)]) (rest := []) (pc := 59) (c_X12_beside_n hA (by omega) (by omega) hn59 (c_X12_beside hA (by omega) (by omega))) mlX12_97 mX12_beside ⟨Nat.le_of_ble_eq_true rfl, Nat.le_of_ble_eq_true rfl⟩ rfl rfl (Nat.le_of_ble_eq_true rfl) dX12_findsToils_59 (by decide) rfl rfl ?_
                            refine g_istore (lv' := [(5, .int (-4)), (4, .int (nI s1)), (3, .int (nI c)), (2, .int (nI r)), (0, .ref (ad 0)), (1, .int (nI a))]) (pc := 62) dX12_findsToils_62 (by decide) rfl ?_
                            refine g_iload (q := 0) (pc := 64) dX12_findsToils_64 rfl ?_
                            refine g_if_lt (tgt := 112) (pc := 66) dX12_findsToils_66 (by decide) (fun _ => ?_) (fun c0 => absurd c0 (by decide))
                            refine g_iinc (q := 1) (lv' := [(4, .int (nI (s1 + 1))), (5, .int (-4)), (3, .int (nI c)), (2, .int (nI r)), (0, .ref (ad 0)), (1, .int (nI a))]) (pc := 112) dX12_findsToils_112 rfl (nI_inc _ _) (by decide) rfl ?_
                            refine g_goto (tgt := 50) (pc := 115) dX12_findsToils_115 (by decide) ?_
                            refine G.locals (L' := [(4, .int (nI (s1 + 1))), (3, .int (nI c)), (2, .int (nI r)), (0, .ref (ad 0)), (1, .int (nI a))]) [0, 2, 3, 4, 5] rfl ?_
                            exact ih50 (s1 + 1) T3 (by omega) (by omega) (h50.none (by omega) hn59)
                          · -- alt
                            have t59l := nbo_lt (c := c) (by omega) hn59
                            refine e_callS (k2 := 0) (n2 := 0) (As := [.int (nI c), .int (nI s1)]) (rest := []) (pc := 59) (c_X12_beside_s hA (by omega) (by omega) hn59 (c_X12_beside hA (by omega) (by omega))) mlX12_97 mX12_beside ⟨Nat.le_of_ble_eq_true rfl, Nat.le_of_ble_eq_true rfl⟩ rfl rfl (Nat.le_of_ble_eq_true rfl) dX12_findsToils_59 (by decide) rfl rfl ?_
                            refine g_istore (lv' := [(5, .int (nI t59)), (4, .int (nI s1)), (3, .int (nI c)), (2, .int (nI r)), (0, .ref (ad 0)), (1, .int (nI a))]) (pc := 62) dX12_findsToils_62 (by decide) rfl ?_
                            refine g_iload (q := 0) (pc := 64) dX12_findsToils_64 rfl ?_
                            refine g_if_lt_N (tgt := 112) (pc := 66) (by omega) dX12_findsToils_66 (by decide) ?_
                            refine g_aload_n (q := 4) (pc := 69) dX12_findsToils_69 rfl rfl ?_
                            refine gm_get_to (pc := 70) hA dX12_findsToils_70 ?_
                            refine g_iload_n (q := 2) (pc := 73) dX12_findsToils_73 rfl rfl ?_
                            refine gm_ld_to (pc := 74) (j := c) (x := nI (T3 c)) hA (by omega) rfl dX12_findsToils_74 ?_
                            refine g_aload_n (q := 4) (pc := 75) dX12_findsToils_75 rfl rfl ?_
                            refine g_iload (q := 0) (pc := 76) dX12_findsToils_76 rfl ?_
                            refine e_callV (k2 := 0) (n2 := 0) (As := [.int (nI t59)]) (rest := [.int (nI (T3 c))]) (pc := 78) (wM_0 hA) rfl (c_X12_toil hA ho (by omega)) mlX12_100 selX12_X12_toil_X12_toil mX12_toil ⟨Nat.le_of_ble_eq_true rfl, Nat.le_of_ble_eq_true rfl⟩ rfl rfl (Nat.le_of_ble_eq_true rfl) dX12_findsToils_78 (by decide) rfl rfl ?_
                            refine g_iadd_N (pc := 81) dX12_findsToils_81 ?_
                            refine g_aload_n (q := 4) (pc := 82) dX12_findsToils_82 rfl rfl ?_
                            refine gm_get_to (pc := 83) hA dX12_findsToils_83 ?_
                            refine g_iload (q := 0) (pc := 86) dX12_findsToils_86 rfl ?_
                            refine gm_ld_to (pc := 88) (j := t59) (x := nI (T3 t59)) hA (by omega) rfl dX12_findsToils_88 ?_
                            refine g_icmp_ge_N (tgt := 112) (pc := 89) (by have h1 := (h50.1 c (by omega)).2; have h2 := toilN_le (k := kd t59) (ho.1 t59 t59l).2; omega) (by have := (h50.1 t59 t59l).2; omega) dX12_findsToils_89 (by decide) (fun c5 => ?_) (fun c5 => ?_)
                            · -- T c5
                              refine g_iinc (q := 1) (lv' := [(4, .int (nI (s1 + 1))), (5, .int (nI t59)), (3, .int (nI c)), (2, .int (nI r)), (0, .ref (ad 0)), (1, .int (nI a))]) (pc := 112) dX12_findsToils_112 rfl (nI_inc _ _) (by decide) rfl ?_
                              refine g_goto (tgt := 50) (pc := 115) dX12_findsToils_115 (by decide) ?_
                              refine G.locals (L' := [(4, .int (nI (s1 + 1))), (3, .int (nI c)), (2, .int (nI r)), (0, .ref (ad 0)), (1, .int (nI a))]) [0, 2, 3, 4, 5] rfl ?_
                              exact ih50 (s1 + 1) T3 (by omega) (by omega) (h50.not (by omega) hn59 (by assumption))
                            · -- F c5
                              refine g_aload_n (q := 4) (pc := 92) dX12_findsToils_92 rfl rfl ?_
                              refine gm_get_to (pc := 93) hA dX12_findsToils_93 ?_
                              refine g_iload (q := 0) (pc := 96) dX12_findsToils_96 rfl ?_
                              refine g_aload_n (q := 4) (pc := 98) dX12_findsToils_98 rfl rfl ?_
                              refine gm_get_to (pc := 99) hA dX12_findsToils_99 ?_
                              refine g_iload_n (q := 2) (pc := 102) dX12_findsToils_102 rfl rfl ?_
                              refine gm_ld_to (pc := 103) (j := c) (x := nI (T3 c)) hA (by omega) rfl dX12_findsToils_103 ?_
                              refine g_aload_n (q := 4) (pc := 104) dX12_findsToils_104 rfl rfl ?_
                              refine g_iload (q := 0) (pc := 105) dX12_findsToils_105 rfl ?_
                              refine e_callV (k2 := 0) (n2 := 0) (As := [.int (nI t59)]) (rest := [.int (nI (T3 c)), .int (nI t59), .ref (ad 16)]) (pc := 107) (wM_0 hA) rfl (c_X12_toil hA ho (by omega)) mlX12_100 selX12_X12_toil_X12_toil mX12_toil ⟨Nat.le_of_ble_eq_true rfl, Nat.le_of_ble_eq_true rfl⟩ rfl rfl (Nat.le_of_ble_eq_true rfl) dX12_findsToils_107 (by decide) rfl rfl ?_
                              refine g_iadd_N (pc := 110) dX12_findsToils_110 ?_
                              refine gm_st_to (pc := 111) (j := t59) (f' := (nf (updN T3 t59 ((T3 c) + (toilN (kd t59) (fg t59)))))) hA (by omega) (upd_nf _ _ _) dX12_findsToils_111 ?_
                              refine g_iinc (q := 1) (lv' := [(4, .int (nI (s1 + 1))), (5, .int (nI t59)), (3, .int (nI c)), (2, .int (nI r)), (0, .ref (ad 0)), (1, .int (nI a))]) (pc := 112) dX12_findsToils_112 rfl (nI_inc _ _) (by decide) rfl ?_
                              refine g_goto (tgt := 50) (pc := 115) dX12_findsToils_115 (by decide) ?_
                              refine G.locals (L' := [(4, .int (nI (s1 + 1))), (3, .int (nI c)), (2, .int (nI r)), (0, .ref (ad 0)), (1, .int (nI a))]) [0, 2, 3, 4, 5] rfl ?_
                              exact ih50 (s1 + 1) (updN T3 t59 ((T3 c) + (toilN (kd t59) (fg t59)))) (by omega) (by omega) (FT.yes hD9 h50 (by omega) (by omega) hn59 (by assumption))
                    refine G.locals (L' := [(4, .int (nI 0)), (3, .int (nI c)), (2, .int (nI r)), (0, .ref (ad 0)), (1, .int (nI a))]) [0, 1, 2, 3, 4] rfl ?_
                    exact lp50 5 0 T2 (by omega) (by decide) (h41.p (fun u _ s _ q => by unfold pcS at q; unfold pcC; omega))
              refine G.locals (L' := [(3, .int (nI 0)), (2, .int (nI r)), (0, .ref (ad 0)), (1, .int (nI a))]) [0, 1, 2, 3] rfl ?_
              exact lp41 21 0 T (by omega) (by decide) h33
        refine G.locals (L' := [(2, .int (nI 0)), (0, .ref (ad 0)), (1, .int (nI a))]) [0, 1, 2] rfl ?_
        exact lp33 21 0 (iniT a) (by omega) (by decide) (FT.ini hD9 hDb hrk5)
      · -- F c1
        refine g_aload_n (q := 1) (pc := 8) dX12_findsToils_8 rfl rfl ?_
        refine gm_get_to (pc := 9) hA dX12_findsToils_9 ?_
        refine g_iload_n (q := 0) (pc := 12) dX12_findsToils_12 rfl rfl ?_
        refine g_iload_n (q := 0) (pc := 13) dX12_findsToils_13 rfl rfl ?_
        refine g_iload_n (q := 2) (pc := 14) dX12_findsToils_14 rfl rfl ?_
        refine g_icmp_ne_N (tgt := 22) (pc := 15) (by omega) (by omega) dX12_findsToils_15 (by decide) (fun c6 => ?_) (fun c6 => ?_)
        · -- T c6
          refine g_ldc (v := nI 1000000) (pc := 22) ctX12_113 dX12_findsToils_22 ?_
          refine g_top (x := nI 1000000) (y := nI (iniT a i)) (by first | (exfalso; omega) | (congr 1; simp [iniT, *]; done)) ?_
          refine gm_st_to (pc := 24) (j := i) (f' := (upd f i (nI (iniT a i)))) hA (by omega) rfl dX12_findsToils_24 ?_
          refine g_iinc (q := 0) (lv' := [(2, .int (nI (i + 1))), (0, .ref (ad 0)), (1, .int (nI a))]) (pc := 25) dX12_findsToils_25 rfl (nI_inc _ _) (by decide) rfl ?_
          refine g_goto (tgt := 2) (pc := 28) dX12_findsToils_28 (by decide) ?_
          refine G.locals (L' := [(2, .int (nI (i + 1))), (0, .ref (ad 0)), (1, .int (nI a))]) [0, 1, 2] rfl ?_
          exact ih2 (i + 1) (upd f i (nI (iniT a i))) (by omega) (by omega) (stepF h1)
        · -- F c6
          refine g_iconst (v := nI 0) (pc := 18) dX12_findsToils_18 (by decide) ?_
          refine g_goto (tgt := 24) (pc := 19) dX12_findsToils_19 (by decide) ?_
          refine g_top (x := nI 0) (y := nI (iniT a i)) (by first | (exfalso; omega) | (congr 1; simp [iniT, *]; done)) ?_
          refine gm_st_to (pc := 24) (j := i) (f' := (upd f i (nI (iniT a i)))) hA (by omega) rfl dX12_findsToils_24 ?_
          refine g_iinc (q := 0) (lv' := [(2, .int (nI (i + 1))), (0, .ref (ad 0)), (1, .int (nI a))]) (pc := 25) dX12_findsToils_25 rfl (nI_inc _ _) (by decide) rfl ?_
          refine g_goto (tgt := 2) (pc := 28) dX12_findsToils_28 (by decide) ?_
          refine G.locals (L' := [(2, .int (nI (i + 1))), (0, .ref (ad 0)), (1, .int (nI a))]) [0, 1, 2] rfl ?_
          exact ih2 (i + 1) (upd f i (nI (iniT a i))) (by omega) (by omega) (stepF h1)
  refine G.locals (L' := [(2, .int (nI 0)), (0, .ref (ad 0)), (1, .int (nI a))]) [0, 1, 2] rfl ?_
  exact lp2 21 0 to (by omega) (by decide) (fun j hj => absurd hj (Nat.not_lt_zero _))
def rmX12_toils : Room := { frames := 3, cells := 0, slots := 0, locals := 67 }
set_option maxHeartbeats 8000000 in
theorem c_X12_toils  (hA : aB b0 18 ad) (ho : okM kd fg pl) : KM l D Z b0 yX12_toils cX12_toils 3 (some .int) rmX12_toils [.ref (ad 0)] (wM Z ad hi th po ba en se (enc kd fg pl hr) im rd mi (nf kp) (nf so) (nf sz) el ki kf ti lo wa nu li to ot V) (fun v V' => v = some (.int (spToils kd fg pl)) ∧ MX Z ad hi (enc kd fg pl hr) im (nf kp) (nf so) (nf sz) el ki kf V V') := by
  refine KM.ofP (by decide) (Nat.le_of_ble_eq_true rfl) (fun Po hPo => ?_)
  refine G.locals (L' := [(0, .ref (ad 0))]) [0] rfl ?_
  refine g_aload_n (q := 0) (pc := 0) dX12_toils_0 rfl rfl ?_
  refine g_iconst (v := nI 0) (pc := 1) dX12_toils_1 (by decide) ?_
  refine e_callV (k2 := 0) (n2 := 0) (As := [.int (nI 0)]) (rest := []) (pc := 2) (wM_0 hA) rfl (c_X12_gangCell hA (by omega)) mlX12_94 selX12_X12_gangCell_X12_gangCell mX12_gangCell ⟨Nat.le_of_ble_eq_true rfl, Nat.le_of_ble_eq_true rfl⟩ rfl rfl (Nat.le_of_ble_eq_true rfl) dX12_toils_2 (by decide) rfl rfl ?_
  refine g_istore_n (lv' := [(1, .int (nI (pl 0))), (0, .ref (ad 0))]) (pc := 5) dX12_toils_5 rfl (by decide) rfl ?_
  refine g_aload_n (q := 1) (pc := 6) dX12_toils_6 rfl rfl ?_
  refine g_iconst (v := nI 1) (pc := 7) dX12_toils_7 (by decide) ?_
  refine e_callV (k2 := 0) (n2 := 0) (As := [.int (nI 1)]) (rest := []) (pc := 8) (wM_0 hA) rfl (c_X12_gangCell hA (by omega)) mlX12_94 selX12_X12_gangCell_X12_gangCell mX12_gangCell ⟨Nat.le_of_ble_eq_true rfl, Nat.le_of_ble_eq_true rfl⟩ rfl rfl (Nat.le_of_ble_eq_true rfl) dX12_toils_8 (by decide) rfl rfl ?_
  refine g_istore_n (lv' := [(2, .int (nI (pl 1))), (1, .int (nI (pl 0))), (0, .ref (ad 0))]) (pc := 11) dX12_toils_11 rfl (by decide) rfl ?_
  refine g_iload_n (q := 1) (pc := 12) dX12_toils_12 rfl rfl ?_
  refine g_iload_n (q := 0) (pc := 13) dX12_toils_13 rfl rfl ?_
  refine g_icmp_ne_N (tgt := 19) (pc := 14) (by have := ho.2 0 (by decide); omega) (by have := ho.2 1 (by decide); omega) dX12_toils_14 (by decide) (fun c1 => ?_) (fun c1 => ?_)
  · -- T c1
    refine g_aload_n (q := 2) (pc := 19) dX12_toils_19 rfl rfl ?_
    refine g_iload_n (q := 1) (pc := 20) dX12_toils_20 rfl rfl ?_
    refine e_callVv (k2 := 0) (n2 := 0) (As := [.int (nI (pl 0))]) (rest := []) (pc := 21) (wM_0 hA) rfl (c_X12_findsToils hA ho (ho.2 0 (by decide))) mlX12_198 selX12_X12_findsToils_X12_findsToils mX12_findsToils ⟨Nat.le_of_ble_eq_true rfl, Nat.le_of_ble_eq_true rfl⟩ rfl rfl (Nat.le_of_ble_eq_true rfl) dX12_toils_21 (by decide) rfl rfl ?_
    refine g_aload_n (q := 2) (pc := 24) dX12_toils_24 rfl rfl ?_
    refine gm_get_to (pc := 25) hA dX12_toils_25 ?_
    refine g_iload_n (q := 0) (pc := 28) dX12_toils_28 rfl rfl ?_
    refine gm_ld_to (pc := 29) (j := pl 1) (x := nI ((dO kd fg (pl 0)) (pl 1))) hA (ho.2 1 (by decide)) rfl dX12_toils_29 ?_
    refine g_aload_n (q := 2) (pc := 30) dX12_toils_30 rfl rfl ?_
    refine g_iload_n (q := 0) (pc := 31) dX12_toils_31 rfl rfl ?_
    refine e_callV (k2 := 0) (n2 := 0) (As := [.int (nI (pl 1))]) (rest := [.int (nI ((dO kd fg (pl 0)) (pl 1)))]) (pc := 32) (wM_0 hA) rfl (c_X12_toil hA ho (ho.2 1 (by decide))) mlX12_100 selX12_X12_toil_X12_toil mX12_toil ⟨Nat.le_of_ble_eq_true rfl, Nat.le_of_ble_eq_true rfl⟩ rfl rfl (Nat.le_of_ble_eq_true rfl) dX12_toils_32 (by decide) rfl rfl ?_
    refine g_isub_N (pc := 35) (dO_w ho (ho.2 0 (by decide)) (ho.2 1 (by decide)) (by assumption)) dX12_toils_35 ?_
    exact g_iret (pc := 36) (by decide) (by decide) (gI hPo (by rw [spToils, if_neg (by assumption)] <;> rfl) mxk) dX12_toils_36
  · -- F c1
    refine g_iconst (v := nI 0) (pc := 17) dX12_toils_17 (by decide) ?_
    exact g_iret (pc := 18) (by decide) (by decide) (gI hPo (by rw [spToils, if_pos (by assumption)] <;> rfl) mxk) dX12_toils_18
def rmX12_soonNow : Room := { frames := 3, cells := 0, slots := 0, locals := 67 }
set_option maxHeartbeats 8000000 in
theorem c_X12_soonNow  (hA : aB b0 18 ad) (ho : okM kd fg pl) : KM l D Z b0 yX12_soonNow cX12_soonNow 6 (some .int) rmX12_soonNow [.ref (ad 0)] (wM Z ad hi th po ba en se (enc kd fg pl hr) im rd mi (nf kp) (nf so) (nf sz) el ki kf ti lo wa nu li to ot V) (fun v V' => v = some (.int (nI (soonV kd fg pl))) ∧ ∃ to ot : Nat → Int32, V' = wM Z ad hi th po ba en se (enc kd fg pl hr) im rd mi (nf kp) (nf so) (nf sz) el ki kf ti lo wa nu li to ot V) := by
  refine KM.ofP (by decide) (Nat.le_of_ble_eq_true rfl) (fun Po hPo => ?_)
  refine G.locals (L' := [(0, .ref (ad 0))]) [0] rfl ?_
  refine g_aload_n (q := 0) (pc := 0) dX12_soonNow_0 rfl rfl ?_
  refine e_callV (k2 := 0) (n2 := 0) (As := []) (rest := []) (pc := 1) (wM_0 hA) rfl (c_X12_haveMet hA ho) mlX12_170 selX12_X12_haveMet_X12_haveMet mX12_haveMet ⟨Nat.le_of_ble_eq_true rfl, Nat.le_of_ble_eq_true rfl⟩ rfl rfl (Nat.le_of_ble_eq_true rfl) dX12_soonNow_1 (by decide) rfl rfl ?_
  refine g_if_eq_B (tgt := 9) (pc := 4) dX12_soonNow_4 (by decide) (fun c1 => ?_) (fun c1 => ?_)
  · -- T c1
    refine g_aload_n (q := 0) (pc := 9) dX12_soonNow_9 rfl rfl ?_
    refine g_aload_n (q := 0) (pc := 10) dX12_soonNow_10 rfl rfl ?_
    refine g_iconst (v := nI 1) (pc := 11) dX12_soonNow_11 (by decide) ?_
    refine e_callV (k2 := 0) (n2 := 0) (As := [.int (nI 1)]) (rest := [.ref (ad 0)]) (pc := 12) (wM_0 hA) rfl (c_X12_gangCell hA (by omega)) mlX12_94 selX12_X12_gangCell_X12_gangCell mX12_gangCell ⟨Nat.le_of_ble_eq_true rfl, Nat.le_of_ble_eq_true rfl⟩ rfl rfl (Nat.le_of_ble_eq_true rfl) dX12_soonNow_12 (by decide) rfl rfl ?_
    refine e_callVv (k2 := 0) (n2 := 0) (As := [.int (nI (pl 1))]) (rest := []) (pc := 15) (wM_0 hA) rfl (c_X12_findsToils hA ho (ho.2 1 (by decide))) mlX12_198 selX12_X12_findsToils_X12_findsToils mX12_findsToils ⟨Nat.le_of_ble_eq_true rfl, Nat.le_of_ble_eq_true rfl⟩ rfl rfl (Nat.le_of_ble_eq_true rfl) dX12_soonNow_15 (by decide) rfl rfl ?_
    refine g_iconst (v := nI 0) (pc := 18) dX12_soonNow_18 (by decide) ?_
    refine g_istore_n (lv' := [(1, .int (nI 0)), (0, .ref (ad 0))]) (pc := 19) dX12_soonNow_19 rfl (by decide) rfl ?_
    have lp20 : ∀ (d20 : Nat) (i : Nat) (f : Nat → Int32), i + d20 = 21 → (i ≤ 20) → (∀ j, j < i → f j = nf (dO kd fg (pl 1)) j) → G l D Z b0 rmX12_soonNow RX12 cX12_soonNow 6 (gE (some .int) "soonNow") (gT D b0 Po rmX12_soonNow.cells rmX12_soonNow.slots) (wM Z ad hi th po ba en se (enc kd fg pl hr) im rd mi (nf kp) (nf so) (nf sz) el ki kf ti lo wa nu li (nf (dO kd fg (pl 1))) f V) [(1, .int (nI i)), (0, .ref (ad 0))] 0 0 20 [] := by
      intro d20
      induction d20 with
      | zero =>
        intro i f hd20 hiN h1
        exact absurd hd20 (by omega)
      | succ d20 ih20 =>
        intro i f hd20 hiN h1
        refine g_iload_n (q := 0) (pc := 20) dX12_soonNow_20 rfl rfl ?_
        refine g_bipush (v := nI 20) (pc := 21) dX12_soonNow_21 (by decide) ?_
        refine g_icmp_ge_N (tgt := 44) (pc := 23) (by omega) (by omega) dX12_soonNow_23 (by decide) (fun c2 => ?_) (fun c2 => ?_)
        · -- T c2
          obtain rfl : i = 20 := (by omega)
          refine gm_eq_ot (f' := nf (dO kd fg (pl 1))) hA h1 ?_
          refine g_aload_n (q := 1) (pc := 44) dX12_soonNow_44 rfl rfl ?_
          refine g_aload_n (q := 1) (pc := 45) dX12_soonNow_45 rfl rfl ?_
          refine g_iconst (v := nI 0) (pc := 46) dX12_soonNow_46 (by decide) ?_
          refine e_callV (k2 := 0) (n2 := 0) (As := [.int (nI 0)]) (rest := [.ref (ad 0)]) (pc := 47) (wM_0 hA) rfl (c_X12_gangCell hA (by omega)) mlX12_94 selX12_X12_gangCell_X12_gangCell mX12_gangCell ⟨Nat.le_of_ble_eq_true rfl, Nat.le_of_ble_eq_true rfl⟩ rfl rfl (Nat.le_of_ble_eq_true rfl) dX12_soonNow_47 (by decide) rfl rfl ?_
          refine e_callVv (k2 := 0) (n2 := 0) (As := [.int (nI (pl 0))]) (rest := []) (pc := 50) (wM_0 hA) rfl (c_X12_findsToils hA ho (ho.2 0 (by decide))) mlX12_198 selX12_X12_findsToils_X12_findsToils mX12_findsToils ⟨Nat.le_of_ble_eq_true rfl, Nat.le_of_ble_eq_true rfl⟩ rfl rfl (Nat.le_of_ble_eq_true rfl) dX12_soonNow_50 (by decide) rfl rfl ?_
          refine g_ldc (v := nI 1000000) (pc := 53) ctX12_113 dX12_soonNow_53 ?_
          refine g_istore_n (lv' := [(1, .int (nI 1000000)), (0, .ref (ad 0))]) (pc := 55) dX12_soonNow_55 rfl (by decide) rfl ?_
          refine g_iconst (v := nI 0) (pc := 56) dX12_soonNow_56 (by decide) ?_
          refine g_istore_n (lv' := [(2, .int (nI 0)), (1, .int (nI 1000000)), (0, .ref (ad 0))]) (pc := 57) dX12_soonNow_57 rfl (by decide) rfl ?_
          have lp58 : ∀ (d58 : Nat) (u : Nat), u + d58 = 21 → (u ≤ 20) → G l D Z b0 rmX12_soonNow RX12 cX12_soonNow 6 (gE (some .int) "soonNow") (gT D b0 Po rmX12_soonNow.cells rmX12_soonNow.slots) (wM Z ad hi th po ba en se (enc kd fg pl hr) im rd mi (nf kp) (nf so) (nf sz) el ki kf ti lo wa nu li (nf (dO kd fg (pl 0))) (nf (dO kd fg (pl 1))) V) [(2, .int (nI u)), (1, .int (nI (lsU (dO kd fg (pl 0)) (dO kd fg (pl 1)) u))), (0, .ref (ad 0))] 0 0 58 [] := by
            intro d58
            induction d58 with
            | zero =>
              intro u hd58 huN
              exact absurd hd58 (by omega)
            | succ d58 ih58 =>
              intro u hd58 huN
              refine g_iload_n (q := 0) (pc := 58) dX12_soonNow_58 rfl rfl ?_
              refine g_bipush (v := nI 20) (pc := 59) dX12_soonNow_59 (by decide) ?_
              refine g_icmp_ge_N (tgt := 145) (pc := 61) (by omega) (by omega) dX12_soonNow_61 (by decide) (fun c3 => ?_) (fun c3 => ?_)
              · -- T c3
                refine g_iload_n (q := 1) (pc := 145) dX12_soonNow_145 rfl rfl ?_
                exact g_iret (pc := 146) (by decide) (by decide) (gI hPo (by have q9 : u = 20 := (by omega); rw [soonV, if_neg (by simp [*]), ← q9]) ⟨_, _, rfl⟩) dX12_soonNow_146
              · -- F c3
                refine g_iconst (v := nI 0) (pc := 64) dX12_soonNow_64 (by decide) ?_
                refine g_istore_n (lv' := [(3, .int (nI 0)), (2, .int (nI u)), (1, .int (nI (lsU (dO kd fg (pl 0)) (dO kd fg (pl 1)) u))), (0, .ref (ad 0))]) (pc := 65) dX12_soonNow_65 rfl (by decide) rfl ?_
                have lp66 : ∀ (d66 : Nat) (s1 : Nat), s1 + d66 = 5 → (s1 ≤ 4) → G l D Z b0 rmX12_soonNow RX12 cX12_soonNow 6 (gE (some .int) "soonNow") (gT D b0 Po rmX12_soonNow.cells rmX12_soonNow.slots) (wM Z ad hi th po ba en se (enc kd fg pl hr) im rd mi (nf kp) (nf so) (nf sz) el ki kf ti lo wa nu li (nf (dO kd fg (pl 0))) (nf (dO kd fg (pl 1))) V) [(3, .int (nI s1)), (2, .int (nI u)), (1, .int (nI (lsS (dO kd fg (pl 0)) (dO kd fg (pl 1)) u (lsU (dO kd fg (pl 0)) (dO kd fg (pl 1)) u) s1))), (0, .ref (ad 0))] 0 0 66 [] := by
                  intro d66
                  induction d66 with
                  | zero =>
                    intro s1 hd66 hs1
                    exact absurd hd66 (by omega)
                  | succ d66 ih66 =>
                    intro s1 hd66 hs1
                    refine g_iload_n (q := 0) (pc := 66) dX12_soonNow_66 rfl rfl ?_
                    refine g_iconst (v := nI 4) (pc := 67) dX12_soonNow_67 (by decide) ?_
                    refine g_icmp_ge_N (tgt := 139) (pc := 68) (by omega) (by omega) dX12_soonNow_68 (by decide) (fun c4 => ?_) (fun c4 => ?_)
                    · -- T c4
                      have hs9 : s1 = 4 := (by omega)
                      rw [hs9]
                      refine g_iinc (q := 1) (lv' := [(2, .int (nI (u + 1))), (3, .int (nI 4)), (1, .int (nI (lsS (dO kd fg (pl 0)) (dO kd fg (pl 1)) u (lsU (dO kd fg (pl 0)) (dO kd fg (pl 1)) u) 4))), (0, .ref (ad 0))]) (pc := 139) dX12_soonNow_139 rfl (nI_inc _ _) (by decide) rfl ?_
                      refine g_goto (tgt := 58) (pc := 142) dX12_soonNow_142 (by decide) ?_
                      refine G.locals (L' := [(2, .int (nI (u + 1))), (1, .int (nI (lsS (dO kd fg (pl 0)) (dO kd fg (pl 1)) u (lsU (dO kd fg (pl 0)) (dO kd fg (pl 1)) u) 4))), (0, .ref (ad 0))]) [0, 2, 3] rfl ?_
                      exact ih58 (u + 1) (by omega) (by omega)
                    · -- F c4
                      refine g_iload_n (q := 1) (pc := 71) dX12_soonNow_71 rfl rfl ?_
                      refine g_iload_n (q := 0) (pc := 72) dX12_soonNow_72 rfl rfl ?_
                      rcases hn73 : nbo u s1 with _ | t73
                      · -- alt
                        refine e_callS (k2 := 0) (n2 := 0) (As := [.int (nI u), .int (nI s1)]) (rest := []) (pc := 73) (c_X12_beside_n hA (by omega) (by omega) hn73 (c_X12_beside hA (by omega) (by omega))) mlX12_97 mX12_beside ⟨Nat.le_of_ble_eq_true rfl, Nat.le_of_ble_eq_true rfl⟩ rfl rfl (Nat.le_of_ble_eq_true rfl) dX12_soonNow_73 (by decide) rfl rfl ?_
                        rw [← lsS_n (D0 := dO kd fg (pl 0)) (D1 := dO kd fg (pl 1)) (m := lsU (dO kd fg (pl 0)) (dO kd fg (pl 1)) u) hn73]
                        refine g_istore (lv' := [(4, .int (-4)), (3, .int (nI s1)), (2, .int (nI u)), (1, .int (nI (lsS (dO kd fg (pl 0)) (dO kd fg (pl 1)) u (lsU (dO kd fg (pl 0)) (dO kd fg (pl 1)) u) (s1 + 1)))), (0, .ref (ad 0))]) (pc := 76) dX12_soonNow_76 (by decide) rfl ?_
                        refine g_iload (q := 0) (pc := 78) dX12_soonNow_78 rfl ?_
                        refine g_if_ge (tgt := 86) (pc := 80) dX12_soonNow_80 (by decide) (fun c0 => absurd c0 (by decide)) (fun _ => ?_)
                        refine g_goto (tgt := 133) (pc := 83) dX12_soonNow_83 (by decide) ?_
                        refine g_iinc (q := 1) (lv' := [(3, .int (nI (s1 + 1))), (4, .int (-4)), (2, .int (nI u)), (1, .int (nI (lsS (dO kd fg (pl 0)) (dO kd fg (pl 1)) u (lsU (dO kd fg (pl 0)) (dO kd fg (pl 1)) u) (s1 + 1)))), (0, .ref (ad 0))]) (pc := 133) dX12_soonNow_133 rfl (nI_inc _ _) (by decide) rfl ?_
                        refine g_goto (tgt := 66) (pc := 136) dX12_soonNow_136 (by decide) ?_
                        refine G.locals (L' := [(3, .int (nI (s1 + 1))), (2, .int (nI u)), (1, .int (nI (lsS (dO kd fg (pl 0)) (dO kd fg (pl 1)) u (lsU (dO kd fg (pl 0)) (dO kd fg (pl 1)) u) (s1 + 1)))), (0, .ref (ad 0))]) [0, 2, 3, 4] rfl ?_
                        exact ih66 (s1 + 1) (by omega) (by omega)
                      · -- alt
                        have t73l := nbo_lt (c := u) (by omega) hn73
                        refine e_callS (k2 := 0) (n2 := 0) (As := [.int (nI u), .int (nI s1)]) (rest := []) (pc := 73) (c_X12_beside_s hA (by omega) (by omega) hn73 (c_X12_beside hA (by omega) (by omega))) mlX12_97 mX12_beside ⟨Nat.le_of_ble_eq_true rfl, Nat.le_of_ble_eq_true rfl⟩ rfl rfl (Nat.le_of_ble_eq_true rfl) dX12_soonNow_73 (by decide) rfl rfl ?_
                        refine g_istore (lv' := [(4, .int (nI t73)), (3, .int (nI s1)), (2, .int (nI u)), (1, .int (nI (lsS (dO kd fg (pl 0)) (dO kd fg (pl 1)) u (lsU (dO kd fg (pl 0)) (dO kd fg (pl 1)) u) s1))), (0, .ref (ad 0))]) (pc := 76) dX12_soonNow_76 (by decide) rfl ?_
                        refine g_iload (q := 0) (pc := 78) dX12_soonNow_78 rfl ?_
                        refine g_if_ge_N (tgt := 86) (pc := 80) (by omega) dX12_soonNow_80 (by decide) ?_
                        refine g_aload_n (q := 4) (pc := 86) dX12_soonNow_86 rfl rfl ?_
                        refine gm_get_to (pc := 87) hA dX12_soonNow_87 ?_
                        refine g_iload_n (q := 2) (pc := 90) dX12_soonNow_90 rfl rfl ?_
                        refine gm_ld_to (pc := 91) (j := u) (x := nI ((dO kd fg (pl 0)) u)) hA (by omega) rfl dX12_soonNow_91 ?_
                        refine g_aload_n (q := 4) (pc := 92) dX12_soonNow_92 rfl rfl ?_
                        refine gm_get_ot (pc := 93) hA dX12_soonNow_93 ?_
                        refine g_iload (q := 0) (pc := 96) dX12_soonNow_96 rfl ?_
                        refine gm_ld_ot (pc := 98) (j := t73) (x := nI ((dO kd fg (pl 1)) t73)) hA (by omega) rfl dX12_soonNow_98 ?_
                        refine g_icmp_le_N (tgt := 111) (pc := 99) (by have h1 := SolO.bd (tw_le ho) (dO_sol ho (ho.2 0 (by decide))) (v := u) (by omega); omega) (by have h1 := SolO.bd (tw_le ho) (dO_sol ho (ho.2 1 (by decide))) (v := t73) (by omega); omega) dX12_soonNow_99 (by decide) (fun c5 => ?_) (fun c5 => ?_)
                        · -- T c5
                          refine g_aload_n (q := 4) (pc := 111) dX12_soonNow_111 rfl rfl ?_
                          refine gm_get_ot (pc := 112) hA dX12_soonNow_112 ?_
                          refine g_iload (q := 0) (pc := 115) dX12_soonNow_115 rfl ?_
                          refine gm_ld_ot (pc := 117) (j := t73) (x := nI ((dO kd fg (pl 1)) t73)) hA (by omega) rfl dX12_soonNow_117 ?_
                          refine g_top (x := nI ((dO kd fg (pl 1)) t73)) (y := nI (if dO kd fg (pl 1) t73 < dO kd fg (pl 0) u then dO kd fg (pl 0) u else dO kd fg (pl 1) t73)) (congrArg nI (if_neg (by omega)).symm) ?_
                          refine g_istore (lv' := [(5, .int (nI (if dO kd fg (pl 1) t73 < dO kd fg (pl 0) u then dO kd fg (pl 0) u else dO kd fg (pl 1) t73))), (4, .int (nI t73)), (3, .int (nI s1)), (2, .int (nI u)), (1, .int (nI (lsS (dO kd fg (pl 0)) (dO kd fg (pl 1)) u (lsU (dO kd fg (pl 0)) (dO kd fg (pl 1)) u) s1))), (0, .ref (ad 0))]) (pc := 118) dX12_soonNow_118 (by decide) rfl ?_
                          refine g_iload (q := 0) (pc := 120) dX12_soonNow_120 rfl ?_
                          refine g_iload_n (q := 4) (pc := 122) dX12_soonNow_122 rfl rfl ?_
                          refine g_icmp_ge_N (tgt := 131) (pc := 123) (by have h1 := SolO.bd (tw_le ho) (dO_sol ho (ho.2 0 (by decide))) (v := u) (by omega); have h2 := SolO.bd (tw_le ho) (dO_sol ho (ho.2 1 (by decide))) (v := t73) (by omega); split <;> omega) (by have h1 := lsS_le (dO kd fg (pl 0)) (dO kd fg (pl 1)) u (lsU (dO kd fg (pl 0)) (dO kd fg (pl 1)) u) s1; have h2 := lsU_le (dO kd fg (pl 0)) (dO kd fg (pl 1)) u; omega) dX12_soonNow_123 (by decide) (fun c6 => ?_) (fun c6 => ?_)
                          · -- T c6
                            refine g_iload_n (q := 4) (pc := 131) dX12_soonNow_131 rfl rfl ?_
                            refine g_top (x := nI (lsS (dO kd fg (pl 0)) (dO kd fg (pl 1)) u (lsU (dO kd fg (pl 0)) (dO kd fg (pl 1)) u) s1)) (y := nI (lsS (dO kd fg (pl 0)) (dO kd fg (pl 1)) u (lsU (dO kd fg (pl 0)) (dO kd fg (pl 1)) u) (s1 + 1))) (congrArg nI ((lsS_s hn73).trans (if_neg (by omega))).symm) ?_
                            refine g_istore_n (lv' := [(1, .int (nI (lsS (dO kd fg (pl 0)) (dO kd fg (pl 1)) u (lsU (dO kd fg (pl 0)) (dO kd fg (pl 1)) u) (s1 + 1)))), (5, .int (nI (if dO kd fg (pl 1) t73 < dO kd fg (pl 0) u then dO kd fg (pl 0) u else dO kd fg (pl 1) t73))), (4, .int (nI t73)), (3, .int (nI s1)), (2, .int (nI u)), (0, .ref (ad 0))]) (pc := 132) dX12_soonNow_132 rfl (by decide) rfl ?_
                            refine g_iinc (q := 3) (lv' := [(3, .int (nI (s1 + 1))), (1, .int (nI (lsS (dO kd fg (pl 0)) (dO kd fg (pl 1)) u (lsU (dO kd fg (pl 0)) (dO kd fg (pl 1)) u) (s1 + 1)))), (5, .int (nI (if dO kd fg (pl 1) t73 < dO kd fg (pl 0) u then dO kd fg (pl 0) u else dO kd fg (pl 1) t73))), (4, .int (nI t73)), (2, .int (nI u)), (0, .ref (ad 0))]) (pc := 133) dX12_soonNow_133 rfl (nI_inc _ _) (by decide) rfl ?_
                            refine g_goto (tgt := 66) (pc := 136) dX12_soonNow_136 (by decide) ?_
                            refine G.locals (L' := [(3, .int (nI (s1 + 1))), (2, .int (nI u)), (1, .int (nI (lsS (dO kd fg (pl 0)) (dO kd fg (pl 1)) u (lsU (dO kd fg (pl 0)) (dO kd fg (pl 1)) u) (s1 + 1)))), (0, .ref (ad 0))]) [0, 4, 1, 5] rfl ?_
                            exact ih66 (s1 + 1) (by omega) (by omega)
                          · -- F c6
                            refine g_iload (q := 0) (pc := 126) dX12_soonNow_126 rfl ?_
                            refine g_goto (tgt := 132) (pc := 128) dX12_soonNow_128 (by decide) ?_
                            refine g_top (x := nI (if dO kd fg (pl 1) t73 < dO kd fg (pl 0) u then dO kd fg (pl 0) u else dO kd fg (pl 1) t73)) (y := nI (lsS (dO kd fg (pl 0)) (dO kd fg (pl 1)) u (lsU (dO kd fg (pl 0)) (dO kd fg (pl 1)) u) (s1 + 1))) (congrArg nI ((lsS_s hn73).trans (if_pos (by omega))).symm) ?_
                            refine g_istore_n (lv' := [(1, .int (nI (lsS (dO kd fg (pl 0)) (dO kd fg (pl 1)) u (lsU (dO kd fg (pl 0)) (dO kd fg (pl 1)) u) (s1 + 1)))), (5, .int (nI (if dO kd fg (pl 1) t73 < dO kd fg (pl 0) u then dO kd fg (pl 0) u else dO kd fg (pl 1) t73))), (4, .int (nI t73)), (3, .int (nI s1)), (2, .int (nI u)), (0, .ref (ad 0))]) (pc := 132) dX12_soonNow_132 rfl (by decide) rfl ?_
                            refine g_iinc (q := 3) (lv' := [(3, .int (nI (s1 + 1))), (1, .int (nI (lsS (dO kd fg (pl 0)) (dO kd fg (pl 1)) u (lsU (dO kd fg (pl 0)) (dO kd fg (pl 1)) u) (s1 + 1)))), (5, .int (nI (if dO kd fg (pl 1) t73 < dO kd fg (pl 0) u then dO kd fg (pl 0) u else dO kd fg (pl 1) t73))), (4, .int (nI t73)), (2, .int (nI u)), (0, .ref (ad 0))]) (pc := 133) dX12_soonNow_133 rfl (nI_inc _ _) (by decide) rfl ?_
                            refine g_goto (tgt := 66) (pc := 136) dX12_soonNow_136 (by decide) ?_
                            refine G.locals (L' := [(3, .int (nI (s1 + 1))), (2, .int (nI u)), (1, .int (nI (lsS (dO kd fg (pl 0)) (dO kd fg (pl 1)) u (lsU (dO kd fg (pl 0)) (dO kd fg (pl 1)) u) (s1 + 1)))), (0, .ref (ad 0))]) [0, 4, 1, 5] rfl ?_
                            exact ih66 (s1 + 1) (by omega) (by omega)
                        · -- F c5
                          refine g_aload_n (q := 4) (pc := 102) dX12_soonNow_102 rfl rfl ?_
                          refine gm_get_to (pc := 103) hA dX12_soonNow_103 ?_
                          refine g_iload_n (q := 2) (pc := 106) dX12_soonNow_106 rfl rfl ?_
                          refine gm_ld_to (pc := 107) (j := u) (x := nI ((dO kd fg (pl 0)) u)) hA (by omega) rfl dX12_soonNow_107 ?_
                          refine g_goto (tgt := 118) (pc := 108) dX12_soonNow_108 (by decide) ?_
                          refine g_top (x := nI ((dO kd fg (pl 0)) u)) (y := nI (if dO kd fg (pl 1) t73 < dO kd fg (pl 0) u then dO kd fg (pl 0) u else dO kd fg (pl 1) t73)) (congrArg nI (if_pos (by omega)).symm) ?_
                          refine g_istore (lv' := [(5, .int (nI (if dO kd fg (pl 1) t73 < dO kd fg (pl 0) u then dO kd fg (pl 0) u else dO kd fg (pl 1) t73))), (4, .int (nI t73)), (3, .int (nI s1)), (2, .int (nI u)), (1, .int (nI (lsS (dO kd fg (pl 0)) (dO kd fg (pl 1)) u (lsU (dO kd fg (pl 0)) (dO kd fg (pl 1)) u) s1))), (0, .ref (ad 0))]) (pc := 118) dX12_soonNow_118 (by decide) rfl ?_
                          refine g_iload (q := 0) (pc := 120) dX12_soonNow_120 rfl ?_
                          refine g_iload_n (q := 4) (pc := 122) dX12_soonNow_122 rfl rfl ?_
                          refine g_icmp_ge_N (tgt := 131) (pc := 123) (by have h1 := SolO.bd (tw_le ho) (dO_sol ho (ho.2 0 (by decide))) (v := u) (by omega); have h2 := SolO.bd (tw_le ho) (dO_sol ho (ho.2 1 (by decide))) (v := t73) (by omega); split <;> omega) (by have h1 := lsS_le (dO kd fg (pl 0)) (dO kd fg (pl 1)) u (lsU (dO kd fg (pl 0)) (dO kd fg (pl 1)) u) s1; have h2 := lsU_le (dO kd fg (pl 0)) (dO kd fg (pl 1)) u; omega) dX12_soonNow_123 (by decide) (fun c7 => ?_) (fun c7 => ?_)
                          · -- T c7
                            refine g_iload_n (q := 4) (pc := 131) dX12_soonNow_131 rfl rfl ?_
                            refine g_top (x := nI (lsS (dO kd fg (pl 0)) (dO kd fg (pl 1)) u (lsU (dO kd fg (pl 0)) (dO kd fg (pl 1)) u) s1)) (y := nI (lsS (dO kd fg (pl 0)) (dO kd fg (pl 1)) u (lsU (dO kd fg (pl 0)) (dO kd fg (pl 1)) u) (s1 + 1))) (congrArg nI ((lsS_s hn73).trans (if_neg (by omega))).symm) ?_
                            refine g_istore_n (lv' := [(1, .int (nI (lsS (dO kd fg (pl 0)) (dO kd fg (pl 1)) u (lsU (dO kd fg (pl 0)) (dO kd fg (pl 1)) u) (s1 + 1)))), (5, .int (nI (if dO kd fg (pl 1) t73 < dO kd fg (pl 0) u then dO kd fg (pl 0) u else dO kd fg (pl 1) t73))), (4, .int (nI t73)), (3, .int (nI s1)), (2, .int (nI u)), (0, .ref (ad 0))]) (pc := 132) dX12_soonNow_132 rfl (by decide) rfl ?_
                            refine g_iinc (q := 3) (lv' := [(3, .int (nI (s1 + 1))), (1, .int (nI (lsS (dO kd fg (pl 0)) (dO kd fg (pl 1)) u (lsU (dO kd fg (pl 0)) (dO kd fg (pl 1)) u) (s1 + 1)))), (5, .int (nI (if dO kd fg (pl 1) t73 < dO kd fg (pl 0) u then dO kd fg (pl 0) u else dO kd fg (pl 1) t73))), (4, .int (nI t73)), (2, .int (nI u)), (0, .ref (ad 0))]) (pc := 133) dX12_soonNow_133 rfl (nI_inc _ _) (by decide) rfl ?_
                            refine g_goto (tgt := 66) (pc := 136) dX12_soonNow_136 (by decide) ?_
                            refine G.locals (L' := [(3, .int (nI (s1 + 1))), (2, .int (nI u)), (1, .int (nI (lsS (dO kd fg (pl 0)) (dO kd fg (pl 1)) u (lsU (dO kd fg (pl 0)) (dO kd fg (pl 1)) u) (s1 + 1)))), (0, .ref (ad 0))]) [0, 4, 1, 5] rfl ?_
                            exact ih66 (s1 + 1) (by omega) (by omega)
                          · -- F c7
                            refine g_iload (q := 0) (pc := 126) dX12_soonNow_126 rfl ?_
                            refine g_goto (tgt := 132) (pc := 128) dX12_soonNow_128 (by decide) ?_
                            refine g_top (x := nI (if dO kd fg (pl 1) t73 < dO kd fg (pl 0) u then dO kd fg (pl 0) u else dO kd fg (pl 1) t73)) (y := nI (lsS (dO kd fg (pl 0)) (dO kd fg (pl 1)) u (lsU (dO kd fg (pl 0)) (dO kd fg (pl 1)) u) (s1 + 1))) (congrArg nI ((lsS_s hn73).trans (if_pos (by omega))).symm) ?_
                            refine g_istore_n (lv' := [(1, .int (nI (lsS (dO kd fg (pl 0)) (dO kd fg (pl 1)) u (lsU (dO kd fg (pl 0)) (dO kd fg (pl 1)) u) (s1 + 1)))), (5, .int (nI (if dO kd fg (pl 1) t73 < dO kd fg (pl 0) u then dO kd fg (pl 0) u else dO kd fg (pl 1) t73))), (4, .int (nI t73)), (3, .int (nI s1)), (2, .int (nI u)), (0, .ref (ad 0))]) (pc := 132) dX12_soonNow_132 rfl (by decide) rfl ?_
                            refine g_iinc (q := 3) (lv' := [(3, .int (nI (s1 + 1))), (1, .int (nI (lsS (dO kd fg (pl 0)) (dO kd fg (pl 1)) u (lsU (dO kd fg (pl 0)) (dO kd fg (pl 1)) u) (s1 + 1)))), (5, .int (nI (if dO kd fg (pl 1) t73 < dO kd fg (pl 0) u then dO kd fg (pl 0) u else dO kd fg (pl 1) t73))), (4, .int (nI t73)), (2, .int (nI u)), (0, .ref (ad 0))]) (pc := 133) dX12_soonNow_133 rfl (nI_inc _ _) (by decide) rfl ?_
                            refine g_goto (tgt := 66) (pc := 136) dX12_soonNow_136 (by decide) ?_
                            refine G.locals (L' := [(3, .int (nI (s1 + 1))), (2, .int (nI u)), (1, .int (nI (lsS (dO kd fg (pl 0)) (dO kd fg (pl 1)) u (lsU (dO kd fg (pl 0)) (dO kd fg (pl 1)) u) (s1 + 1)))), (0, .ref (ad 0))]) [0, 4, 1, 5] rfl ?_
                            exact ih66 (s1 + 1) (by omega) (by omega)
                refine G.locals (L' := [(3, .int (nI 0)), (2, .int (nI u)), (1, .int (nI (lsU (dO kd fg (pl 0)) (dO kd fg (pl 1)) u))), (0, .ref (ad 0))]) [0, 1, 2, 3] rfl ?_
                exact lp66 5 0 (by omega) (by decide)
          refine G.locals (L' := [(2, .int (nI 0)), (1, .int (nI 1000000)), (0, .ref (ad 0))]) [0, 1, 2] rfl ?_
          exact lp58 21 0 (by omega) (by decide)
        · -- F c2
          refine g_aload_n (q := 1) (pc := 26) dX12_soonNow_26 rfl rfl ?_
          refine gm_get_ot (pc := 27) hA dX12_soonNow_27 ?_
          refine g_iload_n (q := 0) (pc := 30) dX12_soonNow_30 rfl rfl ?_
          refine g_aload_n (q := 1) (pc := 31) dX12_soonNow_31 rfl rfl ?_
          refine gm_get_to (pc := 32) hA dX12_soonNow_32 ?_
          refine g_iload_n (q := 0) (pc := 35) dX12_soonNow_35 rfl rfl ?_
          refine gm_ld_to (pc := 36) (j := i) (x := nI ((dO kd fg (pl 1)) i)) hA (by omega) rfl dX12_soonNow_36 ?_
          refine gm_st_ot (pc := 37) (j := i) (f' := (upd f i (nI ((dO kd fg (pl 1)) i)))) hA (by omega) rfl dX12_soonNow_37 ?_
          refine g_iinc (q := 0) (lv' := [(1, .int (nI (i + 1))), (0, .ref (ad 0))]) (pc := 38) dX12_soonNow_38 rfl (nI_inc _ _) (by decide) rfl ?_
          refine g_goto (tgt := 20) (pc := 41) dX12_soonNow_41 (by decide) ?_
          refine G.locals (L' := [(1, .int (nI (i + 1))), (0, .ref (ad 0))]) [0, 1] rfl ?_
          exact ih20 (i + 1) (upd f i (nI (dO kd fg (pl 1) i))) (by omega) (by omega) (stepF h1)
    refine G.locals (L' := [(1, .int (nI 0)), (0, .ref (ad 0))]) [0, 1] rfl ?_
    exact lp20 21 0 ot (by omega) (by decide) (fun j hj => absurd hj (Nat.not_lt_zero _))
  · -- F c1
    refine g_iconst (v := nI 0) (pc := 7) dX12_soonNow_7 (by decide) ?_
    exact g_iret (pc := 8) (by decide) (by decide) (gI hPo (by rw [soonV, if_pos (by assumption)]) ⟨_, _, rfl⟩) dX12_soonNow_8
theorem G.eqst {l : Launch} {D : va_G} {Z : Nat → ClassId} {b0 : Nat} {R : Room} {own : String} {cc : ByteArray} {nL : Nat} {E : Method → Array Value → State → Prop} {T : List Frame → Array Value → State → State → Prop} {V : HV} {L : List (Nat × Value)} {k n k2 n2 pc : Nat} {st st2 : List Value} (hk : k = k2) (hn : n = n2) (hs : st = st2) (kk : G l D Z b0 R own cc nL E T V L k2 n2 pc st2) : G l D Z b0 R own cc nL E T V L k n pc st := by
  subst hk; subst hn; subst hs; exact kk
def rmX12_soon : Room := { frames := 4, cells := 0, slots := 0, locals := 92 }
set_option maxHeartbeats 8000000 in
theorem c_X12_soon  (hA : aB b0 18 ad) (ho : okM kd fg pl) : KM l D Z b0 yX12_soon cX12_soon 1 (some .int) rmX12_soon [.ref (ad 0)] (wM Z ad hi th po ba en se (enc kd fg pl hr) im rd mi (nf kp) (nf so) (nf sz) el ki kf ti lo wa nu li to ot V) (fun v V' => v = some (.int (nI (soonV kd fg pl))) ∧ MX Z ad hi (enc kd fg pl hr) im (nf kp) (nf so) (nf sz) el ki kf V V') := by
  refine KM.ofP (by decide) (Nat.le_of_ble_eq_true rfl) (fun Po hPo => ?_)
  refine G.locals (L' := [(0, .ref (ad 0))]) [0] rfl ?_
  refine g_aload_n (q := 0) (pc := 0) dX12_soon_0 rfl rfl ?_
  refine g_callV (As := []) (rest := []) (pc := 1) (wM_0 hA) rfl (c_X12_soonNow hA ho) mlX12_201 selX12_X12_soonNow_X12_soonNow mX12_soonNow ⟨Nat.le_of_ble_eq_true rfl, Nat.le_of_ble_eq_true rfl⟩ rfl rfl (Nat.le_of_ble_eq_true rfl) dX12_soon_1 (by decide)  (fun v9 V9 h9 => ?_)
  obtain ⟨rfl, to, ot, rfl⟩ := h9
  refine G.eqst (k2 := 0) (n2 := 0) (st2 := [.int (nI (soonV kd fg pl))]) rfl rfl rfl ?_
  exact g_iret (pc := 4) (by decide) (by decide) (gI hPo rfl mxk) dX12_soon_4
noncomputable def sdP (kd fg pl : Nat → Nat) (g : Nat) : Nat → Int32 × Int32
  | 0 => ((-4), (-4))
  | s + 1 => match nbo (pl g) s with
    | none => sdP kd fg pl g s
    | some t => if ¬ (sdP kd fg pl g s).1 < 0 ∧ ¬ nI (soonV (updN kd t 7) (updN fg t 0) (updN pl g t)) < (sdP kd fg pl g s).2 then sdP kd fg pl g s else (nI s, nI (soonV (updN kd t 7) (updN fg t 0) (updN pl g t)))
noncomputable def spSide (kd fg pl : Nat → Nat) (g what : Int32) : Int32 := if inR g 2 = true then (if inR what 2 = true then (if dN what = 0 then (sdP kd fg pl (dN g) 4).1 else (sdP kd fg pl (dN g) 4).2) else (-1)) else (-1)
theorem sdP_n {kd fg pl : Nat → Nat} {g s : Nat} (h : nbo (pl g) s = none) : sdP kd fg pl g (s + 1) = sdP kd fg pl g s := by rw [sdP, h]
theorem sdP_k {kd fg pl : Nat → Nat} {g s t : Nat} (h : nbo (pl g) s = some t) (h1 : ¬ (sdP kd fg pl g s).1 < 0) (h2 : ¬ nI (soonV (updN kd t 7) (updN fg t 0) (updN pl g t)) < (sdP kd fg pl g s).2) : sdP kd fg pl g (s + 1) = sdP kd fg pl g s := by rw [sdP, h]; exact if_pos ⟨h1, h2⟩
theorem sdP_1 {kd fg pl : Nat → Nat} {g s t : Nat} (h : nbo (pl g) s = some t) (h1 : (sdP kd fg pl g s).1 < 0) : sdP kd fg pl g (s + 1) = (nI s, nI (soonV (updN kd t 7) (updN fg t 0) (updN pl g t))) := by rw [sdP, h]; exact if_neg (fun q => q.1 h1)
theorem sdP_2 {kd fg pl : Nat → Nat} {g s t : Nat} (h : nbo (pl g) s = some t) (h1 : nI (soonV (updN kd t 7) (updN fg t 0) (updN pl g t)) < (sdP kd fg pl g s).2) : sdP kd fg pl g (s + 1) = (nI s, nI (soonV (updN kd t 7) (updN fg t 0) (updN pl g t))) := by rw [sdP, h]; exact if_neg (fun q => q.2 h1)
def rmX12_side : Room := { frames := 4, cells := 0, slots := 0, locals := 92 }
set_option maxHeartbeats 8000000 in
theorem c_X12_side {g what : Int32} (hA : aB b0 18 ad) (ho : okM kd fg pl) : KM l D Z b0 yX12_side cX12_side 7 (some .int) rmX12_side [.ref (ad 0), .int g, .int what] (wM Z ad hi th po ba en se (enc kd fg pl hr) im rd mi (nf kp) (nf so) (nf sz) el ki kf ti lo wa nu li to ot V) (fun v V' => v = some (.int (spSide kd fg pl g what)) ∧ MX Z ad hi (enc kd fg pl hr) im (nf kp) (nf so) (nf sz) el ki kf V V') := by
  refine KM.ofP (by decide) (Nat.le_of_ble_eq_true rfl) (fun Po hPo => ?_)
  refine G.locals (L' := [(0, .ref (ad 0)), (1, .int g), (2, .int what)]) [0, 1, 2] rfl ?_
  refine g_iload_n (q := 1) (pc := 0) dX12_side_0 rfl rfl ?_
  refine e_callS (k2 := 0) (n2 := 0) (As := [.int g]) (rest := []) (pc := 1) (c_X12_isGang hA) mlX12_146 mX12_isGang ⟨Nat.le_of_ble_eq_true rfl, Nat.le_of_ble_eq_true rfl⟩ rfl rfl (Nat.le_of_ble_eq_true rfl) dX12_side_1 (by decide) rfl rfl ?_
  refine g_if_eq_B (tgt := 17) (pc := 4) dX12_side_4 (by decide) (fun c1 => ?_) (fun c1 => ?_)
  · -- T c1
    refine g_iconst (v := (-1)) (pc := 17) dX12_side_17 (by decide) ?_
    exact g_iret (pc := 18) (by decide) (by decide) (gI hPo (by rw [spSide, if_neg (by simp [*])]) mxk) dX12_side_18
  · -- F c1
    obtain ⟨g, hg, rfl⟩ := inR_t c1
    refine g_iload_n (q := 2) (pc := 7) dX12_side_7 rfl rfl ?_
    refine g_i2l (v := (what).toInt64) (pc := 8) dX12_side_8 rfl ?_
    refine g_lconst (v := lN 0) (pc := 9) dX12_side_9 (by decide) ?_
    refine g_lconst (v := lN 1) (pc := 10) dX12_side_10 (by decide) ?_
    refine e_callS (k2 := 0) (n2 := 0) (As := [.long ((what).toInt64), .long (lN 0), .long (lN 1)]) (rest := []) (pc := 11) (c_X12_isInR 2 rfl hA (by decide) (c_X12_isIn hA)) mlX12_67 mX12_isIn ⟨Nat.le_of_ble_eq_true rfl, Nat.le_of_ble_eq_true rfl⟩ rfl rfl (Nat.le_of_ble_eq_true rfl) dX12_side_11 (by decide) rfl rfl ?_
    refine g_if_ne_B (tgt := 19) (pc := 14) dX12_side_14 (by decide) (fun c2 => ?_) (fun c2 => ?_)
    · -- T c2
      obtain ⟨what, hwhat, rfl⟩ := inR_t c2
      refine g_aload_n (q := 0) (pc := 19) dX12_side_19 rfl rfl ?_
      refine e_callVv (k2 := 0) (n2 := 0) (As := []) (rest := []) (pc := 20) (wM_0 hA) rfl (c_X12_begins hA) mlX12_192 selX12_X12_begins_X12_begins mX12_begins ⟨Nat.le_of_ble_eq_true rfl, Nat.le_of_ble_eq_true rfl⟩ rfl rfl (Nat.le_of_ble_eq_true rfl) dX12_side_20 (by decide) rfl rfl ?_
      refine g_bipush (v := (-4)) (pc := 23) dX12_side_23 (by decide) ?_
      refine g_istore_n (lv' := [(3, .int (-4)), (0, .ref (ad 0)), (1, .int (nI g)), (2, .int (nI what))]) (pc := 25) dX12_side_25 rfl (by decide) rfl ?_
      refine g_bipush (v := (-4)) (pc := 26) dX12_side_26 (by decide) ?_
      refine g_istore (lv' := [(4, .int (-4)), (3, .int (-4)), (0, .ref (ad 0)), (1, .int (nI g)), (2, .int (nI what))]) (pc := 28) dX12_side_28 (by decide) rfl ?_
      refine g_iconst (v := nI 0) (pc := 30) dX12_side_30 (by decide) ?_
      refine g_istore (lv' := [(5, .int (nI 0)), (4, .int (-4)), (3, .int (-4)), (0, .ref (ad 0)), (1, .int (nI g)), (2, .int (nI what))]) (pc := 31) dX12_side_31 (by decide) rfl ?_
      have lp33 : ∀ (d33 : Nat) (s1 : Nat) (f1 : Nat → Int32) (f2 : Nat → Int32), s1 + d33 = 5 → (s1 ≤ 4) → G l D Z b0 rmX12_side RX12 cX12_side 7 (gE (some .int) "side") (gT D b0 Po rmX12_side.cells rmX12_side.slots) (wM Z ad hi th po ba en se (enc kd fg pl hr) im rd (enc kd fg pl hr) (nf kp) (nf so) (nf sz) el ki kf ti lo wa nu li f1 f2 V) [(5, .int (nI s1)), (3, .int ((sdP kd fg pl g s1).1)), (4, .int ((sdP kd fg pl g s1).2)), (0, .ref (ad 0)), (1, .int (nI g)), (2, .int (nI what))] 0 0 33 [] := by
        intro d33
        induction d33 with
        | zero =>
          intro s1 f1 f2 hd33 hs1
          exact absurd hd33 (by omega)
        | succ d33 ih33 =>
          intro s1 f1 f2 hd33 hs1
          refine g_iload (q := 0) (pc := 33) dX12_side_33 rfl ?_
          refine g_iconst (v := nI 4) (pc := 35) dX12_side_35 (by decide) ?_
          refine g_icmp_ge_N (tgt := 89) (pc := 36) (by omega) (by omega) dX12_side_36 (by decide) (fun c3 => ?_) (fun c3 => ?_)
          · -- T c3
            refine g_iload_n (q := 5) (pc := 89) dX12_side_89 rfl rfl ?_
            refine g_if_ne_N (tgt := 97) (pc := 90) (by omega) dX12_side_90 (by decide) (fun c4 => ?_) (fun c4 => ?_)
            · -- T c4
              refine g_iload (q := 2) (pc := 97) dX12_side_97 rfl ?_
              exact g_iret (pc := 99) (by decide) (by decide) (gI hPo (by have q9 : s1 = 4 := (by omega); rw [spSide, if_pos (by assumption), if_pos (by assumption), dN_N (by omega), dN_N (by omega), if_neg (by assumption), ← q9]) mxk) dX12_side_99
            · -- F c4
              refine g_iload_n (q := 1) (pc := 93) dX12_side_93 rfl rfl ?_
              refine g_goto (tgt := 99) (pc := 94) dX12_side_94 (by decide) ?_
              exact g_iret (pc := 99) (by decide) (by decide) (gI hPo (by have q9 : s1 = 4 := (by omega); rw [spSide, if_pos (by assumption), if_pos (by assumption), dN_N (by omega), dN_N (by omega), if_pos (by assumption), ← q9]) mxk) dX12_side_99
          · -- F c3
            refine g_aload_n (q := 3) (pc := 39) dX12_side_39 rfl rfl ?_
            refine g_iload_n (q := 4) (pc := 40) dX12_side_40 rfl rfl ?_
            refine g_iload (q := 0) (pc := 41) dX12_side_41 rfl ?_
            rcases hd43 : nbo (pl g) s1 with _ | u43
            · -- alt
              refine e_callV (k2 := 0) (n2 := 0) (As := [.int (nI g), .int (nI s1)]) (rest := []) (pc := 43) (wM_0 hA) rfl (c_X12_digs_n hA ho (by omega) (by omega) hd43) mlX12_149 selX12_X12_digs_X12_digs mX12_digs ⟨Nat.le_of_ble_eq_true rfl, Nat.le_of_ble_eq_true rfl⟩ rfl rfl (Nat.le_of_ble_eq_true rfl) dX12_side_43 (by decide) rfl rfl ?_
              refine g_if_ne (tgt := 52) (pc := 46) dX12_side_46 (by decide) (fun c0 => absurd c0 (by decide)) (fun _ => ?_)
              refine g_goto (tgt := 83) (pc := 49) dX12_side_49 (by decide) ?_
              rw [← sdP_n (kd := kd) (fg := fg) (pl := pl) (g := g) (s := s1) hd43]
              refine g_iinc (q := 0) (lv' := [(5, .int (nI (s1 + 1))), (3, .int ((sdP kd fg pl g (s1 + 1)).1)), (4, .int ((sdP kd fg pl g (s1 + 1)).2)), (0, .ref (ad 0)), (1, .int (nI g)), (2, .int (nI what))]) (pc := 83) dX12_side_83 rfl (nI_inc _ _) (by decide) rfl ?_
              refine g_goto (tgt := 33) (pc := 86) dX12_side_86 (by decide) ?_
              refine G.locals (L' := [(5, .int (nI (s1 + 1))), (3, .int ((sdP kd fg pl g (s1 + 1)).1)), (4, .int ((sdP kd fg pl g (s1 + 1)).2)), (0, .ref (ad 0)), (1, .int (nI g)), (2, .int (nI what))]) [0, 1, 2, 3, 4, 5] rfl ?_
              exact ih33 (s1 + 1) f1 f2 (by omega) (by omega)
            · -- alt
              have u43l := nbo_lt (c := pl g) (ho.2 g (by omega)) hd43
              refine e_callV (k2 := 0) (n2 := 0) (As := [.int (nI g), .int (nI s1)]) (rest := []) (pc := 43) (wM_0 hA) rfl (c_X12_digs_s hA ho (by omega) (by omega) hd43) mlX12_149 selX12_X12_digs_X12_digs mX12_digs ⟨Nat.le_of_ble_eq_true rfl, Nat.le_of_ble_eq_true rfl⟩ rfl rfl (Nat.le_of_ble_eq_true rfl) dX12_side_43 (by decide) rfl rfl ?_
              refine g_if_ne (tgt := 52) (pc := 46) dX12_side_46 (by decide) (fun _ => ?_) (fun c0 => absurd c0 (by decide))
              refine g_aload_n (q := 3) (pc := 52) dX12_side_52 rfl rfl ?_
              refine g_callV (As := []) (rest := []) (pc := 53) (wM_0 hA) rfl (c_X12_soonNow hA (okM_dig (g := g) ho u43l)) mlX12_201 selX12_X12_soonNow_X12_soonNow mX12_soonNow ⟨Nat.le_of_ble_eq_true rfl, Nat.le_of_ble_eq_true rfl⟩ rfl rfl (Nat.le_of_ble_eq_true rfl) dX12_side_53 (by decide)  (fun v9 V9 h9 => ?_)
              obtain ⟨rfl, to, ot, rfl⟩ := h9
              refine G.eqst (k2 := 0) (n2 := 0) (st2 := [.int (nI (soonV (updN kd u43 7) (updN fg u43 0) (updN pl g u43)))]) rfl rfl rfl ?_
              refine g_istore (lv' := [(6, .int (nI (soonV (updN kd u43 7) (updN fg u43 0) (updN pl g u43)))), (5, .int (nI s1)), (3, .int ((sdP kd fg pl g s1).1)), (4, .int ((sdP kd fg pl g s1).2)), (0, .ref (ad 0)), (1, .int (nI g)), (2, .int (nI what))]) (pc := 56) dX12_side_56 (by decide) rfl ?_
              refine g_aload_n (q := 4) (pc := 58) dX12_side_58 rfl rfl ?_
              refine e_callVv (k2 := 0) (n2 := 0) (As := []) (rest := []) (pc := 59) (wM_0 hA) rfl (c_X12_ends hA) mlX12_195 selX12_X12_ends_X12_ends mX12_ends ⟨Nat.le_of_ble_eq_true rfl, Nat.le_of_ble_eq_true rfl⟩ rfl rfl (Nat.le_of_ble_eq_true rfl) dX12_side_59 (by decide) rfl rfl ?_
              refine g_iload_n (q := 2) (pc := 62) dX12_side_62 rfl rfl ?_
              refine g_if_lt (tgt := 76) (pc := 63) dX12_side_63 (by decide) (fun c5 => ?_) (fun c5 => ?_)
              · -- T c5
                have hb9 := c5
                refine g_iload (q := 1) (pc := 76) dX12_side_76 rfl ?_
                refine g_istore_n (lv' := [(3, .int (nI s1)), (6, .int (nI (soonV (updN kd u43 7) (updN fg u43 0) (updN pl g u43)))), (5, .int (nI s1)), (4, .int ((sdP kd fg pl g s1).2)), (0, .ref (ad 0)), (1, .int (nI g)), (2, .int (nI what))]) (pc := 78) dX12_side_78 rfl (by decide) rfl ?_
                refine g_iload (q := 1) (pc := 79) dX12_side_79 rfl ?_
                refine g_istore (lv' := [(4, .int (nI (soonV (updN kd u43 7) (updN fg u43 0) (updN pl g u43)))), (3, .int (nI s1)), (6, .int (nI (soonV (updN kd u43 7) (updN fg u43 0) (updN pl g u43)))), (5, .int (nI s1)), (0, .ref (ad 0)), (1, .int (nI g)), (2, .int (nI what))]) (pc := 81) dX12_side_81 (by decide) rfl ?_
                have hq9 := sdP_1 hd43 hb9
                refine G.locals (L' := [(5, .int (nI s1)), (3, .int (sdP kd fg pl g (s1 + 1)).1), (4, .int (sdP kd fg pl g (s1 + 1)).2), (0, .ref (ad 0)), (1, .int (nI g)), (2, .int (nI what))]) [3, 1, 0, 4, 5, 6] (by rw [hq9]; rfl) ?_
                refine g_iinc (q := 0) (lv' := [(5, .int (nI (s1 + 1))), (3, .int ((sdP kd fg pl g (s1 + 1)).1)), (4, .int ((sdP kd fg pl g (s1 + 1)).2)), (0, .ref (ad 0)), (1, .int (nI g)), (2, .int (nI what))]) (pc := 83) dX12_side_83 rfl (nI_inc _ _) (by decide) rfl ?_
                refine g_goto (tgt := 33) (pc := 86) dX12_side_86 (by decide) ?_
                refine G.locals (L' := [(5, .int (nI (s1 + 1))), (3, .int ((sdP kd fg pl g (s1 + 1)).1)), (4, .int ((sdP kd fg pl g (s1 + 1)).2)), (0, .ref (ad 0)), (1, .int (nI g)), (2, .int (nI what))]) [0, 1, 2, 3, 4, 5] rfl ?_
                exact ih33 (s1 + 1) to ot (by omega) (by omega)
              · -- F c5
                have hb9 := c5
                refine g_iload (q := 0) (pc := 66) dX12_side_66 rfl ?_
                refine g_iload (q := 3) (pc := 68) dX12_side_68 rfl ?_
                refine g_icmp_lt (tgt := 76) (pc := 70) dX12_side_70 (by decide) (fun c6 => ?_) (fun c6 => ?_)
                · -- T c6
                  have hv9 := c6
                  refine g_iload (q := 1) (pc := 76) dX12_side_76 rfl ?_
                  refine g_istore_n (lv' := [(3, .int (nI s1)), (6, .int (nI (soonV (updN kd u43 7) (updN fg u43 0) (updN pl g u43)))), (5, .int (nI s1)), (4, .int ((sdP kd fg pl g s1).2)), (0, .ref (ad 0)), (1, .int (nI g)), (2, .int (nI what))]) (pc := 78) dX12_side_78 rfl (by decide) rfl ?_
                  refine g_iload (q := 1) (pc := 79) dX12_side_79 rfl ?_
                  refine g_istore (lv' := [(4, .int (nI (soonV (updN kd u43 7) (updN fg u43 0) (updN pl g u43)))), (3, .int (nI s1)), (6, .int (nI (soonV (updN kd u43 7) (updN fg u43 0) (updN pl g u43)))), (5, .int (nI s1)), (0, .ref (ad 0)), (1, .int (nI g)), (2, .int (nI what))]) (pc := 81) dX12_side_81 (by decide) rfl ?_
                  have hq9 := sdP_2 hd43 hv9
                  refine G.locals (L' := [(5, .int (nI s1)), (3, .int (sdP kd fg pl g (s1 + 1)).1), (4, .int (sdP kd fg pl g (s1 + 1)).2), (0, .ref (ad 0)), (1, .int (nI g)), (2, .int (nI what))]) [3, 1, 0, 4, 5, 6] (by rw [hq9]; rfl) ?_
                  refine g_iinc (q := 0) (lv' := [(5, .int (nI (s1 + 1))), (3, .int ((sdP kd fg pl g (s1 + 1)).1)), (4, .int ((sdP kd fg pl g (s1 + 1)).2)), (0, .ref (ad 0)), (1, .int (nI g)), (2, .int (nI what))]) (pc := 83) dX12_side_83 rfl (nI_inc _ _) (by decide) rfl ?_
                  refine g_goto (tgt := 33) (pc := 86) dX12_side_86 (by decide) ?_
                  refine G.locals (L' := [(5, .int (nI (s1 + 1))), (3, .int ((sdP kd fg pl g (s1 + 1)).1)), (4, .int ((sdP kd fg pl g (s1 + 1)).2)), (0, .ref (ad 0)), (1, .int (nI g)), (2, .int (nI what))]) [0, 1, 2, 3, 4, 5] rfl ?_
                  exact ih33 (s1 + 1) to ot (by omega) (by omega)
                · -- F c6
                  have hv9 := c6
                  refine g_goto (tgt := 83) (pc := 73) dX12_side_73 (by decide) ?_
                  rw [← sdP_k hd43 hb9 hv9]
                  refine g_iinc (q := 1) (lv' := [(5, .int (nI (s1 + 1))), (6, .int (nI (soonV (updN kd u43 7) (updN fg u43 0) (updN pl g u43)))), (3, .int ((sdP kd fg pl g (s1 + 1)).1)), (4, .int ((sdP kd fg pl g (s1 + 1)).2)), (0, .ref (ad 0)), (1, .int (nI g)), (2, .int (nI what))]) (pc := 83) dX12_side_83 rfl (nI_inc _ _) (by decide) rfl ?_
                  refine g_goto (tgt := 33) (pc := 86) dX12_side_86 (by decide) ?_
                  refine G.locals (L' := [(5, .int (nI (s1 + 1))), (3, .int ((sdP kd fg pl g (s1 + 1)).1)), (4, .int ((sdP kd fg pl g (s1 + 1)).2)), (0, .ref (ad 0)), (1, .int (nI g)), (2, .int (nI what))]) [0, 2, 3, 4, 5, 6] rfl ?_
                  exact ih33 (s1 + 1) to ot (by omega) (by omega)
      refine G.locals (L' := [(5, .int (nI 0)), (3, .int (-4)), (4, .int (-4)), (0, .ref (ad 0)), (1, .int (nI g)), (2, .int (nI what))]) [0, 2, 1, 3, 4, 5] rfl ?_
      exact lp33 5 0 to ot (by omega) (by decide)
    · -- F c2
      refine g_iconst (v := (-1)) (pc := 17) dX12_side_17 (by decide) ?_
      exact g_iret (pc := 18) (by decide) (by decide) (gI hPo (by rw [spSide, if_pos (by assumption), if_neg (by simp [*])]) mxk) dX12_side_18
end MS
