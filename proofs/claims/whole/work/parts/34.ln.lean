/-! ===== the losses and the numbers of ways beside the nearest first ===== -/
def sm (f : Nat → Int32) : Nat → Int32
  | 0 => nI 0
  | s + 1 => sm f s + f s
theorem sm_congr {f g : Nat → Int32} : ∀ {n : Nat}, (∀ s, s < n → g s = f s) → sm g n = sm f n
  | 0, _ => rfl
  | n + 1, h => by
    show sm g n + g n = sm f n + f n
    rw [sm_congr (n := n) (fun s hs => h s (by omega)), h n (by omega)]
theorem sm_add {f g : Nat → Int32} {s0 : Nat} {x : Int32} : ∀ {n : Nat}, s0 < n → (∀ s, s < n → s ≠ s0 → g s = f s) → g s0 = f s0 + x → sm g n = sm f n + x
  | 0, h, _, _ => absurd h (by omega)
  | n + 1, h, hg, h0 => by
    show sm g n + g n = sm f n + f n + x
    by_cases q : s0 = n
    · subst q
      rw [sm_congr (f := f) (g := g) (n := s0) (fun s hs => hg s (by omega) (by omega)), h0, Int32.add_assoc]
    · rw [sm_add (f := f) (g := g) (s0 := s0) (x := x) (n := n) (by omega) (fun s hs z => hg s (by omega) z) h0, hg n (by omega) (fun z => q z.symm), Int32.add_assoc, Int32.add_comm x, ← Int32.add_assoc]
theorem sm_zero : ∀ n, sm (fun _ => nI 0) n = nI 0
  | 0 => rfl
  | n + 1 => by show sm (fun _ => nI 0) n + nI 0 = nI 0; rw [sm_zero n]; rfl
theorem sm_one {g : Nat → Int32} {s0 n : Nat} {x : Int32} (h : s0 < n) (hg : ∀ s, s < n → s ≠ s0 → g s = nI 0) (h0 : g s0 = x) : sm g n = x := by
  rw [sm_add (f := fun _ => nI 0) (s0 := s0) (x := x) h hg (by rw [h0]; exact (Int32.zero_add x).symm), sm_zero]; exact Int32.zero_add x
def trD (w T : Nat → Nat) (N : Nat → Int32) (Dn : Nat → Nat → Bool) (v s : Nat) : Int32 := match nbo v s with
  | none => nI 0
  | some u => if Dn u (bk4 s) = true ∧ T u + w v = T v then N u else nI 0
theorem trD_s {w T : Nat → Nat} {N : Nat → Int32} {Dn : Nat → Nat → Bool} {v s u : Nat} (h : nbo v s = some u) : trD w T N Dn v s = if Dn u (bk4 s) = true ∧ T u + w v = T v then N u else nI 0 := by unfold trD; rw [h]
theorem trD_n {w T : Nat → Nat} {N : Nat → Int32} {Dn : Nat → Nat → Bool} {v s : Nat} (h : nbo v s = none) : trD w T N Dn v s = nI 0 := by unfold trD; rw [h]
theorem trD_eq {w T T' : Nat → Nat} {N N' : Nat → Int32} {Dn Dn' : Nat → Nat → Bool} {v s : Nat} (h : ∀ u, nbo v s = some u → ((Dn' u (bk4 s) = true ∧ T' u + w v = T' v) ↔ (Dn u (bk4 s) = true ∧ T u + w v = T v)) ∧ (Dn u (bk4 s) = true → T u + w v = T v → N' u = N u)) : trD w T' N' Dn' v s = trD w T N Dn v s := by
  cases hb : nbo v s with
  | none => rw [trD_n hb, trD_n hb]
  | some u =>
    rw [trD_s hb, trD_s hb]
    have g := h u hb
    by_cases q : Dn u (bk4 s) = true ∧ T u + w v = T v
    · rw [if_pos q, if_pos (g.1.mpr q), g.2 q.1 q.2]
    · rw [if_neg q, if_neg (fun z => q (g.1.mp z))]
theorem bk4_bk4 {s : Nat} (h : s < 4) : bk4 (bk4 s) = s := by unfold bk4; omega
def LNI (w1 w2 : Nat → Nat) (a K : Nat) (Dn : Nat → Nat → Bool) (T L : Nat → Nat) (N : Nat → Int32) : Prop :=
  L a = 0 ∧ N a = nI 1 ∧ (∀ v, v < 20 → T v ≠ 1000000 → L v ≤ 14 * K) ∧
  ((∀ c, c < 20 → 1 ≤ w1 c) → ∀ v, v < 20 → v ≠ a → T v ≠ 1000000 →
    (∃ u s, u < 20 ∧ s < 4 ∧ nbo u s = some v ∧ Dn u s = true ∧ T v = T u + w1 v ∧ L v = L u + w2 v) ∧
    (∀ u, u < 20 → ∀ s, s < 4 → nbo u s = some v → Dn u s = true → T u + w1 v = T v → L v ≤ L u + w2 v) ∧ N v = sm (trD w1 T N Dn v) 4)
theorem LNI.init {w1 w2 : Nat → Nat} {a : Nat} {Dn : Nat → Nat → Bool} {T L : Nat → Nat} {N : Nat → Int32} (hT : ∀ v, v < 20 → T v = iniT a v) (hL : L a = 0) (hN : N a = nI 1) : LNI w1 w2 a 0 Dn T L N := by
  refine ⟨hL, hN, fun v hv h => ?_, fun _ v hv hva h => ?_⟩
  · by_cases q : v = a
    · subst q; omega
    · exact absurd (by rw [hT v hv]; exact if_neg q) h
  · exact absurd (by rw [hT v hv]; exact if_neg hva) h
theorem LNI.congr {w1 w2 : Nat → Nat} {a K : Nat} {Dn Dn' : Nat → Nat → Bool} {T L : Nat → Nat} {N : Nat → Int32} (h : LNI w1 w2 a K Dn T L N) (hD : ∀ u, u < 20 → ∀ s, s < 4 → Dn' u s = Dn u s) : LNI w1 w2 a K Dn' T L N := by
  obtain ⟨h1, h2, h3, h4⟩ := h
  refine ⟨h1, h2, h3, fun hp v hv hva hT => ?_⟩
  obtain ⟨⟨u, s, g1, g2, g3, g4, g5, g6⟩, g7, g8⟩ := h4 hp v hv hva hT
  refine ⟨⟨u, s, g1, g2, g3, by rw [hD u g1 s g2]; exact g4, g5, g6⟩, fun u hu s hs hb hd => g7 u hu s hs hb (by rw [← hD u hu s hs]; exact hd), ?_⟩
  rw [g8]
  exact sm_congr (fun s hs => trD_eq (fun u hb => by
    have e := hD u (nbo_lt hv hb) (bk4 s) (bk4_lt s)
    rw [e]
    exact ⟨Iff.rfl, fun _ _ => rfl⟩))
theorem LNI.mono {w1 w2 : Nat → Nat} {a K K' : Nat} {Dn : Nat → Nat → Bool} {T L : Nat → Nat} {N : Nat → Int32} (h : LNI w1 w2 a K Dn T L N) (hK : K ≤ K') : LNI w1 w2 a K' Dn T L N :=
  ⟨h.1, h.2.1, fun v hv hT => by have := h.2.2.1 v hv hT; omega, h.2.2.2⟩
theorem LNI.keep {w1 w2 : Nat → Nat} {a K c s1 : Nat} {Dn Dn' : Nat → Nat → Bool} {T L : Nat → Nat} {N : Nat → Int32} (h : LNI w1 w2 a K Dn T L N) (hD1 : ∀ u s, Dn' u s = true → Dn u s = true ∨ (u = c ∧ s = s1)) (hD2 : ∀ u s, Dn u s = true → Dn' u s = true) (he : (∀ c, c < 20 → 1 ≤ w1 c) → ∀ v, nbo c s1 = some v → v = a ∨ T c + w1 v ≠ T v) (hc : c < 20) (hs1 : s1 < 4) : LNI w1 w2 a K Dn' T L N := by
  obtain ⟨h1, h2, h3, h4⟩ := h
  refine ⟨h1, h2, h3, fun hp v hv hva hT => ?_⟩
  obtain ⟨⟨u, s, g1, g2, g3, g4, g5, g6⟩, g7, g8⟩ := h4 hp v hv hva hT
  refine ⟨⟨u, s, g1, g2, g3, hD2 u s g4, g5, g6⟩, fun u hu s hs hb hd e => ?_, ?_⟩
  · rcases hD1 u s hd with q | ⟨rfl, rfl⟩
    · exact g7 u hu s hs hb q e
    · rcases he hp v hb with q | q
      · exact absurd q hva
      · exact absurd e q
  · rw [g8]
    exact (sm_congr (fun s hs => trD_eq (fun u hb => by
      refine ⟨⟨fun q => ⟨?_, q.2⟩, fun q => ⟨hD2 u _ q.1, q.2⟩⟩, fun _ _ => rfl⟩
      rcases hD1 u _ q.1 with z | ⟨rfl, z⟩
      · exact z
      · have e1 := nbo_back hv hs hb
        rw [z] at e1
        rcases he hp v e1 with y | y
        · exact absurd y hva
        · exact absurd q.2 y))).symm
theorem LNI.less {w1 w2 : Nat → Nat} {a K c s1 v : Nat} {S : Nat → Bool} {Dn Dn' : Nat → Nat → Bool} {T L : Nat → Nat} {N : Nat → Int32} (h : LNI w1 w2 a K Dn T L N) (hD1 : ∀ u s, Dn' u s = true → Dn u s = true ∨ (u = c ∧ s = s1)) (hD2 : ∀ u s, Dn u s = true → Dn' u s = true) (hD3 : Dn' c s1 = true)
    (hDS : ∀ u, u < 20 → ∀ s, s < 4 → ∀ x, Dn u s = true → nbo u s = some x → S u = true ∧ T x ≤ T u + w1 x) (hSa : S a = true) (hSc : S c = true) (hSv : S v = false) (hc : c < 20) (hs1 : s1 < 4) (hb : nbo c s1 = some v) (hLc : L c + 14 ≤ 14 * K) (hw2 : w2 v ≤ 14) (hl : T c + w1 v < T v) (hv1 : w1 v ≤ 30) (hTc : T c ≤ 600) :
    LNI w1 w2 a K Dn' (updN T v (T c + w1 v)) (updN L v (L c + w2 v)) (upd N v (N c)) := by
  obtain ⟨h1, h2, h3, h4⟩ := h
  have hne : ∀ u, S u = true → u ≠ v := fun u hu q => by subst q; rw [hSv] at hu; cases hu
  have hv := nbo_lt hc hb
  refine ⟨by rw [updN_ne (hne a hSa)]; exact h1, by rw [upd_ne (hne a hSa)]; exact h2, fun x hx hT => ?_, fun hp x hx hxa hT => ?_⟩
  · by_cases q : x = v
    · subst q; rw [updN_eq]; omega
    · rw [updN_ne q] at hT ⊢; exact h3 x hx hT
  · have hsrc : ∀ u, u < 20 → ∀ s, s < 4 → nbo u s = some x → Dn' u s = true → u ≠ v := fun u hu s hs hbx hd q => by
      rcases hD1 u s hd with z | ⟨z, -⟩
      · exact hne u (hDS u hu s hs x z hbx).1 q
      · exact hne c hSc (z ▸ q)
    by_cases q : x = v
    · subst q
      refine ⟨⟨c, s1, hc, hs1, hb, hD3, ?_, ?_⟩, fun u hu s hs hbx hd e => ?_, ?_⟩
      · rw [updN_eq, updN_ne (hne c hSc)]
      · rw [updN_eq, updN_ne (hne c hSc)]
      · rcases hD1 u s hd with z | ⟨rfl, rfl⟩
        · have g := hDS u hu s hs x z hbx
          rw [updN_eq, updN_ne (hne u g.1)] at e; omega
        · rw [updN_eq, updN_ne (hne u hSc)]; exact Nat.le_refl _
      · rw [upd_eq]
        refine (sm_one (s0 := bk4 s1) (bk4_lt s1) (fun s hs z => ?_) ?_).symm
        · cases hbx : nbo x s with
          | none => exact trD_n hbx
          | some u =>
            rw [trD_s hbx]
            refine if_neg (fun y => ?_)
            have e1 := nbo_back hx hs hbx
            have hu := nbo_lt hx hbx
            rcases hD1 u _ y.1 with z2 | ⟨rfl, z2⟩
            · have g := hDS u hu _ (bk4_lt s) x z2 e1
              have y2 := y.2
              rw [updN_eq, updN_ne (hne u g.1)] at y2; omega
            · exact z (by rw [← z2, bk4_bk4 hs])
        · rw [trD_s (nbo_back hc hs1 hb), bk4_bk4 hs1, updN_eq, updN_ne (hne c hSc), upd_ne (hne c hSc)]
          exact if_pos ⟨hD3, rfl⟩
    · rw [updN_ne q] at hT
      obtain ⟨⟨u, s, g1, g2, g3, g4, g5, g6⟩, g7, g8⟩ := h4 hp x hx hxa hT
      refine ⟨⟨u, s, g1, g2, g3, hD2 u s g4, ?_, ?_⟩, fun u hu s hs hbx hd e => ?_, ?_⟩
      · rw [updN_ne q, updN_ne (hne u (hDS u g1 s g2 x g4 g3).1)]; exact g5
      · rw [updN_ne q, updN_ne (hne u (hDS u g1 s g2 x g4 g3).1)]; exact g6
      · have hu9 := hsrc u hu s hs hbx hd
        rw [updN_ne q, updN_ne hu9] at e
        rw [updN_ne q, updN_ne hu9]
        rcases hD1 u s hd with z | ⟨rfl, rfl⟩
        · exact g7 u hu s hs hbx z e
        · rw [hb] at hbx; cases hbx; exact absurd rfl q
      · rw [upd_ne q, g8]
        refine (sm_congr (fun s hs => ?_)).symm
        cases hbx : nbo x s with
        | none => rw [trD_n hbx, trD_n hbx]
        | some u =>
          rw [trD_s hbx, trD_s hbx, updN_ne q]
          have e1 := nbo_back hx hs hbx
          have hu := nbo_lt hx hbx
          by_cases z : Dn u (bk4 s) = true
          · have hu9 := hne u (hDS u hu _ (bk4_lt s) x z e1).1
            rw [updN_ne hu9, upd_ne hu9]
            by_cases y : T u + w1 x = T x
            · rw [if_pos ⟨hD2 u _ z, y⟩, if_pos ⟨z, y⟩]
            · rw [if_neg (fun y2 => y y2.2), if_neg (fun y2 => y y2.2)]
          · have e9 : ¬ (Dn u (bk4 s) = true ∧ T u + w1 x = T x) := fun y2 => z y2.1
            rw [if_neg e9]
            refine if_neg (fun y2 => ?_)
            rcases hD1 u _ y2.1 with z2 | ⟨rfl, z2⟩
            · exact z z2
            · rw [z2, hb] at e1; cases e1; exact q rfl
theorem LNI.same {w1 w2 : Nat → Nat} {a K c s1 v : Nat} {S : Nat → Bool} {Dn Dn' : Nat → Nat → Bool} {T L : Nat → Nat} {N : Nat → Int32} (h : LNI w1 w2 a K Dn T L N) (hD1 : ∀ u s, Dn' u s = true → Dn u s = true ∨ (u = c ∧ s = s1)) (hD2 : ∀ u s, Dn u s = true → Dn' u s = true) (hD3 : Dn' c s1 = true) (hD4 : Dn c s1 = false)
    (hDS : ∀ u, u < 20 → ∀ s, s < 4 → ∀ x, Dn u s = true → nbo u s = some x → S u = true ∧ T x ≤ T u + w1 x) (hSa : S a = true) (hSc : S c = true) (hSv : S v = false) (hc : c < 20) (hs1 : s1 < 4) (hb : nbo c s1 = some v) (hLc : L c + 14 ≤ 14 * K) (hw2 : w2 v ≤ 14) (hl : T c + w1 v = T v) (hv1 : w1 v ≤ 30) (hTc : T c ≤ 600) :
    LNI w1 w2 a K Dn' T (updN L v (if L c + w2 v < L v then L c + w2 v else L v)) (upd N v (N v + N c)) := by
  obtain ⟨h1, h2, h3, h4⟩ := h
  have hne : ∀ u, S u = true → u ≠ v := fun u hu q => by subst q; rw [hSv] at hu; cases hu
  have hv := nbo_lt hc hb
  refine ⟨by rw [updN_ne (hne a hSa)]; exact h1, by rw [upd_ne (hne a hSa)]; exact h2, fun x hx hT => ?_, fun hp x hx hxa hT => ?_⟩
  · by_cases q : x = v
    · subst q; rw [updN_eq]; split <;> omega
    · rw [updN_ne q]; exact h3 x hx hT
  · have hsrc : ∀ u, u < 20 → ∀ s, s < 4 → nbo u s = some x → Dn' u s = true → u ≠ v := fun u hu s hs hbx hd q => by
      rcases hD1 u s hd with z | ⟨z, -⟩
      · exact hne u (hDS u hu s hs x z hbx).1 q
      · exact hne c hSc (z ▸ q)
    obtain ⟨⟨u, s, g1, g2, g3, g4, g5, g6⟩, g7, g8⟩ := h4 hp x hx hxa hT
    by_cases q : x = v
    · subst q
      have hu9 := hne u (hDS u g1 s g2 x g4 g3).1
      refine ⟨?_, fun u hu s hs hbx hd e => ?_, ?_⟩
      · by_cases y : L c + w2 x < L x
        · exact ⟨c, s1, hc, hs1, hb, hD3, hl.symm, by rw [updN_eq, if_pos y, updN_ne (hne c hSc)]⟩
        · exact ⟨u, s, g1, g2, g3, hD2 u s g4, g5, by rw [updN_eq, if_neg y, updN_ne hu9]; exact g6⟩
      · have hux := hsrc u hu s hs hbx hd
        rw [updN_eq, updN_ne hux]
        rcases hD1 u s hd with z | ⟨rfl, rfl⟩
        · have := g7 u hu s hs hbx z e
          split <;> omega
        · split <;> omega
      · rw [upd_eq, g8]
        refine (sm_add (s0 := bk4 s1) (bk4_lt s1) (fun s hs z => ?_) ?_).symm
        · refine trD_eq (fun u hbx => ?_)
          have e1 := nbo_back hx hs hbx
          have hu := nbo_lt hx hbx
          have e2 : Dn' u (bk4 s) = true ↔ Dn u (bk4 s) = true := ⟨fun y => by
            rcases hD1 u _ y with z2 | ⟨rfl, z2⟩
            · exact z2
            · exact absurd (by rw [← z2, bk4_bk4 hs]) z, fun y => hD2 u _ y⟩
          refine ⟨⟨fun y => ⟨e2.mp y.1, y.2⟩, fun y => ⟨e2.mpr y.1, y.2⟩⟩, fun y _ => ?_⟩
          exact upd_ne (hne u (hDS u hu _ (bk4_lt s) x y e1).1)
        · rw [trD_s (nbo_back hc hs1 hb), trD_s (nbo_back hc hs1 hb), bk4_bk4 hs1, if_pos ⟨hD3, hl⟩, if_neg (fun y => by rw [hD4] at y; exact absurd y.1 (by decide)), upd_ne (hne c hSc)]
          exact (Int32.zero_add _).symm
    · refine ⟨⟨u, s, g1, g2, g3, hD2 u s g4, g5, ?_⟩, fun u hu s hs hbx hd e => ?_, ?_⟩
      · rw [updN_ne q, updN_ne (hne u (hDS u g1 s g2 x g4 g3).1)]; exact g6
      · have hu9 := hsrc u hu s hs hbx hd
        rw [updN_ne q, updN_ne hu9]
        rcases hD1 u s hd with z | ⟨rfl, rfl⟩
        · exact g7 u hu s hs hbx z e
        · rw [hb] at hbx; cases hbx; exact absurd rfl q
      · rw [upd_ne q, g8]
        refine (sm_congr (fun s hs => trD_eq (fun u hbx => ?_))).symm
        have e1 := nbo_back hx hs hbx
        have hu := nbo_lt hx hbx
        refine ⟨⟨fun y => ⟨?_, y.2⟩, fun y => ⟨hD2 u _ y.1, y.2⟩⟩, fun y _ => upd_ne (hne u (hDS u hu _ (bk4_lt s) x y e1).1)⟩
        rcases hD1 u _ y.1 with z2 | ⟨rfl, z2⟩
        · exact z2
        · rw [z2, hb] at e1; cases e1; exact absurd rfl q
theorem LNI.fin {w1 w2 : Nat → Nat} {a K : Nat} {S : Nat → Bool} {Dn : Nat → Nat → Bool} {T L rk : Nat → Nat} {N : Nat → Int32} (hp : ∀ c, c < 20 → 1 ≤ w1 c) (h : LNI w1 w2 a K Dn T L N) (hT : DT w1 a 20 S Dn T rk) (hD : ∀ u, u < 20 → S u = true → ∀ s, s < 4 → Dn u s = true) (ha : a < 20) : SolK w1 w2 a T L ∧ N a = nI 1 ∧ ∀ v, v < 20 → v ≠ a → N v = psm w1 T N v 4 := by
  obtain ⟨h1, h2, h3, h4, h5, h6, h7, h8⟩ := hT
  have hall := cS_all h8
  have hd : ∀ u, u < 20 → ∀ s, s < 4 → Dn u s = true := fun u hu s hs => hD u hu (hall u hu) s hs
  obtain ⟨g1, g2, g3, g4⟩ := h
  refine ⟨⟨h1, g1, fun u hu s hs v hb => ?_, fun v hv hva => ?_⟩, g2, fun v hv hva => ?_⟩
  · have hv := nbo_lt hu hb
    have q1 := (h5 u hu s hs v (hd u hu s hs) hb).2
    by_cases z : T v < T u + w1 v
    · exact Or.inl z
    · right
      have e : T v = T u + w1 v := by omega
      refine ⟨e, ?_⟩
      by_cases hva : v = a
      · subst hva; have := hp v hv; omega
      · exact (g4 hp v hv hva (h3 v hv (hall v hv)).1).2.1 u hu s hs hb (hd u hu s hs) e.symm
  · obtain ⟨⟨u, s, q1, q2, q3, q4, q5, q6⟩, -, -⟩ := g4 hp v hv hva (h3 v hv (hall v hv)).1
    exact ⟨u, s, q1, q2, q3, q5, q6⟩
  · rw [(g4 hp v hv hva (h3 v hv (hall v hv)).1).2.2]
    have key : ∀ n, n ≤ 4 → sm (trD w1 T N Dn v) n = psm w1 T N v n := by
      intro n
      induction n with
      | zero => intro _; rfl
      | succ n ih =>
        intro hn
        show sm _ n + trD w1 T N Dn v n = psm w1 T N v n + trm w1 T N v n
        rw [ih (by omega)]
        congr 1
        cases hb : nbo v n with
        | none => rw [trD_n hb]; unfold trm; rw [hb]
        | some u =>
          rw [trD_s hb]; unfold trm; rw [hb]
          show _ = if T u + w1 v = T v then N u else nI 0
          by_cases q : T u + w1 v = T v
          · rw [if_pos q, if_pos ⟨hd u (nbo_lt hv hb) _ (bk4_lt n), q⟩]
          · rw [if_neg q, if_neg (fun z => q z.2)]
    exact key 4 (Nat.le_refl _)
