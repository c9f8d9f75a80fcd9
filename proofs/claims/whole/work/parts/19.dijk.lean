/-! ===== the nearest first: cells settled one by one ===== -/
def cS (S : Nat → Bool) (n : Nat) : Nat := sumN (fun v => if S v = true then 1 else 0) n
def updB (S : Nat → Bool) (c : Nat) : Nat → Bool := fun v => if v = c then true else S v
theorem updB_eq (S : Nat → Bool) (c : Nat) : updB S c c = true := if_pos rfl
theorem updB_ne {S : Nat → Bool} {c v : Nat} (h : v ≠ c) : updB S c v = S v := if_neg h
theorem cS_upd {S : Nat → Bool} {c : Nat} (hc : c < 20) (h : S c = false) : cS (updB S c) 20 = cS S 20 + 1 := by
  have h1 := sumN_upd (f := fun v => if S v = true then 1 else 0) (g := fun v => if updB S c v = true then 1 else 0) (v := c) (n := 20) hc (fun j _ hj => by
    show (if updB S c j = true then 1 else 0) = _
    rw [updB_ne hj])
  rw [h, updB_eq, if_neg (by decide), if_pos rfl] at h1
  unfold cS; omega
theorem cS_all {S : Nat → Bool} (h : cS S 20 = 20) : ∀ v, v < 20 → S v = true := by
  intro v hv
  cases q : S v with
  | true => rfl
  | false =>
    have h1 := cS_upd hv q
    have h2 : cS (updB S v) 20 ≤ 1 * 20 := sumN_le (fun j _ => by split <;> omega)
    omega
theorem cS_ex {S : Nat → Bool} (h : cS S 20 < 20) : ∃ v, v < 20 ∧ S v = false := by
  by_cases q : ∃ v, v < 20 ∧ S v = false
  · exact q
  · have h1 : cS S 20 = cS (fun _ => true) 20 := sumN_congr (fun j hj => by
      have : S j = true := by
        cases z : S j with
        | true => rfl
        | false => exact absurd ⟨j, hj, z⟩ q
      rw [this])
    have h2 : cS (fun _ => true) 20 = 20 := by decide
    omega
theorem minU {S : Nat → Bool} {T : Nat → Nat} : ∀ n, (∃ v, v < 20 ∧ S v = false ∧ T v ≤ n) → ∃ c, c < 20 ∧ S c = false ∧ ∀ v, v < 20 → S v = false → T c ≤ T v
  | 0, ⟨v, h1, h2, h3⟩ => ⟨v, h1, h2, fun _ _ _ => by omega⟩
  | n + 1, ⟨v, h1, h2, h3⟩ => by
    by_cases q : ∃ v, v < 20 ∧ S v = false ∧ T v ≤ n
    · exact minU n q
    · refine ⟨v, h1, h2, fun x hx hs => ?_⟩
      by_cases z : T x ≤ n
      · exact absurd ⟨x, hx, hs, z⟩ q
      · omega
def DT (w : Nat → Nat) (a k : Nat) (S : Nat → Bool) (Dn : Nat → Nat → Bool) (T rk : Nat → Nat) : Prop :=
  T a = 0 ∧ (∀ v, v < 20 → T v = 1000000 ∨ T v ≤ 30 * k) ∧ (∀ v, v < 20 → S v = true → T v ≠ 1000000 ∧ rk v < k) ∧
  (∀ u, u < 20 → ∀ v, v < 20 → S u = true → S v = false → T u ≤ T v) ∧
  (∀ u, u < 20 → ∀ s, s < 4 → ∀ v, Dn u s = true → nbo u s = some v → S u = true ∧ T v ≤ T u + w v) ∧
  (∀ v, v < 20 → v ≠ a → T v ≠ 1000000 → ∃ u s, u < 20 ∧ s < 4 ∧ nbo u s = some v ∧ S u = true ∧ Dn u s = true ∧ T v = T u + w v ∧ (S v = true → rk u < rk v)) ∧
  (0 < k → S a = true ∧ rk a = 0) ∧ cS S 20 = k
theorem DT.congr {w : Nat → Nat} {a k : Nat} {S : Nat → Bool} {Dn Dn' : Nat → Nat → Bool} {T rk : Nat → Nat} (h : DT w a k S Dn T rk) (hD : ∀ u, u < 20 → ∀ s, s < 4 → Dn' u s = Dn u s) : DT w a k S Dn' T rk := by
  obtain ⟨h1, h2, h3, h4, h5, h6, h7, h8⟩ := h
  refine ⟨h1, h2, h3, h4, fun u hu s hs v hd => h5 u hu s hs v (by rw [← hD u hu s hs]; exact hd), fun v hv hva hT => ?_, h7, h8⟩
  obtain ⟨u, s, g1, g2, g3, g4, g5, g6⟩ := h6 v hv hva hT
  exact ⟨u, s, g1, g2, g3, g4, by rw [hD u g1 s g2]; exact g5, g6⟩
theorem DT.init {w : Nat → Nat} {a : Nat} {S : Nat → Bool} {Dn : Nat → Nat → Bool} {T rk : Nat → Nat} (hT : ∀ v, v < 20 → T v = iniT a v) (ha : a < 20) (hS : ∀ v, v < 20 → S v = false) (hD : ∀ u, u < 20 → ∀ s, s < 4 → Dn u s = false) : DT w a 0 S Dn T rk := by
  refine ⟨by rw [hT a ha]; exact if_pos rfl, fun v hv => ?_, fun v hv h => ?_, fun u hu v hv h => ?_, fun u hu s hs v h => ?_, fun v hv hva h => ?_, fun h => absurd h (by decide), ?_⟩
  · rw [hT v hv]; unfold iniT; split
    · right; omega
    · left; rfl
  · rw [hS v hv] at h; cases h
  · rw [hS u hu] at h; cases h
  · rw [hD u hu s hs] at h; cases h
  · exact absurd (by rw [hT v hv]; exact if_neg hva) h
  · have : cS S 20 = cS (fun _ => false) 20 := sumN_congr (fun j hj => by rw [hS j hj])
    rw [this]; decide
/-- of the unsettled cells a nearest one is reached already -/
theorem DT.reach {w : Nat → Nat} {a k c : Nat} {S : Nat → Bool} {Dn : Nat → Nat → Bool} {T rk : Nat → Nat} (hw : ∀ c, c < 20 → w c ≤ 30) (h : DT w a k S Dn T rk) (ha : a < 20) (hk : k < 20) (hD : ∀ u, u < 20 → S u = true → ∀ s, s < 4 → Dn u s = true) (hc : c < 20) (hSc : S c = false) (hmin : ∀ v, v < 20 → S v = false → T c ≤ T v) : T c ≤ 30 * k ∧ (k = 0 → c = a) := by
  obtain ⟨h1, h2, h3, h4, h5, h6, h7, h8⟩ := h
  by_cases hk0 : k = 0
  · subst hk0
    have hS0 : ∀ v, v < 20 → S v = false := by
      intro v hv
      cases q : S v with
      | false => rfl
      | true => have := (h3 v hv q).2; omega
    have h9 := hmin a ha (hS0 a ha)
    have h10 : c = a := by
      by_cases q : c = a
      · exact q
      · obtain ⟨u, s, g1, g2, g3, g4, -⟩ := h6 c hc q (by omega)
        rw [hS0 u g1] at g4; cases g4
    exact ⟨by omega, fun _ => h10⟩
  · refine ⟨?_, fun q => absurd q hk0⟩
    rcases h2 c hc with q | q
    · exfalso
      have hall : ∀ v, v < 20 → S v = true := by
        refine grid_all (P := fun v => S v = true) (fun u hu s hs v hb hSu => ?_) ha (h7 (by omega)).1
        show S v = true
        cases z : S v with
        | true => rfl
        | false =>
          have g1 := (h5 u hu s hs v (hD u hu hSu s hs) hb).2
          have g2 := hmin v (nbo_lt hu hb) z
          have g3 := (h3 u hu hSu).1
          have g4 := h2 u hu
          have g5 := hw v (nbo_lt hu hb)
          omega
      rw [hall c hc] at hSc; cases hSc
    · exact q
theorem DT.settle {w : Nat → Nat} {a k c : Nat} {S : Nat → Bool} {Dn : Nat → Nat → Bool} {T rk : Nat → Nat} (hw : ∀ c, c < 20 → w c ≤ 30) (h : DT w a k S Dn T rk) (ha : a < 20) (hk : k < 20) (hD : ∀ u, u < 20 → S u = true → ∀ s, s < 4 → Dn u s = true) (hc : c < 20) (hSc : S c = false) (hmin : ∀ v, v < 20 → S v = false → T c ≤ T v) :
    DT w a (k + 1) (updB S c) Dn T (updN rk c k) ∧ T c + 30 ≤ 30 * (k + 1) ∧ ∀ u, u < 20 → updB S c u = true → T u ≤ T c := by
  have hr := DT.reach hw h ha hk hD hc hSc hmin
  obtain ⟨h1, h2, h3, h4, h5, h6, h7, h8⟩ := h
  have hne : ∀ u, S u = true → u ≠ c := fun u hu q => by subst q; rw [hSc] at hu; cases hu
  refine ⟨⟨h1, fun v hv => ?_, fun v hv hS => ?_, fun u hu v hv hSu hSv => ?_, fun u hu s hs v hd hb => ?_, fun v hv hva hT => ?_, fun _ => ?_, by rw [cS_upd hc hSc, h8]⟩, by omega, fun u hu hSu => ?_⟩
  · rcases h2 v hv with q | q
    · exact Or.inl q
    · exact Or.inr (by omega)
  · by_cases q : v = c
    · subst q; rw [updN_eq]; exact ⟨by omega, by omega⟩
    · rw [updB_ne q] at hS; rw [updN_ne q]
      have := h3 v hv hS
      exact ⟨this.1, by omega⟩
  · have hvc : v ≠ c := fun q => by subst q; rw [updB_eq] at hSv; cases hSv
    rw [updB_ne hvc] at hSv
    by_cases q : u = c
    · subst q; exact hmin v hv hSv
    · rw [updB_ne q] at hSu; exact h4 u hu v hv hSu hSv
  · have g := h5 u hu s hs v hd hb
    exact ⟨by rw [updB_ne (hne u g.1)]; exact g.1, g.2⟩
  · obtain ⟨u, s, g1, g2, g3, g4, g5, g6, g7⟩ := h6 v hv hva hT
    refine ⟨u, s, g1, g2, g3, by rw [updB_ne (hne u g4)]; exact g4, g5, g6, fun hS => ?_⟩
    rw [updN_ne (hne u g4)]
    by_cases q : v = c
    · subst q; rw [updN_eq]; exact (h3 u g1 g4).2
    · rw [updN_ne q]; rw [updB_ne q] at hS; exact g7 hS
  · by_cases hk0 : k = 0
    · have := hr.2 hk0
      subst this; rw [updB_eq, updN_eq]; exact ⟨rfl, hk0⟩
    · have g := h7 (by omega)
      rw [updB_ne (hne a g.1), updN_ne (hne a g.1)]; exact g
  · by_cases q : u = c
    · subst q; exact Nat.le_refl _
    · rw [updB_ne q] at hSu; exact h4 u hu c hc hSu hSc
/-- an edge of the cell that was settled last, looked at -/
theorem DT.keep {w : Nat → Nat} {a k c s1 : Nat} {S : Nat → Bool} {Dn Dn' : Nat → Nat → Bool} {T rk : Nat → Nat} (h : DT w a k S Dn T rk) (hD1 : ∀ u s, Dn' u s = true → Dn u s = true ∨ (u = c ∧ s = s1)) (hD2 : ∀ u s, Dn u s = true → Dn' u s = true) (hSc : S c = true) (he : ∀ v, nbo c s1 = some v → T v ≤ T c + w v) : DT w a k S Dn' T rk := by
  obtain ⟨h1, h2, h3, h4, h5, h6, h7, h8⟩ := h
  refine ⟨h1, h2, h3, h4, fun u hu s hs v hd hb => ?_, fun v hv hva hT => ?_, h7, h8⟩
  · rcases hD1 u s hd with q | ⟨rfl, rfl⟩
    · exact h5 u hu s hs v q hb
    · exact ⟨hSc, he v hb⟩
  · obtain ⟨u, s, g1, g2, g3, g4, g5, g6⟩ := h6 v hv hva hT
    exact ⟨u, s, g1, g2, g3, g4, hD2 u s g5, g6⟩
theorem DT.less {w : Nat → Nat} {a k c s1 v : Nat} {S : Nat → Bool} {Dn Dn' : Nat → Nat → Bool} {T rk : Nat → Nat} (hw : ∀ c, c < 20 → w c ≤ 30) (h : DT w a k S Dn T rk) (hk : 0 < k) (hk2 : k ≤ 20) (hc : c < 20) (hs1 : s1 < 4) (hD1 : ∀ u s, Dn' u s = true → Dn u s = true ∨ (u = c ∧ s = s1)) (hD2 : ∀ u s, Dn u s = true → Dn' u s = true) (hD3 : Dn' c s1 = true) (hSc : S c = true) (hcb : T c + 30 ≤ 30 * k) (hmax : ∀ u, u < 20 → S u = true → T u ≤ T c)
    (hb : nbo c s1 = some v) (hSv : S v = false) (hl : T c + w v < T v) : DT w a k S Dn' (updN T v (T c + w v)) rk := by
  obtain ⟨h1, h2, h3, h4, h5, h6, h7, h8⟩ := h
  have hv := nbo_lt hc hb
  have hwv := hw v hv
  have hne : ∀ u, S u = true → u ≠ v := fun u hu q => by subst q; rw [hSv] at hu; cases hu
  refine ⟨by rw [updN_ne (hne a (h7 hk).1)]; exact h1, fun x hx => ?_, fun x hx hS => ?_, fun u hu x hx hSu hSx => ?_, fun u hu s hs x hd hb2 => ?_, fun x hx hxa hT => ?_, h7, h8⟩
  · by_cases q : x = v
    · subst q; rw [updN_eq]; right; omega
    · rw [updN_ne q]; exact h2 x hx
  · rw [updN_ne (hne x hS)]; exact h3 x hx hS
  · rw [updN_ne (hne u hSu)]
    by_cases q : x = v
    · subst q; rw [updN_eq]; have := hmax u hu hSu; omega
    · rw [updN_ne q]; exact h4 u hu x hx hSu hSx
  · rcases hD1 u s hd with q | ⟨rfl, rfl⟩
    · have g := h5 u hu s hs x q hb2
      rw [updN_ne (hne u g.1)]
      refine ⟨g.1, ?_⟩
      by_cases z : x = v
      · subst z; rw [updN_eq]; omega
      · rw [updN_ne z]; exact g.2
    · rw [hb] at hb2; cases hb2
      rw [updN_eq, updN_ne (hne u hSc)]; exact ⟨hSc, Nat.le_refl _⟩
  · by_cases q : x = v
    · subst q
      refine ⟨c, s1, hc, hs1, hb, hSc, hD3, ?_, fun hS => ?_⟩
      · rw [updN_eq, updN_ne (hne c hSc)]
      · rw [hSv] at hS; cases hS
    · rw [updN_ne q] at hT ⊢
      obtain ⟨u, s, g1, g2, g3, g4, g5, g6, g7⟩ := h6 x hx hxa hT
      exact ⟨u, s, g1, g2, g3, g4, hD2 u s g5, by rw [updN_ne (hne u g4)]; exact g6, g7⟩
/-! ===== least toils ===== -/
def SolO (w : Nat → Nat) (a : Nat) (T : Nat → Nat) : Prop :=
  T a = 0 ∧ (∀ u, u < 20 → ∀ s, s < 4 → ∀ v, nbo u s = some v → T v ≤ T u + w v) ∧
  ∃ rk : Nat → Nat, rk a = 0 ∧ (∀ v, v < 20 → rk v < 20) ∧ ∀ v, v < 20 → v ≠ a → ∃ u s, u < 20 ∧ s < 4 ∧ nbo u s = some v ∧ rk u < rk v ∧ T v = T u + w v
theorem DT.fin {w : Nat → Nat} {a : Nat} {S : Nat → Bool} {Dn : Nat → Nat → Bool} {T rk : Nat → Nat} (h : DT w a 20 S Dn T rk) (hD : ∀ u, u < 20 → S u = true → ∀ s, s < 4 → Dn u s = true) : SolO w a T := by
  obtain ⟨h1, h2, h3, h4, h5, h6, h7, h8⟩ := h
  have hall := cS_all h8
  refine ⟨h1, fun u hu s hs v hb => (h5 u hu s hs v (hD u hu (hall u hu) s hs) hb).2, rk, (h7 (by decide)).2, fun v hv => (h3 v hv (hall v hv)).2, fun v hv hva => ?_⟩
  obtain ⟨u, s, g1, g2, g3, g4, g5, g6, g7⟩ := h6 v hv hva (h3 v hv (hall v hv)).1
  exact ⟨u, s, g1, g2, g3, g7 (hall v hv), g6⟩
theorem SolO.le {w : Nat → Nat} {a : Nat} {T T' : Nat → Nat} (h : SolO w a T) (h' : SolO w a T') {v : Nat} (hv : v < 20) : T' v ≤ T v := by
  obtain ⟨h1, h2, rk, h3, h4, h5⟩ := h
  have key : ∀ n v, v < 20 → rk v = n → T' v ≤ T v := by
    intro n
    induction n using Nat.strongRecOn with
    | ind n ih =>
      intro v hv hn
      by_cases q : v = a
      · subst q; have := h'.1; omega
      · obtain ⟨u, s, g1, g2, g3, g4, g5⟩ := h5 v hv q
        have g6 := ih (rk u) (by omega) u g1 rfl
        have g7 := h'.2.1 u g1 s g2 v g3
        omega
  exact key _ v hv rfl
theorem SolO.eq {w : Nat → Nat} {a : Nat} {T T' : Nat → Nat} (h : SolO w a T) (h' : SolO w a T') {v : Nat} (hv : v < 20) : T v = T' v := Nat.le_antisymm (SolO.le h' h hv) (SolO.le h h' hv)
noncomputable def dOw (w : Nat → Nat) (a : Nat) : Nat → Nat := Classical.epsilon (fun T : Nat → Nat => SolO w a T)
noncomputable def dO (kd fg : Nat → Nat) (a : Nat) : Nat → Nat := dOw (tw kd fg) a
theorem dOw_sol {w : Nat → Nat} {a : Nat} {T : Nat → Nat} (h : SolO w a T) : SolO w a (dOw w a) := Classical.epsilon_spec (p := fun T : Nat → Nat => SolO w a T) ⟨T, h⟩
theorem SolO.d {kd fg : Nat → Nat} {a : Nat} {T : Nat → Nat} (h : SolO (tw kd fg) a T) {v : Nat} (hv : v < 20) : T v = dO kd fg a v := SolO.eq h (dOw_sol h) hv
/-- one edge more, whatever it does -/
theorem DT.edge {w : Nat → Nat} {a k c s1 : Nat} {S : Nat → Bool} {Dn Dn' : Nat → Nat → Bool} {T rk : Nat → Nat} (hw : ∀ c, c < 20 → w c ≤ 30) (h : DT w a k S Dn T rk) (hk : 0 < k) (hk2 : k ≤ 20) (hc : c < 20) (hs1 : s1 < 4) (hD1 : ∀ u s, Dn' u s = true → Dn u s = true ∨ (u = c ∧ s = s1)) (hD2 : ∀ u s, Dn u s = true → Dn' u s = true) (hD3 : Dn' c s1 = true) (hSc : S c = true) (hcb : T c + 30 ≤ 30 * k) (hmax : ∀ u, u < 20 → S u = true → T u ≤ T c) :
    ∃ T', DT w a k S Dn' T' rk ∧ T' c = T c ∧ ∀ u, u < 20 → S u = true → T' u ≤ T' c := by
  cases hb : nbo c s1 with
  | none => exact ⟨T, h.keep hD1 hD2 hSc (fun v hv => by rw [hb] at hv; cases hv), rfl, hmax⟩
  | some v =>
    cases hSv : S v with
    | true => exact ⟨T, h.keep hD1 hD2 hSc (fun v' hv' => by rw [hb] at hv'; cases hv'; have := hmax v (nbo_lt hc hb) hSv; omega), rfl, hmax⟩
    | false =>
      have hvc : c ≠ v := fun q => by subst q; rw [hSv] at hSc; cases hSc
      by_cases q : T c + w v < T v
      · refine ⟨_, h.less hw hk hk2 hc hs1 hD1 hD2 hD3 hSc hcb hmax hb hSv q, updN_ne hvc, fun u hu hSu => ?_⟩
        have : u ≠ v := fun q => by subst q; rw [hSv] at hSu; cases hSu
        rw [updN_ne this, updN_ne hvc]; exact hmax u hu hSu
      · exact ⟨T, h.keep hD1 hD2 hSc (fun v' hv' => by rw [hb] at hv'; cases hv'; omega), rfl, hmax⟩
def dnJ (S : Nat → Bool) (c j : Nat) (u s : Nat) : Bool := S u || (decide (u = c) && decide (s < j))
theorem dnJ_1 {S : Nat → Bool} {c j : Nat} : ∀ u s, dnJ S c (j + 1) u s = true → dnJ S c j u s = true ∨ (u = c ∧ s = j) := fun u s h => by
  unfold dnJ at *
  cases z : S u with
  | true => left; rfl
  | false =>
    rw [z, Bool.false_or, Bool.and_eq_true] at h
    have h1 := of_decide_eq_true h.1
    have h2 := of_decide_eq_true h.2
    by_cases q : s = j
    · exact Or.inr ⟨h1, q⟩
    · left; rw [Bool.false_or, decide_eq_true h1, decide_eq_true (show s < j by omega)]; rfl
theorem dnJ_2 {S : Nat → Bool} {c j : Nat} : ∀ u s, dnJ S c j u s = true → dnJ S c (j + 1) u s = true := fun u s h => by
  unfold dnJ at *
  rw [Bool.or_eq_true] at *
  rcases h with h | h
  · exact Or.inl h
  · rw [Bool.and_eq_true] at h
    right; rw [Bool.and_eq_true]
    exact ⟨h.1, decide_eq_true (by have := of_decide_eq_true h.2; omega)⟩
theorem dnJ_3 {S : Nat → Bool} {c j : Nat} : dnJ S c (j + 1) c j = true := by
  unfold dnJ; rw [decide_eq_true rfl, decide_eq_true (Nat.lt_succ_self j), Bool.and_true, Bool.or_true]
theorem ex_SolO {w : Nat → Nat} (hw : ∀ c, c < 20 → w c ≤ 30) {a : Nat} (ha : a < 20) : ∃ T, SolO w a T := by
  have key : ∀ k, k ≤ 20 → ∃ S T rk, DT w a k S (fun u _ => S u) T rk := by
    intro k
    induction k with
    | zero => exact fun _ => ⟨fun _ => false, iniT a, fun _ => 0, DT.init (fun _ _ => rfl) ha (fun _ _ => rfl) (fun _ _ _ _ => rfl)⟩
    | succ k ih =>
      intro hk
      obtain ⟨S, T, rk, h⟩ := ih (by omega)
      obtain ⟨x, hx, hSx⟩ := cS_ex (S := S) (by have := h.2.2.2.2.2.2.2; omega)
      obtain ⟨c, hc, hSc, hmin⟩ := minU (S := S) (T := T) (T x) ⟨x, hx, hSx, Nat.le_refl _⟩
      obtain ⟨g1, g2, g3⟩ := h.settle hw ha (by omega) (fun u _ hS s _ => hS) hc hSc hmin
      have g4 : DT w a (k + 1) (updB S c) (dnJ S c 0) T (updN rk c k) := g1.congr (fun u _ s _ => by unfold dnJ; simp)
      have step : ∀ j, j ≤ 4 → ∃ T', DT w a (k + 1) (updB S c) (dnJ S c j) T' (updN rk c k) ∧ T' c = T c ∧ ∀ u, u < 20 → updB S c u = true → T' u ≤ T' c := by
        intro j
        induction j with
        | zero => exact fun _ => ⟨T, g4, rfl, g3⟩
        | succ j ihj =>
          intro hj
          obtain ⟨T1, q1, q2, q3⟩ := ihj (by omega)
          obtain ⟨T2, r1, r2, r3⟩ := q1.edge hw (by omega) (by omega) hc (show j < 4 by omega) dnJ_1 dnJ_2 dnJ_3 (updB_eq _ _) (by omega) q3
          exact ⟨T2, r1, by omega, r3⟩
      obtain ⟨T', q1, -, -⟩ := step 4 (Nat.le_refl _)
      refine ⟨updB S c, T', updN rk c k, q1.congr (fun u _ s hs => ?_)⟩
      unfold dnJ updB
      by_cases q : u = c
      · rw [if_pos q, decide_eq_true q, decide_eq_true hs]; simp
      · rw [if_neg q, decide_eq_false q]; simp
  obtain ⟨S, T, rk, h⟩ := key 20 (Nat.le_refl _)
  exact ⟨T, h.fin (fun u _ hS s _ => hS)⟩
theorem tw_le {kd fg pl : Nat → Nat} (ho : okM kd fg pl) : ∀ c, c < 20 → tw kd fg c ≤ 30 := fun c hc => toilN_le (ho.1 c hc).2
theorem dO_sol {kd fg pl : Nat → Nat} (ho : okM kd fg pl) {a : Nat} (ha : a < 20) : SolO (tw kd fg) a (dO kd fg a) := by
  obtain ⟨T, h⟩ := ex_SolO (tw_le ho) ha
  exact dOw_sol h
