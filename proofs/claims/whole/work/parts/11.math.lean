/-! ===== sums ===== -/
theorem sumN_congr {f g : Nat → Nat} : ∀ {n : Nat}, (∀ j, j < n → f j = g j) → sumN f n = sumN g n
  | 0, _ => rfl
  | n + 1, h => by
    show sumN f n + f n = sumN g n + g n
    rw [sumN_congr (n := n) (fun j hj => h j (by omega)), h n (by omega)]
theorem sumN_upd {f g : Nat → Nat} {v : Nat} : ∀ {n : Nat}, v < n → (∀ j, j < n → j ≠ v → g j = f j) → sumN g n + f v = sumN f n + g v
  | 0, h, _ => absurd h (by omega)
  | n + 1, h, hg => by
    show sumN g n + g n + f v = sumN f n + f n + g v
    by_cases hv : v = n
    · subst hv
      have := sumN_congr (f := g) (g := f) (n := v) (fun j hj => hg j (by omega) (by omega))
      omega
    · have h1 := sumN_upd (f := f) (g := g) (v := v) (n := n) (by omega) (fun j hj hjv => hg j (by omega) hjv)
      have h2 := hg n (by omega) (by omega)
      omega
theorem sumN_le {f : Nat → Nat} {b : Nat} : ∀ {n : Nat}, (∀ j, j < n → f j ≤ b) → sumN f n ≤ b * n
  | 0, _ => by simp [sumN]
  | n + 1, h => by
    show sumN f n + f n ≤ b * (n + 1)
    have h1 := sumN_le (f := f) (b := b) (n := n) (fun j hj => h j (by omega))
    have h2 := h n (by omega)
    rw [Nat.mul_add]; omega
/-! ===== the neighbours ===== -/
theorem nbo_ne {u s v : Nat} (hu : u < 20) (h : nbo u s = some v) : v ≠ u := by
  unfold nbo at h
  repeat' split at h
  all_goals first | (cases h; omega) | cases h
theorem nbo_0 {c : Nat} (h : 5 ≤ c) : nbo c 0 = some (c - 5) := by simp [nbo, h]
theorem nbo_1 {c : Nat} (h : c % 5 < 4) : nbo c 1 = some (c + 1) := by simp [nbo, h]
theorem nbo_2 {c : Nat} (h : c < 15) : nbo c 2 = some (c + 5) := by simp [nbo, h]
theorem nbo_3 {c : Nat} (h : 0 < c % 5) : nbo c 3 = some (c - 1) := by simp [nbo, h]
/-- the side back -/
def bk4 (s : Nat) : Nat := (s + 2) % 4
theorem nbo_back {u s v : Nat} (hu : u < 20) (hs : s < 4) (h : nbo u s = some v) : nbo v (bk4 s) = some u := by
  rcases (show s = 0 ∨ s = 1 ∨ s = 2 ∨ s = 3 by omega) with rfl | rfl | rfl | rfl
  · simp [nbo] at h; obtain ⟨h1, rfl⟩ := h
    show nbo (u - 5) 2 = some u
    rw [nbo_2 (by omega)]; congr 1; omega
  · simp [nbo] at h; obtain ⟨h1, rfl⟩ := h
    show nbo (u + 1) 3 = some u
    rw [nbo_3 (by omega)]; congr 1
  · simp [nbo] at h; obtain ⟨h1, rfl⟩ := h
    show nbo (u + 5) 0 = some u
    rw [nbo_0 (by omega)]; congr 1
  · simp [nbo] at h; obtain ⟨h1, rfl⟩ := h
    show nbo (u - 1) 1 = some u
    rw [nbo_1 (by omega)]; congr 1; omega
theorem bk4_lt (s : Nat) : bk4 s < 4 := Nat.mod_lt _ (by decide)
theorem nbo_inj {u s s' v : Nat} (hu : u < 20) (hs : s < 4) (hs' : s' < 4) (h : nbo u s = some v) (h' : nbo u s' = some v) : s = s' := by
  rcases (show s = 0 ∨ s = 1 ∨ s = 2 ∨ s = 3 by omega) with rfl | rfl | rfl | rfl <;>
  rcases (show s' = 0 ∨ s' = 1 ∨ s' = 2 ∨ s' = 3 by omega) with rfl | rfl | rfl | rfl <;>
  (simp [nbo] at h h'; omega)
/-- what goes over to neighbours goes to all -/
theorem grid {P : Nat → Prop} (hP : ∀ u, u < 20 → ∀ s, s < 4 → ∀ v, nbo u s = some v → P u → P v) : ∀ c, c < 20 → (P c → P 0) ∧ (P 0 → P c) := by
  intro c
  induction c using Nat.strongRecOn with
  | ind c ih =>
    intro hc
    by_cases h : 0 < c % 5
    · have h1 := ih (c - 1) (by omega) (by omega)
      have e1 := nbo_3 h
      have e2 : nbo (c - 1) 1 = some c := by rw [nbo_1 (by omega)]; congr 1; omega
      exact ⟨fun q => h1.1 (hP c hc 3 (by decide) _ e1 q), fun q => hP (c - 1) (by omega) 1 (by decide) _ e2 (h1.2 q)⟩
    · by_cases h2 : 5 ≤ c
      · have h1 := ih (c - 5) (by omega) (by omega)
        have e1 := nbo_0 h2
        have e2 : nbo (c - 5) 2 = some c := by rw [nbo_2 (by omega)]; congr 1; omega
        exact ⟨fun q => h1.1 (hP c hc 0 (by decide) _ e1 q), fun q => hP (c - 5) (by omega) 2 (by decide) _ e2 (h1.2 q)⟩
      · have : c = 0 := by omega
        subst this
        exact ⟨id, id⟩
theorem grid_all {P : Nat → Prop} (hP : ∀ u, u < 20 → ∀ s, s < 4 → ∀ v, nbo u s = some v → P u → P v) {a : Nat} (ha : a < 20) (h : P a) : ∀ c, c < 20 → P c := fun c hc => (grid hP c hc).2 ((grid hP a ha).1 h)
/-! ===== times and losses ===== -/
def SolK (w1 w2 : Nat → Nat) (a : Nat) (T L : Nat → Nat) : Prop :=
  T a = 0 ∧ L a = 0 ∧ (∀ u, u < 20 → ∀ s, s < 4 → ∀ v, nbo u s = some v → T v < T u + w1 v ∨ (T v = T u + w1 v ∧ L v ≤ L u + w2 v)) ∧
  ∀ v, v < 20 → v ≠ a → ∃ u s, u < 20 ∧ s < 4 ∧ nbo u s = some v ∧ T v = T u + w1 v ∧ L v = L u + w2 v
theorem SolK.le {w1 w2 : Nat → Nat} {a : Nat} {T L T' L' : Nat → Nat} (hw : ∀ c, 1 ≤ w1 c) (h : SolK w1 w2 a T L) (h' : SolK w1 w2 a T' L') : ∀ n v, v < 20 → T v = n → T' v < T v ∨ (T' v = T v ∧ L' v ≤ L v) := by
  intro n
  induction n using Nat.strongRecOn with
  | ind n ih =>
    intro v hv hn
    by_cases hva : v = a
    · subst hva
      have h1 := h.1; have h2 := h.2.1; have h3 := h'.1; have h4 := h'.2.1
      omega
    · obtain ⟨u, s, hu, hs, hb, e1, e2⟩ := h.2.2.2 v hv hva
      have h1 := hw v
      have h2 := ih (T u) (by omega) u hu rfl
      have h3 := h'.2.2.1 u hu s hs v hb
      omega
theorem SolK.eq {w1 w2 : Nat → Nat} {a : Nat} {T L T' L' : Nat → Nat} (hw : ∀ c, 1 ≤ w1 c) (h : SolK w1 w2 a T L) (h' : SolK w1 w2 a T' L') {v : Nat} (hv : v < 20) : T v = T' v ∧ L v = L' v := by
  have h1 := SolK.le hw h h' _ v hv rfl
  have h2 := SolK.le hw h' h _ v hv rfl
  omega
noncomputable def dTL (w1 w2 : Nat → Nat) (a : Nat) : (Nat → Nat) × (Nat → Nat) := Classical.epsilon (fun p : (Nat → Nat) × (Nat → Nat) => SolK w1 w2 a p.1 p.2)
theorem dTL_sol {w1 w2 : Nat → Nat} {a : Nat} {T L : Nat → Nat} (h : SolK w1 w2 a T L) : SolK w1 w2 a (dTL w1 w2 a).1 (dTL w1 w2 a).2 := Classical.epsilon_spec (p := fun p : (Nat → Nat) × (Nat → Nat) => SolK w1 w2 a p.1 p.2) ⟨(T, L), h⟩
def sw (kd fg : Nat → Nat) (c : Nat) : Nat := slowN (kd c) (fg c)
def lw (kd fg : Nat → Nat) (c : Nat) : Nat := lossN (kd c) (fg c)
def tw (kd fg : Nat → Nat) (c : Nat) : Nat := toilN (kd c) (fg c)
noncomputable def dT (kd fg : Nat → Nat) (a : Nat) : Nat → Nat := (dTL (sw kd fg) (lw kd fg) a).1
noncomputable def dL (kd fg : Nat → Nat) (a : Nat) : Nat → Nat := (dTL (sw kd fg) (lw kd fg) a).2
theorem SolK.d {kd fg : Nat → Nat} {a : Nat} {T L : Nat → Nat} (h : SolK (sw kd fg) (lw kd fg) a T L) {v : Nat} (hv : v < 20) : T v = dT kd fg a v ∧ L v = dL kd fg a v := SolK.eq (fun c => slowN_pos _ _) h (dTL_sol h) hv
/-! ===== the reference's way to them: bettering till nothing changes ===== -/
def MU : Nat := 1000000
def cntM (T : Nat → Nat) : Nat := sumN (fun v => if T v = 1000000 then 1 else 0) 20
def muTL (T L : Nat → Nat) : Nat := sumN (fun v => T v * 2000001 + L v) 20
def JF (w1 w2 : Nat → Nat) (a : Nat) (T L : Nat → Nat) : Prop :=
  (T a = 0 ∧ L a = 0) ∧ (∀ v, v < 20 → T v = 1000000 ∨ T v + 26 * cntM T ≤ 494) ∧ (∀ v, v < 20 → (T v = 1000000 → L v = 1000000) ∧ (T v ≠ 1000000 → L v ≤ 14 * T v)) ∧
  ∀ v, v < 20 → v ≠ a → T v ≠ 1000000 → ∃ u s, u < 20 ∧ s < 4 ∧ nbo u s = some v ∧ T u ≠ 1000000 ∧ (T u + w1 v < T v ∨ (T u + w1 v = T v ∧ L u + w2 v ≤ L v))
def bett (w1 w2 T L : Nat → Nat) (u v : Nat) : Prop := T u + w1 v < T v ∨ (T u + w1 v = T v ∧ L u + w2 v < L v)
theorem JF.b {w1 w2 : Nat → Nat} {a : Nat} {T L : Nat → Nat} (h : JF w1 w2 a T L) {v : Nat} (hv : v < 20) : T v ≤ 1000000 ∧ L v ≤ 1000000 ∧ (T v < 1000000 → T v ≤ 494 ∧ L v ≤ 6916) := by
  have h1 := h.2.1 v hv
  have h2 := h.2.2.1 v hv
  refine ⟨by omega, ?_, fun q => ⟨by omega, ?_⟩⟩
  · rcases h1 with h1 | h1
    · have := h2.1 h1; omega
    · by_cases q : T v = 1000000
      · have := h2.1 q; omega
      · have := h2.2 q; omega
  · have := h2.2 (by omega); omega
theorem JF.init {w1 w2 : Nat → Nat} {a : Nat} (ha : a < 20) {T L : Nat → Nat} (hT : ∀ v, v < 20 → T v = if v = a then 0 else 1000000) (hL : ∀ v, v < 20 → L v = if v = a then 0 else 1000000) : JF w1 w2 a T L := by
  have hc : cntM T ≤ 19 := by
    have h1 := sumN_upd (f := fun _ => 1) (g := fun v => if T v = 1000000 then 1 else 0) (v := a) (n := 20) ha (fun j hj hja => by
      show (if T j = 1000000 then 1 else 0) = 1
      rw [hT j hj, if_neg hja]; rfl)
    have h2 : (if T a = 1000000 then 1 else 0) = 0 := by rw [hT a ha, if_pos rfl]; rfl
    have h3 : sumN (fun _ => 1) 20 = 20 := by decide
    unfold cntM
    rw [h2, h3] at h1
    omega
  refine ⟨⟨by rw [hT a ha, if_pos rfl], by rw [hL a ha, if_pos rfl]⟩, fun v hv => ?_, fun v hv => ?_, fun v hv hva hT' => ?_⟩
  · by_cases q : v = a
    · subst q; right; rw [hT v hv, if_pos rfl]; omega
    · left; rw [hT v hv, if_neg q]
  · by_cases q : v = a
    · subst q; rw [hT v hv, hL v hv, if_pos rfl]; exact ⟨fun h => absurd h (by decide), fun _ => by omega⟩
    · rw [hT v hv, hL v hv, if_neg q]; exact ⟨fun _ => rfl, fun h => absurd rfl h⟩
  · exact absurd (by rw [hT v hv, if_neg hva]) hT'
theorem JF.step {w1 w2 : Nat → Nat} {a : Nat} {T L : Nat → Nat} (hw : ∀ c, c < 20 → 1 ≤ w1 c ∧ w1 c ≤ 26 ∧ w2 c ≤ 14) (h : JF w1 w2 a T L) (ha : a < 20) {u s v : Nat} (hu : u < 20) (hs : s < 4) (hb : nbo u s = some v) (hM : T u < 1000000) (hbt : bett w1 w2 T L u v) :
    JF w1 w2 a (updN T v (T u + w1 v)) (updN L v (L u + w2 v)) ∧ muTL (updN T v (T u + w1 v)) (updN L v (L u + w2 v)) < muTL T L := by
  have hv := nbo_lt hu hb
  have hvu := nbo_ne hu hb
  have hw9 := hw v hv
  have hub := h.b hu
  have hvb := h.b hv
  have h7 := hub.2.2 hM
  have h2u := (h.2.2.1 u hu).2 (by omega)
  unfold bett at hbt
  have hva : v ≠ a := by
    intro q; subst q
    have := h.1
    omega
  have hcnt : sumN (fun x => if updN T v (T u + w1 v) x = 1000000 then 1 else 0) 20 + (if T v = 1000000 then 1 else 0) = sumN (fun x => if T x = 1000000 then 1 else 0) 20 + (if updN T v (T u + w1 v) v = 1000000 then 1 else 0) :=
    sumN_upd (f := fun x => if T x = 1000000 then 1 else 0) (g := fun x => if updN T v (T u + w1 v) x = 1000000 then 1 else 0) hv (fun j _ hj => by
      show (if updN T v _ j = 1000000 then 1 else 0) = _
      rw [updN_ne hj])
  rw [updN_eq, if_neg (show ¬ T u + w1 v = 1000000 by omega)] at hcnt
  have hu1 := h.2.1 u hu
  have hv1 := h.2.1 v hv
  refine ⟨⟨⟨by rw [updN_ne (Ne.symm hva)]; exact h.1.1, by rw [updN_ne (Ne.symm hva)]; exact h.1.2⟩, fun x hx => ?_, fun x hx => ?_, fun x hx hxa hxT => ?_⟩, ?_⟩
  · have hx1 := h.2.1 x hx
    unfold cntM at *
    by_cases q : x = v
    · subst q
      rw [updN_eq]; right
      by_cases q2 : T x = 1000000
      · rw [if_pos q2] at hcnt; omega
      · rw [if_neg q2] at hcnt; omega
    · rw [updN_ne q]
      by_cases q2 : T v = 1000000
      · rw [if_pos q2] at hcnt; omega
      · rw [if_neg q2] at hcnt; omega
  · by_cases q : x = v
    · subst q
      rw [updN_eq, updN_eq]; exact ⟨fun z => by omega, fun _ => by omega⟩
    · rw [updN_ne q, updN_ne q]; exact h.2.2.1 x hx
  · by_cases q : x = v
    · subst q
      refine ⟨u, s, hu, hs, hb, ?_, ?_⟩
      · rw [updN_ne (Ne.symm hvu)]; omega
      · rw [updN_ne (Ne.symm hvu), updN_ne (Ne.symm hvu), updN_eq, updN_eq]; omega
    · rw [updN_ne q] at hxT ⊢
      rw [updN_ne q]
      obtain ⟨u2, s2, g1, g2, g3, g4, g5⟩ := h.2.2.2 x hx hxa hxT
      refine ⟨u2, s2, g1, g2, g3, ?_, ?_⟩
      · by_cases q2 : u2 = v
        · subst q2; rw [updN_eq]; omega
        · rw [updN_ne q2]; exact g4
      · by_cases q2 : u2 = v
        · subst q2; rw [updN_eq, updN_eq]; omega
        · rw [updN_ne q2, updN_ne q2]; exact g5
  · have hmu : sumN (fun x => updN T v (T u + w1 v) x * 2000001 + updN L v (L u + w2 v) x) 20 + (T v * 2000001 + L v) = sumN (fun x => T x * 2000001 + L x) 20 + (updN T v (T u + w1 v) v * 2000001 + updN L v (L u + w2 v) v) :=
      sumN_upd (f := fun x => T x * 2000001 + L x) (g := fun x => updN T v (T u + w1 v) x * 2000001 + updN L v (L u + w2 v) x) hv (fun j _ hj => by
        show updN T v _ j * 2000001 + updN L v _ j = _
        rw [updN_ne hj, updN_ne hj])
    rw [updN_eq, updN_eq] at hmu
    unfold muTL
    omega
theorem JF.sol {w1 w2 : Nat → Nat} {a : Nat} {T L : Nat → Nat} (hw : ∀ c, c < 20 → 1 ≤ w1 c ∧ w1 c ≤ 26 ∧ w2 c ≤ 14) (h : JF w1 w2 a T L) (ha : a < 20) (hfix : ∀ u, u < 20 → ∀ s, s < 4 → ∀ v, nbo u s = some v → T u < 1000000 → ¬ bett w1 w2 T L u v) : SolK w1 w2 a T L := by
  have hall : ∀ c, c < 20 → T c < 1000000 := by
    refine grid_all (P := fun c => T c < 1000000) (fun u hu s hs v hb hTu => ?_) ha (by have := h.1.1; omega)
    have h1 := hfix u hu s hs v hb hTu
    have h2 := h.b hu
    have h3 := hw v (nbo_lt hu hb)
    have h4 := h2.2.2 hTu
    unfold bett at h1
    show T v < 1000000
    omega
  refine ⟨h.1.1, h.1.2, fun u hu s hs v hb => ?_, fun v hv hva => ?_⟩
  · have h1 := hfix u hu s hs v hb (hall u hu)
    unfold bett at h1
    omega
  · obtain ⟨u, s, hu, hs, hb, h1, h2⟩ := h.2.2.2 v hv hva (by have := hall v hv; omega)
    have h3 := hfix u hu s hs v hb (hall u hu)
    unfold bett at h3
    exact ⟨u, s, hu, hs, hb, by omega, by omega⟩
theorem wK {kd fg pl : Nat → Nat} (ho : okM kd fg pl) : ∀ c, c < 20 → 1 ≤ sw kd fg c ∧ sw kd fg c ≤ 26 ∧ lw kd fg c ≤ 14 := fun c hc => ⟨slowN_pos _ _, slowN_le (ho.1 c hc).2, lossN_le (ho.1 c hc).2⟩
