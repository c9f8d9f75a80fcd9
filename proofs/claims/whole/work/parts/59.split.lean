theorem itT {c : Prop} [Decidable c] {a b x : Int32} (h : (if c then a else b) = x) (hb : ¬ c → b ≠ x) : c ∧ a = x := by
  by_cases hc : c
  · rw [if_pos hc] at h; exact ⟨hc, h⟩
  · rw [if_neg hc] at h; exact absurd h (hb hc)
theorem okSort_e {t s : Nat} (h : okSort (some t) s = true) : s = t := of_decide_eq_true h
theorem spLay_0 {kp : Nat → Nat} {d c : Int32} (h : spLay kp d c = 0) : ∃ n m, n < 8 ∧ m < 20 ∧ d = nI n ∧ c = nI m ∧ kp n = 1 := by
  unfold spLay at h
  obtain ⟨h1, h⟩ := itT h (fun _ => by decide)
  obtain ⟨n, hn, rfl, hk⟩ := spWK_0 h
  obtain ⟨m, hm, rfl⟩ := inR_t h1
  exact ⟨n, m, hn, hm, rfl, rfl, hk⟩
theorem spFrom_0 {kp so sz : Nat → Nat} {el : Nat → Int32} {d what : Int32} (h : spFromG kp so sz el d what = nI 0) : ∃ n w, n < 8 ∧ w < 2 ∧ d = nI n ∧ what = nI w ∧ kp n = 2 ∧ okSort (some 2) (so n) = true ∧ sz n % 2 = 0 ∧ cellsAt el n 2 (sz n) := by
  unfold spFromG at h
  obtain ⟨h1, h⟩ := itT h (fun _ => by decide)
  obtain ⟨h2, h⟩ := itT h (fun _ => by decide)
  obtain ⟨h3, h⟩ := itT h (fun hc e => hc e)
  obtain ⟨h4, h⟩ := itT h (fun _ => by decide)
  obtain ⟨h5, -⟩ := itT h (fun _ => by decide)
  obtain ⟨n, hn, rfl, h6, h7⟩ := spWR_0 h3
  obtain ⟨w, hw, rfl⟩ := inR_t h2
  rw [dN_N (by omega)] at h4 h5
  exact ⟨n, w, hn, hw, rfl, rfl, h6, h7, h4, cellsB_at h5⟩
theorem spListen_0 {kp so sz : Nat → Nat} {el : Nat → Int32} {d what : Int32} (h : spListenG kp so sz el d what = nI 0) : ∃ n w, n < 8 ∧ w < 2 ∧ d = nI n ∧ what = nI w ∧ kp n = 2 ∧ okSort (some 0) (so n) = true ∧ sz n ≤ 20 ∧ cellsAt el n 1 (sz n) := by
  unfold spListenG at h
  obtain ⟨h1, h⟩ := itT h (fun _ => by decide)
  obtain ⟨h2, h⟩ := itT h (fun _ => by decide)
  obtain ⟨h3, h⟩ := itT h (fun hc e => hc e)
  obtain ⟨h4, h⟩ := itT h (fun _ => by decide)
  obtain ⟨h5, -⟩ := itT h (fun _ => by decide)
  obtain ⟨n, hn, rfl, h6, h7⟩ := spWR_0 h3
  obtain ⟨w, hw, rfl⟩ := inR_t h2
  rw [dN_N (by omega)] at h4 h5
  exact ⟨n, w, hn, hw, rfl, rfl, h6, h7, h4, cellsB_at h5⟩
theorem spSafe_0 {kp so sz : Nat → Nat} {d e what : Int32} (h : spSafeG kp so sz d e what = nI 0) : ∃ n f w, n < 8 ∧ f < 9 ∧ w < 2 ∧ d = nI n ∧ e = nI f ∧ what = nI w ∧ kp n = 2 ∧ okSort (some 0) (so n) = true ∧ sz n ≤ 8 := by
  unfold spSafeG at h
  obtain ⟨h1, h⟩ := itT h (fun _ => by decide)
  obtain ⟨h0, h⟩ := itT h (fun _ => by decide)
  obtain ⟨h2, h⟩ := itT h (fun _ => by decide)
  obtain ⟨h3, h⟩ := itT h (fun hc e => hc e)
  obtain ⟨h4, -⟩ := itT h (fun _ => by decide)
  obtain ⟨n, hn, rfl, h6, h7⟩ := spWR_0 h3
  obtain ⟨f, hf, rfl⟩ := inR_t h0
  obtain ⟨w, hw, rfl⟩ := inR_t h2
  rw [dN_N (by omega)] at h4
  exact ⟨n, f, w, hn, hf, hw, rfl, rfl, rfl, h6, h7, h4⟩
theorem spPut_0 {kp so sz : Nat → Nat} {d i : Int32} (h : spPut kp so sz d i = nI 0) : ∃ n m, n < 8 ∧ d = nI n ∧ i = nI m ∧ kp n = 2 ∧ m < sz n := by
  unfold spPut at h
  obtain ⟨h3, h⟩ := itT h (fun hc e => hc e)
  obtain ⟨h4, -⟩ := itT h (fun _ => by decide)
  obtain ⟨n, hn, rfl, h6, -⟩ := spWR_0 h3
  rw [dN_N (by omega)] at h4
  obtain ⟨m, hm, rfl⟩ := inR_t h4
  exact ⟨n, m, hn, rfl, rfl, h6, hm⟩
theorem spRow_0 {d r n : Int32} (h : spRow d r n = nI 0) : ∃ a q m, a < 8 ∧ q < 3 ∧ m ≤ 100 ∧ d = nI a ∧ r = nI q ∧ n = nI m := by
  unfold spRow at h
  obtain ⟨h1, h⟩ := itT h (fun _ => by decide)
  obtain ⟨h2, h⟩ := itT h (fun _ => by decide)
  obtain ⟨h3, h⟩ := itT h (fun _ => by decide)
  obtain ⟨h4, -⟩ := itT h (fun _ => by decide)
  obtain ⟨a, ha, rfl⟩ := inR_t h1
  obtain ⟨q, hq, rfl⟩ := inR_t h2
  have h0 : (0 : Int32).toInt = 0 := by decide
  have h5 : inB n 0 100 = true := by
    refine decide_eq_true ?_
    rw [Int32.le_iff_toInt_le, nI_toInt (by omega)] at h3
    rw [Int32.le_iff_toInt_le, h0] at h4
    omega
  obtain ⟨m, -, hm, rfl⟩ := inB_t h5
  exact ⟨a, q, m, ha, hq, hm, rfl, rfl, rfl⟩
theorem spKeep_t {d what k f : Int32} (h : ¬ spKeep d what k f = false) : ∃ n, n < 8 ∧ d = nI n ∧ (what = nI 0 ∨ (what = nI 1 ∧ ∃ q r, q < 8 ∧ r < 10 ∧ k = nI q ∧ f = nI r)) := by
  have h := (Bool.eq_false_or_eq_true _).resolve_right h
  unfold spKeep at h
  rw [Bool.and_eq_true, Bool.and_eq_true] at h
  obtain ⟨h1, h2, h3⟩ := h
  obtain ⟨n, hn, rfl⟩ := inR_t h1
  obtain ⟨w, hw, rfl⟩ := inR_t h2
  refine ⟨n, hn, rfl, ?_⟩
  rw [dN_N (by omega)] at h3
  rcases (show w = 0 ∨ w = 1 by omega) with rfl | rfl
  · exact Or.inl rfl
  · rw [decide_eq_true rfl, Bool.not_true, Bool.false_or, Bool.and_eq_true] at h3
    obtain ⟨q, hq, rfl⟩ := inR_t h3.1
    obtain ⟨r, hr, rfl⟩ := inR_t h3.2
    exact Or.inr ⟨rfl, q, r, hq, hr, rfl, rfl⟩
theorem i32_nn {x : Int32} (h : ¬ x < 0) : ∃ n, n < 2147483648 ∧ x = nI n := by
  have h0 : (0 : Int32).toInt = 0 := by decide
  rw [Int32.lt_iff_toInt_lt, h0] at h
  have h2 := Int32.toInt_lt x
  rcases i32_rng x 0 2147483647 (by decide) with ⟨n, -, hn, rfl⟩ | hout
  · exact ⟨n, by omega, rfl⟩
  · exact absurd hout (by omega)
theorem okCopy_N {kp so sz : Nat → Nat} {ki kf : Nat → Int32} {d i e j n : Int32} (hs : okS kp so sz ki kf) (h : okCopy kp so sz d i e j n) : ∃ a x c y z, a < 8 ∧ c < 8 ∧ d = nI a ∧ i = nI x ∧ e = nI c ∧ j = nI y ∧ n = nI z ∧ kp a = 2 ∧ kp c = 2 ∧ so a = so c ∧ x + z ≤ sz a ∧ y + z ≤ sz c := by
  obtain ⟨h1, h2, h3, h4, h5, h6, h7, h8, h9, h10⟩ := h
  obtain ⟨a, ha, rfl⟩ := inR_t h1
  obtain ⟨c, hc, rfl⟩ := inR_t h2
  rw [dN_N (by omega)] at h3 h4 h5 h9 h10
  rw [dN_N (by omega)] at h5
  have ea := (hs a ha).2.2.1
  have ec := (hs c hc).2.2.1
  rw [Int32.le_iff_toInt_le, spB_sub ea h7] at h9
  rw [Int32.le_iff_toInt_le, spB_sub ec h8] at h10
  obtain ⟨z, hz, rfl⟩ := i32_nn h6
  obtain ⟨x, hx, rfl⟩ := i32_nn h7
  obtain ⟨y, hy, rfl⟩ := i32_nn h8
  rw [nI_toInt (by omega), nI_toInt (by omega)] at h9 h10
  exact ⟨a, x, c, y, z, ha, hc, rfl, rfl, rfl, rfl, rfl, h3, h4, h5, by omega, by omega⟩
theorem spEl_3 {kp sz : Nat → Nat} {d i : Int32} : spEl kp sz d i < 3 := by
  unfold spEl; split <;> (try split) <;> (try split) <;> decide
theorem spEl_0 {kp sz : Nat → Nat} {d i : Int32} (h : spEl kp sz d i = 0) : ∃ n m, n < 8 ∧ d = nI n ∧ i = nI m ∧ kp n = 2 ∧ m < sz n := by
  unfold spEl at h
  by_cases h1 : inR d 8 = true
  · obtain ⟨n, hn, rfl⟩ := inR_t h1
    rw [if_pos h1, dN_N (by omega)] at h
    by_cases h2 : kp n = 2
    · rw [if_pos h2] at h
      by_cases h3 : inR i (sz n) = true
      · obtain ⟨m, hm, rfl⟩ := inR_t h3
        exact ⟨n, m, hn, rfl, rfl, h2, hm⟩
      · rw [if_neg h3] at h; exact absurd h (by decide)
    · rw [if_neg h2] at h; exact absurd h (by decide)
  · rw [if_neg h1] at h; exact absurd h (by decide)
theorem lg_cmp_rf (x : Int64) : lg_cmp x x = 0 := by
  unfold lg_cmp
  rw [if_neg Int64.lt_irrefl, if_pos rfl]
