theorem wldK {s : State} {args : Array Value} (hts : ∀ w ∈ lw_tbl, w.before args s = true) : ∃ (D : va_G) (Z : Nat → ClassId), kW D Z s := by
  have ht : ∀ w ∈ TB, w.before args s = true := fun w h => hts w (List.mem_filter.mp h).1
  have hk : ∀ k : Nat, ∃ (cC : ClassId) (iS : Nat → Nat), ∀ q : vw_C, vwCl[k]? = some q → u_Kn s q.1 q.2.1 q.2.2 cC iS := by
    intro k
    match k with
    | 0 =>
      obtain ⟨a, i, h⟩ := u_known (C := RX0) (T := TX0) (N := 1) (n := 1) ht inX0 (ht _ insX0)
      exact ⟨a, i, fun q hq => by cases hq; exact h⟩
    | 1 =>
      obtain ⟨a, i, h⟩ := u_known (C := RX1) (T := TX1) (N := 1) (n := 1) ht inX1 (ht _ insX1)
      exact ⟨a, i, fun q hq => by cases hq; exact h⟩
    | 2 =>
      obtain ⟨a, i, h⟩ := u_known (C := RX2) (T := TX2) (N := 1) (n := 1) ht inX2 (ht _ insX2)
      exact ⟨a, i, fun q hq => by cases hq; exact h⟩
    | 3 =>
      obtain ⟨a, i, h⟩ := u_known (C := RX3) (T := TX3) (N := 1) (n := 1) ht inX3 (ht _ insX3)
      exact ⟨a, i, fun q hq => by cases hq; exact h⟩
    | 4 =>
      obtain ⟨a, i, h⟩ := u_known (C := RX4) (T := TX4) (N := 1) (n := 1) ht inX4 (ht _ insX4)
      exact ⟨a, i, fun q hq => by cases hq; exact h⟩
    | 5 =>
      obtain ⟨a, i, h⟩ := u_known (C := RX5) (T := TX5) (N := 4) (n := 4) ht inX5 (ht _ insX5)
      exact ⟨a, i, fun q hq => by cases hq; exact h⟩
    | 6 =>
      obtain ⟨a, i, h⟩ := u_known (C := RX6) (T := TX6) (N := 1) (n := 1) ht inX6 (ht _ insX6)
      exact ⟨a, i, fun q hq => by cases hq; exact h⟩
    | 7 =>
      obtain ⟨a, i, h⟩ := u_known (C := RX7) (T := TX7) (N := 4) (n := 4) ht inX7 (ht _ insX7)
      exact ⟨a, i, fun q hq => by cases hq; exact h⟩
    | 8 =>
      obtain ⟨a, i, h⟩ := u_known (C := RX8) (T := TX8) (N := 1) (n := 1) ht inX8 (ht _ insX8)
      exact ⟨a, i, fun q hq => by cases hq; exact h⟩
    | 9 =>
      obtain ⟨a, i, h⟩ := u_known (C := RX9) (T := TX9) (N := 1) (n := 1) ht inX9 (ht _ insX9)
      exact ⟨a, i, fun q hq => by cases hq; exact h⟩
    | 10 =>
      obtain ⟨a, i, h⟩ := u_known (C := RX10) (T := TX10) (N := 6) (n := 6) ht inX10 (ht _ insX10)
      exact ⟨a, i, fun q hq => by cases hq; exact h⟩
    | 11 =>
      obtain ⟨a, i, h⟩ := u_known (C := RX11) (T := TX11) (N := 9) (n := 9) ht inX11 (ht _ insX11)
      exact ⟨a, i, fun q hq => by cases hq; exact h⟩
    | 12 =>
      obtain ⟨a, i, h⟩ := u_known (C := RX12) (T := TX12) (N := 23) (n := 23) ht inX12 (ht _ insX12)
      exact ⟨a, i, fun q hq => by cases hq; exact h⟩
    | n + 13 => exact ⟨0, fun _ => 0, fun q hq => by simp [vwCl] at hq⟩
  have hz : ∀ k : Nat, ∃ cA : ClassId, ∀ ty : FieldType, ([FieldType.int, .boolean, .object RX6, .object RX7, .long] : List FieldType)[k]? = some ty → ArrOfT s cA ty ∧ va_RA s cA ty := by
    intro k
    match k with
    | 0 =>
      obtain ⟨c, kA, comp, h1, h2, h3⟩ := Cond.arrayClass_spec (ht _ ac_int)
      exact ⟨c, fun ty h => by cases h; exact ⟨fun n z => ⟨(fun k h => by cases h), kA, h2, comp, h3⟩, h1⟩⟩
    | 1 =>
      obtain ⟨c, kA, comp, h1, h2, h3⟩ := Cond.arrayClass_spec (ht _ ac_boolean)
      exact ⟨c, fun ty h => by cases h; exact ⟨fun n z => ⟨(fun k h => by cases h), kA, h2, comp, h3⟩, h1⟩⟩
    | 4 =>
      obtain ⟨c, kA, comp, h1, h2, h3⟩ := Cond.arrayClass_spec (ht _ ac_long)
      exact ⟨c, fun ty h => by cases h; exact ⟨fun n z => ⟨(fun k h => by cases h), kA, h2, comp, h3⟩, h1⟩⟩
    | 2 =>
      obtain ⟨comp, c, kA, h1, h2, h3, h4, h5⟩ := Cond.arrayOver_spec (n := RX6) (hts _ (List.mem_of_getElem? (i := 87) (by decide +kernel)))
      exact ⟨c, fun ty h => by cases h; exact ⟨fun n z => ⟨(fun k h => by cases h), kA, h3, comp, h4⟩, kA, comp, h3, h4, h1, h5⟩⟩
    | 3 =>
      obtain ⟨comp, c, kA, h1, h2, h3, h4, h5⟩ := Cond.arrayOver_spec (n := RX7) (hts _ (List.mem_of_getElem? (i := 140) (by decide +kernel)))
      exact ⟨c, fun ty h => by cases h; exact ⟨fun n z => ⟨(fun k h => by cases h), kA, h3, comp, h4⟩, kA, comp, h3, h4, h1, h5⟩⟩
    | n + 5 => exact ⟨0, fun ty h => by simp at h⟩
  refine ⟨(fun k => Classical.choose (hk k), fun k => Classical.choose (Classical.choose_spec (hk k))), fun k => Classical.choose (hz k), ⟨fun c q hq => Classical.choose_spec (Classical.choose_spec (hk c)) q hq, fun k q hq => ?_⟩, ?_⟩
  · match k, hq with
    | 0, hq => cases hq; exact Classical.choose_spec (hz 0) _ rfl
    | 1, hq => cases hq; exact Classical.choose_spec (hz 1) _ rfl
    | 2, hq => cases hq; exact Classical.choose_spec (hz 2) _ rfl
    | 3, hq => cases hq; exact Classical.choose_spec (hz 3) _ rfl
    | 4, hq => cases hq; exact Classical.choose_spec (hz 4) _ rfl
    | n + 5, hq => simp [kTys] at hq
  · refine ⟨va_Nw.of rfl (hts _ (List.mem_of_getElem? (i := 143) (by decide +kernel))), va_Nw.of rfl (hts _ (List.mem_of_getElem? (i := 172) (by decide +kernel))), va_Nw.of rfl (hts _ (List.mem_of_getElem? (i := 336) (by decide +kernel))), va_Nw.of rfl (hts _ (List.mem_of_getElem? (i := 251) (by decide +kernel))), va_Nw.of rfl (hts _ (List.mem_of_getElem? (i := 514) (by decide +kernel))), va_AO.of (hts _ (List.mem_of_getElem? (i := 87) (by decide +kernel))), va_AO.of (hts _ (List.mem_of_getElem? (i := 140) (by decide +kernel))), ?_⟩
    intro C hC
    simp only [kCast, List.mem_cons, List.not_mem_nil, or_false] at hC
    rcases hC with rfl | rfl | rfl | rfl | rfl | rfl | rfl
    · exact va_Nw.of rfl (hts _ (List.mem_of_getElem? (i := 1245) (by decide +kernel)))
    · exact va_Nw.of rfl (hts _ (List.mem_of_getElem? (i := 1243) (by decide +kernel)))
    · exact va_Nw.of rfl (hts _ (List.mem_of_getElem? (i := 1249) (by decide +kernel)))
    · exact va_Nw.of rfl (hts _ (List.mem_of_getElem? (i := 1244) (by decide +kernel)))
    · exact va_Nw.of rfl (hts _ (List.mem_of_getElem? (i := 1248) (by decide +kernel)))
    · exact va_Nw.of rfl (hts _ (List.mem_of_getElem? (i := 1247) (by decide +kernel)))
    · exact va_Nw.of rfl (hts _ (List.mem_of_getElem? (i := 1246) (by decide +kernel)))
theorem wldZ {s : State} {b : Nat} (hts : ∀ w ∈ lw_tbl, w.before #[Value.ref b] s = true) (hgv : (Jvm.Cond.and given_1 narrow_1).before #[Value.ref b] s = true) : zW s.heap.size s := by
  have hs := flat_of_before _ hgv
  refine ⟨vx_Zqof (hts _ (List.mem_of_getElem? (i := 772) (by decide +kernel))) (hts _ (List.mem_of_getElem? (i := 66) (by decide +kernel))) (hs _ (by decide +kernel)) (fun a h => Nat.not_le.mpr h), vx_Zqof (hts _ (List.mem_of_getElem? (i := 774) (by decide +kernel))) (hts _ (List.mem_of_getElem? (i := 66) (by decide +kernel))) (hs _ (by decide +kernel)) (fun a h => Nat.not_le.mpr h), ⟨?_, ?_, va_Nc.of (hs _ (by decide +kernel)), va_Nc.of (hs _ (by decide +kernel)), va_Nc.of (hs _ (by decide +kernel)), va_Nc.of (hs _ (by decide +kernel))⟩⟩
  · refine ⟨?_, ?_, ?_, ?_, ?_, ?_⟩
    · obtain ⟨a, c, cell, kA, h1, -⟩ := Cond.exactly_spec (hs (.exactly (.string "KnocksThroughRock$Rock" 17) "java/lang/String") (by decide +kernel))
      exact ⟨a, vk_R.of (hts _ (List.mem_of_getElem? (i := 842) (by decide +kernel))) h1⟩
    · obtain ⟨a, c, cell, kA, h1, -⟩ := Cond.exactly_spec (hs (.exactly (.string "KnocksThroughRock$Vein" 27) "java/lang/String") (by decide +kernel))
      exact ⟨a, vk_R.of (hts _ (List.mem_of_getElem? (i := 786) (by decide +kernel))) h1⟩
    · obtain ⟨a, c, cell, kA, h1, -⟩ := Cond.exactly_spec (hs (.exactly (.string "KnocksThroughRock$Water" 36) "java/lang/String") (by decide +kernel))
      exact ⟨a, vk_R.of (hts _ (List.mem_of_getElem? (i := 825) (by decide +kernel))) h1⟩
    · obtain ⟨a, c, cell, kA, h1, -⟩ := Cond.exactly_spec (hs (.exactly (.string "KnocksThroughRock" 219) "java/lang/String") (by decide +kernel))
      exact ⟨a, vk_R.of (hts _ (List.mem_of_getElem? (i := 858) (by decide +kernel))) h1⟩
    · obtain ⟨a, c, cell, kA, h1, -⟩ := Cond.exactly_spec (hs (.exactly (.string "KnocksThroughRock" 226) "java/lang/String") (by decide +kernel))
      exact ⟨a, vk_R.of (hts _ (List.mem_of_getElem? (i := 860) (by decide +kernel))) h1⟩
    · obtain ⟨a, c, cell, kA, h1, -⟩ := Cond.exactly_spec (hs (.exactly (.string "KnocksThroughRock" 229) "java/lang/String") (by decide +kernel))
      exact ⟨a, vk_R.of (hts _ (List.mem_of_getElem? (i := 862) (by decide +kernel))) h1⟩
  · intro w hw
    simp only [zBad, List.mem_cons, List.not_mem_nil, or_false] at hw
    rcases hw with rfl | rfl | rfl | rfl | rfl | rfl
    · exact va_Nw.of rfl (hts _ (List.mem_of_getElem? (i := 835) (by decide +kernel)))
    · exact va_Nw.of rfl (hts _ (List.mem_of_getElem? (i := 818) (by decide +kernel)))
    · exact va_Nw.of rfl (hts _ (List.mem_of_getElem? (i := 747) (by decide +kernel)))
    · exact va_Nw.of rfl (hts _ (List.mem_of_getElem? (i := 749) (by decide +kernel)))
    · exact va_Nw.of rfl (hts _ (List.mem_of_getElem? (i := 751) (by decide +kernel)))
    · exact va_Nw.of rfl (hts _ (List.mem_of_getElem? (i := 753) (by decide +kernel)))
