section LW
variable {l : Launch} {D : va_G} {Z : Nat → ClassId} {b0 b Ls j o k n : Nat} {xs : Nat → Int32} {cd ad : Nat → Nat} {V : HV}
theorem and31 (x : Int32) : ∃ m, m < 32 ∧ x &&& nI 31 = nI m := by
  refine ⟨(x &&& nI 31).toBitVec.toNat, ?_, ?_⟩
  · rw [Int32.toBitVec_and, BitVec.toNat_and]
    exact Nat.lt_of_le_of_lt Nat.and_le_right (by decide)
  · refine Int32.toBitVec_inj.mp ?_
    show _ = BitVec.ofNat 32 _
    rw [BitVec.ofNat_toNat, BitVec.setWidth_eq]
theorem law_exit (hLs : Ls ≤ 3072) (hj : ¬ j + 6 ≤ Ls) (hj2 : j ≤ Ls) (hk : k ≤ 60000) (hn : n ≤ 60000) : G l D Z b0 room_1 RL cL_law 8 (gEl b0 b Ls xs) lw_Z V [(4, .int (nI j)), (3, .ref o), (2, .ref (ad 0)), (1, .ref (cd 0)), (0, .ref b)] k n 23 [] := by
  have hf : G l D Z b0 room_1 RL cL_law 8 (gEl b0 b Ls xs) lw_Z V [(4, .int (nI j)), (3, .ref o), (2, .ref (ad 0)), (1, .ref (cd 0)), (0, .ref b)] k n 1310 [] := by
    refine g_iconst (v := nI 1) (pc := 1310) dL_law_1310 (by decide) ?_
    exact g_lawend hk hn
  refine g_iload (q := 0) (pc := 23) dL_law_23 rfl ?_
  refine g_aload_n (q := 4) (pc := 25) dL_law_25 rfl rfl ?_
  refine g_slen (pc := 26) dL_law_26 ?_
  refine g_bipush (v := nI 6) (pc := 27) dL_law_27 (by decide) ?_
  by_cases h6 : 6 ≤ Ls
  · refine g_isub_N (pc := 29) h6 dL_law_29 ?_
    exact g_icmp_gt_N (tgt := 1310) (pc := 30) (by omega) (by omega) dL_law_30 (by decide) (fun _ => hf) (fun c9 => absurd c9 (by omega))
  · refine g_isub (pc := 29) dL_law_29 ?_
    refine g_icmp_gt (tgt := 1310) (pc := 30) dL_law_30 (by decide) (fun _ => hf) (fun c9 => absurd ?_ c9)
    have h1 : (nI Ls - nI 6).toInt = (Ls : Int) - 6 := by
      rw [Int32.toInt_sub, nI_toInt (by omega), nI_toInt (by omega), Int.bmod_eq_of_le_mul_two] <;> omega
    rw [Int32.lt_iff_toInt_lt, h1, nI_toInt (by omega)]
    omega
set_option maxHeartbeats 8000000 in
theorem law_body (hA : aB b0 18 ad) (hao : ∀ j, j < 18 → ad j ≠ o) (hob : b0 ≤ o) (hfl : l.stackTraces = false) (hLs : Ls ≤ 3072) (hj : j + 6 ≤ Ls) (hk : k + 200 ≤ 60000) (hn : n + 200 ≤ 60000) (hV : LSt Z b0 cd ad o V) (kk : ∀ V2, LSt Z b0 cd ad o V2 → G l D Z b0 room_1 RL cL_law 8 (gEl b0 b Ls xs) lw_Z V2 [(4, .int (nI j)), (3, .ref o), (2, .ref (ad 0)), (1, .ref (cd 0)), (0, .ref b)] (k + 100) (n + 100) 1304 []) : G l D Z b0 room_1 RL cL_law 8 (gEl b0 b Ls xs) lw_Z V [(4, .int (nI j)), (3, .ref o), (2, .ref (ad 0)), (1, .ref (cd 0)), (0, .ref b)] k n 23 [] := by
  refine g_iload (q := 0) (pc := 23) dL_law_23 rfl ?_
  refine g_aload_n (q := 4) (pc := 25) dL_law_25 rfl rfl ?_
  refine g_slen (pc := 26) dL_law_26 ?_
  refine g_bipush (v := nI 6) (pc := 27) dL_law_27 (by decide) ?_
  refine g_isub_N (pc := 29) (by omega) dL_law_29 ?_
  refine g_icmp_gt_N (tgt := 1310) (pc := 30) (by omega) (by omega) dL_law_30 (by decide) (fun c9 => absurd c9 (by omega)) (fun _ => ?_)
  refine g_aload_n (q := 4) (pc := 33) dL_law_33 rfl rfl ?_
  refine g_iload (q := 0) (pc := 34) dL_law_34 rfl ?_
  refine g_sld (pc := 36) (x := xs j) (by omega) hLs rfl dL_law_36 ?_
  refine g_bipush (v := nI 31) (pc := 37) dL_law_37 (by decide) ?_
  refine g_iand (pc := 39) dL_law_39 ?_
  obtain ⟨m, hm, em⟩ := and31 (xs j)
  refine g_top (x := xs j &&& nI 31) (y := nI m) em ?_
  clear em
  match m, hm with
  | 0, _ => exact g_tableIn (tgt := 176) (off := 136) (pc := 40) dL_law_40 (by decide) (by decide) (by decide) (by decide) (law_0 hA hao hob hfl hLs hj hk hn hV kk)
  | 1, _ => exact g_tableIn (tgt := 201) (off := 161) (pc := 40) dL_law_40 (by decide) (by decide) (by decide) (by decide) (law_1 hA hao hob hfl hLs hj hk hn hV kk)
  | 2, _ => exact g_tableIn (tgt := 238) (off := 198) (pc := 40) dL_law_40 (by decide) (by decide) (by decide) (by decide) (law_2 hA hao hob hfl hLs hj hk hn hV kk)
  | 3, _ => exact g_tableIn (tgt := 275) (off := 235) (pc := 40) dL_law_40 (by decide) (by decide) (by decide) (by decide) (law_3 hA hao hob hfl hLs hj hk hn hV kk)
  | 4, _ => exact g_tableIn (tgt := 312) (off := 272) (pc := 40) dL_law_40 (by decide) (by decide) (by decide) (by decide) (law_4 hA hao hob hfl hLs hj hk hn hV kk)
  | 5, _ => exact g_tableIn (tgt := 349) (off := 309) (pc := 40) dL_law_40 (by decide) (by decide) (by decide) (by decide) (law_5 hA hao hob hfl hLs hj hk hn hV kk)
  | 6, _ => exact g_tableIn (tgt := 362) (off := 322) (pc := 40) dL_law_40 (by decide) (by decide) (by decide) (by decide) (law_6 hA hao hob hfl hLs hj hk hn hV kk)
  | 7, _ => exact g_tableIn (tgt := 399) (off := 359) (pc := 40) dL_law_40 (by decide) (by decide) (by decide) (by decide) (law_7 hA hao hob hfl hLs hj hk hn hV kk)
  | 8, _ => exact g_tableIn (tgt := 448) (off := 408) (pc := 40) dL_law_40 (by decide) (by decide) (by decide) (by decide) (law_8 hA hao hob hfl hLs hj hk hn hV kk)
  | 9, _ => exact g_tableIn (tgt := 485) (off := 445) (pc := 40) dL_law_40 (by decide) (by decide) (by decide) (by decide) (law_9 hA hao hob hfl hLs hj hk hn hV kk)
  | 10, _ => exact g_tableIn (tgt := 522) (off := 482) (pc := 40) dL_law_40 (by decide) (by decide) (by decide) (by decide) (law_10 hA hao hob hfl hLs hj hk hn hV kk)
  | 11, _ => exact g_tableIn (tgt := 559) (off := 519) (pc := 40) dL_law_40 (by decide) (by decide) (by decide) (by decide) (law_11 hA hao hob hfl hLs hj hk hn hV kk)
  | 12, _ => exact g_tableIn (tgt := 596) (off := 556) (pc := 40) dL_law_40 (by decide) (by decide) (by decide) (by decide) (law_12 hA hao hob hfl hLs hj hk hn hV kk)
  | 13, _ => exact g_tableIn (tgt := 669) (off := 629) (pc := 40) dL_law_40 (by decide) (by decide) (by decide) (by decide) (law_13 hA hao hob hfl hLs hj hk hn hV kk)
  | 14, _ => exact g_tableIn (tgt := 682) (off := 642) (pc := 40) dL_law_40 (by decide) (by decide) (by decide) (by decide) (law_14 hA hao hob hfl hLs hj hk hn hV kk)
  | 15, _ => exact g_tableIn (tgt := 695) (off := 655) (pc := 40) dL_law_40 (by decide) (by decide) (by decide) (by decide) (law_15 hA hao hob hfl hLs hj hk hn hV kk)
  | 16, _ => exact g_tableIn (tgt := 732) (off := 692) (pc := 40) dL_law_40 (by decide) (by decide) (by decide) (by decide) (law_16 hA hao hob hfl hLs hj hk hn hV kk)
  | 17, _ => exact g_tableIn (tgt := 781) (off := 741) (pc := 40) dL_law_40 (by decide) (by decide) (by decide) (by decide) (law_17 hA hao hob hfl hLs hj hk hn hV kk)
  | 18, _ => exact g_tableIn (tgt := 830) (off := 790) (pc := 40) dL_law_40 (by decide) (by decide) (by decide) (by decide) (law_18 hA hao hob hfl hLs hj hk hn hV kk)
  | 19, _ => exact g_tableIn (tgt := 879) (off := 839) (pc := 40) dL_law_40 (by decide) (by decide) (by decide) (by decide) (law_19 hA hao hob hfl hLs hj hk hn hV kk)
  | 20, _ => exact g_tableIn (tgt := 904) (off := 864) (pc := 40) dL_law_40 (by decide) (by decide) (by decide) (by decide) (law_20 hA hao hob hfl hLs hj hk hn hV kk)
  | 21, _ => exact g_tableIn (tgt := 917) (off := 877) (pc := 40) dL_law_40 (by decide) (by decide) (by decide) (by decide) (law_21 hA hao hob hfl hLs hj hk hn hV kk)
  | 22, _ => exact g_tableIn (tgt := 930) (off := 890) (pc := 40) dL_law_40 (by decide) (by decide) (by decide) (by decide) (law_22 hA hao hob hfl hLs hj hk hn hV kk)
  | 23, _ => exact g_tableIn (tgt := 955) (off := 915) (pc := 40) dL_law_40 (by decide) (by decide) (by decide) (by decide) (law_23 hA hao hob hfl hLs hj hk hn hV kk)
  | 24, _ => exact g_tableIn (tgt := 1016) (off := 976) (pc := 40) dL_law_40 (by decide) (by decide) (by decide) (by decide) (law_24 hA hao hob hfl hLs hj hk hn hV kk)
  | 25, _ => exact g_tableIn (tgt := 1065) (off := 1025) (pc := 40) dL_law_40 (by decide) (by decide) (by decide) (by decide) (law_25 hA hao hob hfl hLs hj hk hn hV kk)
  | 26, _ => exact g_tableIn (tgt := 1114) (off := 1074) (pc := 40) dL_law_40 (by decide) (by decide) (by decide) (by decide) (law_26 hA hao hob hfl hLs hj hk hn hV kk)
  | 27, _ => exact g_tableIn (tgt := 1181) (off := 1141) (pc := 40) dL_law_40 (by decide) (by decide) (by decide) (by decide) (law_27 hA hao hob hfl hLs hj hk hn hV kk)
  | 28, _ => exact g_tableIn (tgt := 1254) (off := 1214) (pc := 40) dL_law_40 (by decide) (by decide) (by decide) (by decide) (law_28 hA hao hob hfl hLs hj hk hn hV kk)
  | 29, _ => exact g_tableIn (tgt := 1279) (off := 1239) (pc := 40) dL_law_40 (by decide) (by decide) (by decide) (by decide) (law_29 hA hao hob hfl hLs hj hk hn hV kk)
  | 30, _ => exact g_tableOut (tgt := 1304) (pc := 40) dL_law_40 (by decide) (by decide) (G.widen (Nat.le_add_right _ _) (Nat.le_add_right _ _) (kk V hV))
  | 31, _ => exact g_tableOut (tgt := 1304) (pc := 40) dL_law_40 (by decide) (by decide) (G.widen (Nat.le_add_right _ _) (Nat.le_add_right _ _) (kk V hV))
  | n + 32, h => exact absurd h (by omega)
theorem law_loop (hA : aB b0 18 ad) (hao : ∀ j, j < 18 → ad j ≠ o) (hob : b0 ≤ o) (hfl : l.stackTraces = false) (hLs : Ls ≤ 3072) : ∀ (d j k n : Nat) (V : HV), Ls < j + 6 * (d + 1) → j ≤ Ls → k + 100 * d + 300 ≤ 60000 → n + 100 * d + 300 ≤ 60000 → LSt Z b0 cd ad o V → G l D Z b0 room_1 RL cL_law 8 (gEl b0 b Ls xs) lw_Z V [(4, .int (nI j)), (3, .ref o), (2, .ref (ad 0)), (1, .ref (cd 0)), (0, .ref b)] k n 23 [] := by
  intro d
  induction d with
  | zero =>
    intro j k n V h1 h2 h3 h4 _
    exact law_exit hLs (by omega) h2 (by omega) (by omega)
  | succ d ih =>
    intro j k n V h1 h2 h3 h4 hV
    by_cases h : j + 6 ≤ Ls
    · refine law_body hA hao hob hfl hLs h (by omega) (by omega) hV (fun V2 hV2 => ?_)
      refine g_iinc (q := 0) (lv' := [(4, .int (nI (j + 6))), (3, .ref o), (2, .ref (ad 0)), (1, .ref (cd 0)), (0, .ref b)]) (pc := 1304) dL_law_1304 rfl (nI_inc _ _) (by decide) rfl ?_
      refine g_goto (tgt := 23) (pc := 1307) dL_law_1307 (by decide) ?_
      exact ih (j + 6) (k + 100) (n + 100) V2 (by omega) (by omega) (by omega) (by omega) hV2
    · exact law_exit hLs h h2 (by omega) (by omega)
end LW
