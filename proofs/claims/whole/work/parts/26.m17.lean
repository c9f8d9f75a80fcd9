section MS
variable {l : Launch} {D : va_G} {Z : Nat → ClassId} {b0 : Nat} {ad : Nat → Nat} {hi th po ba en se : Int32} {s im rd mi kp so sz el ki kf ti lo wa nu li to ot : Nat → Int32} {kd fg pl : Nat → Nat} {hr : Nat → Int32} {V : HV}
def mxI (a b : Int32) : Int32 := if a < b then b else a
def mnI (a b : Int32) : Int32 := if a < b then a else b
theorem mxI_n {a b : Nat} (ha : a < 2147483648) (hb : b < 2147483648) : mxI (nI a) (nI b) = nI (if a < b then b else a) := by
  unfold mxI; have h : (nI a < nI b) ↔ a < b := by rw [Int32.lt_iff_toInt_lt, nI_toInt ha, nI_toInt hb]; omega
  by_cases q : a < b
  · rw [if_pos q, if_pos (h.mpr q)]
  · rw [if_neg q, if_neg (fun z => q (h.mp z))]
theorem mnI_n {a b : Nat} (ha : a < 2147483648) (hb : b < 2147483648) : mnI (nI a) (nI b) = nI (if a < b then a else b) := by
  unfold mnI; have h : (nI a < nI b) ↔ a < b := by rw [Int32.lt_iff_toInt_lt, nI_toInt ha, nI_toInt hb]; omega
  by_cases q : a < b
  · rw [if_pos q, if_pos (h.mpr q)]
  · rw [if_neg q, if_neg (fun z => q (h.mp z))]
def rmJ9_max_7cf53 : Room := { frames := 0, cells := 0, slots := 0, locals := 0 }
set_option maxHeartbeats 8000000 in
theorem c_J9_max_7cf53 {a b : Int32}  : KE l D Z b0 yJ9_max_7cf53 cJ9_max_7cf53 2 (some .int) rmJ9_max_7cf53 [.int a, .int b] (V) (some (.int (mxI a b))) (V) := by
  refine KE.of (by decide) (Nat.le_of_ble_eq_true rfl) (fun Po hPo => ?_)
  refine G.locals (L' := [(0, .int a), (1, .int b)]) [0, 1] rfl ?_
  refine g_iload_n (q := 0) (pc := 0) dJ9_max_7cf53_0 rfl rfl ?_
  refine g_iload_n (q := 1) (pc := 1) dJ9_max_7cf53_1 rfl rfl ?_
  refine g_icmp_lt (tgt := 9) (pc := 2) dJ9_max_7cf53_2 (by decide) (fun c1 => ?_) (fun c1 => ?_)
  · -- T c1
    refine g_iload_n (q := 1) (pc := 9) dJ9_max_7cf53_9 rfl rfl ?_
    exact g_iret (pc := 10) (by decide) (by decide) (eqI hPo (by unfold mxI; first | exact if_pos (by assumption) | exact if_neg (by assumption) | (rw [if_pos (by assumption)]) | (split <;> first | rfl | (exact absurd ‹_› ‹_›)))) dJ9_max_7cf53_10
  · -- F c1
    refine g_iload_n (q := 0) (pc := 5) dJ9_max_7cf53_5 rfl rfl ?_
    refine g_goto (tgt := 10) (pc := 6) dJ9_max_7cf53_6 (by decide) ?_
    exact g_iret (pc := 10) (by decide) (by decide) (eqI hPo (by unfold mxI; first | exact if_pos (by assumption) | exact if_neg (by assumption) | (rw [if_pos (by assumption)]) | (split <;> first | rfl | (exact absurd ‹_› ‹_›)))) dJ9_max_7cf53_10
def rmJ9_min_7cf53 : Room := { frames := 0, cells := 0, slots := 0, locals := 0 }
set_option maxHeartbeats 8000000 in
theorem c_J9_min_7cf53 {a b : Int32}  : KE l D Z b0 yJ9_min_7cf53 cJ9_min_7cf53 2 (some .int) rmJ9_min_7cf53 [.int a, .int b] (V) (some (.int (mnI a b))) (V) := by
  refine KE.of (by decide) (Nat.le_of_ble_eq_true rfl) (fun Po hPo => ?_)
  refine G.locals (L' := [(0, .int a), (1, .int b)]) [0, 1] rfl ?_
  refine g_iload_n (q := 0) (pc := 0) dJ9_min_7cf53_0 rfl rfl ?_
  refine g_iload_n (q := 1) (pc := 1) dJ9_min_7cf53_1 rfl rfl ?_
  refine g_icmp_gt (tgt := 9) (pc := 2) dJ9_min_7cf53_2 (by decide) (fun c1 => ?_) (fun c1 => ?_)
  · -- T c1
    refine g_iload_n (q := 1) (pc := 9) dJ9_min_7cf53_9 rfl rfl ?_
    exact g_iret (pc := 10) (by decide) (by decide) (eqI hPo (by unfold mnI; first | exact if_pos (by assumption) | exact if_neg (by assumption) | (rw [if_pos (by assumption)]) | (split <;> first | rfl | (exact absurd ‹_› ‹_›)))) dJ9_min_7cf53_10
  · -- F c1
    refine g_iload_n (q := 0) (pc := 5) dJ9_min_7cf53_5 rfl rfl ?_
    refine g_goto (tgt := 10) (pc := 6) dJ9_min_7cf53_6 (by decide) ?_
    exact g_iret (pc := 10) (by decide) (by decide) (eqI hPo (by unfold mnI; first | exact if_pos (by assumption) | exact if_neg (by assumption) | (rw [if_pos (by assumption)]) | (split <;> first | rfl | (exact absurd ‹_› ‹_›)))) dJ9_min_7cf53_10
end MS
