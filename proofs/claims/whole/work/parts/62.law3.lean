section LW
variable {l : Launch} {D : va_G} {Z : Nat → ClassId} {b0 b Ls j o k n : Nat} {xs : Nat → Int32} {cd ad : Nat → Nat} {V : HV}
set_option maxHeartbeats 8000000 in
theorem law_20 (hA : aB b0 18 ad) (hao : ∀ j, j < 18 → ad j ≠ o) (hob : b0 ≤ o) (hfl : l.stackTraces = false) (hLs : Ls ≤ 3072) (hj : j + 6 ≤ Ls) (hk : k + 200 ≤ 60000) (hn : n + 200 ≤ 60000) (hV : LSt Z b0 cd ad o V) (kk : ∀ V2, LSt Z b0 cd ad o V2 → G l D Z b0 room_1 RL cL_law 8 (gEl b0 b Ls xs) lw_Z V2 [(4, .int (nI j)), (3, .ref o), (2, .ref (ad 0)), (1, .ref (cd 0)), (0, .ref b)] (k + 100) (n + 100) 1304 []) : G l D Z b0 room_1 RL cL_law 8 (gEl b0 b Ls xs) lw_Z V [(4, .int (nI j)), (3, .ref o), (2, .ref (ad 0)), (1, .ref (cd 0)), (0, .ref b)] k n 904 [] := by
  obtain ⟨ik, kd, fg, pl, hr, ikd, ifg, ipl, ihr, kp, so, sz, el, ki, kf, th, po, ba, en, se, im, rd, mi, ti, lo, wa, nu, li, to, ot, fo, Vb, hCI, hB, ho, hik, hs⟩ := hV
  have hok := hCI.okm
  obtain ⟨fs9, hobj⟩ := hCI.obj
  have hfc : ∀ a, a ≤ 100 → k + a ≤ room_1.cells := fun a h => Nat.le_trans (show k + a ≤ 60000 by omega) rm_c
  have hfs : ∀ a, a ≤ 100 → n + a ≤ room_1.slots := fun a h => Nat.le_trans (show n + a ≤ 60000 by omega) rm_s
  have hfc2 : k + 100 ≤ room_1.cells := Nat.le_trans (show k + 100 ≤ 60000 by omega) rm_c
  have hfs2 : n + 100 ≤ room_1.slots := Nat.le_trans (show n + 100 ≤ 60000 by omega) rm_s
  refine g_aload_n (q := 3) (pc := 904) dL_law_904 rfl rfl ?_
  refine g_callV (As := []) (rest := []) (pc := 905) hobj rfl (d_X11_image hCI) mlL_106 selX11_X11_image_X11_image mX11_image ⟨Nat.le_of_ble_eq_true rfl, Nat.le_of_ble_eq_true rfl⟩ rfl rfl (Nat.le_of_ble_eq_true rfl) dL_law_905 ⟨hfc _ (Nat.le_of_ble_eq_true rfl), hfs _ (Nat.le_of_ble_eq_true rfl)⟩ (fun v9 V1 h9 => ?_)
  obtain ⟨rfl, hC1⟩ := h9
  refine G.eqst (st2 := [.int (hr 0 + hr 1)]) rfl rfl rfl ?_
  refine G.widen (k' := k + 100) (n' := n + 100) (Nat.add_le_add_left (Nat.le_of_ble_eq_true rfl) _) (Nat.add_le_add_left (Nat.le_of_ble_eq_true rfl) _) ?_
  refine G.veq (hC1.self hB) ?_
  refine g_aload_n (q := 2) (pc := 908) dL_law_908 rfl rfl ?_
  refine e_callV (k2 := k + 100) (n2 := n + 100) (As := []) (rest := [.int (hr 0 + hr 1)]) (pc := 909) (wM_0 hA) rfl (c_X12_image hA) mlL_109 selX12_X12_image_X12_image mX12_image ⟨Nat.le_of_ble_eq_true rfl, Nat.le_of_ble_eq_true rfl⟩ rfl rfl (Nat.le_of_ble_eq_true rfl) dL_law_909 ⟨hfc2, hfs2⟩ rfl rfl ?_
  refine g_icmp_eq (tgt := 1304) (pc := 912) dL_law_912 (by decide) (fun _ => ?_) (fun c9 => absurd rfl c9)
  exact kk _ (LSt.nx hA hao hB ho hC1 (Or.inr ⟨rfl, rfl⟩) hs)
set_option maxHeartbeats 8000000 in
theorem law_21 (hA : aB b0 18 ad) (hao : ∀ j, j < 18 → ad j ≠ o) (hob : b0 ≤ o) (hfl : l.stackTraces = false) (hLs : Ls ≤ 3072) (hj : j + 6 ≤ Ls) (hk : k + 200 ≤ 60000) (hn : n + 200 ≤ 60000) (hV : LSt Z b0 cd ad o V) (kk : ∀ V2, LSt Z b0 cd ad o V2 → G l D Z b0 room_1 RL cL_law 8 (gEl b0 b Ls xs) lw_Z V2 [(4, .int (nI j)), (3, .ref o), (2, .ref (ad 0)), (1, .ref (cd 0)), (0, .ref b)] (k + 100) (n + 100) 1304 []) : G l D Z b0 room_1 RL cL_law 8 (gEl b0 b Ls xs) lw_Z V [(4, .int (nI j)), (3, .ref o), (2, .ref (ad 0)), (1, .ref (cd 0)), (0, .ref b)] k n 917 [] := by
  obtain ⟨ik, kd, fg, pl, hr, ikd, ifg, ipl, ihr, kp, so, sz, el, ki, kf, th, po, ba, en, se, im, rd, mi, ti, lo, wa, nu, li, to, ot, fo, Vb, hCI, hB, ho, hik, hs⟩ := hV
  have hok := hCI.okm
  obtain ⟨fs9, hobj⟩ := hCI.obj
  have hfc : ∀ a, a ≤ 100 → k + a ≤ room_1.cells := fun a h => Nat.le_trans (show k + a ≤ 60000 by omega) rm_c
  have hfs : ∀ a, a ≤ 100 → n + a ≤ room_1.slots := fun a h => Nat.le_trans (show n + a ≤ 60000 by omega) rm_s
  have hfc2 : k + 100 ≤ room_1.cells := Nat.le_trans (show k + 100 ≤ 60000 by omega) rm_c
  have hfs2 : n + 100 ≤ room_1.slots := Nat.le_trans (show n + 100 ≤ 60000 by omega) rm_s
  rcases hik with rfl | ⟨rfl, rfl⟩
  · -- none
    refine g_aload_n (q := 3) (pc := 917) dL_law_917 rfl rfl ?_
    refine g_callV (As := []) (rest := []) (pc := 918) hobj rfl (d_X11_restore_n hCI) mlL_110 selX11_X11_restore_X11_restore mX11_restore ⟨Nat.le_of_ble_eq_true rfl, Nat.le_of_ble_eq_true rfl⟩ rfl rfl (Nat.le_of_ble_eq_true rfl) dL_law_918 ⟨hfc _ (Nat.le_of_ble_eq_true rfl), hfs _ (Nat.le_of_ble_eq_true rfl)⟩ (fun v9 V1 h9 => ?_)
    obtain ⟨rfl, hC1⟩ := h9
    refine G.eqst (st2 := [.int (-3)]) rfl rfl rfl ?_
    refine G.widen (k' := k + 100) (n' := n + 100) (Nat.add_le_add_left (Nat.le_of_ble_eq_true rfl) _) (Nat.add_le_add_left (Nat.le_of_ble_eq_true rfl) _) ?_
    refine G.veq (hC1.self hB) ?_
    refine g_aload_n (q := 2) (pc := 921) dL_law_921 rfl rfl ?_
    refine e_callV (k2 := k + 100) (n2 := n + 100) (As := []) (rest := [.int (-3)]) (pc := 922) (wM_0 hA) rfl (c_X12_restore_n hA) mlL_113 selX12_X12_restore_X12_restore mX12_restore ⟨Nat.le_of_ble_eq_true rfl, Nat.le_of_ble_eq_true rfl⟩ rfl rfl (Nat.le_of_ble_eq_true rfl) dL_law_922 ⟨hfc2, hfs2⟩ rfl rfl ?_
    refine g_icmp_eq (tgt := 1304) (pc := 925) dL_law_925 (by decide) (fun _ => ?_) (fun c9 => absurd rfl c9)
    exact kk _ (LSt.nx hA hao hB ho hC1 (Or.inl rfl) hs)
  · -- some
    refine g_aload_n (q := 3) (pc := 917) dL_law_917 rfl rfl ?_
    refine g_callV (As := []) (rest := []) (pc := 918) hobj rfl (d_X11_restore_s hCI) mlL_110 selX11_X11_restore_X11_restore mX11_restore ⟨Nat.le_of_ble_eq_true rfl, Nat.le_of_ble_eq_true rfl⟩ rfl rfl (Nat.le_of_ble_eq_true rfl) dL_law_918 ⟨hfc _ (Nat.le_of_ble_eq_true rfl), hfs _ (Nat.le_of_ble_eq_true rfl)⟩ (fun v9 V1 h9 => ?_)
    obtain ⟨rfl, hC1⟩ := h9
    refine G.eqst (st2 := [.int (ihr 0 + ihr 1)]) rfl rfl rfl ?_
    refine G.widen (k' := k + 100) (n' := n + 100) (Nat.add_le_add_left (Nat.le_of_ble_eq_true rfl) _) (Nat.add_le_add_left (Nat.le_of_ble_eq_true rfl) _) ?_
    refine G.veq (hC1.self hB) ?_
    refine g_aload_n (q := 2) (pc := 921) dL_law_921 rfl rfl ?_
    refine e_callV (k2 := k + 100) (n2 := n + 100) (As := []) (rest := [.int (ihr 0 + ihr 1)]) (pc := 922) (wM_0 hA) rfl (c_X12_restore_s hA) mlL_113 selX12_X12_restore_X12_restore mX12_restore ⟨Nat.le_of_ble_eq_true rfl, Nat.le_of_ble_eq_true rfl⟩ rfl rfl (Nat.le_of_ble_eq_true rfl) dL_law_922 ⟨hfc2, hfs2⟩ rfl rfl ?_
    refine g_icmp_eq (tgt := 1304) (pc := 925) dL_law_925 (by decide) (fun _ => ?_) (fun c9 => absurd rfl c9)
    exact kk _ (LSt.nx hA hao hB ho hC1 (Or.inr ⟨rfl, rfl⟩) hs)
set_option maxHeartbeats 8000000 in
theorem law_22 (hA : aB b0 18 ad) (hao : ∀ j, j < 18 → ad j ≠ o) (hob : b0 ≤ o) (hfl : l.stackTraces = false) (hLs : Ls ≤ 3072) (hj : j + 6 ≤ Ls) (hk : k + 200 ≤ 60000) (hn : n + 200 ≤ 60000) (hV : LSt Z b0 cd ad o V) (kk : ∀ V2, LSt Z b0 cd ad o V2 → G l D Z b0 room_1 RL cL_law 8 (gEl b0 b Ls xs) lw_Z V2 [(4, .int (nI j)), (3, .ref o), (2, .ref (ad 0)), (1, .ref (cd 0)), (0, .ref b)] (k + 100) (n + 100) 1304 []) : G l D Z b0 room_1 RL cL_law 8 (gEl b0 b Ls xs) lw_Z V [(4, .int (nI j)), (3, .ref o), (2, .ref (ad 0)), (1, .ref (cd 0)), (0, .ref b)] k n 930 [] := by
  obtain ⟨ik, kd, fg, pl, hr, ikd, ifg, ipl, ihr, kp, so, sz, el, ki, kf, th, po, ba, en, se, im, rd, mi, ti, lo, wa, nu, li, to, ot, fo, Vb, hCI, hB, ho, hik, hs⟩ := hV
  have hok := hCI.okm
  obtain ⟨fs9, hobj⟩ := hCI.obj
  have hfc : ∀ a, a ≤ 100 → k + a ≤ room_1.cells := fun a h => Nat.le_trans (show k + a ≤ 60000 by omega) rm_c
  have hfs : ∀ a, a ≤ 100 → n + a ≤ room_1.slots := fun a h => Nat.le_trans (show n + a ≤ 60000 by omega) rm_s
  have hfc2 : k + 100 ≤ room_1.cells := Nat.le_trans (show k + 100 ≤ 60000 by omega) rm_c
  have hfs2 : n + 100 ≤ room_1.slots := Nat.le_trans (show n + 100 ≤ 60000 by omega) rm_s
  obtain ⟨p1, hp1⟩ : ∃ x, xs (j + 1) = x := ⟨_, rfl⟩
  refine g_aload_n (q := 3) (pc := 930) dL_law_930 rfl rfl ?_
  refine g_aload_n (q := 4) (pc := 931) dL_law_931 rfl rfl ?_
  refine g_iload (q := 0) (pc := 932) dL_law_932 rfl ?_
  refine g_iconst (v := nI 1) (pc := 934) dL_law_934 (by decide) ?_
  refine g_iadd_N (pc := 935) dL_law_935 ?_
  refine g_sld (pc := 936) (x := p1) (by omega) hLs hp1 dL_law_936 ?_
  refine g_callV (As := [.int p1]) (rest := []) (pc := 937) hobj rfl (d_X11_count hCI) mlL_114 selX11_X11_count_X11_count mX11_count ⟨Nat.le_of_ble_eq_true rfl, Nat.le_of_ble_eq_true rfl⟩ rfl rfl (Nat.le_of_ble_eq_true rfl) dL_law_937 ⟨hfc _ (Nat.le_of_ble_eq_true rfl), hfs _ (Nat.le_of_ble_eq_true rfl)⟩ (fun v9 V1 h9 => ?_)
  obtain ⟨rfl, hC1⟩ := h9
  refine G.eqst (st2 := [.int (spCount kd fg p1)]) rfl rfl rfl ?_
  refine G.widen (k' := k + 100) (n' := n + 100) (Nat.add_le_add_left (Nat.le_of_ble_eq_true rfl) _) (Nat.add_le_add_left (Nat.le_of_ble_eq_true rfl) _) ?_
  refine G.veq (hC1.self hB) ?_
  refine g_aload_n (q := 2) (pc := 940) dL_law_940 rfl rfl ?_
  refine g_aload_n (q := 4) (pc := 941) dL_law_941 rfl rfl ?_
  refine g_iload (q := 0) (pc := 942) dL_law_942 rfl ?_
  refine g_iconst (v := nI 1) (pc := 944) dL_law_944 (by decide) ?_
  refine g_iadd_N (pc := 945) dL_law_945 ?_
  refine g_sld (pc := 946) (x := p1) (by omega) hLs hp1 dL_law_946 ?_
  refine e_callV (k2 := k + 100) (n2 := n + 100) (As := [.int p1]) (rest := [.int (spCount kd fg p1)]) (pc := 947) (wM_0 hA) rfl (c_X12_count hA hok) mlL_117 selX12_X12_count_X12_count mX12_count ⟨Nat.le_of_ble_eq_true rfl, Nat.le_of_ble_eq_true rfl⟩ rfl rfl (Nat.le_of_ble_eq_true rfl) dL_law_947 ⟨hfc2, hfs2⟩ rfl rfl ?_
  refine g_icmp_eq (tgt := 1304) (pc := 950) dL_law_950 (by decide) (fun _ => ?_) (fun c9 => absurd rfl c9)
  exact kk _ (LSt.nx hA hao hB ho hC1 hik hs)
set_option maxHeartbeats 8000000 in
theorem law_23 (hA : aB b0 18 ad) (hao : ∀ j, j < 18 → ad j ≠ o) (hob : b0 ≤ o) (hfl : l.stackTraces = false) (hLs : Ls ≤ 3072) (hj : j + 6 ≤ Ls) (hk : k + 200 ≤ 60000) (hn : n + 200 ≤ 60000) (hV : LSt Z b0 cd ad o V) (kk : ∀ V2, LSt Z b0 cd ad o V2 → G l D Z b0 room_1 RL cL_law 8 (gEl b0 b Ls xs) lw_Z V2 [(4, .int (nI j)), (3, .ref o), (2, .ref (ad 0)), (1, .ref (cd 0)), (0, .ref b)] (k + 100) (n + 100) 1304 []) : G l D Z b0 room_1 RL cL_law 8 (gEl b0 b Ls xs) lw_Z V [(4, .int (nI j)), (3, .ref o), (2, .ref (ad 0)), (1, .ref (cd 0)), (0, .ref b)] k n 955 [] := by
  obtain ⟨ik, kd, fg, pl, hr, ikd, ifg, ipl, ihr, kp, so, sz, el, ki, kf, th, po, ba, en, se, im, rd, mi, ti, lo, wa, nu, li, to, ot, fo, Vb, hCI, hB, ho, hik, hs⟩ := hV
  have hok := hCI.okm
  obtain ⟨fs9, hobj⟩ := hCI.obj
  have hfc : ∀ a, a ≤ 100 → k + a ≤ room_1.cells := fun a h => Nat.le_trans (show k + a ≤ 60000 by omega) rm_c
  have hfs : ∀ a, a ≤ 100 → n + a ≤ room_1.slots := fun a h => Nat.le_trans (show n + a ≤ 60000 by omega) rm_s
  have hfc2 : k + 100 ≤ room_1.cells := Nat.le_trans (show k + 100 ≤ 60000 by omega) rm_c
  have hfs2 : n + 100 ≤ room_1.slots := Nat.le_trans (show n + 100 ≤ 60000 by omega) rm_s
  obtain ⟨p1, hp1⟩ : ∃ x, xs (j + 1) = x := ⟨_, rfl⟩
  obtain ⟨p2, hp2⟩ : ∃ x, xs (j + 2) = x := ⟨_, rfl⟩
  obtain ⟨p3, hp3⟩ : ∃ x, xs (j + 3) = x := ⟨_, rfl⟩
  obtain ⟨p4, hp4⟩ : ∃ x, xs (j + 4) = x := ⟨_, rfl⟩
  by_cases h : spKeep p1 p2 p3 p4 = false
  · -- refused
    refine g_aload_n (q := 3) (pc := 955) dL_law_955 rfl rfl ?_
    refine g_aload_n (q := 4) (pc := 956) dL_law_956 rfl rfl ?_
    refine g_iload (q := 0) (pc := 957) dL_law_957 rfl ?_
    refine g_iconst (v := nI 1) (pc := 959) dL_law_959 (by decide) ?_
    refine g_iadd_N (pc := 960) dL_law_960 ?_
    refine g_sld (pc := 961) (x := p1) (by omega) hLs hp1 dL_law_961 ?_
    refine g_aload_n (q := 4) (pc := 962) dL_law_962 rfl rfl ?_
    refine g_iload (q := 0) (pc := 963) dL_law_963 rfl ?_
    refine g_iconst (v := nI 2) (pc := 965) dL_law_965 (by decide) ?_
    refine g_iadd_N (pc := 966) dL_law_966 ?_
    refine g_sld (pc := 967) (x := p2) (by omega) hLs hp2 dL_law_967 ?_
    refine g_aload_n (q := 4) (pc := 968) dL_law_968 rfl rfl ?_
    refine g_iload (q := 0) (pc := 969) dL_law_969 rfl ?_
    refine g_iconst (v := nI 3) (pc := 971) dL_law_971 (by decide) ?_
    refine g_iadd_N (pc := 972) dL_law_972 ?_
    refine g_sld (pc := 973) (x := p3) (by omega) hLs hp3 dL_law_973 ?_
    refine g_aload_n (q := 4) (pc := 974) dL_law_974 rfl rfl ?_
    refine g_iload (q := 0) (pc := 975) dL_law_975 rfl ?_
    refine g_iconst (v := nI 4) (pc := 977) dL_law_977 (by decide) ?_
    refine g_iadd_N (pc := 978) dL_law_978 ?_
    refine g_sld (pc := 979) (x := p4) (by omega) hLs hp4 dL_law_979 ?_
    refine g_callV (As := [.int p1, .int p2, .int p3, .int p4]) (rest := []) (pc := 980) hobj rfl (d_X11_keep_n hCI h) mlL_118 selX11_X11_keep_X11_keep mX11_keep ⟨Nat.le_of_ble_eq_true rfl, Nat.le_of_ble_eq_true rfl⟩ rfl rfl (Nat.le_of_ble_eq_true rfl) dL_law_980 ⟨hfc _ (Nat.le_of_ble_eq_true rfl), hfs _ (Nat.le_of_ble_eq_true rfl)⟩ (fun v9 V1 h9 => ?_)
    obtain ⟨rfl, hC1⟩ := h9
    refine G.eqst (st2 := [.int (-1)]) rfl rfl rfl ?_
    refine G.widen (k' := k + 100) (n' := n + 100) (Nat.add_le_add_left (Nat.le_of_ble_eq_true rfl) _) (Nat.add_le_add_left (Nat.le_of_ble_eq_true rfl) _) ?_
    refine G.veq (hC1.self hB) ?_
    refine g_aload_n (q := 2) (pc := 983) dL_law_983 rfl rfl ?_
    refine g_aload_n (q := 4) (pc := 984) dL_law_984 rfl rfl ?_
    refine g_iload (q := 0) (pc := 985) dL_law_985 rfl ?_
    refine g_iconst (v := nI 1) (pc := 987) dL_law_987 (by decide) ?_
    refine g_iadd_N (pc := 988) dL_law_988 ?_
    refine g_sld (pc := 989) (x := p1) (by omega) hLs hp1 dL_law_989 ?_
    refine g_aload_n (q := 4) (pc := 990) dL_law_990 rfl rfl ?_
    refine g_iload (q := 0) (pc := 991) dL_law_991 rfl ?_
    refine g_iconst (v := nI 2) (pc := 993) dL_law_993 (by decide) ?_
    refine g_iadd_N (pc := 994) dL_law_994 ?_
    refine g_sld (pc := 995) (x := p2) (by omega) hLs hp2 dL_law_995 ?_
    refine g_aload_n (q := 4) (pc := 996) dL_law_996 rfl rfl ?_
    refine g_iload (q := 0) (pc := 997) dL_law_997 rfl ?_
    refine g_iconst (v := nI 3) (pc := 999) dL_law_999 (by decide) ?_
    refine g_iadd_N (pc := 1000) dL_law_1000 ?_
    refine g_sld (pc := 1001) (x := p3) (by omega) hLs hp3 dL_law_1001 ?_
    refine g_aload_n (q := 4) (pc := 1002) dL_law_1002 rfl rfl ?_
    refine g_iload (q := 0) (pc := 1003) dL_law_1003 rfl ?_
    refine g_iconst (v := nI 4) (pc := 1005) dL_law_1005 (by decide) ?_
    refine g_iadd_N (pc := 1006) dL_law_1006 ?_
    refine g_sld (pc := 1007) (x := p4) (by omega) hLs hp4 dL_law_1007 ?_
    refine e_callV (k2 := k + 100) (n2 := n + 100) (As := [.int p1, .int p2, .int p3, .int p4]) (rest := [.int (-1)]) (pc := 1008) (wM_0 hA) rfl (c_X12_keep_n hA h) mlL_122 selX12_X12_keep_X12_keep mX12_keep ⟨Nat.le_of_ble_eq_true rfl, Nat.le_of_ble_eq_true rfl⟩ rfl rfl (Nat.le_of_ble_eq_true rfl) dL_law_1008 ⟨hfc2, hfs2⟩ rfl rfl ?_
    refine g_icmp_eq (tgt := 1304) (pc := 1011) dL_law_1011 (by decide) (fun _ => ?_) (fun c9 => absurd rfl c9)
    exact kk _ (LSt.nx hA hao hB ho hC1 hik hs)
  · obtain ⟨d, hd, rfl, rfl | ⟨rfl, q, f, hq, hf, rfl, rfl⟩⟩ := spKeep_t h
    · -- nothing
      refine g_aload_n (q := 3) (pc := 955) dL_law_955 rfl rfl ?_
      refine g_aload_n (q := 4) (pc := 956) dL_law_956 rfl rfl ?_
      refine g_iload (q := 0) (pc := 957) dL_law_957 rfl ?_
      refine g_iconst (v := nI 1) (pc := 959) dL_law_959 (by decide) ?_
      refine g_iadd_N (pc := 960) dL_law_960 ?_
      refine g_sld (pc := 961) (x := nI d) (by omega) hLs hp1 dL_law_961 ?_
      refine g_aload_n (q := 4) (pc := 962) dL_law_962 rfl rfl ?_
      refine g_iload (q := 0) (pc := 963) dL_law_963 rfl ?_
      refine g_iconst (v := nI 2) (pc := 965) dL_law_965 (by decide) ?_
      refine g_iadd_N (pc := 966) dL_law_966 ?_
      refine g_sld (pc := 967) (x := nI 0) (by omega) hLs hp2 dL_law_967 ?_
      refine g_aload_n (q := 4) (pc := 968) dL_law_968 rfl rfl ?_
      refine g_iload (q := 0) (pc := 969) dL_law_969 rfl ?_
      refine g_iconst (v := nI 3) (pc := 971) dL_law_971 (by decide) ?_
      refine g_iadd_N (pc := 972) dL_law_972 ?_
      refine g_sld (pc := 973) (x := p3) (by omega) hLs hp3 dL_law_973 ?_
      refine g_aload_n (q := 4) (pc := 974) dL_law_974 rfl rfl ?_
      refine g_iload (q := 0) (pc := 975) dL_law_975 rfl ?_
      refine g_iconst (v := nI 4) (pc := 977) dL_law_977 (by decide) ?_
      refine g_iadd_N (pc := 978) dL_law_978 ?_
      refine g_sld (pc := 979) (x := p4) (by omega) hLs hp4 dL_law_979 ?_
      refine g_callV (As := [.int (nI d), .int (nI 0), .int p3, .int p4]) (rest := []) (pc := 980) hobj rfl (d_X11_keep_0 hCI hd) mlL_118 selX11_X11_keep_X11_keep mX11_keep ⟨Nat.le_of_ble_eq_true rfl, Nat.le_of_ble_eq_true rfl⟩ rfl rfl (Nat.le_of_ble_eq_true rfl) dL_law_980 ⟨hfc _ (Nat.le_of_ble_eq_true rfl), hfs _ (Nat.le_of_ble_eq_true rfl)⟩ (fun v9 V1 h9 => ?_)
      obtain ⟨rfl, hC1⟩ := h9
      refine G.eqst (st2 := [.int (nI 0)]) rfl rfl rfl ?_
      refine G.widen (k' := k + 100) (n' := n + 100) (Nat.add_le_add_left (Nat.le_of_ble_eq_true rfl) _) (Nat.add_le_add_left (Nat.le_of_ble_eq_true rfl) _) ?_
      refine G.veq (hC1.self hB) ?_
      refine g_aload_n (q := 2) (pc := 983) dL_law_983 rfl rfl ?_
      refine g_aload_n (q := 4) (pc := 984) dL_law_984 rfl rfl ?_
      refine g_iload (q := 0) (pc := 985) dL_law_985 rfl ?_
      refine g_iconst (v := nI 1) (pc := 987) dL_law_987 (by decide) ?_
      refine g_iadd_N (pc := 988) dL_law_988 ?_
      refine g_sld (pc := 989) (x := nI d) (by omega) hLs hp1 dL_law_989 ?_
      refine g_aload_n (q := 4) (pc := 990) dL_law_990 rfl rfl ?_
      refine g_iload (q := 0) (pc := 991) dL_law_991 rfl ?_
      refine g_iconst (v := nI 2) (pc := 993) dL_law_993 (by decide) ?_
      refine g_iadd_N (pc := 994) dL_law_994 ?_
      refine g_sld (pc := 995) (x := nI 0) (by omega) hLs hp2 dL_law_995 ?_
      refine g_aload_n (q := 4) (pc := 996) dL_law_996 rfl rfl ?_
      refine g_iload (q := 0) (pc := 997) dL_law_997 rfl ?_
      refine g_iconst (v := nI 3) (pc := 999) dL_law_999 (by decide) ?_
      refine g_iadd_N (pc := 1000) dL_law_1000 ?_
      refine g_sld (pc := 1001) (x := p3) (by omega) hLs hp3 dL_law_1001 ?_
      refine g_aload_n (q := 4) (pc := 1002) dL_law_1002 rfl rfl ?_
      refine g_iload (q := 0) (pc := 1003) dL_law_1003 rfl ?_
      refine g_iconst (v := nI 4) (pc := 1005) dL_law_1005 (by decide) ?_
      refine g_iadd_N (pc := 1006) dL_law_1006 ?_
      refine g_sld (pc := 1007) (x := p4) (by omega) hLs hp4 dL_law_1007 ?_
      refine e_callV (k2 := k + 100) (n2 := n + 100) (As := [.int (nI d), .int (nI 0), .int p3, .int p4]) (rest := [.int (nI 0)]) (pc := 1008) (wM_0 hA) rfl (c_X12_keep_0 hA hd) mlL_122 selX12_X12_keep_X12_keep mX12_keep ⟨Nat.le_of_ble_eq_true rfl, Nat.le_of_ble_eq_true rfl⟩ rfl rfl (Nat.le_of_ble_eq_true rfl) dL_law_1008 ⟨hfc2, hfs2⟩ rfl rfl ?_
      refine g_icmp_eq (tgt := 1304) (pc := 1011) dL_law_1011 (by decide) (fun _ => ?_) (fun c9 => absurd rfl c9)
      exact kk _ (LSt.nx hA hao hB ho hC1 hik hs.keep0)
    · -- a rock
      refine g_aload_n (q := 3) (pc := 955) dL_law_955 rfl rfl ?_
      refine g_aload_n (q := 4) (pc := 956) dL_law_956 rfl rfl ?_
      refine g_iload (q := 0) (pc := 957) dL_law_957 rfl ?_
      refine g_iconst (v := nI 1) (pc := 959) dL_law_959 (by decide) ?_
      refine g_iadd_N (pc := 960) dL_law_960 ?_
      refine g_sld (pc := 961) (x := nI d) (by omega) hLs hp1 dL_law_961 ?_
      refine g_aload_n (q := 4) (pc := 962) dL_law_962 rfl rfl ?_
      refine g_iload (q := 0) (pc := 963) dL_law_963 rfl ?_
      refine g_iconst (v := nI 2) (pc := 965) dL_law_965 (by decide) ?_
      refine g_iadd_N (pc := 966) dL_law_966 ?_
      refine g_sld (pc := 967) (x := nI 1) (by omega) hLs hp2 dL_law_967 ?_
      refine g_aload_n (q := 4) (pc := 968) dL_law_968 rfl rfl ?_
      refine g_iload (q := 0) (pc := 969) dL_law_969 rfl ?_
      refine g_iconst (v := nI 3) (pc := 971) dL_law_971 (by decide) ?_
      refine g_iadd_N (pc := 972) dL_law_972 ?_
      refine g_sld (pc := 973) (x := nI q) (by omega) hLs hp3 dL_law_973 ?_
      refine g_aload_n (q := 4) (pc := 974) dL_law_974 rfl rfl ?_
      refine g_iload (q := 0) (pc := 975) dL_law_975 rfl ?_
      refine g_iconst (v := nI 4) (pc := 977) dL_law_977 (by decide) ?_
      refine g_iadd_N (pc := 978) dL_law_978 ?_
      refine g_sld (pc := 979) (x := nI f) (by omega) hLs hp4 dL_law_979 ?_
      refine g_callV (As := [.int (nI d), .int (nI 1), .int (nI q), .int (nI f)]) (rest := []) (pc := 980) hobj rfl (d_X11_keep_1 hCI hd hq hf) mlL_118 selX11_X11_keep_X11_keep mX11_keep ⟨Nat.le_of_ble_eq_true rfl, Nat.le_of_ble_eq_true rfl⟩ rfl rfl (Nat.le_of_ble_eq_true rfl) dL_law_980 ⟨hfc _ (Nat.le_of_ble_eq_true rfl), hfs _ (Nat.le_of_ble_eq_true rfl)⟩ (fun v9 V1 h9 => ?_)
      obtain ⟨rfl, hC1⟩ := h9
      refine G.eqst (st2 := [.int (nI 0)]) rfl rfl rfl ?_
      refine G.widen (k' := k + 100) (n' := n + 100) (Nat.add_le_add_left (Nat.le_of_ble_eq_true rfl) _) (Nat.add_le_add_left (Nat.le_of_ble_eq_true rfl) _) ?_
      refine G.veq (hC1.self hB) ?_
      refine g_aload_n (q := 2) (pc := 983) dL_law_983 rfl rfl ?_
      refine g_aload_n (q := 4) (pc := 984) dL_law_984 rfl rfl ?_
      refine g_iload (q := 0) (pc := 985) dL_law_985 rfl ?_
      refine g_iconst (v := nI 1) (pc := 987) dL_law_987 (by decide) ?_
      refine g_iadd_N (pc := 988) dL_law_988 ?_
      refine g_sld (pc := 989) (x := nI d) (by omega) hLs hp1 dL_law_989 ?_
      refine g_aload_n (q := 4) (pc := 990) dL_law_990 rfl rfl ?_
      refine g_iload (q := 0) (pc := 991) dL_law_991 rfl ?_
      refine g_iconst (v := nI 2) (pc := 993) dL_law_993 (by decide) ?_
      refine g_iadd_N (pc := 994) dL_law_994 ?_
      refine g_sld (pc := 995) (x := nI 1) (by omega) hLs hp2 dL_law_995 ?_
      refine g_aload_n (q := 4) (pc := 996) dL_law_996 rfl rfl ?_
      refine g_iload (q := 0) (pc := 997) dL_law_997 rfl ?_
      refine g_iconst (v := nI 3) (pc := 999) dL_law_999 (by decide) ?_
      refine g_iadd_N (pc := 1000) dL_law_1000 ?_
      refine g_sld (pc := 1001) (x := nI q) (by omega) hLs hp3 dL_law_1001 ?_
      refine g_aload_n (q := 4) (pc := 1002) dL_law_1002 rfl rfl ?_
      refine g_iload (q := 0) (pc := 1003) dL_law_1003 rfl ?_
      refine g_iconst (v := nI 4) (pc := 1005) dL_law_1005 (by decide) ?_
      refine g_iadd_N (pc := 1006) dL_law_1006 ?_
      refine g_sld (pc := 1007) (x := nI f) (by omega) hLs hp4 dL_law_1007 ?_
      refine e_callV (k2 := k + 100) (n2 := n + 100) (As := [.int (nI d), .int (nI 1), .int (nI q), .int (nI f)]) (rest := [.int (nI 0)]) (pc := 1008) (wM_0 hA) rfl (c_X12_keep_1 hA hd hq hf) mlL_122 selX12_X12_keep_X12_keep mX12_keep ⟨Nat.le_of_ble_eq_true rfl, Nat.le_of_ble_eq_true rfl⟩ rfl rfl (Nat.le_of_ble_eq_true rfl) dL_law_1008 ⟨hfc2, hfs2⟩ rfl rfl ?_
      refine g_icmp_eq (tgt := 1304) (pc := 1011) dL_law_1011 (by decide) (fun _ => ?_) (fun c9 => absurd rfl c9)
      exact kk _ (LSt.nx hA hao hB ho hC1 hik (hs.keep1 hq hf))
set_option maxHeartbeats 8000000 in
theorem law_24 (hA : aB b0 18 ad) (hao : ∀ j, j < 18 → ad j ≠ o) (hob : b0 ≤ o) (hfl : l.stackTraces = false) (hLs : Ls ≤ 3072) (hj : j + 6 ≤ Ls) (hk : k + 200 ≤ 60000) (hn : n + 200 ≤ 60000) (hV : LSt Z b0 cd ad o V) (kk : ∀ V2, LSt Z b0 cd ad o V2 → G l D Z b0 room_1 RL cL_law 8 (gEl b0 b Ls xs) lw_Z V2 [(4, .int (nI j)), (3, .ref o), (2, .ref (ad 0)), (1, .ref (cd 0)), (0, .ref b)] (k + 100) (n + 100) 1304 []) : G l D Z b0 room_1 RL cL_law 8 (gEl b0 b Ls xs) lw_Z V [(4, .int (nI j)), (3, .ref o), (2, .ref (ad 0)), (1, .ref (cd 0)), (0, .ref b)] k n 1016 [] := by
  obtain ⟨ik, kd, fg, pl, hr, ikd, ifg, ipl, ihr, kp, so, sz, el, ki, kf, th, po, ba, en, se, im, rd, mi, ti, lo, wa, nu, li, to, ot, fo, Vb, hCI, hB, ho, hik, hs⟩ := hV
  have hok := hCI.okm
  obtain ⟨fs9, hobj⟩ := hCI.obj
  have hfc : ∀ a, a ≤ 100 → k + a ≤ room_1.cells := fun a h => Nat.le_trans (show k + a ≤ 60000 by omega) rm_c
  have hfs : ∀ a, a ≤ 100 → n + a ≤ room_1.slots := fun a h => Nat.le_trans (show n + a ≤ 60000 by omega) rm_s
  have hfc2 : k + 100 ≤ room_1.cells := Nat.le_trans (show k + 100 ≤ 60000 by omega) rm_c
  have hfs2 : n + 100 ≤ room_1.slots := Nat.le_trans (show n + 100 ≤ 60000 by omega) rm_s
  obtain ⟨p1, hp1⟩ : ∃ x, xs (j + 1) = x := ⟨_, rfl⟩
  obtain ⟨p2, hp2⟩ : ∃ x, xs (j + 2) = x := ⟨_, rfl⟩
  obtain ⟨p3, hp3⟩ : ∃ x, xs (j + 3) = x := ⟨_, rfl⟩
  by_cases h : spRow p1 p2 p3 = nI 0
  · obtain ⟨d, r, z, hd, hr3, hz, rfl, rfl, rfl⟩ := spRow_0 h
    refine g_aload_n (q := 3) (pc := 1016) dL_law_1016 rfl rfl ?_
    refine g_aload_n (q := 4) (pc := 1017) dL_law_1017 rfl rfl ?_
    refine g_iload (q := 0) (pc := 1018) dL_law_1018 rfl ?_
    refine g_iconst (v := nI 1) (pc := 1020) dL_law_1020 (by decide) ?_
    refine g_iadd_N (pc := 1021) dL_law_1021 ?_
    refine g_sld (pc := 1022) (x := nI d) (by omega) hLs hp1 dL_law_1022 ?_
    refine g_aload_n (q := 4) (pc := 1023) dL_law_1023 rfl rfl ?_
    refine g_iload (q := 0) (pc := 1024) dL_law_1024 rfl ?_
    refine g_iconst (v := nI 2) (pc := 1026) dL_law_1026 (by decide) ?_
    refine g_iadd_N (pc := 1027) dL_law_1027 ?_
    refine g_sld (pc := 1028) (x := nI r) (by omega) hLs hp2 dL_law_1028 ?_
    refine g_aload_n (q := 4) (pc := 1029) dL_law_1029 rfl rfl ?_
    refine g_iload (q := 0) (pc := 1030) dL_law_1030 rfl ?_
    refine g_iconst (v := nI 3) (pc := 1032) dL_law_1032 (by decide) ?_
    refine g_iadd_N (pc := 1033) dL_law_1033 ?_
    refine g_sld (pc := 1034) (x := nI z) (by omega) hLs hp3 dL_law_1034 ?_
    refine g_callV (As := [.int (nI d), .int (nI r), .int (nI z)]) (rest := []) (pc := 1035) hobj rfl (d_X11_row_s hCI hd hr3 hz) mlL_123 selX11_X11_row_X11_row mX11_row ⟨Nat.le_of_ble_eq_true rfl, Nat.le_of_ble_eq_true rfl⟩ rfl rfl (Nat.le_of_ble_eq_true rfl) dL_law_1035 ⟨hfc _ (Nat.le_of_ble_eq_true rfl), hfs _ (Nat.le_of_ble_eq_true rfl)⟩ (fun v9 V1 h9 => ?_)
    obtain ⟨rfl, hC1⟩ := h9
    refine G.eqst (st2 := [.int (nI 0)]) rfl rfl rfl ?_
    refine G.widen (k' := k + 100) (n' := n + 100) (Nat.add_le_add_left (Nat.le_of_ble_eq_true rfl) _) (Nat.add_le_add_left (Nat.le_of_ble_eq_true rfl) _) ?_
    refine G.veq (hC1.self hB) ?_
    refine g_aload_n (q := 2) (pc := 1038) dL_law_1038 rfl rfl ?_
    refine g_aload_n (q := 4) (pc := 1039) dL_law_1039 rfl rfl ?_
    refine g_iload (q := 0) (pc := 1040) dL_law_1040 rfl ?_
    refine g_iconst (v := nI 1) (pc := 1042) dL_law_1042 (by decide) ?_
    refine g_iadd_N (pc := 1043) dL_law_1043 ?_
    refine g_sld (pc := 1044) (x := nI d) (by omega) hLs hp1 dL_law_1044 ?_
    refine g_aload_n (q := 4) (pc := 1045) dL_law_1045 rfl rfl ?_
    refine g_iload (q := 0) (pc := 1046) dL_law_1046 rfl ?_
    refine g_iconst (v := nI 2) (pc := 1048) dL_law_1048 (by decide) ?_
    refine g_iadd_N (pc := 1049) dL_law_1049 ?_
    refine g_sld (pc := 1050) (x := nI r) (by omega) hLs hp2 dL_law_1050 ?_
    refine g_aload_n (q := 4) (pc := 1051) dL_law_1051 rfl rfl ?_
    refine g_iload (q := 0) (pc := 1052) dL_law_1052 rfl ?_
    refine g_iconst (v := nI 3) (pc := 1054) dL_law_1054 (by decide) ?_
    refine g_iadd_N (pc := 1055) dL_law_1055 ?_
    refine g_sld (pc := 1056) (x := nI z) (by omega) hLs hp3 dL_law_1056 ?_
    refine e_callV (k2 := k + 100) (n2 := n + 100) (As := [.int (nI d), .int (nI r), .int (nI z)]) (rest := [.int (nI 0)]) (pc := 1057) (wM_0 hA) rfl (c_X12_row_s hA hd hr3 hz) mlL_126 selX12_X12_row_X12_row mX12_row ⟨Nat.le_of_ble_eq_true rfl, Nat.le_of_ble_eq_true rfl⟩ rfl rfl (Nat.le_of_ble_eq_true rfl) dL_law_1057 ⟨hfc2, hfs2⟩ rfl rfl ?_
    refine g_icmp_eq (tgt := 1304) (pc := 1060) dL_law_1060 (by decide) (fun _ => ?_) (fun c9 => absurd rfl c9)
    exact kk _ (LSt.nx hA hao hB ho hC1 hik (hs.row hr3 hz))
  · -- refused
    refine g_aload_n (q := 3) (pc := 1016) dL_law_1016 rfl rfl ?_
    refine g_aload_n (q := 4) (pc := 1017) dL_law_1017 rfl rfl ?_
    refine g_iload (q := 0) (pc := 1018) dL_law_1018 rfl ?_
    refine g_iconst (v := nI 1) (pc := 1020) dL_law_1020 (by decide) ?_
    refine g_iadd_N (pc := 1021) dL_law_1021 ?_
    refine g_sld (pc := 1022) (x := p1) (by omega) hLs hp1 dL_law_1022 ?_
    refine g_aload_n (q := 4) (pc := 1023) dL_law_1023 rfl rfl ?_
    refine g_iload (q := 0) (pc := 1024) dL_law_1024 rfl ?_
    refine g_iconst (v := nI 2) (pc := 1026) dL_law_1026 (by decide) ?_
    refine g_iadd_N (pc := 1027) dL_law_1027 ?_
    refine g_sld (pc := 1028) (x := p2) (by omega) hLs hp2 dL_law_1028 ?_
    refine g_aload_n (q := 4) (pc := 1029) dL_law_1029 rfl rfl ?_
    refine g_iload (q := 0) (pc := 1030) dL_law_1030 rfl ?_
    refine g_iconst (v := nI 3) (pc := 1032) dL_law_1032 (by decide) ?_
    refine g_iadd_N (pc := 1033) dL_law_1033 ?_
    refine g_sld (pc := 1034) (x := p3) (by omega) hLs hp3 dL_law_1034 ?_
    refine g_callV (As := [.int p1, .int p2, .int p3]) (rest := []) (pc := 1035) hobj rfl (d_X11_row_n hCI h) mlL_123 selX11_X11_row_X11_row mX11_row ⟨Nat.le_of_ble_eq_true rfl, Nat.le_of_ble_eq_true rfl⟩ rfl rfl (Nat.le_of_ble_eq_true rfl) dL_law_1035 ⟨hfc _ (Nat.le_of_ble_eq_true rfl), hfs _ (Nat.le_of_ble_eq_true rfl)⟩ (fun v9 V1 h9 => ?_)
    obtain ⟨rfl, hC1⟩ := h9
    refine G.eqst (st2 := [.int (spRow p1 p2 p3)]) rfl rfl rfl ?_
    refine G.widen (k' := k + 100) (n' := n + 100) (Nat.add_le_add_left (Nat.le_of_ble_eq_true rfl) _) (Nat.add_le_add_left (Nat.le_of_ble_eq_true rfl) _) ?_
    refine G.veq (hC1.self hB) ?_
    refine g_aload_n (q := 2) (pc := 1038) dL_law_1038 rfl rfl ?_
    refine g_aload_n (q := 4) (pc := 1039) dL_law_1039 rfl rfl ?_
    refine g_iload (q := 0) (pc := 1040) dL_law_1040 rfl ?_
    refine g_iconst (v := nI 1) (pc := 1042) dL_law_1042 (by decide) ?_
    refine g_iadd_N (pc := 1043) dL_law_1043 ?_
    refine g_sld (pc := 1044) (x := p1) (by omega) hLs hp1 dL_law_1044 ?_
    refine g_aload_n (q := 4) (pc := 1045) dL_law_1045 rfl rfl ?_
    refine g_iload (q := 0) (pc := 1046) dL_law_1046 rfl ?_
    refine g_iconst (v := nI 2) (pc := 1048) dL_law_1048 (by decide) ?_
    refine g_iadd_N (pc := 1049) dL_law_1049 ?_
    refine g_sld (pc := 1050) (x := p2) (by omega) hLs hp2 dL_law_1050 ?_
    refine g_aload_n (q := 4) (pc := 1051) dL_law_1051 rfl rfl ?_
    refine g_iload (q := 0) (pc := 1052) dL_law_1052 rfl ?_
    refine g_iconst (v := nI 3) (pc := 1054) dL_law_1054 (by decide) ?_
    refine g_iadd_N (pc := 1055) dL_law_1055 ?_
    refine g_sld (pc := 1056) (x := p3) (by omega) hLs hp3 dL_law_1056 ?_
    refine e_callV (k2 := k + 100) (n2 := n + 100) (As := [.int p1, .int p2, .int p3]) (rest := [.int (spRow p1 p2 p3)]) (pc := 1057) (wM_0 hA) rfl (c_X12_row_n hA h) mlL_126 selX12_X12_row_X12_row mX12_row ⟨Nat.le_of_ble_eq_true rfl, Nat.le_of_ble_eq_true rfl⟩ rfl rfl (Nat.le_of_ble_eq_true rfl) dL_law_1057 ⟨hfc2, hfs2⟩ rfl rfl ?_
    refine g_icmp_eq (tgt := 1304) (pc := 1060) dL_law_1060 (by decide) (fun _ => ?_) (fun c9 => absurd rfl c9)
    exact kk _ (LSt.nx hA hao hB ho hC1 hik hs)
set_option maxHeartbeats 8000000 in
theorem law_25 (hA : aB b0 18 ad) (hao : ∀ j, j < 18 → ad j ≠ o) (hob : b0 ≤ o) (hfl : l.stackTraces = false) (hLs : Ls ≤ 3072) (hj : j + 6 ≤ Ls) (hk : k + 200 ≤ 60000) (hn : n + 200 ≤ 60000) (hV : LSt Z b0 cd ad o V) (kk : ∀ V2, LSt Z b0 cd ad o V2 → G l D Z b0 room_1 RL cL_law 8 (gEl b0 b Ls xs) lw_Z V2 [(4, .int (nI j)), (3, .ref o), (2, .ref (ad 0)), (1, .ref (cd 0)), (0, .ref b)] (k + 100) (n + 100) 1304 []) : G l D Z b0 room_1 RL cL_law 8 (gEl b0 b Ls xs) lw_Z V [(4, .int (nI j)), (3, .ref o), (2, .ref (ad 0)), (1, .ref (cd 0)), (0, .ref b)] k n 1065 [] := by
  obtain ⟨ik, kd, fg, pl, hr, ikd, ifg, ipl, ihr, kp, so, sz, el, ki, kf, th, po, ba, en, se, im, rd, mi, ti, lo, wa, nu, li, to, ot, fo, Vb, hCI, hB, ho, hik, hs⟩ := hV
  have hok := hCI.okm
  obtain ⟨fs9, hobj⟩ := hCI.obj
  have hfc : ∀ a, a ≤ 100 → k + a ≤ room_1.cells := fun a h => Nat.le_trans (show k + a ≤ 60000 by omega) rm_c
  have hfs : ∀ a, a ≤ 100 → n + a ≤ room_1.slots := fun a h => Nat.le_trans (show n + a ≤ 60000 by omega) rm_s
  have hfc2 : k + 100 ≤ room_1.cells := Nat.le_trans (show k + 100 ≤ 60000 by omega) rm_c
  have hfs2 : n + 100 ≤ room_1.slots := Nat.le_trans (show n + 100 ≤ 60000 by omega) rm_s
  obtain ⟨p1, hp1⟩ : ∃ x, xs (j + 1) = x := ⟨_, rfl⟩
  obtain ⟨p2, hp2⟩ : ∃ x, xs (j + 2) = x := ⟨_, rfl⟩
  obtain ⟨p3, hp3⟩ : ∃ x, xs (j + 3) = x := ⟨_, rfl⟩
  by_cases h : spPut kp so sz p1 p2 = nI 0
  · obtain ⟨d, i, hd, rfl, rfl, hk2, hi1⟩ := spPut_0 h
    refine g_aload_n (q := 3) (pc := 1065) dL_law_1065 rfl rfl ?_
    refine g_aload_n (q := 4) (pc := 1066) dL_law_1066 rfl rfl ?_
    refine g_iload (q := 0) (pc := 1067) dL_law_1067 rfl ?_
    refine g_iconst (v := nI 1) (pc := 1069) dL_law_1069 (by decide) ?_
    refine g_iadd_N (pc := 1070) dL_law_1070 ?_
    refine g_sld (pc := 1071) (x := nI d) (by omega) hLs hp1 dL_law_1071 ?_
    refine g_aload_n (q := 4) (pc := 1072) dL_law_1072 rfl rfl ?_
    refine g_iload (q := 0) (pc := 1073) dL_law_1073 rfl ?_
    refine g_iconst (v := nI 2) (pc := 1075) dL_law_1075 (by decide) ?_
    refine g_iadd_N (pc := 1076) dL_law_1076 ?_
    refine g_sld (pc := 1077) (x := nI i) (by omega) hLs hp2 dL_law_1077 ?_
    refine g_aload_n (q := 4) (pc := 1078) dL_law_1078 rfl rfl ?_
    refine g_iload (q := 0) (pc := 1079) dL_law_1079 rfl ?_
    refine g_iconst (v := nI 3) (pc := 1081) dL_law_1081 (by decide) ?_
    refine g_iadd_N (pc := 1082) dL_law_1082 ?_
    refine g_sld (pc := 1083) (x := p3) (by omega) hLs hp3 dL_law_1083 ?_
    refine g_callV (As := [.int (nI d), .int (nI i), .int p3]) (rest := []) (pc := 1084) hobj rfl (d_X11_put_s hCI hd hk2 hi1) mlL_127 selX11_X11_put_X11_put mX11_put ⟨Nat.le_of_ble_eq_true rfl, Nat.le_of_ble_eq_true rfl⟩ rfl rfl (Nat.le_of_ble_eq_true rfl) dL_law_1084 ⟨hfc _ (Nat.le_of_ble_eq_true rfl), hfs _ (Nat.le_of_ble_eq_true rfl)⟩ (fun v9 V1 h9 => ?_)
    obtain ⟨rfl, hC1⟩ := h9
    refine G.eqst (st2 := [.int (nI 0)]) rfl rfl rfl ?_
    refine G.widen (k' := k + 100) (n' := n + 100) (Nat.add_le_add_left (Nat.le_of_ble_eq_true rfl) _) (Nat.add_le_add_left (Nat.le_of_ble_eq_true rfl) _) ?_
    refine G.veq (hC1.self hB) ?_
    refine g_aload_n (q := 2) (pc := 1087) dL_law_1087 rfl rfl ?_
    refine g_aload_n (q := 4) (pc := 1088) dL_law_1088 rfl rfl ?_
    refine g_iload (q := 0) (pc := 1089) dL_law_1089 rfl ?_
    refine g_iconst (v := nI 1) (pc := 1091) dL_law_1091 (by decide) ?_
    refine g_iadd_N (pc := 1092) dL_law_1092 ?_
    refine g_sld (pc := 1093) (x := nI d) (by omega) hLs hp1 dL_law_1093 ?_
    refine g_aload_n (q := 4) (pc := 1094) dL_law_1094 rfl rfl ?_
    refine g_iload (q := 0) (pc := 1095) dL_law_1095 rfl ?_
    refine g_iconst (v := nI 2) (pc := 1097) dL_law_1097 (by decide) ?_
    refine g_iadd_N (pc := 1098) dL_law_1098 ?_
    refine g_sld (pc := 1099) (x := nI i) (by omega) hLs hp2 dL_law_1099 ?_
    refine g_aload_n (q := 4) (pc := 1100) dL_law_1100 rfl rfl ?_
    refine g_iload (q := 0) (pc := 1101) dL_law_1101 rfl ?_
    refine g_iconst (v := nI 3) (pc := 1103) dL_law_1103 (by decide) ?_
    refine g_iadd_N (pc := 1104) dL_law_1104 ?_
    refine g_sld (pc := 1105) (x := p3) (by omega) hLs hp3 dL_law_1105 ?_
    refine e_callV (k2 := k + 100) (n2 := n + 100) (As := [.int (nI d), .int (nI i), .int p3]) (rest := [.int (nI 0)]) (pc := 1106) (wM_0 hA) rfl (c_X12_put_s hA hs hd hk2 hi1) mlL_130 selX12_X12_put_X12_put mX12_put ⟨Nat.le_of_ble_eq_true rfl, Nat.le_of_ble_eq_true rfl⟩ rfl rfl (Nat.le_of_ble_eq_true rfl) dL_law_1106 ⟨hfc2, hfs2⟩ rfl rfl ?_
    refine g_icmp_eq (tgt := 1304) (pc := 1109) dL_law_1109 (by decide) (fun _ => ?_) (fun c9 => absurd rfl c9)
    exact kk _ (LSt.nx hA hao hB ho hC1 hik hs)
  · -- refused
    refine g_aload_n (q := 3) (pc := 1065) dL_law_1065 rfl rfl ?_
    refine g_aload_n (q := 4) (pc := 1066) dL_law_1066 rfl rfl ?_
    refine g_iload (q := 0) (pc := 1067) dL_law_1067 rfl ?_
    refine g_iconst (v := nI 1) (pc := 1069) dL_law_1069 (by decide) ?_
    refine g_iadd_N (pc := 1070) dL_law_1070 ?_
    refine g_sld (pc := 1071) (x := p1) (by omega) hLs hp1 dL_law_1071 ?_
    refine g_aload_n (q := 4) (pc := 1072) dL_law_1072 rfl rfl ?_
    refine g_iload (q := 0) (pc := 1073) dL_law_1073 rfl ?_
    refine g_iconst (v := nI 2) (pc := 1075) dL_law_1075 (by decide) ?_
    refine g_iadd_N (pc := 1076) dL_law_1076 ?_
    refine g_sld (pc := 1077) (x := p2) (by omega) hLs hp2 dL_law_1077 ?_
    refine g_aload_n (q := 4) (pc := 1078) dL_law_1078 rfl rfl ?_
    refine g_iload (q := 0) (pc := 1079) dL_law_1079 rfl ?_
    refine g_iconst (v := nI 3) (pc := 1081) dL_law_1081 (by decide) ?_
    refine g_iadd_N (pc := 1082) dL_law_1082 ?_
    refine g_sld (pc := 1083) (x := p3) (by omega) hLs hp3 dL_law_1083 ?_
    refine g_callV (As := [.int p1, .int p2, .int p3]) (rest := []) (pc := 1084) hobj rfl (d_X11_put_n hCI h) mlL_127 selX11_X11_put_X11_put mX11_put ⟨Nat.le_of_ble_eq_true rfl, Nat.le_of_ble_eq_true rfl⟩ rfl rfl (Nat.le_of_ble_eq_true rfl) dL_law_1084 ⟨hfc _ (Nat.le_of_ble_eq_true rfl), hfs _ (Nat.le_of_ble_eq_true rfl)⟩ (fun v9 V1 h9 => ?_)
    obtain ⟨rfl, hC1⟩ := h9
    refine G.eqst (st2 := [.int (spPut kp so sz p1 p2)]) rfl rfl rfl ?_
    refine G.widen (k' := k + 100) (n' := n + 100) (Nat.add_le_add_left (Nat.le_of_ble_eq_true rfl) _) (Nat.add_le_add_left (Nat.le_of_ble_eq_true rfl) _) ?_
    refine G.veq (hC1.self hB) ?_
    refine g_aload_n (q := 2) (pc := 1087) dL_law_1087 rfl rfl ?_
    refine g_aload_n (q := 4) (pc := 1088) dL_law_1088 rfl rfl ?_
    refine g_iload (q := 0) (pc := 1089) dL_law_1089 rfl ?_
    refine g_iconst (v := nI 1) (pc := 1091) dL_law_1091 (by decide) ?_
    refine g_iadd_N (pc := 1092) dL_law_1092 ?_
    refine g_sld (pc := 1093) (x := p1) (by omega) hLs hp1 dL_law_1093 ?_
    refine g_aload_n (q := 4) (pc := 1094) dL_law_1094 rfl rfl ?_
    refine g_iload (q := 0) (pc := 1095) dL_law_1095 rfl ?_
    refine g_iconst (v := nI 2) (pc := 1097) dL_law_1097 (by decide) ?_
    refine g_iadd_N (pc := 1098) dL_law_1098 ?_
    refine g_sld (pc := 1099) (x := p2) (by omega) hLs hp2 dL_law_1099 ?_
    refine g_aload_n (q := 4) (pc := 1100) dL_law_1100 rfl rfl ?_
    refine g_iload (q := 0) (pc := 1101) dL_law_1101 rfl ?_
    refine g_iconst (v := nI 3) (pc := 1103) dL_law_1103 (by decide) ?_
    refine g_iadd_N (pc := 1104) dL_law_1104 ?_
    refine g_sld (pc := 1105) (x := p3) (by omega) hLs hp3 dL_law_1105 ?_
    refine e_callV (k2 := k + 100) (n2 := n + 100) (As := [.int p1, .int p2, .int p3]) (rest := [.int (spPut kp so sz p1 p2)]) (pc := 1106) (wM_0 hA) rfl (c_X12_put_n hA hs h) mlL_130 selX12_X12_put_X12_put mX12_put ⟨Nat.le_of_ble_eq_true rfl, Nat.le_of_ble_eq_true rfl⟩ rfl rfl (Nat.le_of_ble_eq_true rfl) dL_law_1106 ⟨hfc2, hfs2⟩ rfl rfl ?_
    refine g_icmp_eq (tgt := 1304) (pc := 1109) dL_law_1109 (by decide) (fun _ => ?_) (fun c9 => absurd rfl c9)
    exact kk _ (LSt.nx hA hao hB ho hC1 hik hs)
set_option maxHeartbeats 8000000 in
theorem law_26 (hA : aB b0 18 ad) (hao : ∀ j, j < 18 → ad j ≠ o) (hob : b0 ≤ o) (hfl : l.stackTraces = false) (hLs : Ls ≤ 3072) (hj : j + 6 ≤ Ls) (hk : k + 200 ≤ 60000) (hn : n + 200 ≤ 60000) (hV : LSt Z b0 cd ad o V) (kk : ∀ V2, LSt Z b0 cd ad o V2 → G l D Z b0 room_1 RL cL_law 8 (gEl b0 b Ls xs) lw_Z V2 [(4, .int (nI j)), (3, .ref o), (2, .ref (ad 0)), (1, .ref (cd 0)), (0, .ref b)] (k + 100) (n + 100) 1304 []) : G l D Z b0 room_1 RL cL_law 8 (gEl b0 b Ls xs) lw_Z V [(4, .int (nI j)), (3, .ref o), (2, .ref (ad 0)), (1, .ref (cd 0)), (0, .ref b)] k n 1114 [] := by
  obtain ⟨ik, kd, fg, pl, hr, ikd, ifg, ipl, ihr, kp, so, sz, el, ki, kf, th, po, ba, en, se, im, rd, mi, ti, lo, wa, nu, li, to, ot, fo, Vb, hCI, hB, ho, hik, hs⟩ := hV
  have hok := hCI.okm
  obtain ⟨fs9, hobj⟩ := hCI.obj
  have hfc : ∀ a, a ≤ 100 → k + a ≤ room_1.cells := fun a h => Nat.le_trans (show k + a ≤ 60000 by omega) rm_c
  have hfs : ∀ a, a ≤ 100 → n + a ≤ room_1.slots := fun a h => Nat.le_trans (show n + a ≤ 60000 by omega) rm_s
  have hfc2 : k + 100 ≤ room_1.cells := Nat.le_trans (show k + 100 ≤ 60000 by omega) rm_c
  have hfs2 : n + 100 ≤ room_1.slots := Nat.le_trans (show n + 100 ≤ 60000 by omega) rm_s
  obtain ⟨p1, hp1⟩ : ∃ x, xs (j + 1) = x := ⟨_, rfl⟩
  obtain ⟨p2, hp2⟩ : ∃ x, xs (j + 2) = x := ⟨_, rfl⟩
  refine g_aload_n (q := 3) (pc := 1114) dL_law_1114 rfl rfl ?_
  refine g_aload_n (q := 4) (pc := 1115) dL_law_1115 rfl rfl ?_
  refine g_iload (q := 0) (pc := 1116) dL_law_1116 rfl ?_
  refine g_iconst (v := nI 1) (pc := 1118) dL_law_1118 (by decide) ?_
  refine g_iadd_N (pc := 1119) dL_law_1119 ?_
  refine g_sld (pc := 1120) (x := p1) (by omega) hLs hp1 dL_law_1120 ?_
  refine g_aload_n (q := 4) (pc := 1121) dL_law_1121 rfl rfl ?_
  refine g_iload (q := 0) (pc := 1122) dL_law_1122 rfl ?_
  refine g_iconst (v := nI 2) (pc := 1124) dL_law_1124 (by decide) ?_
  refine g_iadd_N (pc := 1125) dL_law_1125 ?_
  refine g_sld (pc := 1126) (x := p2) (by omega) hLs hp2 dL_law_1126 ?_
  refine g_aload_n (q := 1) (pc := 1127) dL_law_1127 rfl rfl ?_
  have hVo := hCI.base ho
  refine g_callSX (hz9 := fun _ _ _ h => h.1) (As := [.ref (cd 0), .int p1, .int p2, .ref o]) (rest := []) (pc := 1128) (dx_L_element hCI hVo hob hfl) mlL_131 mL_element ⟨Nat.le_of_ble_eq_true rfl, Nat.le_of_ble_eq_true rfl⟩ rfl rfl (Nat.le_of_ble_eq_true rfl) dL_law_1128 ⟨hfc _ (Nat.le_of_ble_eq_true rfl), hfs _ (Nat.le_of_ble_eq_true rfl)⟩ (fun v9 V1 h9 => ?_)
  obtain ⟨rfl, ⟨z0, rfl⟩ | ⟨z0, rfl⟩⟩ := h9
  · -- told
    refine G.eqst (st2 := [.int (nI 0)]) rfl rfl (by rw [z0]; rfl) ?_
    refine G.widen (k' := k + 100) (n' := n + 100) (Nat.add_le_add_left (Nat.le_of_ble_eq_true rfl) _) (Nat.add_le_add_left (Nat.le_of_ble_eq_true rfl) _) ?_
    obtain ⟨d, i1, hd, rfl, rfl, hk2, hi1⟩ := spEl_0 z0
    rw [dN_N (by omega), dN_N (by have := (hs d hd).2.2.1; omega)]
    have hC1 := hCI.outp (fn := vp_updL fo 0 (el (100 * d + i1)).toInt64) ho
    have hB2 : ∀ j, j < 18 → upv Vb o (vL Z 4 1 (vp_updL fo 0 (el (100 * d + i1)).toInt64)) (ad j) = some (pM Z ad ik th po ba en se (enc kd fg pl hr) im rd mi (nf kp) (nf so) (nf sz) el ki kf ti lo wa nu li to ot j) := fun j hj => (upv_ne (hao j hj)).trans (hB j hj)
    have ho2 : upv Vb o (vL Z 4 1 (vp_updL fo 0 (el (100 * d + i1)).toInt64)) o = some (vL Z 4 1 (vp_updL fo 0 (el (100 * d + i1)).toInt64)) := upv_eq _ _ _
    refine g_istore (lv' := [(5, .int (nI 0)), (4, .int (nI j)), (3, .ref o), (2, .ref (ad 0)), (1, .ref (cd 0)), (0, .ref b)]) (pc := 1131) dL_law_1131 (by decide) rfl ?_
    refine G.veq (hC1.self hB2) ?_
    refine g_aload_n (q := 3) (pc := 1133) dL_law_1133 rfl rfl ?_
    refine g_aload_n (q := 5) (pc := 1134) dL_law_1134 rfl rfl ?_
    refine g_iload (q := 1) (pc := 1135) dL_law_1135 rfl ?_
    refine g_iconst (v := nI 1) (pc := 1137) dL_law_1137 (by decide) ?_
    refine g_iadd_N (pc := 1138) dL_law_1138 ?_
    refine g_sld (pc := 1139) (x := nI d) (by omega) hLs hp1 dL_law_1139 ?_
    refine g_aload_n (q := 5) (pc := 1140) dL_law_1140 rfl rfl ?_
    refine g_iload (q := 1) (pc := 1141) dL_law_1141 rfl ?_
    refine g_iconst (v := nI 2) (pc := 1143) dL_law_1143 (by decide) ?_
    refine g_iadd_N (pc := 1144) dL_law_1144 ?_
    refine g_sld (pc := 1145) (x := nI i1) (by omega) hLs hp2 dL_law_1145 ?_
    refine e_callV (k2 := k + 100) (n2 := n + 100) (As := [.int (nI d), .int (nI i1)]) (rest := []) (pc := 1146) (wM_0 hA) rfl (c_X12_element_s hA hs hd hk2 hi1) mlL_136 selX12_X12_element_X12_element mX12_element ⟨Nat.le_of_ble_eq_true rfl, Nat.le_of_ble_eq_true rfl⟩ rfl rfl (Nat.le_of_ble_eq_true rfl) dL_law_1146 ⟨hfc2, hfs2⟩ rfl rfl ?_
    refine g_lstore (lv' := [(6, .long (el (100 * d + i1)).toInt64), (5, .int (nI 0)), (4, .int (nI j)), (3, .ref o), (2, .ref (ad 0)), (1, .ref (cd 0)), (0, .ref b)]) (pc := 1149) dL_law_1149 (by decide) rfl ?_
    refine g_aload_n (q := 4) (pc := 1151) dL_law_1151 rfl rfl ?_
    refine e_callV (k2 := k + 100) (n2 := n + 100) (As := []) (rest := []) (pc := 1152) (wM_0 hA) rfl (c_X12_thrown hA) mlL_137 selX12_X12_thrown_X12_thrown mX12_thrown ⟨Nat.le_of_ble_eq_true rfl, Nat.le_of_ble_eq_true rfl⟩ rfl rfl (Nat.le_of_ble_eq_true rfl) dL_law_1152 ⟨hfc2, hfs2⟩ rfl rfl ?_
    refine g_iload (q := 1) (pc := 1155) dL_law_1155 rfl ?_
    refine g_icmp_eq (tgt := 1162) (pc := 1157) dL_law_1157 (by decide) (fun _ => ?_) (fun c9 => absurd rfl c9)
    refine g_iload (q := 1) (pc := 1162) dL_law_1162 rfl ?_
    refine g_if_ne (tgt := 1178) (pc := 1164) dL_law_1164 (by decide) (fun c9 => absurd rfl c9) (fun _ => ?_)
    refine g_aload_n (q := 3) (pc := 1167) dL_law_1167 rfl rfl ?_
    refine g_iconst (v := nI 0) (pc := 1168) dL_law_1168 (by decide) ?_
    refine g_lald (pc := 1169) ((bk_out (fun j hj e => hao j hj e.symm)).trans (upv_eq _ _ _)) (vp_inN (by decide) (by decide)) dL_law_1169 ?_
    refine g_lload (q := 0) (pc := 1170) dL_law_1170 rfl ?_
    refine g_lcmp (pc := 1172) dL_law_1172 ?_
    refine g_if_eq (tgt := 1178) (pc := 1173) dL_law_1173 (by decide) (fun _ => ?_) (fun c9 => absurd (lg_cmp_rf _) c9)
    refine g_goto (tgt := 1304) (pc := 1178) dL_law_1178 (by decide) ?_
    refine G.locals (L' := [(4, .int (nI j)), (3, .ref o), (2, .ref (ad 0)), (1, .ref (cd 0)), (0, .ref b)]) [2, 3, 4, 5, 6] rfl ?_
    exact kk _ (LSt.nx hA hao hB2 ho2 hC1 hik hs)
  · -- thrown
    refine G.eqst (st2 := [.int (nI (spEl kp sz p1 p2))]) rfl rfl rfl ?_
    refine G.widen (k' := k + 100) (n' := n + 100) (Nat.add_le_add_left (Nat.le_of_ble_eq_true rfl) _) (Nat.add_le_add_left (Nat.le_of_ble_eq_true rfl) _) ?_
    have hC1 := hCI
    refine g_istore (lv' := [(5, .int (nI (spEl kp sz p1 p2))), (4, .int (nI j)), (3, .ref o), (2, .ref (ad 0)), (1, .ref (cd 0)), (0, .ref b)]) (pc := 1131) dL_law_1131 (by decide) rfl ?_
    refine G.veq (hC1.self hB) ?_
    refine g_aload_n (q := 3) (pc := 1133) dL_law_1133 rfl rfl ?_
    refine g_aload_n (q := 5) (pc := 1134) dL_law_1134 rfl rfl ?_
    refine g_iload (q := 1) (pc := 1135) dL_law_1135 rfl ?_
    refine g_iconst (v := nI 1) (pc := 1137) dL_law_1137 (by decide) ?_
    refine g_iadd_N (pc := 1138) dL_law_1138 ?_
    refine g_sld (pc := 1139) (x := p1) (by omega) hLs hp1 dL_law_1139 ?_
    refine g_aload_n (q := 5) (pc := 1140) dL_law_1140 rfl rfl ?_
    refine g_iload (q := 1) (pc := 1141) dL_law_1141 rfl ?_
    refine g_iconst (v := nI 2) (pc := 1143) dL_law_1143 (by decide) ?_
    refine g_iadd_N (pc := 1144) dL_law_1144 ?_
    refine g_sld (pc := 1145) (x := p2) (by omega) hLs hp2 dL_law_1145 ?_
    refine e_callV (k2 := k + 100) (n2 := n + 100) (As := [.int p1, .int p2]) (rest := []) (pc := 1146) (wM_0 hA) rfl (c_X12_element_n hA hs z0) mlL_136 selX12_X12_element_X12_element mX12_element ⟨Nat.le_of_ble_eq_true rfl, Nat.le_of_ble_eq_true rfl⟩ rfl rfl (Nat.le_of_ble_eq_true rfl) dL_law_1146 ⟨hfc2, hfs2⟩ rfl rfl ?_
    refine g_lstore (lv' := [(6, .long (lN 0)), (5, .int (nI (spEl kp sz p1 p2))), (4, .int (nI j)), (3, .ref o), (2, .ref (ad 0)), (1, .ref (cd 0)), (0, .ref b)]) (pc := 1149) dL_law_1149 (by decide) rfl ?_
    refine g_aload_n (q := 4) (pc := 1151) dL_law_1151 rfl rfl ?_
    refine e_callV (k2 := k + 100) (n2 := n + 100) (As := []) (rest := []) (pc := 1152) (wM_0 hA) rfl (c_X12_thrown hA) mlL_137 selX12_X12_thrown_X12_thrown mX12_thrown ⟨Nat.le_of_ble_eq_true rfl, Nat.le_of_ble_eq_true rfl⟩ rfl rfl (Nat.le_of_ble_eq_true rfl) dL_law_1152 ⟨hfc2, hfs2⟩ rfl rfl ?_
    refine g_iload (q := 1) (pc := 1155) dL_law_1155 rfl ?_
    refine g_icmp_eq (tgt := 1162) (pc := 1157) dL_law_1157 (by decide) (fun _ => ?_) (fun c9 => absurd rfl c9)
    refine g_iload (q := 1) (pc := 1162) dL_law_1162 rfl ?_
    refine g_if_ne_N (tgt := 1178) (pc := 1164) (by have := @spEl_3 kp sz p1 p2; omega) dL_law_1164 (by decide) (fun _ => ?_) (fun c9 => absurd c9 z0)
    refine g_goto (tgt := 1304) (pc := 1178) dL_law_1178 (by decide) ?_
    refine G.locals (L' := [(4, .int (nI j)), (3, .ref o), (2, .ref (ad 0)), (1, .ref (cd 0)), (0, .ref b)]) [2, 3, 4, 5, 6] rfl ?_
    exact kk _ (LSt.nx hA hao hB ho hC1 hik hs)
set_option maxHeartbeats 8000000 in
theorem law_27 (hA : aB b0 18 ad) (hao : ∀ j, j < 18 → ad j ≠ o) (hob : b0 ≤ o) (hfl : l.stackTraces = false) (hLs : Ls ≤ 3072) (hj : j + 6 ≤ Ls) (hk : k + 200 ≤ 60000) (hn : n + 200 ≤ 60000) (hV : LSt Z b0 cd ad o V) (kk : ∀ V2, LSt Z b0 cd ad o V2 → G l D Z b0 room_1 RL cL_law 8 (gEl b0 b Ls xs) lw_Z V2 [(4, .int (nI j)), (3, .ref o), (2, .ref (ad 0)), (1, .ref (cd 0)), (0, .ref b)] (k + 100) (n + 100) 1304 []) : G l D Z b0 room_1 RL cL_law 8 (gEl b0 b Ls xs) lw_Z V [(4, .int (nI j)), (3, .ref o), (2, .ref (ad 0)), (1, .ref (cd 0)), (0, .ref b)] k n 1181 [] := by
  obtain ⟨ik, kd, fg, pl, hr, ikd, ifg, ipl, ihr, kp, so, sz, el, ki, kf, th, po, ba, en, se, im, rd, mi, ti, lo, wa, nu, li, to, ot, fo, Vb, hCI, hB, ho, hik, hs⟩ := hV
  have hok := hCI.okm
  obtain ⟨fs9, hobj⟩ := hCI.obj
  have hfc : ∀ a, a ≤ 100 → k + a ≤ room_1.cells := fun a h => Nat.le_trans (show k + a ≤ 60000 by omega) rm_c
  have hfs : ∀ a, a ≤ 100 → n + a ≤ room_1.slots := fun a h => Nat.le_trans (show n + a ≤ 60000 by omega) rm_s
  have hfc2 : k + 100 ≤ room_1.cells := Nat.le_trans (show k + 100 ≤ 60000 by omega) rm_c
  have hfs2 : n + 100 ≤ room_1.slots := Nat.le_trans (show n + 100 ≤ 60000 by omega) rm_s
  obtain ⟨p1, hp1⟩ : ∃ x, xs (j + 1) = x := ⟨_, rfl⟩
  obtain ⟨p2, hp2⟩ : ∃ x, xs (j + 2) = x := ⟨_, rfl⟩
  obtain ⟨p3, hp3⟩ : ∃ x, xs (j + 3) = x := ⟨_, rfl⟩
  obtain ⟨p4, hp4⟩ : ∃ x, xs (j + 4) = x := ⟨_, rfl⟩
  obtain ⟨p5, hp5⟩ : ∃ x, xs (j + 5) = x := ⟨_, rfl⟩
  by_cases h : okCopy kp so sz p1 p2 p3 p4 p5
  · obtain ⟨d, i, e, y, z, hd, he, rfl, rfl, rfl, rfl, rfl, hk2, hk3, hso, hin, hjn⟩ := okCopy_N hs h
    refine g_aload_n (q := 3) (pc := 1181) dL_law_1181 rfl rfl ?_
    refine g_aload_n (q := 4) (pc := 1182) dL_law_1182 rfl rfl ?_
    refine g_iload (q := 0) (pc := 1183) dL_law_1183 rfl ?_
    refine g_iconst (v := nI 1) (pc := 1185) dL_law_1185 (by decide) ?_
    refine g_iadd_N (pc := 1186) dL_law_1186 ?_
    refine g_sld (pc := 1187) (x := nI d) (by omega) hLs hp1 dL_law_1187 ?_
    refine g_aload_n (q := 4) (pc := 1188) dL_law_1188 rfl rfl ?_
    refine g_iload (q := 0) (pc := 1189) dL_law_1189 rfl ?_
    refine g_iconst (v := nI 2) (pc := 1191) dL_law_1191 (by decide) ?_
    refine g_iadd_N (pc := 1192) dL_law_1192 ?_
    refine g_sld (pc := 1193) (x := nI i) (by omega) hLs hp2 dL_law_1193 ?_
    refine g_aload_n (q := 4) (pc := 1194) dL_law_1194 rfl rfl ?_
    refine g_iload (q := 0) (pc := 1195) dL_law_1195 rfl ?_
    refine g_iconst (v := nI 3) (pc := 1197) dL_law_1197 (by decide) ?_
    refine g_iadd_N (pc := 1198) dL_law_1198 ?_
    refine g_sld (pc := 1199) (x := nI e) (by omega) hLs hp3 dL_law_1199 ?_
    refine g_aload_n (q := 4) (pc := 1200) dL_law_1200 rfl rfl ?_
    refine g_iload (q := 0) (pc := 1201) dL_law_1201 rfl ?_
    refine g_iconst (v := nI 4) (pc := 1203) dL_law_1203 (by decide) ?_
    refine g_iadd_N (pc := 1204) dL_law_1204 ?_
    refine g_sld (pc := 1205) (x := nI y) (by omega) hLs hp4 dL_law_1205 ?_
    refine g_aload_n (q := 4) (pc := 1206) dL_law_1206 rfl rfl ?_
    refine g_iload (q := 0) (pc := 1207) dL_law_1207 rfl ?_
    refine g_iconst (v := nI 5) (pc := 1209) dL_law_1209 (by decide) ?_
    refine g_iadd_N (pc := 1210) dL_law_1210 ?_
    refine g_sld (pc := 1211) (x := nI z) (by omega) hLs hp5 dL_law_1211 ?_
    refine g_callV (As := [.int (nI d), .int (nI i), .int (nI e), .int (nI y), .int (nI z)]) (rest := []) (pc := 1212) hobj rfl (d_X11_copy_s hCI hd he hk2 hk3 hso hin hjn) mlL_140 selX11_X11_copy_X11_copy mX11_copy ⟨Nat.le_of_ble_eq_true rfl, Nat.le_of_ble_eq_true rfl⟩ rfl rfl (Nat.le_of_ble_eq_true rfl) dL_law_1212 ⟨hfc _ (Nat.le_of_ble_eq_true rfl), hfs _ (Nat.le_of_ble_eq_true rfl)⟩ (fun v9 V1 h9 => ?_)
    obtain ⟨rfl, hC1⟩ := h9
    refine G.eqst (st2 := [.int (nI z)]) rfl rfl rfl ?_
    refine G.widen (k' := k + 100) (n' := n + 100) (Nat.add_le_add_left (Nat.le_of_ble_eq_true rfl) _) (Nat.add_le_add_left (Nat.le_of_ble_eq_true rfl) _) ?_
    refine G.veq (hC1.self hB) ?_
    refine g_aload_n (q := 2) (pc := 1215) dL_law_1215 rfl rfl ?_
    refine g_aload_n (q := 4) (pc := 1216) dL_law_1216 rfl rfl ?_
    refine g_iload (q := 0) (pc := 1217) dL_law_1217 rfl ?_
    refine g_iconst (v := nI 1) (pc := 1219) dL_law_1219 (by decide) ?_
    refine g_iadd_N (pc := 1220) dL_law_1220 ?_
    refine g_sld (pc := 1221) (x := nI d) (by omega) hLs hp1 dL_law_1221 ?_
    refine g_aload_n (q := 4) (pc := 1222) dL_law_1222 rfl rfl ?_
    refine g_iload (q := 0) (pc := 1223) dL_law_1223 rfl ?_
    refine g_iconst (v := nI 2) (pc := 1225) dL_law_1225 (by decide) ?_
    refine g_iadd_N (pc := 1226) dL_law_1226 ?_
    refine g_sld (pc := 1227) (x := nI i) (by omega) hLs hp2 dL_law_1227 ?_
    refine g_aload_n (q := 4) (pc := 1228) dL_law_1228 rfl rfl ?_
    refine g_iload (q := 0) (pc := 1229) dL_law_1229 rfl ?_
    refine g_iconst (v := nI 3) (pc := 1231) dL_law_1231 (by decide) ?_
    refine g_iadd_N (pc := 1232) dL_law_1232 ?_
    refine g_sld (pc := 1233) (x := nI e) (by omega) hLs hp3 dL_law_1233 ?_
    refine g_aload_n (q := 4) (pc := 1234) dL_law_1234 rfl rfl ?_
    refine g_iload (q := 0) (pc := 1235) dL_law_1235 rfl ?_
    refine g_iconst (v := nI 4) (pc := 1237) dL_law_1237 (by decide) ?_
    refine g_iadd_N (pc := 1238) dL_law_1238 ?_
    refine g_sld (pc := 1239) (x := nI y) (by omega) hLs hp4 dL_law_1239 ?_
    refine g_aload_n (q := 4) (pc := 1240) dL_law_1240 rfl rfl ?_
    refine g_iload (q := 0) (pc := 1241) dL_law_1241 rfl ?_
    refine g_iconst (v := nI 5) (pc := 1243) dL_law_1243 (by decide) ?_
    refine g_iadd_N (pc := 1244) dL_law_1244 ?_
    refine g_sld (pc := 1245) (x := nI z) (by omega) hLs hp5 dL_law_1245 ?_
    refine e_callV (k2 := k + 100) (n2 := n + 100) (As := [.int (nI d), .int (nI i), .int (nI e), .int (nI y), .int (nI z)]) (rest := [.int (nI z)]) (pc := 1246) (wM_0 hA) rfl (c_X12_copy_s hA hs hd he hk2 hk3 hso hin hjn) mlL_143 selX12_X12_copy_X12_copy mX12_copy ⟨Nat.le_of_ble_eq_true rfl, Nat.le_of_ble_eq_true rfl⟩ rfl rfl (Nat.le_of_ble_eq_true rfl) dL_law_1246 ⟨hfc2, hfs2⟩ rfl rfl ?_
    refine g_icmp_eq (tgt := 1304) (pc := 1249) dL_law_1249 (by decide) (fun _ => ?_) (fun c9 => absurd rfl c9)
    exact kk _ (LSt.nx hA hao hB ho hC1 hik hs)
  · -- refused
    refine g_aload_n (q := 3) (pc := 1181) dL_law_1181 rfl rfl ?_
    refine g_aload_n (q := 4) (pc := 1182) dL_law_1182 rfl rfl ?_
    refine g_iload (q := 0) (pc := 1183) dL_law_1183 rfl ?_
    refine g_iconst (v := nI 1) (pc := 1185) dL_law_1185 (by decide) ?_
    refine g_iadd_N (pc := 1186) dL_law_1186 ?_
    refine g_sld (pc := 1187) (x := p1) (by omega) hLs hp1 dL_law_1187 ?_
    refine g_aload_n (q := 4) (pc := 1188) dL_law_1188 rfl rfl ?_
    refine g_iload (q := 0) (pc := 1189) dL_law_1189 rfl ?_
    refine g_iconst (v := nI 2) (pc := 1191) dL_law_1191 (by decide) ?_
    refine g_iadd_N (pc := 1192) dL_law_1192 ?_
    refine g_sld (pc := 1193) (x := p2) (by omega) hLs hp2 dL_law_1193 ?_
    refine g_aload_n (q := 4) (pc := 1194) dL_law_1194 rfl rfl ?_
    refine g_iload (q := 0) (pc := 1195) dL_law_1195 rfl ?_
    refine g_iconst (v := nI 3) (pc := 1197) dL_law_1197 (by decide) ?_
    refine g_iadd_N (pc := 1198) dL_law_1198 ?_
    refine g_sld (pc := 1199) (x := p3) (by omega) hLs hp3 dL_law_1199 ?_
    refine g_aload_n (q := 4) (pc := 1200) dL_law_1200 rfl rfl ?_
    refine g_iload (q := 0) (pc := 1201) dL_law_1201 rfl ?_
    refine g_iconst (v := nI 4) (pc := 1203) dL_law_1203 (by decide) ?_
    refine g_iadd_N (pc := 1204) dL_law_1204 ?_
    refine g_sld (pc := 1205) (x := p4) (by omega) hLs hp4 dL_law_1205 ?_
    refine g_aload_n (q := 4) (pc := 1206) dL_law_1206 rfl rfl ?_
    refine g_iload (q := 0) (pc := 1207) dL_law_1207 rfl ?_
    refine g_iconst (v := nI 5) (pc := 1209) dL_law_1209 (by decide) ?_
    refine g_iadd_N (pc := 1210) dL_law_1210 ?_
    refine g_sld (pc := 1211) (x := p5) (by omega) hLs hp5 dL_law_1211 ?_
    refine g_callV (As := [.int p1, .int p2, .int p3, .int p4, .int p5]) (rest := []) (pc := 1212) hobj rfl (d_X11_copy_n hCI h) mlL_140 selX11_X11_copy_X11_copy mX11_copy ⟨Nat.le_of_ble_eq_true rfl, Nat.le_of_ble_eq_true rfl⟩ rfl rfl (Nat.le_of_ble_eq_true rfl) dL_law_1212 ⟨hfc _ (Nat.le_of_ble_eq_true rfl), hfs _ (Nat.le_of_ble_eq_true rfl)⟩ (fun v9 V1 h9 => ?_)
    obtain ⟨rfl, hC1⟩ := h9
    refine G.eqst (st2 := [.int (rCopy kp so p1 p3)]) rfl rfl rfl ?_
    refine G.widen (k' := k + 100) (n' := n + 100) (Nat.add_le_add_left (Nat.le_of_ble_eq_true rfl) _) (Nat.add_le_add_left (Nat.le_of_ble_eq_true rfl) _) ?_
    refine G.veq (hC1.self hB) ?_
    refine g_aload_n (q := 2) (pc := 1215) dL_law_1215 rfl rfl ?_
    refine g_aload_n (q := 4) (pc := 1216) dL_law_1216 rfl rfl ?_
    refine g_iload (q := 0) (pc := 1217) dL_law_1217 rfl ?_
    refine g_iconst (v := nI 1) (pc := 1219) dL_law_1219 (by decide) ?_
    refine g_iadd_N (pc := 1220) dL_law_1220 ?_
    refine g_sld (pc := 1221) (x := p1) (by omega) hLs hp1 dL_law_1221 ?_
    refine g_aload_n (q := 4) (pc := 1222) dL_law_1222 rfl rfl ?_
    refine g_iload (q := 0) (pc := 1223) dL_law_1223 rfl ?_
    refine g_iconst (v := nI 2) (pc := 1225) dL_law_1225 (by decide) ?_
    refine g_iadd_N (pc := 1226) dL_law_1226 ?_
    refine g_sld (pc := 1227) (x := p2) (by omega) hLs hp2 dL_law_1227 ?_
    refine g_aload_n (q := 4) (pc := 1228) dL_law_1228 rfl rfl ?_
    refine g_iload (q := 0) (pc := 1229) dL_law_1229 rfl ?_
    refine g_iconst (v := nI 3) (pc := 1231) dL_law_1231 (by decide) ?_
    refine g_iadd_N (pc := 1232) dL_law_1232 ?_
    refine g_sld (pc := 1233) (x := p3) (by omega) hLs hp3 dL_law_1233 ?_
    refine g_aload_n (q := 4) (pc := 1234) dL_law_1234 rfl rfl ?_
    refine g_iload (q := 0) (pc := 1235) dL_law_1235 rfl ?_
    refine g_iconst (v := nI 4) (pc := 1237) dL_law_1237 (by decide) ?_
    refine g_iadd_N (pc := 1238) dL_law_1238 ?_
    refine g_sld (pc := 1239) (x := p4) (by omega) hLs hp4 dL_law_1239 ?_
    refine g_aload_n (q := 4) (pc := 1240) dL_law_1240 rfl rfl ?_
    refine g_iload (q := 0) (pc := 1241) dL_law_1241 rfl ?_
    refine g_iconst (v := nI 5) (pc := 1243) dL_law_1243 (by decide) ?_
    refine g_iadd_N (pc := 1244) dL_law_1244 ?_
    refine g_sld (pc := 1245) (x := p5) (by omega) hLs hp5 dL_law_1245 ?_
    refine e_callV (k2 := k + 100) (n2 := n + 100) (As := [.int p1, .int p2, .int p3, .int p4, .int p5]) (rest := [.int (rCopy kp so p1 p3)]) (pc := 1246) (wM_0 hA) rfl (c_X12_copy_n hA hs h) mlL_143 selX12_X12_copy_X12_copy mX12_copy ⟨Nat.le_of_ble_eq_true rfl, Nat.le_of_ble_eq_true rfl⟩ rfl rfl (Nat.le_of_ble_eq_true rfl) dL_law_1246 ⟨hfc2, hfs2⟩ rfl rfl ?_
    refine g_icmp_eq (tgt := 1304) (pc := 1249) dL_law_1249 (by decide) (fun _ => ?_) (fun c9 => absurd rfl c9)
    exact kk _ (LSt.nx hA hao hB ho hC1 hik hs)
set_option maxHeartbeats 8000000 in
theorem law_28 (hA : aB b0 18 ad) (hao : ∀ j, j < 18 → ad j ≠ o) (hob : b0 ≤ o) (hfl : l.stackTraces = false) (hLs : Ls ≤ 3072) (hj : j + 6 ≤ Ls) (hk : k + 200 ≤ 60000) (hn : n + 200 ≤ 60000) (hV : LSt Z b0 cd ad o V) (kk : ∀ V2, LSt Z b0 cd ad o V2 → G l D Z b0 room_1 RL cL_law 8 (gEl b0 b Ls xs) lw_Z V2 [(4, .int (nI j)), (3, .ref o), (2, .ref (ad 0)), (1, .ref (cd 0)), (0, .ref b)] (k + 100) (n + 100) 1304 []) : G l D Z b0 room_1 RL cL_law 8 (gEl b0 b Ls xs) lw_Z V [(4, .int (nI j)), (3, .ref o), (2, .ref (ad 0)), (1, .ref (cd 0)), (0, .ref b)] k n 1254 [] := by
  obtain ⟨ik, kd, fg, pl, hr, ikd, ifg, ipl, ihr, kp, so, sz, el, ki, kf, th, po, ba, en, se, im, rd, mi, ti, lo, wa, nu, li, to, ot, fo, Vb, hCI, hB, ho, hik, hs⟩ := hV
  have hok := hCI.okm
  obtain ⟨fs9, hobj⟩ := hCI.obj
  have hfc : ∀ a, a ≤ 100 → k + a ≤ room_1.cells := fun a h => Nat.le_trans (show k + a ≤ 60000 by omega) rm_c
  have hfs : ∀ a, a ≤ 100 → n + a ≤ room_1.slots := fun a h => Nat.le_trans (show n + a ≤ 60000 by omega) rm_s
  have hfc2 : k + 100 ≤ room_1.cells := Nat.le_trans (show k + 100 ≤ 60000 by omega) rm_c
  have hfs2 : n + 100 ≤ room_1.slots := Nat.le_trans (show n + 100 ≤ 60000 by omega) rm_s
  obtain ⟨p1, hp1⟩ : ∃ x, xs (j + 1) = x := ⟨_, rfl⟩
  by_cases h : spWK kp p1 = 0
  · obtain ⟨d, hd, rfl, hk1⟩ := spWK_0 h
    obtain ⟨q, f, hq, hf, hki, hkf⟩ := (hs d hd).2.2.2 hk1
    refine g_aload_n (q := 3) (pc := 1254) dL_law_1254 rfl rfl ?_
    refine g_aload_n (q := 4) (pc := 1255) dL_law_1255 rfl rfl ?_
    refine g_iload (q := 0) (pc := 1256) dL_law_1256 rfl ?_
    refine g_iconst (v := nI 1) (pc := 1258) dL_law_1258 (by decide) ?_
    refine g_iadd_N (pc := 1259) dL_law_1259 ?_
    refine g_sld (pc := 1260) (x := nI d) (by omega) hLs hp1 dL_law_1260 ?_
    refine g_callV (As := [.int (nI d)]) (rest := []) (pc := 1261) hobj rfl (d_X11_pay_s hCI hd hk1 hki hkf hq hf) mlL_144 selX11_X11_pay_X11_pay mX11_pay ⟨Nat.le_of_ble_eq_true rfl, Nat.le_of_ble_eq_true rfl⟩ rfl rfl (Nat.le_of_ble_eq_true rfl) dL_law_1261 ⟨hfc _ (Nat.le_of_ble_eq_true rfl), hfs _ (Nat.le_of_ble_eq_true rfl)⟩ (fun v9 V1 h9 => ?_)
    obtain ⟨rfl, hC1⟩ := h9
    refine G.eqst (st2 := [.int (payI q f)]) rfl rfl rfl ?_
    refine G.widen (k' := k + 100) (n' := n + 100) (Nat.add_le_add_left (Nat.le_of_ble_eq_true rfl) _) (Nat.add_le_add_left (Nat.le_of_ble_eq_true rfl) _) ?_
    refine G.veq (hC1.self hB) ?_
    refine g_aload_n (q := 2) (pc := 1264) dL_law_1264 rfl rfl ?_
    refine g_aload_n (q := 4) (pc := 1265) dL_law_1265 rfl rfl ?_
    refine g_iload (q := 0) (pc := 1266) dL_law_1266 rfl ?_
    refine g_iconst (v := nI 1) (pc := 1268) dL_law_1268 (by decide) ?_
    refine g_iadd_N (pc := 1269) dL_law_1269 ?_
    refine g_sld (pc := 1270) (x := nI d) (by omega) hLs hp1 dL_law_1270 ?_
    refine e_callV (k2 := k + 100) (n2 := n + 100) (As := [.int (nI d)]) (rest := [.int (payI q f)]) (pc := 1271) (wM_0 hA) rfl (c_X12_pay_s hA hs hd hk1 hki hkf hq hf) mlL_147 selX12_X12_pay_X12_pay mX12_pay ⟨Nat.le_of_ble_eq_true rfl, Nat.le_of_ble_eq_true rfl⟩ rfl rfl (Nat.le_of_ble_eq_true rfl) dL_law_1271 ⟨hfc2, hfs2⟩ rfl rfl ?_
    refine g_icmp_eq (tgt := 1304) (pc := 1274) dL_law_1274 (by decide) (fun _ => ?_) (fun c9 => absurd rfl c9)
    exact kk _ (LSt.nx hA hao hB ho hC1 hik hs)
  · -- refused
    refine g_aload_n (q := 3) (pc := 1254) dL_law_1254 rfl rfl ?_
    refine g_aload_n (q := 4) (pc := 1255) dL_law_1255 rfl rfl ?_
    refine g_iload (q := 0) (pc := 1256) dL_law_1256 rfl ?_
    refine g_iconst (v := nI 1) (pc := 1258) dL_law_1258 (by decide) ?_
    refine g_iadd_N (pc := 1259) dL_law_1259 ?_
    refine g_sld (pc := 1260) (x := p1) (by omega) hLs hp1 dL_law_1260 ?_
    refine g_callV (As := [.int p1]) (rest := []) (pc := 1261) hobj rfl (d_X11_pay_n hCI h) mlL_144 selX11_X11_pay_X11_pay mX11_pay ⟨Nat.le_of_ble_eq_true rfl, Nat.le_of_ble_eq_true rfl⟩ rfl rfl (Nat.le_of_ble_eq_true rfl) dL_law_1261 ⟨hfc _ (Nat.le_of_ble_eq_true rfl), hfs _ (Nat.le_of_ble_eq_true rfl)⟩ (fun v9 V1 h9 => ?_)
    obtain ⟨rfl, hC1⟩ := h9
    refine G.eqst (st2 := [.int (spWK kp p1)]) rfl rfl rfl ?_
    refine G.widen (k' := k + 100) (n' := n + 100) (Nat.add_le_add_left (Nat.le_of_ble_eq_true rfl) _) (Nat.add_le_add_left (Nat.le_of_ble_eq_true rfl) _) ?_
    refine G.veq (hC1.self hB) ?_
    refine g_aload_n (q := 2) (pc := 1264) dL_law_1264 rfl rfl ?_
    refine g_aload_n (q := 4) (pc := 1265) dL_law_1265 rfl rfl ?_
    refine g_iload (q := 0) (pc := 1266) dL_law_1266 rfl ?_
    refine g_iconst (v := nI 1) (pc := 1268) dL_law_1268 (by decide) ?_
    refine g_iadd_N (pc := 1269) dL_law_1269 ?_
    refine g_sld (pc := 1270) (x := p1) (by omega) hLs hp1 dL_law_1270 ?_
    refine e_callV (k2 := k + 100) (n2 := n + 100) (As := [.int p1]) (rest := [.int (spWK kp p1)]) (pc := 1271) (wM_0 hA) rfl (c_X12_pay_n hA hs h) mlL_147 selX12_X12_pay_X12_pay mX12_pay ⟨Nat.le_of_ble_eq_true rfl, Nat.le_of_ble_eq_true rfl⟩ rfl rfl (Nat.le_of_ble_eq_true rfl) dL_law_1271 ⟨hfc2, hfs2⟩ rfl rfl ?_
    refine g_icmp_eq (tgt := 1304) (pc := 1274) dL_law_1274 (by decide) (fun _ => ?_) (fun c9 => absurd rfl c9)
    exact kk _ (LSt.nx hA hao hB ho hC1 hik hs)
set_option maxHeartbeats 8000000 in
theorem law_29 (hA : aB b0 18 ad) (hao : ∀ j, j < 18 → ad j ≠ o) (hob : b0 ≤ o) (hfl : l.stackTraces = false) (hLs : Ls ≤ 3072) (hj : j + 6 ≤ Ls) (hk : k + 200 ≤ 60000) (hn : n + 200 ≤ 60000) (hV : LSt Z b0 cd ad o V) (kk : ∀ V2, LSt Z b0 cd ad o V2 → G l D Z b0 room_1 RL cL_law 8 (gEl b0 b Ls xs) lw_Z V2 [(4, .int (nI j)), (3, .ref o), (2, .ref (ad 0)), (1, .ref (cd 0)), (0, .ref b)] (k + 100) (n + 100) 1304 []) : G l D Z b0 room_1 RL cL_law 8 (gEl b0 b Ls xs) lw_Z V [(4, .int (nI j)), (3, .ref o), (2, .ref (ad 0)), (1, .ref (cd 0)), (0, .ref b)] k n 1279 [] := by
  obtain ⟨ik, kd, fg, pl, hr, ikd, ifg, ipl, ihr, kp, so, sz, el, ki, kf, th, po, ba, en, se, im, rd, mi, ti, lo, wa, nu, li, to, ot, fo, Vb, hCI, hB, ho, hik, hs⟩ := hV
  have hok := hCI.okm
  obtain ⟨fs9, hobj⟩ := hCI.obj
  have hfc : ∀ a, a ≤ 100 → k + a ≤ room_1.cells := fun a h => Nat.le_trans (show k + a ≤ 60000 by omega) rm_c
  have hfs : ∀ a, a ≤ 100 → n + a ≤ room_1.slots := fun a h => Nat.le_trans (show n + a ≤ 60000 by omega) rm_s
  have hfc2 : k + 100 ≤ room_1.cells := Nat.le_trans (show k + 100 ≤ 60000 by omega) rm_c
  have hfs2 : n + 100 ≤ room_1.slots := Nat.le_trans (show n + 100 ≤ 60000 by omega) rm_s
  obtain ⟨p1, hp1⟩ : ∃ x, xs (j + 1) = x := ⟨_, rfl⟩
  by_cases h : spWK kp p1 = 0
  · obtain ⟨d, hd, rfl, hk1⟩ := spWK_0 h
    obtain ⟨q, f, hq, hf, hki, hkf⟩ := (hs d hd).2.2.2 hk1
    refine g_aload_n (q := 3) (pc := 1279) dL_law_1279 rfl rfl ?_
    refine g_aload_n (q := 4) (pc := 1280) dL_law_1280 rfl rfl ?_
    refine g_iload (q := 0) (pc := 1281) dL_law_1281 rfl ?_
    refine g_iconst (v := nI 1) (pc := 1283) dL_law_1283 (by decide) ?_
    refine g_iadd_N (pc := 1284) dL_law_1284 ?_
    refine g_sld (pc := 1285) (x := nI d) (by omega) hLs hp1 dL_law_1285 ?_
    refine g_callVX (hz9 := fun _ _ _ h => h.1) (As := [.int (nI d)]) (rest := []) (pc := 1286) hobj rfl (dx_X11_toss_s hCI hd hk1 hki hkf hq hf hfl) mlL_148 selX11_X11_toss_X11_toss mX11_toss ⟨Nat.le_of_ble_eq_true rfl, Nat.le_of_ble_eq_true rfl⟩ rfl rfl (Nat.le_of_ble_eq_true rfl) dL_law_1286 ⟨hfc _ (Nat.le_of_ble_eq_true rfl), hfs _ (Nat.le_of_ble_eq_true rfl)⟩ (fun v9 V1 h9 => ?_)
    obtain ⟨rfl, rfl⟩ := h9
    have hC1 := hCI
    refine G.eqst (st2 := [.int (tossI q f)]) rfl rfl rfl ?_
    refine G.widen (k' := k + 100) (n' := n + 100) (Nat.add_le_add_left (Nat.le_of_ble_eq_true rfl) _) (Nat.add_le_add_left (Nat.le_of_ble_eq_true rfl) _) ?_
    refine G.veq (hC1.self hB) ?_
    refine g_aload_n (q := 2) (pc := 1289) dL_law_1289 rfl rfl ?_
    refine g_aload_n (q := 4) (pc := 1290) dL_law_1290 rfl rfl ?_
    refine g_iload (q := 0) (pc := 1291) dL_law_1291 rfl ?_
    refine g_iconst (v := nI 1) (pc := 1293) dL_law_1293 (by decide) ?_
    refine g_iadd_N (pc := 1294) dL_law_1294 ?_
    refine g_sld (pc := 1295) (x := nI d) (by omega) hLs hp1 dL_law_1295 ?_
    refine e_callV (k2 := k + 100) (n2 := n + 100) (As := [.int (nI d)]) (rest := [.int (tossI q f)]) (pc := 1296) (wM_0 hA) rfl (c_X12_toss_s hA hs hd hk1 hki hkf hq hf) mlL_151 selX12_X12_toss_X12_toss mX12_toss ⟨Nat.le_of_ble_eq_true rfl, Nat.le_of_ble_eq_true rfl⟩ rfl rfl (Nat.le_of_ble_eq_true rfl) dL_law_1296 ⟨hfc2, hfs2⟩ rfl rfl ?_
    refine g_icmp_eq (tgt := 1304) (pc := 1299) dL_law_1299 (by decide) (fun _ => ?_) (fun c9 => absurd rfl c9)
    exact kk _ (LSt.nx hA hao hB ho hC1 hik hs)
  · -- refused
    refine g_aload_n (q := 3) (pc := 1279) dL_law_1279 rfl rfl ?_
    refine g_aload_n (q := 4) (pc := 1280) dL_law_1280 rfl rfl ?_
    refine g_iload (q := 0) (pc := 1281) dL_law_1281 rfl ?_
    refine g_iconst (v := nI 1) (pc := 1283) dL_law_1283 (by decide) ?_
    refine g_iadd_N (pc := 1284) dL_law_1284 ?_
    refine g_sld (pc := 1285) (x := p1) (by omega) hLs hp1 dL_law_1285 ?_
    refine g_callVX (hz9 := fun _ _ _ h => h.1) (As := [.int p1]) (rest := []) (pc := 1286) hobj rfl (dx_X11_toss_n hCI h) mlL_148 selX11_X11_toss_X11_toss mX11_toss ⟨Nat.le_of_ble_eq_true rfl, Nat.le_of_ble_eq_true rfl⟩ rfl rfl (Nat.le_of_ble_eq_true rfl) dL_law_1286 ⟨hfc _ (Nat.le_of_ble_eq_true rfl), hfs _ (Nat.le_of_ble_eq_true rfl)⟩ (fun v9 V1 h9 => ?_)
    obtain ⟨rfl, rfl⟩ := h9
    have hC1 := hCI
    refine G.eqst (st2 := [.int (spWK kp p1)]) rfl rfl rfl ?_
    refine G.widen (k' := k + 100) (n' := n + 100) (Nat.add_le_add_left (Nat.le_of_ble_eq_true rfl) _) (Nat.add_le_add_left (Nat.le_of_ble_eq_true rfl) _) ?_
    refine G.veq (hC1.self hB) ?_
    refine g_aload_n (q := 2) (pc := 1289) dL_law_1289 rfl rfl ?_
    refine g_aload_n (q := 4) (pc := 1290) dL_law_1290 rfl rfl ?_
    refine g_iload (q := 0) (pc := 1291) dL_law_1291 rfl ?_
    refine g_iconst (v := nI 1) (pc := 1293) dL_law_1293 (by decide) ?_
    refine g_iadd_N (pc := 1294) dL_law_1294 ?_
    refine g_sld (pc := 1295) (x := p1) (by omega) hLs hp1 dL_law_1295 ?_
    refine e_callV (k2 := k + 100) (n2 := n + 100) (As := [.int p1]) (rest := [.int (spWK kp p1)]) (pc := 1296) (wM_0 hA) rfl (c_X12_toss_n hA hs h) mlL_151 selX12_X12_toss_X12_toss mX12_toss ⟨Nat.le_of_ble_eq_true rfl, Nat.le_of_ble_eq_true rfl⟩ rfl rfl (Nat.le_of_ble_eq_true rfl) dL_law_1296 ⟨hfc2, hfs2⟩ rfl rfl ?_
    refine g_icmp_eq (tgt := 1304) (pc := 1299) dL_law_1299 (by decide) (fun _ => ?_) (fun c9 => absurd rfl c9)
    exact kk _ (LSt.nx hA hao hB ho hC1 hik hs)
end LW
