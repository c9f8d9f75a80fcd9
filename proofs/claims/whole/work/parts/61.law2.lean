section LW
variable {l : Launch} {D : va_G} {Z : Nat → ClassId} {b0 b Ls j o k n : Nat} {xs : Nat → Int32} {cd ad : Nat → Nat} {V : HV}
set_option maxHeartbeats 8000000 in
theorem law_10 (hA : aB b0 18 ad) (hao : ∀ j, j < 18 → ad j ≠ o) (hob : b0 ≤ o) (hfl : l.stackTraces = false) (hLs : Ls ≤ 3072) (hj : j + 6 ≤ Ls) (hk : k + 200 ≤ 60000) (hn : n + 200 ≤ 60000) (hV : LSt Z b0 cd ad o V) (kk : ∀ V2, LSt Z b0 cd ad o V2 → G l D Z b0 room_1 RL cL_law 8 (gEl b0 b Ls xs) lw_Z V2 [(4, .int (nI j)), (3, .ref o), (2, .ref (ad 0)), (1, .ref (cd 0)), (0, .ref b)] (k + 100) (n + 100) 1304 []) : G l D Z b0 room_1 RL cL_law 8 (gEl b0 b Ls xs) lw_Z V [(4, .int (nI j)), (3, .ref o), (2, .ref (ad 0)), (1, .ref (cd 0)), (0, .ref b)] k n 522 [] := by
  obtain ⟨ik, kd, fg, pl, hr, ikd, ifg, ipl, ihr, kp, so, sz, el, ki, kf, th, po, ba, en, se, im, rd, mi, ti, lo, wa, nu, li, to, ot, fo, Vb, hCI, hB, ho, hik, hs⟩ := hV
  have hok := hCI.okm
  obtain ⟨fs9, hobj⟩ := hCI.obj
  have hfc : ∀ a, a ≤ 100 → k + a ≤ room_1.cells := fun a h => Nat.le_trans (show k + a ≤ 60000 by omega) rm_c
  have hfs : ∀ a, a ≤ 100 → n + a ≤ room_1.slots := fun a h => Nat.le_trans (show n + a ≤ 60000 by omega) rm_s
  have hfc2 : k + 100 ≤ room_1.cells := Nat.le_trans (show k + 100 ≤ 60000 by omega) rm_c
  have hfs2 : n + 100 ≤ room_1.slots := Nat.le_trans (show n + 100 ≤ 60000 by omega) rm_s
  obtain ⟨p1, hp1⟩ : ∃ x, xs (j + 1) = x := ⟨_, rfl⟩
  obtain ⟨p2, hp2⟩ : ∃ x, xs (j + 2) = x := ⟨_, rfl⟩
  by_cases h : spFromG kp so sz el p1 p2 = nI 0
  · obtain ⟨d, w, hd, hw, rfl, rfl, hk2, hr9, hev, hcl⟩ := spFrom_0 h
    have hsr := okSort_e hr9
    refine g_aload_n (q := 3) (pc := 522) dL_law_522 rfl rfl ?_
    refine g_aload_n (q := 4) (pc := 523) dL_law_523 rfl rfl ?_
    refine g_iload (q := 0) (pc := 524) dL_law_524 rfl ?_
    refine g_iconst (v := nI 1) (pc := 526) dL_law_526 (by decide) ?_
    refine g_iadd_N (pc := 527) dL_law_527 ?_
    refine g_sld (pc := 528) (x := nI d) (by omega) hLs hp1 dL_law_528 ?_
    refine g_aload_n (q := 4) (pc := 529) dL_law_529 rfl rfl ?_
    refine g_iload (q := 0) (pc := 530) dL_law_530 rfl ?_
    refine g_iconst (v := nI 2) (pc := 532) dL_law_532 (by decide) ?_
    refine g_iadd_N (pc := 533) dL_law_533 ?_
    refine g_sld (pc := 534) (x := nI w) (by omega) hLs hp2 dL_law_534 ?_
    refine g_callV (As := [.int (nI d), .int (nI w)]) (rest := []) (pc := 535) hobj rfl (d_X11_from_s hCI hd hw hk2 hsr hev hcl) mlL_65 selX11_X11_from_X11_from mX11_from ⟨Nat.le_of_ble_eq_true rfl, Nat.le_of_ble_eq_true rfl⟩ rfl rfl (Nat.le_of_ble_eq_true rfl) dL_law_535 ⟨hfc _ (Nat.le_of_ble_eq_true rfl), hfs _ (Nat.le_of_ble_eq_true rfl)⟩ (fun v9 V1 h9 => ?_)
    obtain ⟨rfl, hC1⟩ := h9
    refine G.eqst (st2 := [.int (spFromV kd fg sz el d w)]) rfl rfl rfl ?_
    refine G.widen (k' := k + 100) (n' := n + 100) (Nat.add_le_add_left (Nat.le_of_ble_eq_true rfl) _) (Nat.add_le_add_left (Nat.le_of_ble_eq_true rfl) _) ?_
    refine G.veq (hC1.self hB) ?_
    refine g_aload_n (q := 2) (pc := 538) dL_law_538 rfl rfl ?_
    refine g_aload_n (q := 4) (pc := 539) dL_law_539 rfl rfl ?_
    refine g_iload (q := 0) (pc := 540) dL_law_540 rfl ?_
    refine g_iconst (v := nI 1) (pc := 542) dL_law_542 (by decide) ?_
    refine g_iadd_N (pc := 543) dL_law_543 ?_
    refine g_sld (pc := 544) (x := nI d) (by omega) hLs hp1 dL_law_544 ?_
    refine g_aload_n (q := 4) (pc := 545) dL_law_545 rfl rfl ?_
    refine g_iload (q := 0) (pc := 546) dL_law_546 rfl ?_
    refine g_iconst (v := nI 2) (pc := 548) dL_law_548 (by decide) ?_
    refine g_iadd_N (pc := 549) dL_law_549 ?_
    refine g_sld (pc := 550) (x := nI w) (by omega) hLs hp2 dL_law_550 ?_
    refine g_callV (As := [.int (nI d), .int (nI w)]) (rest := [.int (spFromV kd fg sz el d w)]) (pc := 551) (wM_0 hA) rfl (c_X12_from_s hA hok hs hd hk2 hr9 hev hcl hw) mlL_68 selX12_X12_from_X12_from mX12_from ⟨Nat.le_of_ble_eq_true rfl, Nat.le_of_ble_eq_true rfl⟩ rfl rfl (Nat.le_of_ble_eq_true rfl) dL_law_551 ⟨hfc2, hfs2⟩ (fun v8 V2 h8 => ?_)
    obtain ⟨rfl, th2, po2, ba2, en2, se2, rd2, mi2, ti2, lo2, wa2, nu2, li2, to2, ot2, rfl⟩ := h8
    refine G.eqst (k2 := k + 100) (n2 := n + 100) (st2 := [.int (spFromV kd fg sz el d w), .int (spFromV kd fg sz el d w)]) rfl rfl rfl ?_
    refine g_icmp_eq (tgt := 1304) (pc := 554) dL_law_554 (by decide) (fun _ => ?_) (fun c9 => absurd rfl c9)
    exact kk _ (LSt.nx hA hao hB ho hC1 hik hs)
  · -- refused
    refine g_aload_n (q := 3) (pc := 522) dL_law_522 rfl rfl ?_
    refine g_aload_n (q := 4) (pc := 523) dL_law_523 rfl rfl ?_
    refine g_iload (q := 0) (pc := 524) dL_law_524 rfl ?_
    refine g_iconst (v := nI 1) (pc := 526) dL_law_526 (by decide) ?_
    refine g_iadd_N (pc := 527) dL_law_527 ?_
    refine g_sld (pc := 528) (x := p1) (by omega) hLs hp1 dL_law_528 ?_
    refine g_aload_n (q := 4) (pc := 529) dL_law_529 rfl rfl ?_
    refine g_iload (q := 0) (pc := 530) dL_law_530 rfl ?_
    refine g_iconst (v := nI 2) (pc := 532) dL_law_532 (by decide) ?_
    refine g_iadd_N (pc := 533) dL_law_533 ?_
    refine g_sld (pc := 534) (x := p2) (by omega) hLs hp2 dL_law_534 ?_
    refine g_callV (As := [.int p1, .int p2]) (rest := []) (pc := 535) hobj rfl (d_X11_from_n hCI h) mlL_65 selX11_X11_from_X11_from mX11_from ⟨Nat.le_of_ble_eq_true rfl, Nat.le_of_ble_eq_true rfl⟩ rfl rfl (Nat.le_of_ble_eq_true rfl) dL_law_535 ⟨hfc _ (Nat.le_of_ble_eq_true rfl), hfs _ (Nat.le_of_ble_eq_true rfl)⟩ (fun v9 V1 h9 => ?_)
    obtain ⟨rfl, hC1⟩ := h9
    refine G.eqst (st2 := [.int (spFromG kp so sz el p1 p2)]) rfl rfl rfl ?_
    refine G.widen (k' := k + 100) (n' := n + 100) (Nat.add_le_add_left (Nat.le_of_ble_eq_true rfl) _) (Nat.add_le_add_left (Nat.le_of_ble_eq_true rfl) _) ?_
    refine G.veq (hC1.self hB) ?_
    refine g_aload_n (q := 2) (pc := 538) dL_law_538 rfl rfl ?_
    refine g_aload_n (q := 4) (pc := 539) dL_law_539 rfl rfl ?_
    refine g_iload (q := 0) (pc := 540) dL_law_540 rfl ?_
    refine g_iconst (v := nI 1) (pc := 542) dL_law_542 (by decide) ?_
    refine g_iadd_N (pc := 543) dL_law_543 ?_
    refine g_sld (pc := 544) (x := p1) (by omega) hLs hp1 dL_law_544 ?_
    refine g_aload_n (q := 4) (pc := 545) dL_law_545 rfl rfl ?_
    refine g_iload (q := 0) (pc := 546) dL_law_546 rfl ?_
    refine g_iconst (v := nI 2) (pc := 548) dL_law_548 (by decide) ?_
    refine g_iadd_N (pc := 549) dL_law_549 ?_
    refine g_sld (pc := 550) (x := p2) (by omega) hLs hp2 dL_law_550 ?_
    refine e_callV (k2 := k + 100) (n2 := n + 100) (As := [.int p1, .int p2]) (rest := [.int (spFromG kp so sz el p1 p2)]) (pc := 551) (wM_0 hA) rfl (c_X12_from_n hA hs h) mlL_68 selX12_X12_from_X12_from mX12_from ⟨Nat.le_of_ble_eq_true rfl, Nat.le_of_ble_eq_true rfl⟩ rfl rfl (Nat.le_of_ble_eq_true rfl) dL_law_551 ⟨hfc2, hfs2⟩ rfl rfl ?_
    refine g_icmp_eq (tgt := 1304) (pc := 554) dL_law_554 (by decide) (fun _ => ?_) (fun c9 => absurd rfl c9)
    exact kk _ (LSt.nx hA hao hB ho hC1 hik hs)
set_option maxHeartbeats 8000000 in
theorem law_11 (hA : aB b0 18 ad) (hao : ∀ j, j < 18 → ad j ≠ o) (hob : b0 ≤ o) (hfl : l.stackTraces = false) (hLs : Ls ≤ 3072) (hj : j + 6 ≤ Ls) (hk : k + 200 ≤ 60000) (hn : n + 200 ≤ 60000) (hV : LSt Z b0 cd ad o V) (kk : ∀ V2, LSt Z b0 cd ad o V2 → G l D Z b0 room_1 RL cL_law 8 (gEl b0 b Ls xs) lw_Z V2 [(4, .int (nI j)), (3, .ref o), (2, .ref (ad 0)), (1, .ref (cd 0)), (0, .ref b)] (k + 100) (n + 100) 1304 []) : G l D Z b0 room_1 RL cL_law 8 (gEl b0 b Ls xs) lw_Z V [(4, .int (nI j)), (3, .ref o), (2, .ref (ad 0)), (1, .ref (cd 0)), (0, .ref b)] k n 559 [] := by
  obtain ⟨ik, kd, fg, pl, hr, ikd, ifg, ipl, ihr, kp, so, sz, el, ki, kf, th, po, ba, en, se, im, rd, mi, ti, lo, wa, nu, li, to, ot, fo, Vb, hCI, hB, ho, hik, hs⟩ := hV
  have hok := hCI.okm
  obtain ⟨fs9, hobj⟩ := hCI.obj
  have hfc : ∀ a, a ≤ 100 → k + a ≤ room_1.cells := fun a h => Nat.le_trans (show k + a ≤ 60000 by omega) rm_c
  have hfs : ∀ a, a ≤ 100 → n + a ≤ room_1.slots := fun a h => Nat.le_trans (show n + a ≤ 60000 by omega) rm_s
  have hfc2 : k + 100 ≤ room_1.cells := Nat.le_trans (show k + 100 ≤ 60000 by omega) rm_c
  have hfs2 : n + 100 ≤ room_1.slots := Nat.le_trans (show n + 100 ≤ 60000 by omega) rm_s
  obtain ⟨p1, hp1⟩ : ∃ x, xs (j + 1) = x := ⟨_, rfl⟩
  obtain ⟨p2, hp2⟩ : ∃ x, xs (j + 2) = x := ⟨_, rfl⟩
  by_cases h : spListenG kp so sz el p1 p2 = nI 0
  · obtain ⟨d, w, hd, hw, rfl, rfl, hk2, hr9, hz20, hcl⟩ := spListen_0 h
    have hsr := okSort_e hr9
    refine g_aload_n (q := 3) (pc := 559) dL_law_559 rfl rfl ?_
    refine g_aload_n (q := 4) (pc := 560) dL_law_560 rfl rfl ?_
    refine g_iload (q := 0) (pc := 561) dL_law_561 rfl ?_
    refine g_iconst (v := nI 1) (pc := 563) dL_law_563 (by decide) ?_
    refine g_iadd_N (pc := 564) dL_law_564 ?_
    refine g_sld (pc := 565) (x := nI d) (by omega) hLs hp1 dL_law_565 ?_
    refine g_aload_n (q := 4) (pc := 566) dL_law_566 rfl rfl ?_
    refine g_iload (q := 0) (pc := 567) dL_law_567 rfl ?_
    refine g_iconst (v := nI 2) (pc := 569) dL_law_569 (by decide) ?_
    refine g_iadd_N (pc := 570) dL_law_570 ?_
    refine g_sld (pc := 571) (x := nI w) (by omega) hLs hp2 dL_law_571 ?_
    refine g_callV (As := [.int (nI d), .int (nI w)]) (rest := []) (pc := 572) hobj rfl (d_X11_listen_s hCI hd hw hk2 hsr hz20 hcl) mlL_69 selX11_X11_listen_X11_listen mX11_listen ⟨Nat.le_of_ble_eq_true rfl, Nat.le_of_ble_eq_true rfl⟩ rfl rfl (Nat.le_of_ble_eq_true rfl) dL_law_572 ⟨hfc _ (Nat.le_of_ble_eq_true rfl), hfs _ (Nat.le_of_ble_eq_true rfl)⟩ (fun v9 V1 h9 => ?_)
    obtain ⟨rfl, hC1⟩ := h9
    refine G.eqst (st2 := [.int (spListenV kd fg el d (sz d) w)]) rfl rfl rfl ?_
    refine G.widen (k' := k + 100) (n' := n + 100) (Nat.add_le_add_left (Nat.le_of_ble_eq_true rfl) _) (Nat.add_le_add_left (Nat.le_of_ble_eq_true rfl) _) ?_
    refine G.veq (hC1.self hB) ?_
    refine g_aload_n (q := 2) (pc := 575) dL_law_575 rfl rfl ?_
    refine g_aload_n (q := 4) (pc := 576) dL_law_576 rfl rfl ?_
    refine g_iload (q := 0) (pc := 577) dL_law_577 rfl ?_
    refine g_iconst (v := nI 1) (pc := 579) dL_law_579 (by decide) ?_
    refine g_iadd_N (pc := 580) dL_law_580 ?_
    refine g_sld (pc := 581) (x := nI d) (by omega) hLs hp1 dL_law_581 ?_
    refine g_aload_n (q := 4) (pc := 582) dL_law_582 rfl rfl ?_
    refine g_iload (q := 0) (pc := 583) dL_law_583 rfl ?_
    refine g_iconst (v := nI 2) (pc := 585) dL_law_585 (by decide) ?_
    refine g_iadd_N (pc := 586) dL_law_586 ?_
    refine g_sld (pc := 587) (x := nI w) (by omega) hLs hp2 dL_law_587 ?_
    refine g_callV (As := [.int (nI d), .int (nI w)]) (rest := [.int (spListenV kd fg el d (sz d) w)]) (pc := 588) (wM_0 hA) rfl (c_X12_listen_s hA hok hs hd hk2 hr9 hz20 hcl hw) mlL_72 selX12_X12_listen_X12_listen mX12_listen ⟨Nat.le_of_ble_eq_true rfl, Nat.le_of_ble_eq_true rfl⟩ rfl rfl (Nat.le_of_ble_eq_true rfl) dL_law_588 ⟨hfc2, hfs2⟩ (fun v8 V2 h8 => ?_)
    obtain ⟨rfl, th2, po2, ba2, en2, se2, rd2, mi2, ti2, lo2, wa2, nu2, li2, to2, ot2, rfl⟩ := h8
    refine G.eqst (k2 := k + 100) (n2 := n + 100) (st2 := [.int (spListenV kd fg el d (sz d) w), .int (spListenV kd fg el d (sz d) w)]) rfl rfl rfl ?_
    refine g_icmp_eq (tgt := 1304) (pc := 591) dL_law_591 (by decide) (fun _ => ?_) (fun c9 => absurd rfl c9)
    exact kk _ (LSt.nx hA hao hB ho hC1 hik hs)
  · -- refused
    refine g_aload_n (q := 3) (pc := 559) dL_law_559 rfl rfl ?_
    refine g_aload_n (q := 4) (pc := 560) dL_law_560 rfl rfl ?_
    refine g_iload (q := 0) (pc := 561) dL_law_561 rfl ?_
    refine g_iconst (v := nI 1) (pc := 563) dL_law_563 (by decide) ?_
    refine g_iadd_N (pc := 564) dL_law_564 ?_
    refine g_sld (pc := 565) (x := p1) (by omega) hLs hp1 dL_law_565 ?_
    refine g_aload_n (q := 4) (pc := 566) dL_law_566 rfl rfl ?_
    refine g_iload (q := 0) (pc := 567) dL_law_567 rfl ?_
    refine g_iconst (v := nI 2) (pc := 569) dL_law_569 (by decide) ?_
    refine g_iadd_N (pc := 570) dL_law_570 ?_
    refine g_sld (pc := 571) (x := p2) (by omega) hLs hp2 dL_law_571 ?_
    refine g_callV (As := [.int p1, .int p2]) (rest := []) (pc := 572) hobj rfl (d_X11_listen_n hCI h) mlL_69 selX11_X11_listen_X11_listen mX11_listen ⟨Nat.le_of_ble_eq_true rfl, Nat.le_of_ble_eq_true rfl⟩ rfl rfl (Nat.le_of_ble_eq_true rfl) dL_law_572 ⟨hfc _ (Nat.le_of_ble_eq_true rfl), hfs _ (Nat.le_of_ble_eq_true rfl)⟩ (fun v9 V1 h9 => ?_)
    obtain ⟨rfl, hC1⟩ := h9
    refine G.eqst (st2 := [.int (spListenG kp so sz el p1 p2)]) rfl rfl rfl ?_
    refine G.widen (k' := k + 100) (n' := n + 100) (Nat.add_le_add_left (Nat.le_of_ble_eq_true rfl) _) (Nat.add_le_add_left (Nat.le_of_ble_eq_true rfl) _) ?_
    refine G.veq (hC1.self hB) ?_
    refine g_aload_n (q := 2) (pc := 575) dL_law_575 rfl rfl ?_
    refine g_aload_n (q := 4) (pc := 576) dL_law_576 rfl rfl ?_
    refine g_iload (q := 0) (pc := 577) dL_law_577 rfl ?_
    refine g_iconst (v := nI 1) (pc := 579) dL_law_579 (by decide) ?_
    refine g_iadd_N (pc := 580) dL_law_580 ?_
    refine g_sld (pc := 581) (x := p1) (by omega) hLs hp1 dL_law_581 ?_
    refine g_aload_n (q := 4) (pc := 582) dL_law_582 rfl rfl ?_
    refine g_iload (q := 0) (pc := 583) dL_law_583 rfl ?_
    refine g_iconst (v := nI 2) (pc := 585) dL_law_585 (by decide) ?_
    refine g_iadd_N (pc := 586) dL_law_586 ?_
    refine g_sld (pc := 587) (x := p2) (by omega) hLs hp2 dL_law_587 ?_
    refine e_callV (k2 := k + 100) (n2 := n + 100) (As := [.int p1, .int p2]) (rest := [.int (spListenG kp so sz el p1 p2)]) (pc := 588) (wM_0 hA) rfl (c_X12_listen_n hA hs h) mlL_72 selX12_X12_listen_X12_listen mX12_listen ⟨Nat.le_of_ble_eq_true rfl, Nat.le_of_ble_eq_true rfl⟩ rfl rfl (Nat.le_of_ble_eq_true rfl) dL_law_588 ⟨hfc2, hfs2⟩ rfl rfl ?_
    refine g_icmp_eq (tgt := 1304) (pc := 591) dL_law_591 (by decide) (fun _ => ?_) (fun c9 => absurd rfl c9)
    exact kk _ (LSt.nx hA hao hB ho hC1 hik hs)
set_option maxHeartbeats 8000000 in
theorem law_12 (hA : aB b0 18 ad) (hao : ∀ j, j < 18 → ad j ≠ o) (hob : b0 ≤ o) (hfl : l.stackTraces = false) (hLs : Ls ≤ 3072) (hj : j + 6 ≤ Ls) (hk : k + 200 ≤ 60000) (hn : n + 200 ≤ 60000) (hV : LSt Z b0 cd ad o V) (kk : ∀ V2, LSt Z b0 cd ad o V2 → G l D Z b0 room_1 RL cL_law 8 (gEl b0 b Ls xs) lw_Z V2 [(4, .int (nI j)), (3, .ref o), (2, .ref (ad 0)), (1, .ref (cd 0)), (0, .ref b)] (k + 100) (n + 100) 1304 []) : G l D Z b0 room_1 RL cL_law 8 (gEl b0 b Ls xs) lw_Z V [(4, .int (nI j)), (3, .ref o), (2, .ref (ad 0)), (1, .ref (cd 0)), (0, .ref b)] k n 596 [] := by
  obtain ⟨ik, kd, fg, pl, hr, ikd, ifg, ipl, ihr, kp, so, sz, el, ki, kf, th, po, ba, en, se, im, rd, mi, ti, lo, wa, nu, li, to, ot, fo, Vb, hCI, hB, ho, hik, hs⟩ := hV
  have hok := hCI.okm
  obtain ⟨fs9, hobj⟩ := hCI.obj
  have hfc : ∀ a, a ≤ 100 → k + a ≤ room_1.cells := fun a h => Nat.le_trans (show k + a ≤ 60000 by omega) rm_c
  have hfs : ∀ a, a ≤ 100 → n + a ≤ room_1.slots := fun a h => Nat.le_trans (show n + a ≤ 60000 by omega) rm_s
  have hfc2 : k + 100 ≤ room_1.cells := Nat.le_trans (show k + 100 ≤ 60000 by omega) rm_c
  have hfs2 : n + 100 ≤ room_1.slots := Nat.le_trans (show n + 100 ≤ 60000 by omega) rm_s
  obtain ⟨p1, hp1⟩ : ∃ x, xs (j + 1) = x := ⟨_, rfl⟩
  obtain ⟨p2, hp2⟩ : ∃ x, xs (j + 2) = x := ⟨_, rfl⟩
  obtain ⟨p3, hp3⟩ : ∃ x, xs (j + 3) = x := ⟨_, rfl⟩
  obtain ⟨p4, hp4⟩ : ∃ x, xs (j + 4) = x := ⟨_, rfl⟩
  obtain ⟨p5, hp5⟩ : ∃ x, xs (j + 5) = x := ⟨_, rfl⟩
  refine g_aload_n (q := 3) (pc := 596) dL_law_596 rfl rfl ?_
  refine g_aload_n (q := 4) (pc := 597) dL_law_597 rfl rfl ?_
  refine g_iload (q := 0) (pc := 598) dL_law_598 rfl ?_
  refine g_iconst (v := nI 1) (pc := 600) dL_law_600 (by decide) ?_
  refine g_iadd_N (pc := 601) dL_law_601 ?_
  refine g_sld (pc := 602) (x := p1) (by omega) hLs hp1 dL_law_602 ?_
  refine g_aload_n (q := 4) (pc := 603) dL_law_603 rfl rfl ?_
  refine g_iload (q := 0) (pc := 604) dL_law_604 rfl ?_
  refine g_iconst (v := nI 2) (pc := 606) dL_law_606 (by decide) ?_
  refine g_iadd_N (pc := 607) dL_law_607 ?_
  refine g_sld (pc := 608) (x := p2) (by omega) hLs hp2 dL_law_608 ?_
  refine g_aload_n (q := 4) (pc := 609) dL_law_609 rfl rfl ?_
  refine g_iload (q := 0) (pc := 610) dL_law_610 rfl ?_
  refine g_iconst (v := nI 3) (pc := 612) dL_law_612 (by decide) ?_
  refine g_iadd_N (pc := 613) dL_law_613 ?_
  refine g_sld (pc := 614) (x := p3) (by omega) hLs hp3 dL_law_614 ?_
  refine g_aload_n (q := 4) (pc := 615) dL_law_615 rfl rfl ?_
  refine g_iload (q := 0) (pc := 616) dL_law_616 rfl ?_
  refine g_iconst (v := nI 4) (pc := 618) dL_law_618 (by decide) ?_
  refine g_iadd_N (pc := 619) dL_law_619 ?_
  refine g_sld (pc := 620) (x := p4) (by omega) hLs hp4 dL_law_620 ?_
  refine g_aload_n (q := 4) (pc := 621) dL_law_621 rfl rfl ?_
  refine g_iload (q := 0) (pc := 622) dL_law_622 rfl ?_
  refine g_iconst (v := nI 5) (pc := 624) dL_law_624 (by decide) ?_
  refine g_iadd_N (pc := 625) dL_law_625 ?_
  refine g_sld (pc := 626) (x := p5) (by omega) hLs hp5 dL_law_626 ?_
  refine g_callV (As := [.int p1, .int p2, .int p3, .int p4, .int p5]) (rest := []) (pc := 627) hobj rfl (d_X11_rocks hCI) mlL_73 selX11_X11_rocks_X11_rocks mX11_rocks ⟨Nat.le_of_ble_eq_true rfl, Nat.le_of_ble_eq_true rfl⟩ rfl rfl (Nat.le_of_ble_eq_true rfl) dL_law_627 ⟨hfc _ (Nat.le_of_ble_eq_true rfl), hfs _ (Nat.le_of_ble_eq_true rfl)⟩ (fun v9 V1 h9 => ?_)
  obtain ⟨rfl, hC1⟩ := h9
  refine G.eqst (st2 := [.int (spRocks kd fg p1 p2 p3 p4 p5)]) rfl rfl rfl ?_
  refine G.widen (k' := k + 100) (n' := n + 100) (Nat.add_le_add_left (Nat.le_of_ble_eq_true rfl) _) (Nat.add_le_add_left (Nat.le_of_ble_eq_true rfl) _) ?_
  refine G.veq (hC1.self hB) ?_
  refine g_aload_n (q := 2) (pc := 630) dL_law_630 rfl rfl ?_
  refine g_aload_n (q := 4) (pc := 631) dL_law_631 rfl rfl ?_
  refine g_iload (q := 0) (pc := 632) dL_law_632 rfl ?_
  refine g_iconst (v := nI 1) (pc := 634) dL_law_634 (by decide) ?_
  refine g_iadd_N (pc := 635) dL_law_635 ?_
  refine g_sld (pc := 636) (x := p1) (by omega) hLs hp1 dL_law_636 ?_
  refine g_aload_n (q := 4) (pc := 637) dL_law_637 rfl rfl ?_
  refine g_iload (q := 0) (pc := 638) dL_law_638 rfl ?_
  refine g_iconst (v := nI 2) (pc := 640) dL_law_640 (by decide) ?_
  refine g_iadd_N (pc := 641) dL_law_641 ?_
  refine g_sld (pc := 642) (x := p2) (by omega) hLs hp2 dL_law_642 ?_
  refine g_aload_n (q := 4) (pc := 643) dL_law_643 rfl rfl ?_
  refine g_iload (q := 0) (pc := 644) dL_law_644 rfl ?_
  refine g_iconst (v := nI 3) (pc := 646) dL_law_646 (by decide) ?_
  refine g_iadd_N (pc := 647) dL_law_647 ?_
  refine g_sld (pc := 648) (x := p3) (by omega) hLs hp3 dL_law_648 ?_
  refine g_aload_n (q := 4) (pc := 649) dL_law_649 rfl rfl ?_
  refine g_iload (q := 0) (pc := 650) dL_law_650 rfl ?_
  refine g_iconst (v := nI 4) (pc := 652) dL_law_652 (by decide) ?_
  refine g_iadd_N (pc := 653) dL_law_653 ?_
  refine g_sld (pc := 654) (x := p4) (by omega) hLs hp4 dL_law_654 ?_
  refine g_aload_n (q := 4) (pc := 655) dL_law_655 rfl rfl ?_
  refine g_iload (q := 0) (pc := 656) dL_law_656 rfl ?_
  refine g_iconst (v := nI 5) (pc := 658) dL_law_658 (by decide) ?_
  refine g_iadd_N (pc := 659) dL_law_659 ?_
  refine g_sld (pc := 660) (x := p5) (by omega) hLs hp5 dL_law_660 ?_
  refine g_callV (As := [.int p1, .int p2, .int p3, .int p4, .int p5]) (rest := [.int (spRocks kd fg p1 p2 p3 p4 p5)]) (pc := 661) (wM_0 hA) rfl (c_X12_rocks hA hok) mlL_77 selX12_X12_rocks_X12_rocks mX12_rocks ⟨Nat.le_of_ble_eq_true rfl, Nat.le_of_ble_eq_true rfl⟩ rfl rfl (Nat.le_of_ble_eq_true rfl) dL_law_661 ⟨hfc2, hfs2⟩ (fun v8 V2 h8 => ?_)
  obtain ⟨rfl, th2, po2, ba2, en2, se2, rd2, mi2, ti2, lo2, wa2, nu2, li2, to2, ot2, rfl⟩ := h8
  refine G.eqst (k2 := k + 100) (n2 := n + 100) (st2 := [.int (spRocks kd fg p1 p2 p3 p4 p5), .int (spRocks kd fg p1 p2 p3 p4 p5)]) rfl rfl rfl ?_
  refine g_icmp_eq (tgt := 1304) (pc := 664) dL_law_664 (by decide) (fun _ => ?_) (fun c9 => absurd rfl c9)
  exact kk _ (LSt.nx hA hao hB ho hC1 hik hs)
set_option maxHeartbeats 8000000 in
theorem law_13 (hA : aB b0 18 ad) (hao : ∀ j, j < 18 → ad j ≠ o) (hob : b0 ≤ o) (hfl : l.stackTraces = false) (hLs : Ls ≤ 3072) (hj : j + 6 ≤ Ls) (hk : k + 200 ≤ 60000) (hn : n + 200 ≤ 60000) (hV : LSt Z b0 cd ad o V) (kk : ∀ V2, LSt Z b0 cd ad o V2 → G l D Z b0 room_1 RL cL_law 8 (gEl b0 b Ls xs) lw_Z V2 [(4, .int (nI j)), (3, .ref o), (2, .ref (ad 0)), (1, .ref (cd 0)), (0, .ref b)] (k + 100) (n + 100) 1304 []) : G l D Z b0 room_1 RL cL_law 8 (gEl b0 b Ls xs) lw_Z V [(4, .int (nI j)), (3, .ref o), (2, .ref (ad 0)), (1, .ref (cd 0)), (0, .ref b)] k n 669 [] := by
  obtain ⟨ik, kd, fg, pl, hr, ikd, ifg, ipl, ihr, kp, so, sz, el, ki, kf, th, po, ba, en, se, im, rd, mi, ti, lo, wa, nu, li, to, ot, fo, Vb, hCI, hB, ho, hik, hs⟩ := hV
  have hok := hCI.okm
  obtain ⟨fs9, hobj⟩ := hCI.obj
  have hfc : ∀ a, a ≤ 100 → k + a ≤ room_1.cells := fun a h => Nat.le_trans (show k + a ≤ 60000 by omega) rm_c
  have hfs : ∀ a, a ≤ 100 → n + a ≤ room_1.slots := fun a h => Nat.le_trans (show n + a ≤ 60000 by omega) rm_s
  have hfc2 : k + 100 ≤ room_1.cells := Nat.le_trans (show k + 100 ≤ 60000 by omega) rm_c
  have hfs2 : n + 100 ≤ room_1.slots := Nat.le_trans (show n + 100 ≤ 60000 by omega) rm_s
  refine g_aload_n (q := 3) (pc := 669) dL_law_669 rfl rfl ?_
  refine g_callV (As := []) (rest := []) (pc := 670) hobj rfl (d_X11_toils hCI) mlL_78 selX11_X11_toils_X11_toils mX11_toils ⟨Nat.le_of_ble_eq_true rfl, Nat.le_of_ble_eq_true rfl⟩ rfl rfl (Nat.le_of_ble_eq_true rfl) dL_law_670 ⟨hfc _ (Nat.le_of_ble_eq_true rfl), hfs _ (Nat.le_of_ble_eq_true rfl)⟩ (fun v9 V1 h9 => ?_)
  obtain ⟨rfl, hC1⟩ := h9
  refine G.eqst (st2 := [.int (spToils kd fg pl)]) rfl rfl rfl ?_
  refine G.widen (k' := k + 100) (n' := n + 100) (Nat.add_le_add_left (Nat.le_of_ble_eq_true rfl) _) (Nat.add_le_add_left (Nat.le_of_ble_eq_true rfl) _) ?_
  refine G.veq (hC1.self hB) ?_
  refine g_aload_n (q := 2) (pc := 673) dL_law_673 rfl rfl ?_
  refine g_callV (As := []) (rest := [.int (spToils kd fg pl)]) (pc := 674) (wM_0 hA) rfl (c_X12_toils hA hok) mlL_81 selX12_X12_toils_X12_toils mX12_toils ⟨Nat.le_of_ble_eq_true rfl, Nat.le_of_ble_eq_true rfl⟩ rfl rfl (Nat.le_of_ble_eq_true rfl) dL_law_674 ⟨hfc2, hfs2⟩ (fun v8 V2 h8 => ?_)
  obtain ⟨rfl, th2, po2, ba2, en2, se2, rd2, mi2, ti2, lo2, wa2, nu2, li2, to2, ot2, rfl⟩ := h8
  refine G.eqst (k2 := k + 100) (n2 := n + 100) (st2 := [.int (spToils kd fg pl), .int (spToils kd fg pl)]) rfl rfl rfl ?_
  refine g_icmp_eq (tgt := 1304) (pc := 677) dL_law_677 (by decide) (fun _ => ?_) (fun c9 => absurd rfl c9)
  exact kk _ (LSt.nx hA hao hB ho hC1 hik hs)
set_option maxHeartbeats 8000000 in
theorem law_14 (hA : aB b0 18 ad) (hao : ∀ j, j < 18 → ad j ≠ o) (hob : b0 ≤ o) (hfl : l.stackTraces = false) (hLs : Ls ≤ 3072) (hj : j + 6 ≤ Ls) (hk : k + 200 ≤ 60000) (hn : n + 200 ≤ 60000) (hV : LSt Z b0 cd ad o V) (kk : ∀ V2, LSt Z b0 cd ad o V2 → G l D Z b0 room_1 RL cL_law 8 (gEl b0 b Ls xs) lw_Z V2 [(4, .int (nI j)), (3, .ref o), (2, .ref (ad 0)), (1, .ref (cd 0)), (0, .ref b)] (k + 100) (n + 100) 1304 []) : G l D Z b0 room_1 RL cL_law 8 (gEl b0 b Ls xs) lw_Z V [(4, .int (nI j)), (3, .ref o), (2, .ref (ad 0)), (1, .ref (cd 0)), (0, .ref b)] k n 682 [] := by
  obtain ⟨ik, kd, fg, pl, hr, ikd, ifg, ipl, ihr, kp, so, sz, el, ki, kf, th, po, ba, en, se, im, rd, mi, ti, lo, wa, nu, li, to, ot, fo, Vb, hCI, hB, ho, hik, hs⟩ := hV
  have hok := hCI.okm
  obtain ⟨fs9, hobj⟩ := hCI.obj
  have hfc : ∀ a, a ≤ 100 → k + a ≤ room_1.cells := fun a h => Nat.le_trans (show k + a ≤ 60000 by omega) rm_c
  have hfs : ∀ a, a ≤ 100 → n + a ≤ room_1.slots := fun a h => Nat.le_trans (show n + a ≤ 60000 by omega) rm_s
  have hfc2 : k + 100 ≤ room_1.cells := Nat.le_trans (show k + 100 ≤ 60000 by omega) rm_c
  have hfs2 : n + 100 ≤ room_1.slots := Nat.le_trans (show n + 100 ≤ 60000 by omega) rm_s
  refine g_aload_n (q := 3) (pc := 682) dL_law_682 rfl rfl ?_
  refine g_callV (As := []) (rest := []) (pc := 683) hobj rfl (d_X11_soon hCI) mlL_82 selX11_X11_soon_X11_soon mX11_soon ⟨Nat.le_of_ble_eq_true rfl, Nat.le_of_ble_eq_true rfl⟩ rfl rfl (Nat.le_of_ble_eq_true rfl) dL_law_683 ⟨hfc _ (Nat.le_of_ble_eq_true rfl), hfs _ (Nat.le_of_ble_eq_true rfl)⟩ (fun v9 V1 h9 => ?_)
  obtain ⟨rfl, hC1⟩ := h9
  refine G.eqst (st2 := [.int (nI (soonV kd fg pl))]) rfl rfl rfl ?_
  refine G.widen (k' := k + 100) (n' := n + 100) (Nat.add_le_add_left (Nat.le_of_ble_eq_true rfl) _) (Nat.add_le_add_left (Nat.le_of_ble_eq_true rfl) _) ?_
  refine G.veq (hC1.self hB) ?_
  refine g_aload_n (q := 2) (pc := 686) dL_law_686 rfl rfl ?_
  refine g_callV (As := []) (rest := [.int (nI (soonV kd fg pl))]) (pc := 687) (wM_0 hA) rfl (c_X12_soon hA hok) mlL_85 selX12_X12_soon_X12_soon mX12_soon ⟨Nat.le_of_ble_eq_true rfl, Nat.le_of_ble_eq_true rfl⟩ rfl rfl (Nat.le_of_ble_eq_true rfl) dL_law_687 ⟨hfc2, hfs2⟩ (fun v8 V2 h8 => ?_)
  obtain ⟨rfl, th2, po2, ba2, en2, se2, rd2, mi2, ti2, lo2, wa2, nu2, li2, to2, ot2, rfl⟩ := h8
  refine G.eqst (k2 := k + 100) (n2 := n + 100) (st2 := [.int (nI (soonV kd fg pl)), .int (nI (soonV kd fg pl))]) rfl rfl rfl ?_
  refine g_icmp_eq (tgt := 1304) (pc := 690) dL_law_690 (by decide) (fun _ => ?_) (fun c9 => absurd rfl c9)
  exact kk _ (LSt.nx hA hao hB ho hC1 hik hs)
set_option maxHeartbeats 8000000 in
theorem law_15 (hA : aB b0 18 ad) (hao : ∀ j, j < 18 → ad j ≠ o) (hob : b0 ≤ o) (hfl : l.stackTraces = false) (hLs : Ls ≤ 3072) (hj : j + 6 ≤ Ls) (hk : k + 200 ≤ 60000) (hn : n + 200 ≤ 60000) (hV : LSt Z b0 cd ad o V) (kk : ∀ V2, LSt Z b0 cd ad o V2 → G l D Z b0 room_1 RL cL_law 8 (gEl b0 b Ls xs) lw_Z V2 [(4, .int (nI j)), (3, .ref o), (2, .ref (ad 0)), (1, .ref (cd 0)), (0, .ref b)] (k + 100) (n + 100) 1304 []) : G l D Z b0 room_1 RL cL_law 8 (gEl b0 b Ls xs) lw_Z V [(4, .int (nI j)), (3, .ref o), (2, .ref (ad 0)), (1, .ref (cd 0)), (0, .ref b)] k n 695 [] := by
  obtain ⟨ik, kd, fg, pl, hr, ikd, ifg, ipl, ihr, kp, so, sz, el, ki, kf, th, po, ba, en, se, im, rd, mi, ti, lo, wa, nu, li, to, ot, fo, Vb, hCI, hB, ho, hik, hs⟩ := hV
  have hok := hCI.okm
  obtain ⟨fs9, hobj⟩ := hCI.obj
  have hfc : ∀ a, a ≤ 100 → k + a ≤ room_1.cells := fun a h => Nat.le_trans (show k + a ≤ 60000 by omega) rm_c
  have hfs : ∀ a, a ≤ 100 → n + a ≤ room_1.slots := fun a h => Nat.le_trans (show n + a ≤ 60000 by omega) rm_s
  have hfc2 : k + 100 ≤ room_1.cells := Nat.le_trans (show k + 100 ≤ 60000 by omega) rm_c
  have hfs2 : n + 100 ≤ room_1.slots := Nat.le_trans (show n + 100 ≤ 60000 by omega) rm_s
  obtain ⟨p1, hp1⟩ : ∃ x, xs (j + 1) = x := ⟨_, rfl⟩
  obtain ⟨p2, hp2⟩ : ∃ x, xs (j + 2) = x := ⟨_, rfl⟩
  refine g_aload_n (q := 3) (pc := 695) dL_law_695 rfl rfl ?_
  refine g_aload_n (q := 4) (pc := 696) dL_law_696 rfl rfl ?_
  refine g_iload (q := 0) (pc := 697) dL_law_697 rfl ?_
  refine g_iconst (v := nI 1) (pc := 699) dL_law_699 (by decide) ?_
  refine g_iadd_N (pc := 700) dL_law_700 ?_
  refine g_sld (pc := 701) (x := p1) (by omega) hLs hp1 dL_law_701 ?_
  refine g_aload_n (q := 4) (pc := 702) dL_law_702 rfl rfl ?_
  refine g_iload (q := 0) (pc := 703) dL_law_703 rfl ?_
  refine g_iconst (v := nI 2) (pc := 705) dL_law_705 (by decide) ?_
  refine g_iadd_N (pc := 706) dL_law_706 ?_
  refine g_sld (pc := 707) (x := p2) (by omega) hLs hp2 dL_law_707 ?_
  refine g_callV (As := [.int p1, .int p2]) (rest := []) (pc := 708) hobj rfl (d_X11_side hCI) mlL_86 selX11_X11_side_X11_side mX11_side ⟨Nat.le_of_ble_eq_true rfl, Nat.le_of_ble_eq_true rfl⟩ rfl rfl (Nat.le_of_ble_eq_true rfl) dL_law_708 ⟨hfc _ (Nat.le_of_ble_eq_true rfl), hfs _ (Nat.le_of_ble_eq_true rfl)⟩ (fun v9 V1 h9 => ?_)
  obtain ⟨rfl, hC1⟩ := h9
  refine G.eqst (st2 := [.int (spSide kd fg pl p1 p2)]) rfl rfl rfl ?_
  refine G.widen (k' := k + 100) (n' := n + 100) (Nat.add_le_add_left (Nat.le_of_ble_eq_true rfl) _) (Nat.add_le_add_left (Nat.le_of_ble_eq_true rfl) _) ?_
  refine G.veq (hC1.self hB) ?_
  refine g_aload_n (q := 2) (pc := 711) dL_law_711 rfl rfl ?_
  refine g_aload_n (q := 4) (pc := 712) dL_law_712 rfl rfl ?_
  refine g_iload (q := 0) (pc := 713) dL_law_713 rfl ?_
  refine g_iconst (v := nI 1) (pc := 715) dL_law_715 (by decide) ?_
  refine g_iadd_N (pc := 716) dL_law_716 ?_
  refine g_sld (pc := 717) (x := p1) (by omega) hLs hp1 dL_law_717 ?_
  refine g_aload_n (q := 4) (pc := 718) dL_law_718 rfl rfl ?_
  refine g_iload (q := 0) (pc := 719) dL_law_719 rfl ?_
  refine g_iconst (v := nI 2) (pc := 721) dL_law_721 (by decide) ?_
  refine g_iadd_N (pc := 722) dL_law_722 ?_
  refine g_sld (pc := 723) (x := p2) (by omega) hLs hp2 dL_law_723 ?_
  refine g_callV (As := [.int p1, .int p2]) (rest := [.int (spSide kd fg pl p1 p2)]) (pc := 724) (wM_0 hA) rfl (c_X12_side hA hok) mlL_89 selX12_X12_side_X12_side mX12_side ⟨Nat.le_of_ble_eq_true rfl, Nat.le_of_ble_eq_true rfl⟩ rfl rfl (Nat.le_of_ble_eq_true rfl) dL_law_724 ⟨hfc2, hfs2⟩ (fun v8 V2 h8 => ?_)
  obtain ⟨rfl, th2, po2, ba2, en2, se2, rd2, mi2, ti2, lo2, wa2, nu2, li2, to2, ot2, rfl⟩ := h8
  refine G.eqst (k2 := k + 100) (n2 := n + 100) (st2 := [.int (spSide kd fg pl p1 p2), .int (spSide kd fg pl p1 p2)]) rfl rfl rfl ?_
  refine g_icmp_eq (tgt := 1304) (pc := 727) dL_law_727 (by decide) (fun _ => ?_) (fun c9 => absurd rfl c9)
  exact kk _ (LSt.nx hA hao hB ho hC1 hik hs)
set_option maxHeartbeats 8000000 in
theorem law_16 (hA : aB b0 18 ad) (hao : ∀ j, j < 18 → ad j ≠ o) (hob : b0 ≤ o) (hfl : l.stackTraces = false) (hLs : Ls ≤ 3072) (hj : j + 6 ≤ Ls) (hk : k + 200 ≤ 60000) (hn : n + 200 ≤ 60000) (hV : LSt Z b0 cd ad o V) (kk : ∀ V2, LSt Z b0 cd ad o V2 → G l D Z b0 room_1 RL cL_law 8 (gEl b0 b Ls xs) lw_Z V2 [(4, .int (nI j)), (3, .ref o), (2, .ref (ad 0)), (1, .ref (cd 0)), (0, .ref b)] (k + 100) (n + 100) 1304 []) : G l D Z b0 room_1 RL cL_law 8 (gEl b0 b Ls xs) lw_Z V [(4, .int (nI j)), (3, .ref o), (2, .ref (ad 0)), (1, .ref (cd 0)), (0, .ref b)] k n 732 [] := by
  obtain ⟨ik, kd, fg, pl, hr, ikd, ifg, ipl, ihr, kp, so, sz, el, ki, kf, th, po, ba, en, se, im, rd, mi, ti, lo, wa, nu, li, to, ot, fo, Vb, hCI, hB, ho, hik, hs⟩ := hV
  have hok := hCI.okm
  obtain ⟨fs9, hobj⟩ := hCI.obj
  have hfc : ∀ a, a ≤ 100 → k + a ≤ room_1.cells := fun a h => Nat.le_trans (show k + a ≤ 60000 by omega) rm_c
  have hfs : ∀ a, a ≤ 100 → n + a ≤ room_1.slots := fun a h => Nat.le_trans (show n + a ≤ 60000 by omega) rm_s
  have hfc2 : k + 100 ≤ room_1.cells := Nat.le_trans (show k + 100 ≤ 60000 by omega) rm_c
  have hfs2 : n + 100 ≤ room_1.slots := Nat.le_trans (show n + 100 ≤ 60000 by omega) rm_s
  obtain ⟨p1, hp1⟩ : ∃ x, xs (j + 1) = x := ⟨_, rfl⟩
  obtain ⟨p2, hp2⟩ : ∃ x, xs (j + 2) = x := ⟨_, rfl⟩
  obtain ⟨p3, hp3⟩ : ∃ x, xs (j + 3) = x := ⟨_, rfl⟩
  refine g_aload_n (q := 3) (pc := 732) dL_law_732 rfl rfl ?_
  refine g_aload_n (q := 4) (pc := 733) dL_law_733 rfl rfl ?_
  refine g_iload (q := 0) (pc := 734) dL_law_734 rfl ?_
  refine g_iconst (v := nI 1) (pc := 736) dL_law_736 (by decide) ?_
  refine g_iadd_N (pc := 737) dL_law_737 ?_
  refine g_sld (pc := 738) (x := p1) (by omega) hLs hp1 dL_law_738 ?_
  refine g_aload_n (q := 4) (pc := 739) dL_law_739 rfl rfl ?_
  refine g_iload (q := 0) (pc := 740) dL_law_740 rfl ?_
  refine g_iconst (v := nI 2) (pc := 742) dL_law_742 (by decide) ?_
  refine g_iadd_N (pc := 743) dL_law_743 ?_
  refine g_sld (pc := 744) (x := p2) (by omega) hLs hp2 dL_law_744 ?_
  refine g_aload_n (q := 4) (pc := 745) dL_law_745 rfl rfl ?_
  refine g_iload (q := 0) (pc := 746) dL_law_746 rfl ?_
  refine g_iconst (v := nI 3) (pc := 748) dL_law_748 (by decide) ?_
  refine g_iadd_N (pc := 749) dL_law_749 ?_
  refine g_sld (pc := 750) (x := p3) (by omega) hLs hp3 dL_law_750 ?_
  refine g_callV (As := [.int p1, .int p2, .int p3]) (rest := []) (pc := 751) hobj rfl (d_X11_taken hCI) mlL_90 selX11_X11_taken_X11_taken mX11_taken ⟨Nat.le_of_ble_eq_true rfl, Nat.le_of_ble_eq_true rfl⟩ rfl rfl (Nat.le_of_ble_eq_true rfl) dL_law_751 ⟨hfc _ (Nat.le_of_ble_eq_true rfl), hfs _ (Nat.le_of_ble_eq_true rfl)⟩ (fun v9 V1 h9 => ?_)
  obtain ⟨rfl, hC1⟩ := h9
  refine G.eqst (st2 := [.int (spTaken p1 p2 p3)]) rfl rfl rfl ?_
  refine G.widen (k' := k + 100) (n' := n + 100) (Nat.add_le_add_left (Nat.le_of_ble_eq_true rfl) _) (Nat.add_le_add_left (Nat.le_of_ble_eq_true rfl) _) ?_
  refine G.veq (hC1.self hB) ?_
  refine g_aload_n (q := 2) (pc := 754) dL_law_754 rfl rfl ?_
  refine g_aload_n (q := 4) (pc := 755) dL_law_755 rfl rfl ?_
  refine g_iload (q := 0) (pc := 756) dL_law_756 rfl ?_
  refine g_iconst (v := nI 1) (pc := 758) dL_law_758 (by decide) ?_
  refine g_iadd_N (pc := 759) dL_law_759 ?_
  refine g_sld (pc := 760) (x := p1) (by omega) hLs hp1 dL_law_760 ?_
  refine g_aload_n (q := 4) (pc := 761) dL_law_761 rfl rfl ?_
  refine g_iload (q := 0) (pc := 762) dL_law_762 rfl ?_
  refine g_iconst (v := nI 2) (pc := 764) dL_law_764 (by decide) ?_
  refine g_iadd_N (pc := 765) dL_law_765 ?_
  refine g_sld (pc := 766) (x := p2) (by omega) hLs hp2 dL_law_766 ?_
  refine g_aload_n (q := 4) (pc := 767) dL_law_767 rfl rfl ?_
  refine g_iload (q := 0) (pc := 768) dL_law_768 rfl ?_
  refine g_iconst (v := nI 3) (pc := 770) dL_law_770 (by decide) ?_
  refine g_iadd_N (pc := 771) dL_law_771 ?_
  refine g_sld (pc := 772) (x := p3) (by omega) hLs hp3 dL_law_772 ?_
  refine e_callV (k2 := k + 100) (n2 := n + 100) (As := [.int p1, .int p2, .int p3]) (rest := [.int (spTaken p1 p2 p3)]) (pc := 773) (wM_0 hA) rfl (c_X12_taken hA ) mlL_93 selX12_X12_taken_X12_taken mX12_taken ⟨Nat.le_of_ble_eq_true rfl, Nat.le_of_ble_eq_true rfl⟩ rfl rfl (Nat.le_of_ble_eq_true rfl) dL_law_773 ⟨hfc2, hfs2⟩ rfl rfl ?_
  refine g_icmp_eq (tgt := 1304) (pc := 776) dL_law_776 (by decide) (fun _ => ?_) (fun c9 => absurd rfl c9)
  exact kk _ (LSt.nx hA hao hB ho hC1 hik hs)
set_option maxHeartbeats 8000000 in
theorem law_17 (hA : aB b0 18 ad) (hao : ∀ j, j < 18 → ad j ≠ o) (hob : b0 ≤ o) (hfl : l.stackTraces = false) (hLs : Ls ≤ 3072) (hj : j + 6 ≤ Ls) (hk : k + 200 ≤ 60000) (hn : n + 200 ≤ 60000) (hV : LSt Z b0 cd ad o V) (kk : ∀ V2, LSt Z b0 cd ad o V2 → G l D Z b0 room_1 RL cL_law 8 (gEl b0 b Ls xs) lw_Z V2 [(4, .int (nI j)), (3, .ref o), (2, .ref (ad 0)), (1, .ref (cd 0)), (0, .ref b)] (k + 100) (n + 100) 1304 []) : G l D Z b0 room_1 RL cL_law 8 (gEl b0 b Ls xs) lw_Z V [(4, .int (nI j)), (3, .ref o), (2, .ref (ad 0)), (1, .ref (cd 0)), (0, .ref b)] k n 781 [] := by
  obtain ⟨ik, kd, fg, pl, hr, ikd, ifg, ipl, ihr, kp, so, sz, el, ki, kf, th, po, ba, en, se, im, rd, mi, ti, lo, wa, nu, li, to, ot, fo, Vb, hCI, hB, ho, hik, hs⟩ := hV
  have hok := hCI.okm
  obtain ⟨fs9, hobj⟩ := hCI.obj
  have hfc : ∀ a, a ≤ 100 → k + a ≤ room_1.cells := fun a h => Nat.le_trans (show k + a ≤ 60000 by omega) rm_c
  have hfs : ∀ a, a ≤ 100 → n + a ≤ room_1.slots := fun a h => Nat.le_trans (show n + a ≤ 60000 by omega) rm_s
  have hfc2 : k + 100 ≤ room_1.cells := Nat.le_trans (show k + 100 ≤ 60000 by omega) rm_c
  have hfs2 : n + 100 ≤ room_1.slots := Nat.le_trans (show n + 100 ≤ 60000 by omega) rm_s
  obtain ⟨p1, hp1⟩ : ∃ x, xs (j + 1) = x := ⟨_, rfl⟩
  obtain ⟨p2, hp2⟩ : ∃ x, xs (j + 2) = x := ⟨_, rfl⟩
  obtain ⟨p3, hp3⟩ : ∃ x, xs (j + 3) = x := ⟨_, rfl⟩
  by_cases h : spSafeG kp so sz p1 p2 p3 = nI 0
  · obtain ⟨d, e, w, hd, he, hw, rfl, rfl, rfl, hk2, hr9, hz8⟩ := spSafe_0 h
    have hsr := okSort_e hr9
    refine g_aload_n (q := 3) (pc := 781) dL_law_781 rfl rfl ?_
    refine g_aload_n (q := 4) (pc := 782) dL_law_782 rfl rfl ?_
    refine g_iload (q := 0) (pc := 783) dL_law_783 rfl ?_
    refine g_iconst (v := nI 1) (pc := 785) dL_law_785 (by decide) ?_
    refine g_iadd_N (pc := 786) dL_law_786 ?_
    refine g_sld (pc := 787) (x := nI d) (by omega) hLs hp1 dL_law_787 ?_
    refine g_aload_n (q := 4) (pc := 788) dL_law_788 rfl rfl ?_
    refine g_iload (q := 0) (pc := 789) dL_law_789 rfl ?_
    refine g_iconst (v := nI 2) (pc := 791) dL_law_791 (by decide) ?_
    refine g_iadd_N (pc := 792) dL_law_792 ?_
    refine g_sld (pc := 793) (x := nI e) (by omega) hLs hp2 dL_law_793 ?_
    refine g_aload_n (q := 4) (pc := 794) dL_law_794 rfl rfl ?_
    refine g_iload (q := 0) (pc := 795) dL_law_795 rfl ?_
    refine g_iconst (v := nI 3) (pc := 797) dL_law_797 (by decide) ?_
    refine g_iadd_N (pc := 798) dL_law_798 ?_
    refine g_sld (pc := 799) (x := nI w) (by omega) hLs hp3 dL_law_799 ?_
    refine g_callV (As := [.int (nI d), .int (nI e), .int (nI w)]) (rest := []) (pc := 800) hobj rfl (d_X11_safe_s hCI hd hk2 hsr hz8 he hw) mlL_94 selX11_X11_safe_X11_safe mX11_safe ⟨Nat.le_of_ble_eq_true rfl, Nat.le_of_ble_eq_true rfl⟩ rfl rfl (Nat.le_of_ble_eq_true rfl) dL_law_800 ⟨hfc _ (Nat.le_of_ble_eq_true rfl), hfs _ (Nat.le_of_ble_eq_true rfl)⟩ (fun v9 V1 h9 => ?_)
    obtain ⟨rfl, hC1⟩ := h9
    refine G.eqst (st2 := [.int (spSafeV el d (sz d) e w)]) rfl rfl rfl ?_
    refine G.widen (k' := k + 100) (n' := n + 100) (Nat.add_le_add_left (Nat.le_of_ble_eq_true rfl) _) (Nat.add_le_add_left (Nat.le_of_ble_eq_true rfl) _) ?_
    refine G.veq (hC1.self hB) ?_
    refine g_aload_n (q := 2) (pc := 803) dL_law_803 rfl rfl ?_
    refine g_aload_n (q := 4) (pc := 804) dL_law_804 rfl rfl ?_
    refine g_iload (q := 0) (pc := 805) dL_law_805 rfl ?_
    refine g_iconst (v := nI 1) (pc := 807) dL_law_807 (by decide) ?_
    refine g_iadd_N (pc := 808) dL_law_808 ?_
    refine g_sld (pc := 809) (x := nI d) (by omega) hLs hp1 dL_law_809 ?_
    refine g_aload_n (q := 4) (pc := 810) dL_law_810 rfl rfl ?_
    refine g_iload (q := 0) (pc := 811) dL_law_811 rfl ?_
    refine g_iconst (v := nI 2) (pc := 813) dL_law_813 (by decide) ?_
    refine g_iadd_N (pc := 814) dL_law_814 ?_
    refine g_sld (pc := 815) (x := nI e) (by omega) hLs hp2 dL_law_815 ?_
    refine g_aload_n (q := 4) (pc := 816) dL_law_816 rfl rfl ?_
    refine g_iload (q := 0) (pc := 817) dL_law_817 rfl ?_
    refine g_iconst (v := nI 3) (pc := 819) dL_law_819 (by decide) ?_
    refine g_iadd_N (pc := 820) dL_law_820 ?_
    refine g_sld (pc := 821) (x := nI w) (by omega) hLs hp3 dL_law_821 ?_
    refine e_callV (k2 := k + 100) (n2 := n + 100) (As := [.int (nI d), .int (nI e), .int (nI w)]) (rest := [.int (spSafeV el d (sz d) e w)]) (pc := 822) (wM_0 hA) rfl (c_X12_safe_s hA hs hd hk2 hr9 hz8 he hw) mlL_97 selX12_X12_safe_X12_safe mX12_safe ⟨Nat.le_of_ble_eq_true rfl, Nat.le_of_ble_eq_true rfl⟩ rfl rfl (Nat.le_of_ble_eq_true rfl) dL_law_822 ⟨hfc2, hfs2⟩ rfl rfl ?_
    refine g_icmp_eq (tgt := 1304) (pc := 825) dL_law_825 (by decide) (fun _ => ?_) (fun c9 => absurd rfl c9)
    exact kk _ (LSt.nx hA hao hB ho hC1 hik hs)
  · -- refused
    refine g_aload_n (q := 3) (pc := 781) dL_law_781 rfl rfl ?_
    refine g_aload_n (q := 4) (pc := 782) dL_law_782 rfl rfl ?_
    refine g_iload (q := 0) (pc := 783) dL_law_783 rfl ?_
    refine g_iconst (v := nI 1) (pc := 785) dL_law_785 (by decide) ?_
    refine g_iadd_N (pc := 786) dL_law_786 ?_
    refine g_sld (pc := 787) (x := p1) (by omega) hLs hp1 dL_law_787 ?_
    refine g_aload_n (q := 4) (pc := 788) dL_law_788 rfl rfl ?_
    refine g_iload (q := 0) (pc := 789) dL_law_789 rfl ?_
    refine g_iconst (v := nI 2) (pc := 791) dL_law_791 (by decide) ?_
    refine g_iadd_N (pc := 792) dL_law_792 ?_
    refine g_sld (pc := 793) (x := p2) (by omega) hLs hp2 dL_law_793 ?_
    refine g_aload_n (q := 4) (pc := 794) dL_law_794 rfl rfl ?_
    refine g_iload (q := 0) (pc := 795) dL_law_795 rfl ?_
    refine g_iconst (v := nI 3) (pc := 797) dL_law_797 (by decide) ?_
    refine g_iadd_N (pc := 798) dL_law_798 ?_
    refine g_sld (pc := 799) (x := p3) (by omega) hLs hp3 dL_law_799 ?_
    refine g_callV (As := [.int p1, .int p2, .int p3]) (rest := []) (pc := 800) hobj rfl (d_X11_safe_n hCI h) mlL_94 selX11_X11_safe_X11_safe mX11_safe ⟨Nat.le_of_ble_eq_true rfl, Nat.le_of_ble_eq_true rfl⟩ rfl rfl (Nat.le_of_ble_eq_true rfl) dL_law_800 ⟨hfc _ (Nat.le_of_ble_eq_true rfl), hfs _ (Nat.le_of_ble_eq_true rfl)⟩ (fun v9 V1 h9 => ?_)
    obtain ⟨rfl, hC1⟩ := h9
    refine G.eqst (st2 := [.int (spSafeG kp so sz p1 p2 p3)]) rfl rfl rfl ?_
    refine G.widen (k' := k + 100) (n' := n + 100) (Nat.add_le_add_left (Nat.le_of_ble_eq_true rfl) _) (Nat.add_le_add_left (Nat.le_of_ble_eq_true rfl) _) ?_
    refine G.veq (hC1.self hB) ?_
    refine g_aload_n (q := 2) (pc := 803) dL_law_803 rfl rfl ?_
    refine g_aload_n (q := 4) (pc := 804) dL_law_804 rfl rfl ?_
    refine g_iload (q := 0) (pc := 805) dL_law_805 rfl ?_
    refine g_iconst (v := nI 1) (pc := 807) dL_law_807 (by decide) ?_
    refine g_iadd_N (pc := 808) dL_law_808 ?_
    refine g_sld (pc := 809) (x := p1) (by omega) hLs hp1 dL_law_809 ?_
    refine g_aload_n (q := 4) (pc := 810) dL_law_810 rfl rfl ?_
    refine g_iload (q := 0) (pc := 811) dL_law_811 rfl ?_
    refine g_iconst (v := nI 2) (pc := 813) dL_law_813 (by decide) ?_
    refine g_iadd_N (pc := 814) dL_law_814 ?_
    refine g_sld (pc := 815) (x := p2) (by omega) hLs hp2 dL_law_815 ?_
    refine g_aload_n (q := 4) (pc := 816) dL_law_816 rfl rfl ?_
    refine g_iload (q := 0) (pc := 817) dL_law_817 rfl ?_
    refine g_iconst (v := nI 3) (pc := 819) dL_law_819 (by decide) ?_
    refine g_iadd_N (pc := 820) dL_law_820 ?_
    refine g_sld (pc := 821) (x := p3) (by omega) hLs hp3 dL_law_821 ?_
    refine e_callV (k2 := k + 100) (n2 := n + 100) (As := [.int p1, .int p2, .int p3]) (rest := [.int (spSafeG kp so sz p1 p2 p3)]) (pc := 822) (wM_0 hA) rfl (c_X12_safe_n hA hs h) mlL_97 selX12_X12_safe_X12_safe mX12_safe ⟨Nat.le_of_ble_eq_true rfl, Nat.le_of_ble_eq_true rfl⟩ rfl rfl (Nat.le_of_ble_eq_true rfl) dL_law_822 ⟨hfc2, hfs2⟩ rfl rfl ?_
    refine g_icmp_eq (tgt := 1304) (pc := 825) dL_law_825 (by decide) (fun _ => ?_) (fun c9 => absurd rfl c9)
    exact kk _ (LSt.nx hA hao hB ho hC1 hik hs)
set_option maxHeartbeats 8000000 in
theorem law_18 (hA : aB b0 18 ad) (hao : ∀ j, j < 18 → ad j ≠ o) (hob : b0 ≤ o) (hfl : l.stackTraces = false) (hLs : Ls ≤ 3072) (hj : j + 6 ≤ Ls) (hk : k + 200 ≤ 60000) (hn : n + 200 ≤ 60000) (hV : LSt Z b0 cd ad o V) (kk : ∀ V2, LSt Z b0 cd ad o V2 → G l D Z b0 room_1 RL cL_law 8 (gEl b0 b Ls xs) lw_Z V2 [(4, .int (nI j)), (3, .ref o), (2, .ref (ad 0)), (1, .ref (cd 0)), (0, .ref b)] (k + 100) (n + 100) 1304 []) : G l D Z b0 room_1 RL cL_law 8 (gEl b0 b Ls xs) lw_Z V [(4, .int (nI j)), (3, .ref o), (2, .ref (ad 0)), (1, .ref (cd 0)), (0, .ref b)] k n 830 [] := by
  obtain ⟨ik, kd, fg, pl, hr, ikd, ifg, ipl, ihr, kp, so, sz, el, ki, kf, th, po, ba, en, se, im, rd, mi, ti, lo, wa, nu, li, to, ot, fo, Vb, hCI, hB, ho, hik, hs⟩ := hV
  have hok := hCI.okm
  obtain ⟨fs9, hobj⟩ := hCI.obj
  have hfc : ∀ a, a ≤ 100 → k + a ≤ room_1.cells := fun a h => Nat.le_trans (show k + a ≤ 60000 by omega) rm_c
  have hfs : ∀ a, a ≤ 100 → n + a ≤ room_1.slots := fun a h => Nat.le_trans (show n + a ≤ 60000 by omega) rm_s
  have hfc2 : k + 100 ≤ room_1.cells := Nat.le_trans (show k + 100 ≤ 60000 by omega) rm_c
  have hfs2 : n + 100 ≤ room_1.slots := Nat.le_trans (show n + 100 ≤ 60000 by omega) rm_s
  obtain ⟨p1, hp1⟩ : ∃ x, xs (j + 1) = x := ⟨_, rfl⟩
  obtain ⟨p2, hp2⟩ : ∃ x, xs (j + 2) = x := ⟨_, rfl⟩
  obtain ⟨p3, hp3⟩ : ∃ x, xs (j + 3) = x := ⟨_, rfl⟩
  refine g_aload_n (q := 3) (pc := 830) dL_law_830 rfl rfl ?_
  refine g_aload_n (q := 4) (pc := 831) dL_law_831 rfl rfl ?_
  refine g_iload (q := 0) (pc := 832) dL_law_832 rfl ?_
  refine g_iconst (v := nI 1) (pc := 834) dL_law_834 (by decide) ?_
  refine g_iadd_N (pc := 835) dL_law_835 ?_
  refine g_sld (pc := 836) (x := p1) (by omega) hLs hp1 dL_law_836 ?_
  refine g_aload_n (q := 4) (pc := 837) dL_law_837 rfl rfl ?_
  refine g_iload (q := 0) (pc := 838) dL_law_838 rfl ?_
  refine g_iconst (v := nI 2) (pc := 840) dL_law_840 (by decide) ?_
  refine g_iadd_N (pc := 841) dL_law_841 ?_
  refine g_sld (pc := 842) (x := p2) (by omega) hLs hp2 dL_law_842 ?_
  refine g_aload_n (q := 4) (pc := 843) dL_law_843 rfl rfl ?_
  refine g_iload (q := 0) (pc := 844) dL_law_844 rfl ?_
  refine g_iconst (v := nI 3) (pc := 846) dL_law_846 (by decide) ?_
  refine g_iadd_N (pc := 847) dL_law_847 ?_
  refine g_sld (pc := 848) (x := p3) (by omega) hLs hp3 dL_law_848 ?_
  refine g_callV (As := [.int p1, .int p2, .int p3]) (rest := []) (pc := 849) hobj rfl (d_X11_seeded hCI) mlL_98 selX11_X11_seeded_X11_seeded mX11_seeded ⟨Nat.le_of_ble_eq_true rfl, Nat.le_of_ble_eq_true rfl⟩ rfl rfl (Nat.le_of_ble_eq_true rfl) dL_law_849 ⟨hfc _ (Nat.le_of_ble_eq_true rfl), hfs _ (Nat.le_of_ble_eq_true rfl)⟩ (fun v9 V1 h9 => ?_)
  obtain ⟨rfl, hC1⟩ := h9
  refine G.eqst (st2 := [.int (spSeed (kd, fg, pl, hr) p1 p2 p3)]) rfl rfl rfl ?_
  refine G.widen (k' := k + 100) (n' := n + 100) (Nat.add_le_add_left (Nat.le_of_ble_eq_true rfl) _) (Nat.add_le_add_left (Nat.le_of_ble_eq_true rfl) _) ?_
  refine G.veq (hC1.self hB) ?_
  refine g_aload_n (q := 2) (pc := 852) dL_law_852 rfl rfl ?_
  refine g_aload_n (q := 4) (pc := 853) dL_law_853 rfl rfl ?_
  refine g_iload (q := 0) (pc := 854) dL_law_854 rfl ?_
  refine g_iconst (v := nI 1) (pc := 856) dL_law_856 (by decide) ?_
  refine g_iadd_N (pc := 857) dL_law_857 ?_
  refine g_sld (pc := 858) (x := p1) (by omega) hLs hp1 dL_law_858 ?_
  refine g_aload_n (q := 4) (pc := 859) dL_law_859 rfl rfl ?_
  refine g_iload (q := 0) (pc := 860) dL_law_860 rfl ?_
  refine g_iconst (v := nI 2) (pc := 862) dL_law_862 (by decide) ?_
  refine g_iadd_N (pc := 863) dL_law_863 ?_
  refine g_sld (pc := 864) (x := p2) (by omega) hLs hp2 dL_law_864 ?_
  refine g_aload_n (q := 4) (pc := 865) dL_law_865 rfl rfl ?_
  refine g_iload (q := 0) (pc := 866) dL_law_866 rfl ?_
  refine g_iconst (v := nI 3) (pc := 868) dL_law_868 (by decide) ?_
  refine g_iadd_N (pc := 869) dL_law_869 ?_
  refine g_sld (pc := 870) (x := p3) (by omega) hLs hp3 dL_law_870 ?_
  refine g_callV (As := [.int p1, .int p2, .int p3]) (rest := [.int (spSeed (kd, fg, pl, hr) p1 p2 p3)]) (pc := 871) (wM_0 hA) rfl (c_X12_seeded hA hok) mlL_101 selX12_X12_seeded_X12_seeded mX12_seeded ⟨Nat.le_of_ble_eq_true rfl, Nat.le_of_ble_eq_true rfl⟩ rfl rfl (Nat.le_of_ble_eq_true rfl) dL_law_871 ⟨hfc2, hfs2⟩ (fun v8 V2 h8 => ?_)
  obtain ⟨rfl, th2, po2, ba2, en2, se2, rd2, mi2, ti2, lo2, wa2, nu2, li2, to2, ot2, rfl⟩ := h8
  refine G.eqst (k2 := k + 100) (n2 := n + 100) (st2 := [.int (spSeed (kd, fg, pl, hr) p1 p2 p3), .int (spSeed (kd, fg, pl, hr) p1 p2 p3)]) rfl rfl rfl ?_
  refine g_icmp_eq (tgt := 1304) (pc := 874) dL_law_874 (by decide) (fun _ => ?_) (fun c9 => absurd rfl c9)
  exact kk _ (LSt.nx hA hao hB ho hC1 hik hs)
set_option maxHeartbeats 8000000 in
theorem law_19 (hA : aB b0 18 ad) (hao : ∀ j, j < 18 → ad j ≠ o) (hob : b0 ≤ o) (hfl : l.stackTraces = false) (hLs : Ls ≤ 3072) (hj : j + 6 ≤ Ls) (hk : k + 200 ≤ 60000) (hn : n + 200 ≤ 60000) (hV : LSt Z b0 cd ad o V) (kk : ∀ V2, LSt Z b0 cd ad o V2 → G l D Z b0 room_1 RL cL_law 8 (gEl b0 b Ls xs) lw_Z V2 [(4, .int (nI j)), (3, .ref o), (2, .ref (ad 0)), (1, .ref (cd 0)), (0, .ref b)] (k + 100) (n + 100) 1304 []) : G l D Z b0 room_1 RL cL_law 8 (gEl b0 b Ls xs) lw_Z V [(4, .int (nI j)), (3, .ref o), (2, .ref (ad 0)), (1, .ref (cd 0)), (0, .ref b)] k n 879 [] := by
  obtain ⟨ik, kd, fg, pl, hr, ikd, ifg, ipl, ihr, kp, so, sz, el, ki, kf, th, po, ba, en, se, im, rd, mi, ti, lo, wa, nu, li, to, ot, fo, Vb, hCI, hB, ho, hik, hs⟩ := hV
  have hok := hCI.okm
  obtain ⟨fs9, hobj⟩ := hCI.obj
  have hfc : ∀ a, a ≤ 100 → k + a ≤ room_1.cells := fun a h => Nat.le_trans (show k + a ≤ 60000 by omega) rm_c
  have hfs : ∀ a, a ≤ 100 → n + a ≤ room_1.slots := fun a h => Nat.le_trans (show n + a ≤ 60000 by omega) rm_s
  have hfc2 : k + 100 ≤ room_1.cells := Nat.le_trans (show k + 100 ≤ 60000 by omega) rm_c
  have hfs2 : n + 100 ≤ room_1.slots := Nat.le_trans (show n + 100 ≤ 60000 by omega) rm_s
  obtain ⟨p1, hp1⟩ : ∃ x, xs (j + 1) = x := ⟨_, rfl⟩
  by_cases h : spWR kp so p1 none = 0
  · obtain ⟨d, hd, rfl, hk2, hr9⟩ := spWR_0 h
    refine g_aload_n (q := 3) (pc := 879) dL_law_879 rfl rfl ?_
    refine g_aload_n (q := 4) (pc := 880) dL_law_880 rfl rfl ?_
    refine g_iload (q := 0) (pc := 881) dL_law_881 rfl ?_
    refine g_iconst (v := nI 1) (pc := 883) dL_law_883 (by decide) ?_
    refine g_iadd_N (pc := 884) dL_law_884 ?_
    refine g_sld (pc := 885) (x := nI d) (by omega) hLs hp1 dL_law_885 ?_
    refine g_callV (As := [.int (nI d)]) (rest := []) (pc := 886) hobj rfl (d_X11_judge_s hCI hd hk2) mlL_102 selX11_X11_judge_X11_judge mX11_judge ⟨Nat.le_of_ble_eq_true rfl, Nat.le_of_ble_eq_true rfl⟩ rfl rfl (Nat.le_of_ble_eq_true rfl) dL_law_886 ⟨hfc _ (Nat.le_of_ble_eq_true rfl), hfs _ (Nat.le_of_ble_eq_true rfl)⟩ (fun v9 V1 h9 => ?_)
    obtain ⟨rfl, hC1⟩ := h9
    refine G.eqst (st2 := [.int (spJudgeV el d (sz d) (kd, fg, pl, hr))]) rfl rfl rfl ?_
    refine G.widen (k' := k + 100) (n' := n + 100) (Nat.add_le_add_left (Nat.le_of_ble_eq_true rfl) _) (Nat.add_le_add_left (Nat.le_of_ble_eq_true rfl) _) ?_
    refine G.veq (hC1.self hB) ?_
    refine g_aload_n (q := 2) (pc := 889) dL_law_889 rfl rfl ?_
    refine g_aload_n (q := 4) (pc := 890) dL_law_890 rfl rfl ?_
    refine g_iload (q := 0) (pc := 891) dL_law_891 rfl ?_
    refine g_iconst (v := nI 1) (pc := 893) dL_law_893 (by decide) ?_
    refine g_iadd_N (pc := 894) dL_law_894 ?_
    refine g_sld (pc := 895) (x := nI d) (by omega) hLs hp1 dL_law_895 ?_
    refine g_callV (As := [.int (nI d)]) (rest := [.int (spJudgeV el d (sz d) (kd, fg, pl, hr))]) (pc := 896) (wM_0 hA) rfl (c_X12_judge_s hA hok hs hd hk2) mlL_105 selX12_X12_judge_X12_judge mX12_judge ⟨Nat.le_of_ble_eq_true rfl, Nat.le_of_ble_eq_true rfl⟩ rfl rfl (Nat.le_of_ble_eq_true rfl) dL_law_896 ⟨hfc2, hfs2⟩ (fun v8 V2 h8 => ?_)
    obtain ⟨rfl, th2, po2, ba2, en2, se2, rd2, mi2, ti2, lo2, wa2, nu2, li2, to2, ot2, rfl⟩ := h8
    refine G.eqst (k2 := k + 100) (n2 := n + 100) (st2 := [.int (spJudgeV el d (sz d) (kd, fg, pl, hr)), .int (spJudgeV el d (sz d) (kd, fg, pl, hr))]) rfl rfl rfl ?_
    refine g_icmp_eq (tgt := 1304) (pc := 899) dL_law_899 (by decide) (fun _ => ?_) (fun c9 => absurd rfl c9)
    exact kk _ (LSt.nx hA hao hB ho hC1 hik hs)
  · -- refused
    refine g_aload_n (q := 3) (pc := 879) dL_law_879 rfl rfl ?_
    refine g_aload_n (q := 4) (pc := 880) dL_law_880 rfl rfl ?_
    refine g_iload (q := 0) (pc := 881) dL_law_881 rfl ?_
    refine g_iconst (v := nI 1) (pc := 883) dL_law_883 (by decide) ?_
    refine g_iadd_N (pc := 884) dL_law_884 ?_
    refine g_sld (pc := 885) (x := p1) (by omega) hLs hp1 dL_law_885 ?_
    refine g_callV (As := [.int p1]) (rest := []) (pc := 886) hobj rfl (d_X11_judge_n hCI h) mlL_102 selX11_X11_judge_X11_judge mX11_judge ⟨Nat.le_of_ble_eq_true rfl, Nat.le_of_ble_eq_true rfl⟩ rfl rfl (Nat.le_of_ble_eq_true rfl) dL_law_886 ⟨hfc _ (Nat.le_of_ble_eq_true rfl), hfs _ (Nat.le_of_ble_eq_true rfl)⟩ (fun v9 V1 h9 => ?_)
    obtain ⟨rfl, hC1⟩ := h9
    refine G.eqst (st2 := [.int (spWR kp so p1 none)]) rfl rfl rfl ?_
    refine G.widen (k' := k + 100) (n' := n + 100) (Nat.add_le_add_left (Nat.le_of_ble_eq_true rfl) _) (Nat.add_le_add_left (Nat.le_of_ble_eq_true rfl) _) ?_
    refine G.veq (hC1.self hB) ?_
    refine g_aload_n (q := 2) (pc := 889) dL_law_889 rfl rfl ?_
    refine g_aload_n (q := 4) (pc := 890) dL_law_890 rfl rfl ?_
    refine g_iload (q := 0) (pc := 891) dL_law_891 rfl ?_
    refine g_iconst (v := nI 1) (pc := 893) dL_law_893 (by decide) ?_
    refine g_iadd_N (pc := 894) dL_law_894 ?_
    refine g_sld (pc := 895) (x := p1) (by omega) hLs hp1 dL_law_895 ?_
    refine e_callV (k2 := k + 100) (n2 := n + 100) (As := [.int p1]) (rest := [.int (spWR kp so p1 none)]) (pc := 896) (wM_0 hA) rfl (c_X12_judge_n hA hs h) mlL_105 selX12_X12_judge_X12_judge mX12_judge ⟨Nat.le_of_ble_eq_true rfl, Nat.le_of_ble_eq_true rfl⟩ rfl rfl (Nat.le_of_ble_eq_true rfl) dL_law_896 ⟨hfc2, hfs2⟩ rfl rfl ?_
    refine g_icmp_eq (tgt := 1304) (pc := 899) dL_law_899 (by decide) (fun _ => ?_) (fun c9 => absurd rfl c9)
    exact kk _ (LSt.nx hA hao hB ho hC1 hik hs)
end LW
