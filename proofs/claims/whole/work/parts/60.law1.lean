section LW
variable {l : Launch} {D : va_G} {Z : Nat → ClassId} {b0 b Ls j o k n : Nat} {xs : Nat → Int32} {cd ad : Nat → Nat} {V : HV}
set_option maxHeartbeats 8000000 in
theorem law_0 (hA : aB b0 18 ad) (hao : ∀ j, j < 18 → ad j ≠ o) (hob : b0 ≤ o) (hfl : l.stackTraces = false) (hLs : Ls ≤ 3072) (hj : j + 6 ≤ Ls) (hk : k + 200 ≤ 60000) (hn : n + 200 ≤ 60000) (hV : LSt Z b0 cd ad o V) (kk : ∀ V2, LSt Z b0 cd ad o V2 → G l D Z b0 room_1 RL cL_law 8 (gEl b0 b Ls xs) lw_Z V2 [(4, .int (nI j)), (3, .ref o), (2, .ref (ad 0)), (1, .ref (cd 0)), (0, .ref b)] (k + 100) (n + 100) 1304 []) : G l D Z b0 room_1 RL cL_law 8 (gEl b0 b Ls xs) lw_Z V [(4, .int (nI j)), (3, .ref o), (2, .ref (ad 0)), (1, .ref (cd 0)), (0, .ref b)] k n 176 [] := by
  obtain ⟨ik, kd, fg, pl, hr, ikd, ifg, ipl, ihr, kp, so, sz, el, ki, kf, th, po, ba, en, se, im, rd, mi, ti, lo, wa, nu, li, to, ot, fo, Vb, hCI, hB, ho, hik, hs⟩ := hV
  have hok := hCI.okm
  obtain ⟨fs9, hobj⟩ := hCI.obj
  have hfc : ∀ a, a ≤ 100 → k + a ≤ room_1.cells := fun a h => Nat.le_trans (show k + a ≤ 60000 by omega) rm_c
  have hfs : ∀ a, a ≤ 100 → n + a ≤ room_1.slots := fun a h => Nat.le_trans (show n + a ≤ 60000 by omega) rm_s
  have hfc2 : k + 100 ≤ room_1.cells := Nat.le_trans (show k + 100 ≤ 60000 by omega) rm_c
  have hfs2 : n + 100 ≤ room_1.slots := Nat.le_trans (show n + 100 ≤ 60000 by omega) rm_s
  obtain ⟨p1, hp1⟩ : ∃ x, xs (j + 1) = x := ⟨_, rfl⟩
  by_cases h : spWR kp so p1 (some 0) = nI 0
  · obtain ⟨d, hd, rfl, hk2, hr9⟩ := spWR_0 h
    have hsr := okSort_e hr9
    refine g_aload_n (q := 3) (pc := 176) dL_law_176 rfl rfl ?_
    refine g_aload_n (q := 4) (pc := 177) dL_law_177 rfl rfl ?_
    refine g_iload (q := 0) (pc := 178) dL_law_178 rfl ?_
    refine g_iconst (v := nI 1) (pc := 180) dL_law_180 (by decide) ?_
    refine g_iadd_N (pc := 181) dL_law_181 ?_
    refine g_sld (pc := 182) (x := nI d) (by omega) hLs hp1 dL_law_182 ?_
    refine g_callV (As := [.int (nI d)]) (rest := []) (pc := 183) hobj rfl (d_X11_mountain_s hCI hd hk2 hsr) mlL_21 selX11_X11_mountain_X11_mountain mX11_mountain ⟨Nat.le_of_ble_eq_true rfl, Nat.le_of_ble_eq_true rfl⟩ rfl rfl (Nat.le_of_ble_eq_true rfl) dL_law_183 ⟨hfc _ (Nat.le_of_ble_eq_true rfl), hfs _ (Nat.le_of_ble_eq_true rfl)⟩ (fun v9 V1 h9 => ?_)
    obtain ⟨r1, M1, hm1, rfl, hC1⟩ := h9
    refine G.eqst (st2 := [.int r1]) rfl rfl rfl ?_
    refine G.widen (k' := k + 100) (n' := n + 100) (Nat.add_le_add_left (Nat.le_of_ble_eq_true rfl) _) (Nat.add_le_add_left (Nat.le_of_ble_eq_true rfl) _) ?_
    refine G.veq (hC1.self hB) ?_
    refine g_aload_n (q := 2) (pc := 186) dL_law_186 rfl rfl ?_
    refine g_aload_n (q := 4) (pc := 187) dL_law_187 rfl rfl ?_
    refine g_iload (q := 0) (pc := 188) dL_law_188 rfl ?_
    refine g_iconst (v := nI 1) (pc := 190) dL_law_190 (by decide) ?_
    refine g_iadd_N (pc := 191) dL_law_191 ?_
    refine g_sld (pc := 192) (x := nI d) (by omega) hLs hp1 dL_law_192 ?_
    refine g_callV (As := [.int (nI d)]) (rest := [.int r1]) (pc := 193) (wM_0 hA) rfl (c_X12_mountain_s hA hok hs hd hk2 hr9) mlL_25 selX12_X12_mountain_X12_mountain mX12_mountain ⟨Nat.le_of_ble_eq_true rfl, Nat.le_of_ble_eq_true rfl⟩ rfl rfl (Nat.le_of_ble_eq_true rfl) dL_law_193 ⟨hfc2, hfs2⟩ (fun v8 V2 h8 => ?_)
    obtain ⟨r2, M2, hm2, rfl, th2, po2, ba2, en2, se2, rd2, mi2, ti2, lo2, wa2, nu2, li2, to2, ot2, rfl⟩ := h8
    obtain ⟨e1, e2⟩ := hm1.uq hm2
    subst e1
    subst e2
    refine G.eqst (k2 := k + 100) (n2 := n + 100) (st2 := [.int r1, .int r1]) rfl rfl rfl ?_
    refine g_icmp_eq (tgt := 1304) (pc := 196) dL_law_196 (by decide) (fun _ => ?_) (fun c9 => absurd rfl c9)
    exact kk _ (LSt.nx hA hao hB ho hC1 hik hs)
  · -- refused
    refine g_aload_n (q := 3) (pc := 176) dL_law_176 rfl rfl ?_
    refine g_aload_n (q := 4) (pc := 177) dL_law_177 rfl rfl ?_
    refine g_iload (q := 0) (pc := 178) dL_law_178 rfl ?_
    refine g_iconst (v := nI 1) (pc := 180) dL_law_180 (by decide) ?_
    refine g_iadd_N (pc := 181) dL_law_181 ?_
    refine g_sld (pc := 182) (x := p1) (by omega) hLs hp1 dL_law_182 ?_
    refine g_callV (As := [.int p1]) (rest := []) (pc := 183) hobj rfl (d_X11_mountain_n hCI h) mlL_21 selX11_X11_mountain_X11_mountain mX11_mountain ⟨Nat.le_of_ble_eq_true rfl, Nat.le_of_ble_eq_true rfl⟩ rfl rfl (Nat.le_of_ble_eq_true rfl) dL_law_183 ⟨hfc _ (Nat.le_of_ble_eq_true rfl), hfs _ (Nat.le_of_ble_eq_true rfl)⟩ (fun v9 V1 h9 => ?_)
    obtain ⟨rfl, hC1⟩ := h9
    refine G.eqst (st2 := [.int (spWR kp so p1 (some 0))]) rfl rfl rfl ?_
    refine G.widen (k' := k + 100) (n' := n + 100) (Nat.add_le_add_left (Nat.le_of_ble_eq_true rfl) _) (Nat.add_le_add_left (Nat.le_of_ble_eq_true rfl) _) ?_
    refine G.veq (hC1.self hB) ?_
    refine g_aload_n (q := 2) (pc := 186) dL_law_186 rfl rfl ?_
    refine g_aload_n (q := 4) (pc := 187) dL_law_187 rfl rfl ?_
    refine g_iload (q := 0) (pc := 188) dL_law_188 rfl ?_
    refine g_iconst (v := nI 1) (pc := 190) dL_law_190 (by decide) ?_
    refine g_iadd_N (pc := 191) dL_law_191 ?_
    refine g_sld (pc := 192) (x := p1) (by omega) hLs hp1 dL_law_192 ?_
    refine e_callV (k2 := k + 100) (n2 := n + 100) (As := [.int p1]) (rest := [.int (spWR kp so p1 (some 0))]) (pc := 193) (wM_0 hA) rfl (c_X12_mountain_n hA hs h) mlL_25 selX12_X12_mountain_X12_mountain mX12_mountain ⟨Nat.le_of_ble_eq_true rfl, Nat.le_of_ble_eq_true rfl⟩ rfl rfl (Nat.le_of_ble_eq_true rfl) dL_law_193 ⟨hfc2, hfs2⟩ rfl rfl ?_
    refine g_icmp_eq (tgt := 1304) (pc := 196) dL_law_196 (by decide) (fun _ => ?_) (fun c9 => absurd rfl c9)
    exact kk _ (LSt.nx hA hao hB ho hC1 hik hs)
set_option maxHeartbeats 8000000 in
theorem law_1 (hA : aB b0 18 ad) (hao : ∀ j, j < 18 → ad j ≠ o) (hob : b0 ≤ o) (hfl : l.stackTraces = false) (hLs : Ls ≤ 3072) (hj : j + 6 ≤ Ls) (hk : k + 200 ≤ 60000) (hn : n + 200 ≤ 60000) (hV : LSt Z b0 cd ad o V) (kk : ∀ V2, LSt Z b0 cd ad o V2 → G l D Z b0 room_1 RL cL_law 8 (gEl b0 b Ls xs) lw_Z V2 [(4, .int (nI j)), (3, .ref o), (2, .ref (ad 0)), (1, .ref (cd 0)), (0, .ref b)] (k + 100) (n + 100) 1304 []) : G l D Z b0 room_1 RL cL_law 8 (gEl b0 b Ls xs) lw_Z V [(4, .int (nI j)), (3, .ref o), (2, .ref (ad 0)), (1, .ref (cd 0)), (0, .ref b)] k n 201 [] := by
  obtain ⟨ik, kd, fg, pl, hr, ikd, ifg, ipl, ihr, kp, so, sz, el, ki, kf, th, po, ba, en, se, im, rd, mi, ti, lo, wa, nu, li, to, ot, fo, Vb, hCI, hB, ho, hik, hs⟩ := hV
  have hok := hCI.okm
  obtain ⟨fs9, hobj⟩ := hCI.obj
  have hfc : ∀ a, a ≤ 100 → k + a ≤ room_1.cells := fun a h => Nat.le_trans (show k + a ≤ 60000 by omega) rm_c
  have hfs : ∀ a, a ≤ 100 → n + a ≤ room_1.slots := fun a h => Nat.le_trans (show n + a ≤ 60000 by omega) rm_s
  have hfc2 : k + 100 ≤ room_1.cells := Nat.le_trans (show k + 100 ≤ 60000 by omega) rm_c
  have hfs2 : n + 100 ≤ room_1.slots := Nat.le_trans (show n + 100 ≤ 60000 by omega) rm_s
  obtain ⟨p1, hp1⟩ : ∃ x, xs (j + 1) = x := ⟨_, rfl⟩
  obtain ⟨p2, hp2⟩ : ∃ x, xs (j + 2) = x := ⟨_, rfl⟩
  refine g_aload_n (q := 3) (pc := 201) dL_law_201 rfl rfl ?_
  refine g_aload_n (q := 4) (pc := 202) dL_law_202 rfl rfl ?_
  refine g_iload (q := 0) (pc := 203) dL_law_203 rfl ?_
  refine g_iconst (v := nI 1) (pc := 205) dL_law_205 (by decide) ?_
  refine g_iadd_N (pc := 206) dL_law_206 ?_
  refine g_sld (pc := 207) (x := p1) (by omega) hLs hp1 dL_law_207 ?_
  refine g_aload_n (q := 4) (pc := 208) dL_law_208 rfl rfl ?_
  refine g_iload (q := 0) (pc := 209) dL_law_209 rfl ?_
  refine g_iconst (v := nI 2) (pc := 211) dL_law_211 (by decide) ?_
  refine g_iadd_N (pc := 212) dL_law_212 ?_
  refine g_sld (pc := 213) (x := p2) (by omega) hLs hp2 dL_law_213 ?_
  refine g_callV (As := [.int p1, .int p2]) (rest := []) (pc := 214) hobj rfl (d_X11_cell hCI) mlL_26 selX11_X11_cell_X11_cell mX11_cell ⟨Nat.le_of_ble_eq_true rfl, Nat.le_of_ble_eq_true rfl⟩ rfl rfl (Nat.le_of_ble_eq_true rfl) dL_law_214 ⟨hfc _ (Nat.le_of_ble_eq_true rfl), hfs _ (Nat.le_of_ble_eq_true rfl)⟩ (fun v9 V1 h9 => ?_)
  obtain ⟨rfl, hC1⟩ := h9
  refine G.eqst (st2 := [.int (spCell kd fg p1 p2)]) rfl rfl rfl ?_
  refine G.widen (k' := k + 100) (n' := n + 100) (Nat.add_le_add_left (Nat.le_of_ble_eq_true rfl) _) (Nat.add_le_add_left (Nat.le_of_ble_eq_true rfl) _) ?_
  refine G.veq (hC1.self hB) ?_
  refine g_aload_n (q := 2) (pc := 217) dL_law_217 rfl rfl ?_
  refine g_aload_n (q := 4) (pc := 218) dL_law_218 rfl rfl ?_
  refine g_iload (q := 0) (pc := 219) dL_law_219 rfl ?_
  refine g_iconst (v := nI 1) (pc := 221) dL_law_221 (by decide) ?_
  refine g_iadd_N (pc := 222) dL_law_222 ?_
  refine g_sld (pc := 223) (x := p1) (by omega) hLs hp1 dL_law_223 ?_
  refine g_aload_n (q := 4) (pc := 224) dL_law_224 rfl rfl ?_
  refine g_iload (q := 0) (pc := 225) dL_law_225 rfl ?_
  refine g_iconst (v := nI 2) (pc := 227) dL_law_227 (by decide) ?_
  refine g_iadd_N (pc := 228) dL_law_228 ?_
  refine g_sld (pc := 229) (x := p2) (by omega) hLs hp2 dL_law_229 ?_
  refine e_callV (k2 := k + 100) (n2 := n + 100) (As := [.int p1, .int p2]) (rest := [.int (spCell kd fg p1 p2)]) (pc := 230) (wM_0 hA) rfl (c_X12_cell hA hok) mlL_30 selX12_X12_cell_X12_cell mX12_cell ⟨Nat.le_of_ble_eq_true rfl, Nat.le_of_ble_eq_true rfl⟩ rfl rfl (Nat.le_of_ble_eq_true rfl) dL_law_230 ⟨hfc2, hfs2⟩ rfl rfl ?_
  refine g_icmp_eq (tgt := 1304) (pc := 233) dL_law_233 (by decide) (fun _ => ?_) (fun c9 => absurd rfl c9)
  exact kk _ (LSt.nx hA hao hB ho hC1 hik hs)
set_option maxHeartbeats 8000000 in
theorem law_2 (hA : aB b0 18 ad) (hao : ∀ j, j < 18 → ad j ≠ o) (hob : b0 ≤ o) (hfl : l.stackTraces = false) (hLs : Ls ≤ 3072) (hj : j + 6 ≤ Ls) (hk : k + 200 ≤ 60000) (hn : n + 200 ≤ 60000) (hV : LSt Z b0 cd ad o V) (kk : ∀ V2, LSt Z b0 cd ad o V2 → G l D Z b0 room_1 RL cL_law 8 (gEl b0 b Ls xs) lw_Z V2 [(4, .int (nI j)), (3, .ref o), (2, .ref (ad 0)), (1, .ref (cd 0)), (0, .ref b)] (k + 100) (n + 100) 1304 []) : G l D Z b0 room_1 RL cL_law 8 (gEl b0 b Ls xs) lw_Z V [(4, .int (nI j)), (3, .ref o), (2, .ref (ad 0)), (1, .ref (cd 0)), (0, .ref b)] k n 238 [] := by
  obtain ⟨ik, kd, fg, pl, hr, ikd, ifg, ipl, ihr, kp, so, sz, el, ki, kf, th, po, ba, en, se, im, rd, mi, ti, lo, wa, nu, li, to, ot, fo, Vb, hCI, hB, ho, hik, hs⟩ := hV
  have hok := hCI.okm
  obtain ⟨fs9, hobj⟩ := hCI.obj
  have hfc : ∀ a, a ≤ 100 → k + a ≤ room_1.cells := fun a h => Nat.le_trans (show k + a ≤ 60000 by omega) rm_c
  have hfs : ∀ a, a ≤ 100 → n + a ≤ room_1.slots := fun a h => Nat.le_trans (show n + a ≤ 60000 by omega) rm_s
  have hfc2 : k + 100 ≤ room_1.cells := Nat.le_trans (show k + 100 ≤ 60000 by omega) rm_c
  have hfs2 : n + 100 ≤ room_1.slots := Nat.le_trans (show n + 100 ≤ 60000 by omega) rm_s
  obtain ⟨p1, hp1⟩ : ∃ x, xs (j + 1) = x := ⟨_, rfl⟩
  obtain ⟨p2, hp2⟩ : ∃ x, xs (j + 2) = x := ⟨_, rfl⟩
  by_cases h : spLay kp p1 p2 = 0
  · obtain ⟨d, c, hd, hc, rfl, rfl, hk1⟩ := spLay_0 h
    obtain ⟨q, f, hq, hf, hki, hkf⟩ := (hs d hd).2.2.2 hk1
    refine g_aload_n (q := 3) (pc := 238) dL_law_238 rfl rfl ?_
    refine g_aload_n (q := 4) (pc := 239) dL_law_239 rfl rfl ?_
    refine g_iload (q := 0) (pc := 240) dL_law_240 rfl ?_
    refine g_iconst (v := nI 1) (pc := 242) dL_law_242 (by decide) ?_
    refine g_iadd_N (pc := 243) dL_law_243 ?_
    refine g_sld (pc := 244) (x := nI d) (by omega) hLs hp1 dL_law_244 ?_
    refine g_aload_n (q := 4) (pc := 245) dL_law_245 rfl rfl ?_
    refine g_iload (q := 0) (pc := 246) dL_law_246 rfl ?_
    refine g_iconst (v := nI 2) (pc := 248) dL_law_248 (by decide) ?_
    refine g_iadd_N (pc := 249) dL_law_249 ?_
    refine g_sld (pc := 250) (x := nI c) (by omega) hLs hp2 dL_law_250 ?_
    refine g_callV (As := [.int (nI d), .int (nI c)]) (rest := []) (pc := 251) hobj rfl (d_X11_lay_s hCI hd hk1 hki hkf hq hf hc) mlL_31 selX11_X11_lay_X11_lay mX11_lay ⟨Nat.le_of_ble_eq_true rfl, Nat.le_of_ble_eq_true rfl⟩ rfl rfl (Nat.le_of_ble_eq_true rfl) dL_law_251 ⟨hfc _ (Nat.le_of_ble_eq_true rfl), hfs _ (Nat.le_of_ble_eq_true rfl)⟩ (fun v9 V1 h9 => ?_)
    obtain ⟨rfl, hC1⟩ := h9
    refine G.eqst (st2 := [.int (nI (kd c))]) rfl rfl rfl ?_
    refine G.widen (k' := k + 100) (n' := n + 100) (Nat.add_le_add_left (Nat.le_of_ble_eq_true rfl) _) (Nat.add_le_add_left (Nat.le_of_ble_eq_true rfl) _) ?_
    refine G.veq (hC1.self hB) ?_
    refine g_aload_n (q := 2) (pc := 254) dL_law_254 rfl rfl ?_
    refine g_aload_n (q := 4) (pc := 255) dL_law_255 rfl rfl ?_
    refine g_iload (q := 0) (pc := 256) dL_law_256 rfl ?_
    refine g_iconst (v := nI 1) (pc := 258) dL_law_258 (by decide) ?_
    refine g_iadd_N (pc := 259) dL_law_259 ?_
    refine g_sld (pc := 260) (x := nI d) (by omega) hLs hp1 dL_law_260 ?_
    refine g_aload_n (q := 4) (pc := 261) dL_law_261 rfl rfl ?_
    refine g_iload (q := 0) (pc := 262) dL_law_262 rfl ?_
    refine g_iconst (v := nI 2) (pc := 264) dL_law_264 (by decide) ?_
    refine g_iadd_N (pc := 265) dL_law_265 ?_
    refine g_sld (pc := 266) (x := nI c) (by omega) hLs hp2 dL_law_266 ?_
    refine e_callV (k2 := k + 100) (n2 := n + 100) (As := [.int (nI d), .int (nI c)]) (rest := [.int (nI (kd c))]) (pc := 267) (wM_0 hA) rfl (c_X12_lay_s hA hs hd hk1 hki hkf hq hf hc) mlL_34 selX12_X12_lay_X12_lay mX12_lay ⟨Nat.le_of_ble_eq_true rfl, Nat.le_of_ble_eq_true rfl⟩ rfl rfl (Nat.le_of_ble_eq_true rfl) dL_law_267 ⟨hfc2, hfs2⟩ rfl rfl ?_
    refine g_icmp_eq (tgt := 1304) (pc := 270) dL_law_270 (by decide) (fun _ => ?_) (fun c9 => absurd rfl c9)
    exact kk _ (LSt.nx hA hao hB ho hC1 hik hs)
  · -- refused
    refine g_aload_n (q := 3) (pc := 238) dL_law_238 rfl rfl ?_
    refine g_aload_n (q := 4) (pc := 239) dL_law_239 rfl rfl ?_
    refine g_iload (q := 0) (pc := 240) dL_law_240 rfl ?_
    refine g_iconst (v := nI 1) (pc := 242) dL_law_242 (by decide) ?_
    refine g_iadd_N (pc := 243) dL_law_243 ?_
    refine g_sld (pc := 244) (x := p1) (by omega) hLs hp1 dL_law_244 ?_
    refine g_aload_n (q := 4) (pc := 245) dL_law_245 rfl rfl ?_
    refine g_iload (q := 0) (pc := 246) dL_law_246 rfl ?_
    refine g_iconst (v := nI 2) (pc := 248) dL_law_248 (by decide) ?_
    refine g_iadd_N (pc := 249) dL_law_249 ?_
    refine g_sld (pc := 250) (x := p2) (by omega) hLs hp2 dL_law_250 ?_
    refine g_callV (As := [.int p1, .int p2]) (rest := []) (pc := 251) hobj rfl (d_X11_lay_n hCI h) mlL_31 selX11_X11_lay_X11_lay mX11_lay ⟨Nat.le_of_ble_eq_true rfl, Nat.le_of_ble_eq_true rfl⟩ rfl rfl (Nat.le_of_ble_eq_true rfl) dL_law_251 ⟨hfc _ (Nat.le_of_ble_eq_true rfl), hfs _ (Nat.le_of_ble_eq_true rfl)⟩ (fun v9 V1 h9 => ?_)
    obtain ⟨rfl, hC1⟩ := h9
    refine G.eqst (st2 := [.int (spLay kp p1 p2)]) rfl rfl rfl ?_
    refine G.widen (k' := k + 100) (n' := n + 100) (Nat.add_le_add_left (Nat.le_of_ble_eq_true rfl) _) (Nat.add_le_add_left (Nat.le_of_ble_eq_true rfl) _) ?_
    refine G.veq (hC1.self hB) ?_
    refine g_aload_n (q := 2) (pc := 254) dL_law_254 rfl rfl ?_
    refine g_aload_n (q := 4) (pc := 255) dL_law_255 rfl rfl ?_
    refine g_iload (q := 0) (pc := 256) dL_law_256 rfl ?_
    refine g_iconst (v := nI 1) (pc := 258) dL_law_258 (by decide) ?_
    refine g_iadd_N (pc := 259) dL_law_259 ?_
    refine g_sld (pc := 260) (x := p1) (by omega) hLs hp1 dL_law_260 ?_
    refine g_aload_n (q := 4) (pc := 261) dL_law_261 rfl rfl ?_
    refine g_iload (q := 0) (pc := 262) dL_law_262 rfl ?_
    refine g_iconst (v := nI 2) (pc := 264) dL_law_264 (by decide) ?_
    refine g_iadd_N (pc := 265) dL_law_265 ?_
    refine g_sld (pc := 266) (x := p2) (by omega) hLs hp2 dL_law_266 ?_
    refine e_callV (k2 := k + 100) (n2 := n + 100) (As := [.int p1, .int p2]) (rest := [.int (spLay kp p1 p2)]) (pc := 267) (wM_0 hA) rfl (c_X12_lay_n hA hs h) mlL_34 selX12_X12_lay_X12_lay mX12_lay ⟨Nat.le_of_ble_eq_true rfl, Nat.le_of_ble_eq_true rfl⟩ rfl rfl (Nat.le_of_ble_eq_true rfl) dL_law_267 ⟨hfc2, hfs2⟩ rfl rfl ?_
    refine g_icmp_eq (tgt := 1304) (pc := 270) dL_law_270 (by decide) (fun _ => ?_) (fun c9 => absurd rfl c9)
    exact kk _ (LSt.nx hA hao hB ho hC1 hik hs)
set_option maxHeartbeats 8000000 in
theorem law_3 (hA : aB b0 18 ad) (hao : ∀ j, j < 18 → ad j ≠ o) (hob : b0 ≤ o) (hfl : l.stackTraces = false) (hLs : Ls ≤ 3072) (hj : j + 6 ≤ Ls) (hk : k + 200 ≤ 60000) (hn : n + 200 ≤ 60000) (hV : LSt Z b0 cd ad o V) (kk : ∀ V2, LSt Z b0 cd ad o V2 → G l D Z b0 room_1 RL cL_law 8 (gEl b0 b Ls xs) lw_Z V2 [(4, .int (nI j)), (3, .ref o), (2, .ref (ad 0)), (1, .ref (cd 0)), (0, .ref b)] (k + 100) (n + 100) 1304 []) : G l D Z b0 room_1 RL cL_law 8 (gEl b0 b Ls xs) lw_Z V [(4, .int (nI j)), (3, .ref o), (2, .ref (ad 0)), (1, .ref (cd 0)), (0, .ref b)] k n 275 [] := by
  obtain ⟨ik, kd, fg, pl, hr, ikd, ifg, ipl, ihr, kp, so, sz, el, ki, kf, th, po, ba, en, se, im, rd, mi, ti, lo, wa, nu, li, to, ot, fo, Vb, hCI, hB, ho, hik, hs⟩ := hV
  have hok := hCI.okm
  obtain ⟨fs9, hobj⟩ := hCI.obj
  have hfc : ∀ a, a ≤ 100 → k + a ≤ room_1.cells := fun a h => Nat.le_trans (show k + a ≤ 60000 by omega) rm_c
  have hfs : ∀ a, a ≤ 100 → n + a ≤ room_1.slots := fun a h => Nat.le_trans (show n + a ≤ 60000 by omega) rm_s
  have hfc2 : k + 100 ≤ room_1.cells := Nat.le_trans (show k + 100 ≤ 60000 by omega) rm_c
  have hfs2 : n + 100 ≤ room_1.slots := Nat.le_trans (show n + 100 ≤ 60000 by omega) rm_s
  obtain ⟨p1, hp1⟩ : ∃ x, xs (j + 1) = x := ⟨_, rfl⟩
  obtain ⟨p2, hp2⟩ : ∃ x, xs (j + 2) = x := ⟨_, rfl⟩
  refine g_aload_n (q := 3) (pc := 275) dL_law_275 rfl rfl ?_
  refine g_aload_n (q := 4) (pc := 276) dL_law_276 rfl rfl ?_
  refine g_iload (q := 0) (pc := 277) dL_law_277 rfl ?_
  refine g_iconst (v := nI 1) (pc := 279) dL_law_279 (by decide) ?_
  refine g_iadd_N (pc := 280) dL_law_280 ?_
  refine g_sld (pc := 281) (x := p1) (by omega) hLs hp1 dL_law_281 ?_
  refine g_aload_n (q := 4) (pc := 282) dL_law_282 rfl rfl ?_
  refine g_iload (q := 0) (pc := 283) dL_law_283 rfl ?_
  refine g_iconst (v := nI 2) (pc := 285) dL_law_285 (by decide) ?_
  refine g_iadd_N (pc := 286) dL_law_286 ?_
  refine g_sld (pc := 287) (x := p2) (by omega) hLs hp2 dL_law_287 ?_
  refine g_callV (As := [.int p1, .int p2]) (rest := []) (pc := 288) hobj rfl (d_X11_gang hCI) mlL_35 selX11_X11_gang_X11_gang mX11_gang ⟨Nat.le_of_ble_eq_true rfl, Nat.le_of_ble_eq_true rfl⟩ rfl rfl (Nat.le_of_ble_eq_true rfl) dL_law_288 ⟨hfc _ (Nat.le_of_ble_eq_true rfl), hfs _ (Nat.le_of_ble_eq_true rfl)⟩ (fun v9 V1 h9 => ?_)
  obtain ⟨rfl, hC1⟩ := h9
  refine G.eqst (st2 := [.int (spGang (enc kd fg pl hr) p1 p2)]) rfl rfl rfl ?_
  refine G.widen (k' := k + 100) (n' := n + 100) (Nat.add_le_add_left (Nat.le_of_ble_eq_true rfl) _) (Nat.add_le_add_left (Nat.le_of_ble_eq_true rfl) _) ?_
  refine G.veq (hC1.self hB) ?_
  refine g_aload_n (q := 2) (pc := 291) dL_law_291 rfl rfl ?_
  refine g_aload_n (q := 4) (pc := 292) dL_law_292 rfl rfl ?_
  refine g_iload (q := 0) (pc := 293) dL_law_293 rfl ?_
  refine g_iconst (v := nI 1) (pc := 295) dL_law_295 (by decide) ?_
  refine g_iadd_N (pc := 296) dL_law_296 ?_
  refine g_sld (pc := 297) (x := p1) (by omega) hLs hp1 dL_law_297 ?_
  refine g_aload_n (q := 4) (pc := 298) dL_law_298 rfl rfl ?_
  refine g_iload (q := 0) (pc := 299) dL_law_299 rfl ?_
  refine g_iconst (v := nI 2) (pc := 301) dL_law_301 (by decide) ?_
  refine g_iadd_N (pc := 302) dL_law_302 ?_
  refine g_sld (pc := 303) (x := p2) (by omega) hLs hp2 dL_law_303 ?_
  refine e_callV (k2 := k + 100) (n2 := n + 100) (As := [.int p1, .int p2]) (rest := [.int (spGang (enc kd fg pl hr) p1 p2)]) (pc := 304) (wM_0 hA) rfl (c_X12_gang hA ) mlL_38 selX12_X12_gang_X12_gang mX12_gang ⟨Nat.le_of_ble_eq_true rfl, Nat.le_of_ble_eq_true rfl⟩ rfl rfl (Nat.le_of_ble_eq_true rfl) dL_law_304 ⟨hfc2, hfs2⟩ rfl rfl ?_
  refine g_icmp_eq (tgt := 1304) (pc := 307) dL_law_307 (by decide) (fun _ => ?_) (fun c9 => absurd rfl c9)
  exact kk _ (LSt.nx hA hao hB ho hC1 hik hs)
set_option maxHeartbeats 8000000 in
theorem law_4 (hA : aB b0 18 ad) (hao : ∀ j, j < 18 → ad j ≠ o) (hob : b0 ≤ o) (hfl : l.stackTraces = false) (hLs : Ls ≤ 3072) (hj : j + 6 ≤ Ls) (hk : k + 200 ≤ 60000) (hn : n + 200 ≤ 60000) (hV : LSt Z b0 cd ad o V) (kk : ∀ V2, LSt Z b0 cd ad o V2 → G l D Z b0 room_1 RL cL_law 8 (gEl b0 b Ls xs) lw_Z V2 [(4, .int (nI j)), (3, .ref o), (2, .ref (ad 0)), (1, .ref (cd 0)), (0, .ref b)] (k + 100) (n + 100) 1304 []) : G l D Z b0 room_1 RL cL_law 8 (gEl b0 b Ls xs) lw_Z V [(4, .int (nI j)), (3, .ref o), (2, .ref (ad 0)), (1, .ref (cd 0)), (0, .ref b)] k n 312 [] := by
  obtain ⟨ik, kd, fg, pl, hr, ikd, ifg, ipl, ihr, kp, so, sz, el, ki, kf, th, po, ba, en, se, im, rd, mi, ti, lo, wa, nu, li, to, ot, fo, Vb, hCI, hB, ho, hik, hs⟩ := hV
  have hok := hCI.okm
  obtain ⟨fs9, hobj⟩ := hCI.obj
  have hfc : ∀ a, a ≤ 100 → k + a ≤ room_1.cells := fun a h => Nat.le_trans (show k + a ≤ 60000 by omega) rm_c
  have hfs : ∀ a, a ≤ 100 → n + a ≤ room_1.slots := fun a h => Nat.le_trans (show n + a ≤ 60000 by omega) rm_s
  have hfc2 : k + 100 ≤ room_1.cells := Nat.le_trans (show k + 100 ≤ 60000 by omega) rm_c
  have hfs2 : n + 100 ≤ room_1.slots := Nat.le_trans (show n + 100 ≤ 60000 by omega) rm_s
  obtain ⟨p1, hp1⟩ : ∃ x, xs (j + 1) = x := ⟨_, rfl⟩
  obtain ⟨p2, hp2⟩ : ∃ x, xs (j + 2) = x := ⟨_, rfl⟩
  cases h : inR p1 2 && inR p2 4 with
  | true =>
    rw [Bool.and_eq_true] at h
    obtain ⟨g, hg, rfl⟩ := inR_t h.1
    obtain ⟨s1, hs1, rfl⟩ := inR_t h.2
    cases hb9 : nbo (pl g) s1 with
    | some t =>
      refine g_aload_n (q := 3) (pc := 312) dL_law_312 rfl rfl ?_
      refine g_aload_n (q := 4) (pc := 313) dL_law_313 rfl rfl ?_
      refine g_iload (q := 0) (pc := 314) dL_law_314 rfl ?_
      refine g_iconst (v := nI 1) (pc := 316) dL_law_316 (by decide) ?_
      refine g_iadd_N (pc := 317) dL_law_317 ?_
      refine g_sld (pc := 318) (x := nI g) (by omega) hLs hp1 dL_law_318 ?_
      refine g_aload_n (q := 4) (pc := 319) dL_law_319 rfl rfl ?_
      refine g_iload (q := 0) (pc := 320) dL_law_320 rfl ?_
      refine g_iconst (v := nI 2) (pc := 322) dL_law_322 (by decide) ?_
      refine g_iadd_N (pc := 323) dL_law_323 ?_
      refine g_sld (pc := 324) (x := nI s1) (by omega) hLs hp2 dL_law_324 ?_
      refine g_callV (As := [.int (nI g), .int (nI s1)]) (rest := []) (pc := 325) hobj rfl (d_X11_dig_s hCI hg hs1 hb9) mlL_39 selX11_X11_dig_X11_dig mX11_dig ⟨Nat.le_of_ble_eq_true rfl, Nat.le_of_ble_eq_true rfl⟩ rfl rfl (Nat.le_of_ble_eq_true rfl) dL_law_325 ⟨hfc _ (Nat.le_of_ble_eq_true rfl), hfs _ (Nat.le_of_ble_eq_true rfl)⟩ (fun v9 V1 h9 => ?_)
      obtain ⟨rfl, hC1⟩ := h9
      refine G.eqst (st2 := [.int (nI (toilN (kd t) (fg t)))]) rfl rfl rfl ?_
      refine G.widen (k' := k + 100) (n' := n + 100) (Nat.add_le_add_left (Nat.le_of_ble_eq_true rfl) _) (Nat.add_le_add_left (Nat.le_of_ble_eq_true rfl) _) ?_
      refine G.veq (hC1.self hB) ?_
      refine g_aload_n (q := 2) (pc := 328) dL_law_328 rfl rfl ?_
      refine g_aload_n (q := 4) (pc := 329) dL_law_329 rfl rfl ?_
      refine g_iload (q := 0) (pc := 330) dL_law_330 rfl ?_
      refine g_iconst (v := nI 1) (pc := 332) dL_law_332 (by decide) ?_
      refine g_iadd_N (pc := 333) dL_law_333 ?_
      refine g_sld (pc := 334) (x := nI g) (by omega) hLs hp1 dL_law_334 ?_
      refine g_aload_n (q := 4) (pc := 335) dL_law_335 rfl rfl ?_
      refine g_iload (q := 0) (pc := 336) dL_law_336 rfl ?_
      refine g_iconst (v := nI 2) (pc := 338) dL_law_338 (by decide) ?_
      refine g_iadd_N (pc := 339) dL_law_339 ?_
      refine g_sld (pc := 340) (x := nI s1) (by omega) hLs hp2 dL_law_340 ?_
      refine e_callV (k2 := k + 100) (n2 := n + 100) (As := [.int (nI g), .int (nI s1)]) (rest := [.int (nI (toilN (kd t) (fg t)))]) (pc := 341) (wM_0 hA) rfl (c_X12_dig_s hA hok hg hs1 hb9) mlL_42 selX12_X12_dig_X12_dig mX12_dig ⟨Nat.le_of_ble_eq_true rfl, Nat.le_of_ble_eq_true rfl⟩ rfl rfl (Nat.le_of_ble_eq_true rfl) dL_law_341 ⟨hfc2, hfs2⟩ rfl rfl ?_
      refine g_icmp_eq (tgt := 1304) (pc := 344) dL_law_344 (by decide) (fun _ => ?_) (fun c9 => absurd rfl c9)
      exact kk _ (LSt.nx hA hao hB ho hC1 hik hs)
    | none =>
      refine g_aload_n (q := 3) (pc := 312) dL_law_312 rfl rfl ?_
      refine g_aload_n (q := 4) (pc := 313) dL_law_313 rfl rfl ?_
      refine g_iload (q := 0) (pc := 314) dL_law_314 rfl ?_
      refine g_iconst (v := nI 1) (pc := 316) dL_law_316 (by decide) ?_
      refine g_iadd_N (pc := 317) dL_law_317 ?_
      refine g_sld (pc := 318) (x := nI g) (by omega) hLs hp1 dL_law_318 ?_
      refine g_aload_n (q := 4) (pc := 319) dL_law_319 rfl rfl ?_
      refine g_iload (q := 0) (pc := 320) dL_law_320 rfl ?_
      refine g_iconst (v := nI 2) (pc := 322) dL_law_322 (by decide) ?_
      refine g_iadd_N (pc := 323) dL_law_323 ?_
      refine g_sld (pc := 324) (x := nI s1) (by omega) hLs hp2 dL_law_324 ?_
      refine g_callV (As := [.int (nI g), .int (nI s1)]) (rest := []) (pc := 325) hobj rfl (d_X11_dig_n hCI hg hs1 hb9) mlL_39 selX11_X11_dig_X11_dig mX11_dig ⟨Nat.le_of_ble_eq_true rfl, Nat.le_of_ble_eq_true rfl⟩ rfl rfl (Nat.le_of_ble_eq_true rfl) dL_law_325 ⟨hfc _ (Nat.le_of_ble_eq_true rfl), hfs _ (Nat.le_of_ble_eq_true rfl)⟩ (fun v9 V1 h9 => ?_)
      obtain ⟨rfl, hC1⟩ := h9
      refine G.eqst (st2 := [.int (-3)]) rfl rfl rfl ?_
      refine G.widen (k' := k + 100) (n' := n + 100) (Nat.add_le_add_left (Nat.le_of_ble_eq_true rfl) _) (Nat.add_le_add_left (Nat.le_of_ble_eq_true rfl) _) ?_
      refine G.veq (hC1.self hB) ?_
      refine g_aload_n (q := 2) (pc := 328) dL_law_328 rfl rfl ?_
      refine g_aload_n (q := 4) (pc := 329) dL_law_329 rfl rfl ?_
      refine g_iload (q := 0) (pc := 330) dL_law_330 rfl ?_
      refine g_iconst (v := nI 1) (pc := 332) dL_law_332 (by decide) ?_
      refine g_iadd_N (pc := 333) dL_law_333 ?_
      refine g_sld (pc := 334) (x := nI g) (by omega) hLs hp1 dL_law_334 ?_
      refine g_aload_n (q := 4) (pc := 335) dL_law_335 rfl rfl ?_
      refine g_iload (q := 0) (pc := 336) dL_law_336 rfl ?_
      refine g_iconst (v := nI 2) (pc := 338) dL_law_338 (by decide) ?_
      refine g_iadd_N (pc := 339) dL_law_339 ?_
      refine g_sld (pc := 340) (x := nI s1) (by omega) hLs hp2 dL_law_340 ?_
      refine e_callV (k2 := k + 100) (n2 := n + 100) (As := [.int (nI g), .int (nI s1)]) (rest := [.int (-3)]) (pc := 341) (wM_0 hA) rfl (c_X12_dig_n hA hok hg hs1 hb9) mlL_42 selX12_X12_dig_X12_dig mX12_dig ⟨Nat.le_of_ble_eq_true rfl, Nat.le_of_ble_eq_true rfl⟩ rfl rfl (Nat.le_of_ble_eq_true rfl) dL_law_341 ⟨hfc2, hfs2⟩ rfl rfl ?_
      refine g_icmp_eq (tgt := 1304) (pc := 344) dL_law_344 (by decide) (fun _ => ?_) (fun c9 => absurd rfl c9)
      exact kk _ (LSt.nx hA hao hB ho hC1 hik hs)
  | false =>
    refine g_aload_n (q := 3) (pc := 312) dL_law_312 rfl rfl ?_
    refine g_aload_n (q := 4) (pc := 313) dL_law_313 rfl rfl ?_
    refine g_iload (q := 0) (pc := 314) dL_law_314 rfl ?_
    refine g_iconst (v := nI 1) (pc := 316) dL_law_316 (by decide) ?_
    refine g_iadd_N (pc := 317) dL_law_317 ?_
    refine g_sld (pc := 318) (x := p1) (by omega) hLs hp1 dL_law_318 ?_
    refine g_aload_n (q := 4) (pc := 319) dL_law_319 rfl rfl ?_
    refine g_iload (q := 0) (pc := 320) dL_law_320 rfl ?_
    refine g_iconst (v := nI 2) (pc := 322) dL_law_322 (by decide) ?_
    refine g_iadd_N (pc := 323) dL_law_323 ?_
    refine g_sld (pc := 324) (x := p2) (by omega) hLs hp2 dL_law_324 ?_
    refine g_callV (As := [.int p1, .int p2]) (rest := []) (pc := 325) hobj rfl (d_X11_dig_b hCI h) mlL_39 selX11_X11_dig_X11_dig mX11_dig ⟨Nat.le_of_ble_eq_true rfl, Nat.le_of_ble_eq_true rfl⟩ rfl rfl (Nat.le_of_ble_eq_true rfl) dL_law_325 ⟨hfc _ (Nat.le_of_ble_eq_true rfl), hfs _ (Nat.le_of_ble_eq_true rfl)⟩ (fun v9 V1 h9 => ?_)
    obtain ⟨rfl, hC1⟩ := h9
    refine G.eqst (st2 := [.int (-1)]) rfl rfl rfl ?_
    refine G.widen (k' := k + 100) (n' := n + 100) (Nat.add_le_add_left (Nat.le_of_ble_eq_true rfl) _) (Nat.add_le_add_left (Nat.le_of_ble_eq_true rfl) _) ?_
    refine G.veq (hC1.self hB) ?_
    refine g_aload_n (q := 2) (pc := 328) dL_law_328 rfl rfl ?_
    refine g_aload_n (q := 4) (pc := 329) dL_law_329 rfl rfl ?_
    refine g_iload (q := 0) (pc := 330) dL_law_330 rfl ?_
    refine g_iconst (v := nI 1) (pc := 332) dL_law_332 (by decide) ?_
    refine g_iadd_N (pc := 333) dL_law_333 ?_
    refine g_sld (pc := 334) (x := p1) (by omega) hLs hp1 dL_law_334 ?_
    refine g_aload_n (q := 4) (pc := 335) dL_law_335 rfl rfl ?_
    refine g_iload (q := 0) (pc := 336) dL_law_336 rfl ?_
    refine g_iconst (v := nI 2) (pc := 338) dL_law_338 (by decide) ?_
    refine g_iadd_N (pc := 339) dL_law_339 ?_
    refine g_sld (pc := 340) (x := p2) (by omega) hLs hp2 dL_law_340 ?_
    refine e_callV (k2 := k + 100) (n2 := n + 100) (As := [.int p1, .int p2]) (rest := [.int (-1)]) (pc := 341) (wM_0 hA) rfl (c_X12_dig_b hA h) mlL_42 selX12_X12_dig_X12_dig mX12_dig ⟨Nat.le_of_ble_eq_true rfl, Nat.le_of_ble_eq_true rfl⟩ rfl rfl (Nat.le_of_ble_eq_true rfl) dL_law_341 ⟨hfc2, hfs2⟩ rfl rfl ?_
    refine g_icmp_eq (tgt := 1304) (pc := 344) dL_law_344 (by decide) (fun _ => ?_) (fun c9 => absurd rfl c9)
    exact kk _ (LSt.nx hA hao hB ho hC1 hik hs)
set_option maxHeartbeats 8000000 in
theorem law_5 (hA : aB b0 18 ad) (hao : ∀ j, j < 18 → ad j ≠ o) (hob : b0 ≤ o) (hfl : l.stackTraces = false) (hLs : Ls ≤ 3072) (hj : j + 6 ≤ Ls) (hk : k + 200 ≤ 60000) (hn : n + 200 ≤ 60000) (hV : LSt Z b0 cd ad o V) (kk : ∀ V2, LSt Z b0 cd ad o V2 → G l D Z b0 room_1 RL cL_law 8 (gEl b0 b Ls xs) lw_Z V2 [(4, .int (nI j)), (3, .ref o), (2, .ref (ad 0)), (1, .ref (cd 0)), (0, .ref b)] (k + 100) (n + 100) 1304 []) : G l D Z b0 room_1 RL cL_law 8 (gEl b0 b Ls xs) lw_Z V [(4, .int (nI j)), (3, .ref o), (2, .ref (ad 0)), (1, .ref (cd 0)), (0, .ref b)] k n 349 [] := by
  obtain ⟨ik, kd, fg, pl, hr, ikd, ifg, ipl, ihr, kp, so, sz, el, ki, kf, th, po, ba, en, se, im, rd, mi, ti, lo, wa, nu, li, to, ot, fo, Vb, hCI, hB, ho, hik, hs⟩ := hV
  have hok := hCI.okm
  obtain ⟨fs9, hobj⟩ := hCI.obj
  have hfc : ∀ a, a ≤ 100 → k + a ≤ room_1.cells := fun a h => Nat.le_trans (show k + a ≤ 60000 by omega) rm_c
  have hfs : ∀ a, a ≤ 100 → n + a ≤ room_1.slots := fun a h => Nat.le_trans (show n + a ≤ 60000 by omega) rm_s
  have hfc2 : k + 100 ≤ room_1.cells := Nat.le_trans (show k + 100 ≤ 60000 by omega) rm_c
  have hfs2 : n + 100 ≤ room_1.slots := Nat.le_trans (show n + 100 ≤ 60000 by omega) rm_s
  refine g_aload_n (q := 3) (pc := 349) dL_law_349 rfl rfl ?_
  refine g_callV (As := []) (rest := []) (pc := 350) hobj rfl (d_X11_met hCI) mlL_43 selX11_X11_met_X11_met mX11_met ⟨Nat.le_of_ble_eq_true rfl, Nat.le_of_ble_eq_true rfl⟩ rfl rfl (Nat.le_of_ble_eq_true rfl) dL_law_350 ⟨hfc _ (Nat.le_of_ble_eq_true rfl), hfs _ (Nat.le_of_ble_eq_true rfl)⟩ (fun v9 V1 h9 => ?_)
  obtain ⟨rfl, hC1⟩ := h9
  refine G.eqst (st2 := [.int (bI (metB (pl 0) (pl 1)))]) rfl rfl rfl ?_
  refine G.widen (k' := k + 100) (n' := n + 100) (Nat.add_le_add_left (Nat.le_of_ble_eq_true rfl) _) (Nat.add_le_add_left (Nat.le_of_ble_eq_true rfl) _) ?_
  refine G.veq (hC1.self hB) ?_
  refine g_aload_n (q := 2) (pc := 353) dL_law_353 rfl rfl ?_
  refine e_callV (k2 := k + 100) (n2 := n + 100) (As := []) (rest := [.int (bI (metB (pl 0) (pl 1)))]) (pc := 354) (wM_0 hA) rfl (c_X12_met hA hok) mlL_47 selX12_X12_met_X12_met mX12_met ⟨Nat.le_of_ble_eq_true rfl, Nat.le_of_ble_eq_true rfl⟩ rfl rfl (Nat.le_of_ble_eq_true rfl) dL_law_354 ⟨hfc2, hfs2⟩ rfl rfl ?_
  refine g_icmp_eq (tgt := 1304) (pc := 357) dL_law_357 (by decide) (fun _ => ?_) (fun c9 => absurd rfl c9)
  exact kk _ (LSt.nx hA hao hB ho hC1 hik hs)
set_option maxHeartbeats 8000000 in
theorem law_6 (hA : aB b0 18 ad) (hao : ∀ j, j < 18 → ad j ≠ o) (hob : b0 ≤ o) (hfl : l.stackTraces = false) (hLs : Ls ≤ 3072) (hj : j + 6 ≤ Ls) (hk : k + 200 ≤ 60000) (hn : n + 200 ≤ 60000) (hV : LSt Z b0 cd ad o V) (kk : ∀ V2, LSt Z b0 cd ad o V2 → G l D Z b0 room_1 RL cL_law 8 (gEl b0 b Ls xs) lw_Z V2 [(4, .int (nI j)), (3, .ref o), (2, .ref (ad 0)), (1, .ref (cd 0)), (0, .ref b)] (k + 100) (n + 100) 1304 []) : G l D Z b0 room_1 RL cL_law 8 (gEl b0 b Ls xs) lw_Z V [(4, .int (nI j)), (3, .ref o), (2, .ref (ad 0)), (1, .ref (cd 0)), (0, .ref b)] k n 362 [] := by
  obtain ⟨ik, kd, fg, pl, hr, ikd, ifg, ipl, ihr, kp, so, sz, el, ki, kf, th, po, ba, en, se, im, rd, mi, ti, lo, wa, nu, li, to, ot, fo, Vb, hCI, hB, ho, hik, hs⟩ := hV
  have hok := hCI.okm
  obtain ⟨fs9, hobj⟩ := hCI.obj
  have hfc : ∀ a, a ≤ 100 → k + a ≤ room_1.cells := fun a h => Nat.le_trans (show k + a ≤ 60000 by omega) rm_c
  have hfs : ∀ a, a ≤ 100 → n + a ≤ room_1.slots := fun a h => Nat.le_trans (show n + a ≤ 60000 by omega) rm_s
  have hfc2 : k + 100 ≤ room_1.cells := Nat.le_trans (show k + 100 ≤ 60000 by omega) rm_c
  have hfs2 : n + 100 ≤ room_1.slots := Nat.le_trans (show n + 100 ≤ 60000 by omega) rm_s
  obtain ⟨p1, hp1⟩ : ∃ x, xs (j + 1) = x := ⟨_, rfl⟩
  obtain ⟨p2, hp2⟩ : ∃ x, xs (j + 2) = x := ⟨_, rfl⟩
  refine g_aload_n (q := 3) (pc := 362) dL_law_362 rfl rfl ?_
  refine g_aload_n (q := 4) (pc := 363) dL_law_363 rfl rfl ?_
  refine g_iload (q := 0) (pc := 364) dL_law_364 rfl ?_
  refine g_iconst (v := nI 1) (pc := 366) dL_law_366 (by decide) ?_
  refine g_iadd_N (pc := 367) dL_law_367 ?_
  refine g_sld (pc := 368) (x := p1) (by omega) hLs hp1 dL_law_368 ?_
  refine g_aload_n (q := 4) (pc := 369) dL_law_369 rfl rfl ?_
  refine g_iload (q := 0) (pc := 370) dL_law_370 rfl ?_
  refine g_iconst (v := nI 2) (pc := 372) dL_law_372 (by decide) ?_
  refine g_iadd_N (pc := 373) dL_law_373 ?_
  refine g_sld (pc := 374) (x := p2) (by omega) hLs hp2 dL_law_374 ?_
  refine g_callV (As := [.int p1, .int p2]) (rest := []) (pc := 375) hobj rfl (d_X11_time hCI) mlL_48 selX11_X11_time_X11_time mX11_time ⟨Nat.le_of_ble_eq_true rfl, Nat.le_of_ble_eq_true rfl⟩ rfl rfl (Nat.le_of_ble_eq_true rfl) dL_law_375 ⟨hfc _ (Nat.le_of_ble_eq_true rfl), hfs _ (Nat.le_of_ble_eq_true rfl)⟩ (fun v9 V1 h9 => ?_)
  obtain ⟨rfl, hC1⟩ := h9
  refine G.eqst (st2 := [.int (spTime kd fg p1 p2)]) rfl rfl rfl ?_
  refine G.widen (k' := k + 100) (n' := n + 100) (Nat.add_le_add_left (Nat.le_of_ble_eq_true rfl) _) (Nat.add_le_add_left (Nat.le_of_ble_eq_true rfl) _) ?_
  refine G.veq (hC1.self hB) ?_
  refine g_aload_n (q := 2) (pc := 378) dL_law_378 rfl rfl ?_
  refine g_aload_n (q := 4) (pc := 379) dL_law_379 rfl rfl ?_
  refine g_iload (q := 0) (pc := 380) dL_law_380 rfl ?_
  refine g_iconst (v := nI 1) (pc := 382) dL_law_382 (by decide) ?_
  refine g_iadd_N (pc := 383) dL_law_383 ?_
  refine g_sld (pc := 384) (x := p1) (by omega) hLs hp1 dL_law_384 ?_
  refine g_aload_n (q := 4) (pc := 385) dL_law_385 rfl rfl ?_
  refine g_iload (q := 0) (pc := 386) dL_law_386 rfl ?_
  refine g_iconst (v := nI 2) (pc := 388) dL_law_388 (by decide) ?_
  refine g_iadd_N (pc := 389) dL_law_389 ?_
  refine g_sld (pc := 390) (x := p2) (by omega) hLs hp2 dL_law_390 ?_
  refine g_callV (As := [.int p1, .int p2]) (rest := [.int (spTime kd fg p1 p2)]) (pc := 391) (wM_0 hA) rfl (c_X12_time hA hok) mlL_51 selX12_X12_time_X12_time mX12_time ⟨Nat.le_of_ble_eq_true rfl, Nat.le_of_ble_eq_true rfl⟩ rfl rfl (Nat.le_of_ble_eq_true rfl) dL_law_391 ⟨hfc2, hfs2⟩ (fun v8 V2 h8 => ?_)
  obtain ⟨rfl, th2, po2, ba2, en2, se2, rd2, mi2, ti2, lo2, wa2, nu2, li2, to2, ot2, rfl⟩ := h8
  refine G.eqst (k2 := k + 100) (n2 := n + 100) (st2 := [.int (spTime kd fg p1 p2), .int (spTime kd fg p1 p2)]) rfl rfl rfl ?_
  refine g_icmp_eq (tgt := 1304) (pc := 394) dL_law_394 (by decide) (fun _ => ?_) (fun c9 => absurd rfl c9)
  exact kk _ (LSt.nx hA hao hB ho hC1 hik hs)
set_option maxHeartbeats 8000000 in
theorem law_7 (hA : aB b0 18 ad) (hao : ∀ j, j < 18 → ad j ≠ o) (hob : b0 ≤ o) (hfl : l.stackTraces = false) (hLs : Ls ≤ 3072) (hj : j + 6 ≤ Ls) (hk : k + 200 ≤ 60000) (hn : n + 200 ≤ 60000) (hV : LSt Z b0 cd ad o V) (kk : ∀ V2, LSt Z b0 cd ad o V2 → G l D Z b0 room_1 RL cL_law 8 (gEl b0 b Ls xs) lw_Z V2 [(4, .int (nI j)), (3, .ref o), (2, .ref (ad 0)), (1, .ref (cd 0)), (0, .ref b)] (k + 100) (n + 100) 1304 []) : G l D Z b0 room_1 RL cL_law 8 (gEl b0 b Ls xs) lw_Z V [(4, .int (nI j)), (3, .ref o), (2, .ref (ad 0)), (1, .ref (cd 0)), (0, .ref b)] k n 399 [] := by
  obtain ⟨ik, kd, fg, pl, hr, ikd, ifg, ipl, ihr, kp, so, sz, el, ki, kf, th, po, ba, en, se, im, rd, mi, ti, lo, wa, nu, li, to, ot, fo, Vb, hCI, hB, ho, hik, hs⟩ := hV
  have hok := hCI.okm
  obtain ⟨fs9, hobj⟩ := hCI.obj
  have hfc : ∀ a, a ≤ 100 → k + a ≤ room_1.cells := fun a h => Nat.le_trans (show k + a ≤ 60000 by omega) rm_c
  have hfs : ∀ a, a ≤ 100 → n + a ≤ room_1.slots := fun a h => Nat.le_trans (show n + a ≤ 60000 by omega) rm_s
  have hfc2 : k + 100 ≤ room_1.cells := Nat.le_trans (show k + 100 ≤ 60000 by omega) rm_c
  have hfs2 : n + 100 ≤ room_1.slots := Nat.le_trans (show n + 100 ≤ 60000 by omega) rm_s
  obtain ⟨p1, hp1⟩ : ∃ x, xs (j + 1) = x := ⟨_, rfl⟩
  obtain ⟨p2, hp2⟩ : ∃ x, xs (j + 2) = x := ⟨_, rfl⟩
  obtain ⟨p3, hp3⟩ : ∃ x, xs (j + 3) = x := ⟨_, rfl⟩
  refine g_aload_n (q := 3) (pc := 399) dL_law_399 rfl rfl ?_
  refine g_aload_n (q := 4) (pc := 400) dL_law_400 rfl rfl ?_
  refine g_iload (q := 0) (pc := 401) dL_law_401 rfl ?_
  refine g_iconst (v := nI 1) (pc := 403) dL_law_403 (by decide) ?_
  refine g_iadd_N (pc := 404) dL_law_404 ?_
  refine g_sld (pc := 405) (x := p1) (by omega) hLs hp1 dL_law_405 ?_
  refine g_aload_n (q := 4) (pc := 406) dL_law_406 rfl rfl ?_
  refine g_iload (q := 0) (pc := 407) dL_law_407 rfl ?_
  refine g_iconst (v := nI 2) (pc := 409) dL_law_409 (by decide) ?_
  refine g_iadd_N (pc := 410) dL_law_410 ?_
  refine g_sld (pc := 411) (x := p2) (by omega) hLs hp2 dL_law_411 ?_
  refine g_aload_n (q := 4) (pc := 412) dL_law_412 rfl rfl ?_
  refine g_iload (q := 0) (pc := 413) dL_law_413 rfl ?_
  refine g_iconst (v := nI 3) (pc := 415) dL_law_415 (by decide) ?_
  refine g_iadd_N (pc := 416) dL_law_416 ?_
  refine g_sld (pc := 417) (x := p3) (by omega) hLs hp3 dL_law_417 ?_
  refine g_callV (As := [.int p1, .int p2, .int p3]) (rest := []) (pc := 418) hobj rfl (d_X11_loud hCI) mlL_52 selX11_X11_loud_X11_loud mX11_loud ⟨Nat.le_of_ble_eq_true rfl, Nat.le_of_ble_eq_true rfl⟩ rfl rfl (Nat.le_of_ble_eq_true rfl) dL_law_418 ⟨hfc _ (Nat.le_of_ble_eq_true rfl), hfs _ (Nat.le_of_ble_eq_true rfl)⟩ (fun v9 V1 h9 => ?_)
  obtain ⟨rfl, hC1⟩ := h9
  refine G.eqst (st2 := [.int (spLoud kd fg p1 p2 p3)]) rfl rfl rfl ?_
  refine G.widen (k' := k + 100) (n' := n + 100) (Nat.add_le_add_left (Nat.le_of_ble_eq_true rfl) _) (Nat.add_le_add_left (Nat.le_of_ble_eq_true rfl) _) ?_
  refine G.veq (hC1.self hB) ?_
  refine g_aload_n (q := 2) (pc := 421) dL_law_421 rfl rfl ?_
  refine g_aload_n (q := 4) (pc := 422) dL_law_422 rfl rfl ?_
  refine g_iload (q := 0) (pc := 423) dL_law_423 rfl ?_
  refine g_iconst (v := nI 1) (pc := 425) dL_law_425 (by decide) ?_
  refine g_iadd_N (pc := 426) dL_law_426 ?_
  refine g_sld (pc := 427) (x := p1) (by omega) hLs hp1 dL_law_427 ?_
  refine g_aload_n (q := 4) (pc := 428) dL_law_428 rfl rfl ?_
  refine g_iload (q := 0) (pc := 429) dL_law_429 rfl ?_
  refine g_iconst (v := nI 2) (pc := 431) dL_law_431 (by decide) ?_
  refine g_iadd_N (pc := 432) dL_law_432 ?_
  refine g_sld (pc := 433) (x := p2) (by omega) hLs hp2 dL_law_433 ?_
  refine g_aload_n (q := 4) (pc := 434) dL_law_434 rfl rfl ?_
  refine g_iload (q := 0) (pc := 435) dL_law_435 rfl ?_
  refine g_iconst (v := nI 3) (pc := 437) dL_law_437 (by decide) ?_
  refine g_iadd_N (pc := 438) dL_law_438 ?_
  refine g_sld (pc := 439) (x := p3) (by omega) hLs hp3 dL_law_439 ?_
  refine g_callV (As := [.int p1, .int p2, .int p3]) (rest := [.int (spLoud kd fg p1 p2 p3)]) (pc := 440) (wM_0 hA) rfl (c_X12_loud hA hok) mlL_56 selX12_X12_loud_X12_loud mX12_loud ⟨Nat.le_of_ble_eq_true rfl, Nat.le_of_ble_eq_true rfl⟩ rfl rfl (Nat.le_of_ble_eq_true rfl) dL_law_440 ⟨hfc2, hfs2⟩ (fun v8 V2 h8 => ?_)
  obtain ⟨rfl, th2, po2, ba2, en2, se2, rd2, mi2, ti2, lo2, wa2, nu2, li2, to2, ot2, rfl⟩ := h8
  refine G.eqst (k2 := k + 100) (n2 := n + 100) (st2 := [.int (spLoud kd fg p1 p2 p3), .int (spLoud kd fg p1 p2 p3)]) rfl rfl rfl ?_
  refine g_icmp_eq (tgt := 1304) (pc := 443) dL_law_443 (by decide) (fun _ => ?_) (fun c9 => absurd rfl c9)
  exact kk _ (LSt.nx hA hao hB ho hC1 hik hs)
set_option maxHeartbeats 8000000 in
theorem law_8 (hA : aB b0 18 ad) (hao : ∀ j, j < 18 → ad j ≠ o) (hob : b0 ≤ o) (hfl : l.stackTraces = false) (hLs : Ls ≤ 3072) (hj : j + 6 ≤ Ls) (hk : k + 200 ≤ 60000) (hn : n + 200 ≤ 60000) (hV : LSt Z b0 cd ad o V) (kk : ∀ V2, LSt Z b0 cd ad o V2 → G l D Z b0 room_1 RL cL_law 8 (gEl b0 b Ls xs) lw_Z V2 [(4, .int (nI j)), (3, .ref o), (2, .ref (ad 0)), (1, .ref (cd 0)), (0, .ref b)] (k + 100) (n + 100) 1304 []) : G l D Z b0 room_1 RL cL_law 8 (gEl b0 b Ls xs) lw_Z V [(4, .int (nI j)), (3, .ref o), (2, .ref (ad 0)), (1, .ref (cd 0)), (0, .ref b)] k n 448 [] := by
  obtain ⟨ik, kd, fg, pl, hr, ikd, ifg, ipl, ihr, kp, so, sz, el, ki, kf, th, po, ba, en, se, im, rd, mi, ti, lo, wa, nu, li, to, ot, fo, Vb, hCI, hB, ho, hik, hs⟩ := hV
  have hok := hCI.okm
  obtain ⟨fs9, hobj⟩ := hCI.obj
  have hfc : ∀ a, a ≤ 100 → k + a ≤ room_1.cells := fun a h => Nat.le_trans (show k + a ≤ 60000 by omega) rm_c
  have hfs : ∀ a, a ≤ 100 → n + a ≤ room_1.slots := fun a h => Nat.le_trans (show n + a ≤ 60000 by omega) rm_s
  have hfc2 : k + 100 ≤ room_1.cells := Nat.le_trans (show k + 100 ≤ 60000 by omega) rm_c
  have hfs2 : n + 100 ≤ room_1.slots := Nat.le_trans (show n + 100 ≤ 60000 by omega) rm_s
  obtain ⟨p1, hp1⟩ : ∃ x, xs (j + 1) = x := ⟨_, rfl⟩
  obtain ⟨p2, hp2⟩ : ∃ x, xs (j + 2) = x := ⟨_, rfl⟩
  refine g_aload_n (q := 3) (pc := 448) dL_law_448 rfl rfl ?_
  refine g_aload_n (q := 4) (pc := 449) dL_law_449 rfl rfl ?_
  refine g_iload (q := 0) (pc := 450) dL_law_450 rfl ?_
  refine g_iconst (v := nI 1) (pc := 452) dL_law_452 (by decide) ?_
  refine g_iadd_N (pc := 453) dL_law_453 ?_
  refine g_sld (pc := 454) (x := p1) (by omega) hLs hp1 dL_law_454 ?_
  refine g_aload_n (q := 4) (pc := 455) dL_law_455 rfl rfl ?_
  refine g_iload (q := 0) (pc := 456) dL_law_456 rfl ?_
  refine g_iconst (v := nI 2) (pc := 458) dL_law_458 (by decide) ?_
  refine g_iadd_N (pc := 459) dL_law_459 ?_
  refine g_sld (pc := 460) (x := p2) (by omega) hLs hp2 dL_law_460 ?_
  refine g_callV (As := [.int p1, .int p2]) (rest := []) (pc := 461) hobj rfl (d_X11_paths hCI) mlL_57 selX11_X11_paths_X11_paths mX11_paths ⟨Nat.le_of_ble_eq_true rfl, Nat.le_of_ble_eq_true rfl⟩ rfl rfl (Nat.le_of_ble_eq_true rfl) dL_law_461 ⟨hfc _ (Nat.le_of_ble_eq_true rfl), hfs _ (Nat.le_of_ble_eq_true rfl)⟩ (fun v9 V1 h9 => ?_)
  obtain ⟨rfl, hC1⟩ := h9
  refine G.eqst (st2 := [.int (spPaths kd fg p1 p2)]) rfl rfl rfl ?_
  refine G.widen (k' := k + 100) (n' := n + 100) (Nat.add_le_add_left (Nat.le_of_ble_eq_true rfl) _) (Nat.add_le_add_left (Nat.le_of_ble_eq_true rfl) _) ?_
  refine G.veq (hC1.self hB) ?_
  refine g_aload_n (q := 2) (pc := 464) dL_law_464 rfl rfl ?_
  refine g_aload_n (q := 4) (pc := 465) dL_law_465 rfl rfl ?_
  refine g_iload (q := 0) (pc := 466) dL_law_466 rfl ?_
  refine g_iconst (v := nI 1) (pc := 468) dL_law_468 (by decide) ?_
  refine g_iadd_N (pc := 469) dL_law_469 ?_
  refine g_sld (pc := 470) (x := p1) (by omega) hLs hp1 dL_law_470 ?_
  refine g_aload_n (q := 4) (pc := 471) dL_law_471 rfl rfl ?_
  refine g_iload (q := 0) (pc := 472) dL_law_472 rfl ?_
  refine g_iconst (v := nI 2) (pc := 474) dL_law_474 (by decide) ?_
  refine g_iadd_N (pc := 475) dL_law_475 ?_
  refine g_sld (pc := 476) (x := p2) (by omega) hLs hp2 dL_law_476 ?_
  refine g_callV (As := [.int p1, .int p2]) (rest := [.int (spPaths kd fg p1 p2)]) (pc := 477) (wM_0 hA) rfl (c_X12_paths hA hok) mlL_60 selX12_X12_paths_X12_paths mX12_paths ⟨Nat.le_of_ble_eq_true rfl, Nat.le_of_ble_eq_true rfl⟩ rfl rfl (Nat.le_of_ble_eq_true rfl) dL_law_477 ⟨hfc2, hfs2⟩ (fun v8 V2 h8 => ?_)
  obtain ⟨rfl, th2, po2, ba2, en2, se2, rd2, mi2, ti2, lo2, wa2, nu2, li2, to2, ot2, rfl⟩ := h8
  refine G.eqst (k2 := k + 100) (n2 := n + 100) (st2 := [.int (spPaths kd fg p1 p2), .int (spPaths kd fg p1 p2)]) rfl rfl rfl ?_
  refine g_icmp_eq (tgt := 1304) (pc := 480) dL_law_480 (by decide) (fun _ => ?_) (fun c9 => absurd rfl c9)
  exact kk _ (LSt.nx hA hao hB ho hC1 hik hs)
set_option maxHeartbeats 8000000 in
theorem law_9 (hA : aB b0 18 ad) (hao : ∀ j, j < 18 → ad j ≠ o) (hob : b0 ≤ o) (hfl : l.stackTraces = false) (hLs : Ls ≤ 3072) (hj : j + 6 ≤ Ls) (hk : k + 200 ≤ 60000) (hn : n + 200 ≤ 60000) (hV : LSt Z b0 cd ad o V) (kk : ∀ V2, LSt Z b0 cd ad o V2 → G l D Z b0 room_1 RL cL_law 8 (gEl b0 b Ls xs) lw_Z V2 [(4, .int (nI j)), (3, .ref o), (2, .ref (ad 0)), (1, .ref (cd 0)), (0, .ref b)] (k + 100) (n + 100) 1304 []) : G l D Z b0 room_1 RL cL_law 8 (gEl b0 b Ls xs) lw_Z V [(4, .int (nI j)), (3, .ref o), (2, .ref (ad 0)), (1, .ref (cd 0)), (0, .ref b)] k n 485 [] := by
  obtain ⟨ik, kd, fg, pl, hr, ikd, ifg, ipl, ihr, kp, so, sz, el, ki, kf, th, po, ba, en, se, im, rd, mi, ti, lo, wa, nu, li, to, ot, fo, Vb, hCI, hB, ho, hik, hs⟩ := hV
  have hok := hCI.okm
  obtain ⟨fs9, hobj⟩ := hCI.obj
  have hfc : ∀ a, a ≤ 100 → k + a ≤ room_1.cells := fun a h => Nat.le_trans (show k + a ≤ 60000 by omega) rm_c
  have hfs : ∀ a, a ≤ 100 → n + a ≤ room_1.slots := fun a h => Nat.le_trans (show n + a ≤ 60000 by omega) rm_s
  have hfc2 : k + 100 ≤ room_1.cells := Nat.le_trans (show k + 100 ≤ 60000 by omega) rm_c
  have hfs2 : n + 100 ≤ room_1.slots := Nat.le_trans (show n + 100 ≤ 60000 by omega) rm_s
  obtain ⟨p1, hp1⟩ : ∃ x, xs (j + 1) = x := ⟨_, rfl⟩
  obtain ⟨p2, hp2⟩ : ∃ x, xs (j + 2) = x := ⟨_, rfl⟩
  refine g_aload_n (q := 3) (pc := 485) dL_law_485 rfl rfl ?_
  refine g_aload_n (q := 4) (pc := 486) dL_law_486 rfl rfl ?_
  refine g_iload (q := 0) (pc := 487) dL_law_487 rfl ?_
  refine g_iconst (v := nI 1) (pc := 489) dL_law_489 (by decide) ?_
  refine g_iadd_N (pc := 490) dL_law_490 ?_
  refine g_sld (pc := 491) (x := p1) (by omega) hLs hp1 dL_law_491 ?_
  refine g_aload_n (q := 4) (pc := 492) dL_law_492 rfl rfl ?_
  refine g_iload (q := 0) (pc := 493) dL_law_493 rfl ?_
  refine g_iconst (v := nI 2) (pc := 495) dL_law_495 (by decide) ?_
  refine g_iadd_N (pc := 496) dL_law_496 ?_
  refine g_sld (pc := 497) (x := p2) (by omega) hLs hp2 dL_law_497 ?_
  refine g_callV (As := [.int p1, .int p2]) (rest := []) (pc := 498) hobj rfl (d_X11_reaches hCI) mlL_61 selX11_X11_reaches_X11_reaches mX11_reaches ⟨Nat.le_of_ble_eq_true rfl, Nat.le_of_ble_eq_true rfl⟩ rfl rfl (Nat.le_of_ble_eq_true rfl) dL_law_498 ⟨hfc _ (Nat.le_of_ble_eq_true rfl), hfs _ (Nat.le_of_ble_eq_true rfl)⟩ (fun v9 V1 h9 => ?_)
  obtain ⟨rfl, hC1⟩ := h9
  refine G.eqst (st2 := [.int (spReach kd fg p1 p2)]) rfl rfl rfl ?_
  refine G.widen (k' := k + 100) (n' := n + 100) (Nat.add_le_add_left (Nat.le_of_ble_eq_true rfl) _) (Nat.add_le_add_left (Nat.le_of_ble_eq_true rfl) _) ?_
  refine G.veq (hC1.self hB) ?_
  refine g_aload_n (q := 2) (pc := 501) dL_law_501 rfl rfl ?_
  refine g_aload_n (q := 4) (pc := 502) dL_law_502 rfl rfl ?_
  refine g_iload (q := 0) (pc := 503) dL_law_503 rfl ?_
  refine g_iconst (v := nI 1) (pc := 505) dL_law_505 (by decide) ?_
  refine g_iadd_N (pc := 506) dL_law_506 ?_
  refine g_sld (pc := 507) (x := p1) (by omega) hLs hp1 dL_law_507 ?_
  refine g_aload_n (q := 4) (pc := 508) dL_law_508 rfl rfl ?_
  refine g_iload (q := 0) (pc := 509) dL_law_509 rfl ?_
  refine g_iconst (v := nI 2) (pc := 511) dL_law_511 (by decide) ?_
  refine g_iadd_N (pc := 512) dL_law_512 ?_
  refine g_sld (pc := 513) (x := p2) (by omega) hLs hp2 dL_law_513 ?_
  refine g_callV (As := [.int p1, .int p2]) (rest := [.int (spReach kd fg p1 p2)]) (pc := 514) (wM_0 hA) rfl (c_X12_reaches hA hok) mlL_64 selX12_X12_reaches_X12_reaches mX12_reaches ⟨Nat.le_of_ble_eq_true rfl, Nat.le_of_ble_eq_true rfl⟩ rfl rfl (Nat.le_of_ble_eq_true rfl) dL_law_514 ⟨hfc2, hfs2⟩ (fun v8 V2 h8 => ?_)
  obtain ⟨rfl, th2, po2, ba2, en2, se2, rd2, mi2, ti2, lo2, wa2, nu2, li2, to2, ot2, rfl⟩ := h8
  refine G.eqst (k2 := k + 100) (n2 := n + 100) (st2 := [.int (spReach kd fg p1 p2), .int (spReach kd fg p1 p2)]) rfl rfl rfl ?_
  refine g_icmp_eq (tgt := 1304) (pc := 517) dL_law_517 (by decide) (fun _ => ?_) (fun c9 => absurd rfl c9)
  exact kk _ (LSt.nx hA hao hB ho hC1 hik hs)
end LW
