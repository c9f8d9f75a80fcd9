section LW
variable {Z : Nat → ClassId} {b0 : Nat} {cd ad : Nat → Nat} {V Vb : HV}
def ov (P V : HV) : HV := fun q => match P q with
  | some e => some e
  | none => V q
theorem ov_some {P V : HV} {q : Nat} {e : va_E} (h : P q = some e) : ov P V q = some e := by unfold ov; rw [h]
theorem ov_none {P V : HV} {q : Nat} (h : P q = none) : ov P V q = V q := by unfold ov; rw [h]
theorem upv_ov {P V : HV} {a : Nat} {e : va_E} : upv (ov P V) a e = ov (upv P a e) V := funext fun q => by
  by_cases h : q = a
  · subst h; rw [upv_eq, ov_some (upv_eq _ _ _)]
  · rw [upv_ne h]
    cases hp : P q with
    | none => rw [ov_none hp, ov_none ((upv_ne h).trans hp)]
    | some x => rw [ov_some hp, ov_some ((upv_ne h).trans hp)]
theorem ov_upv {P V : HV} {a : Nat} {e : va_E} (ha : P a = none) : ov P (upv V a e) = upv (ov P V) a e := funext fun q => by
  by_cases h : q = a
  · subst h; rw [upv_eq, ov_none ha, upv_eq]
  · rw [upv_ne h]
    cases hp : P q with
    | none => rw [ov_none hp, ov_none hp, upv_ne h]
    | some x => rw [ov_some hp, ov_some hp]
theorem bk_ov {ad : Nat → Nat} {F : Nat → va_E} {V : HV} : ∀ n, bk ad n F V = ov (bk ad n F (fun _ => none)) V
  | 0 => funext fun q => (ov_none rfl).symm
  | n + 1 => by
    show upv (bk ad n F V) (ad n) (F n) = ov (upv (bk ad n F (fun _ => none)) (ad n) (F n)) V
    rw [bk_ov n, upv_ov]
theorem ov_bk {P : HV} {cd : Nat → Nat} {F : Nat → va_E} {V : HV} : ∀ n, (∀ j, j < n → P (cd j) = none) → ov P (bk cd n F V) = bk cd n F (ov P V)
  | 0, _ => rfl
  | n + 1, h => by
    show ov P (upv (bk cd n F V) (cd n) (F n)) = upv (bk cd n F (ov P V)) (cd n) (F n)
    rw [ov_upv (h n (by omega)), ov_bk n (fun j hj => h j (by omega))]
theorem bk_in {ad : Nat → Nat} {F : Nat → va_E} {q : Nat} {e : va_E} : ∀ n, bk ad n F (fun _ => none) q = some e → ∃ j, j < n ∧ q = ad j
  | 0, h => by cases h
  | n + 1, h => by
    by_cases hq : q = ad n
    · exact ⟨n, by omega, hq⟩
    · obtain ⟨j, hj, e1⟩ := bk_in n ((upv_ne hq).symm.trans h)
      exact ⟨j, by omega, e1⟩
theorem upv_same {V : HV} {a : Nat} {e : va_E} (h : V a = some e) : upv V a e = V := funext fun q => by
  by_cases hq : q = a
  · subst hq; rw [upv_eq, h]
  · rw [upv_ne hq]
theorem bk_same {ad : Nat → Nat} {F : Nat → va_E} {V : HV} : ∀ n, (∀ j, j < n → V (ad j) = some (F j)) → bk ad n F V = V
  | 0, _ => rfl
  | n + 1, h => by
    show upv (bk ad n F V) (ad n) (F n) = V
    rw [bk_same n (fun j hj => h j (by omega)), upv_same (h n (by omega))]
theorem cK_12 {q : Nat} : cK q ≠ 12 := by
  unfold cK; repeat' split
  all_goals decide
theorem CI.ov {ik : Int32} {kd fg pl : Nat → Nat} {hr : Nat → Int32} {ikd ifg ipl : Nat → Nat} {ihr : Nat → Int32} {kp so sz : Nat → Nat} {el ki kf : Nat → Int32} {P : HV} (h : CI Z b0 cd Vb ik kd fg pl hr ikd ifg ipl ihr kp so sz el ki kf V) (hP : ∀ q e, P q = some e → ∃ e', Vb q = some e' ∧ ∀ ci fs, ci ≠ 12 → e' ≠ vO ci fs) : CI Z b0 cd (ov P Vb) ik kd fg pl hr ikd ifg ipl ihr kp so sz el ki kf (ov P V) := by
  obtain ⟨ugA, ugB, ugC, rA, rB, pB, tB, rC, cX, lX, oX, nX, sX, zX, cY, lY, oY, nY, sY, zY, tm, cl, KR, SO, SZ, EL, V1, rfl, hA, hE, hgA, hgB, hmA, hmC, hpl, hipl, hSh⟩ := h
  have hdis : ∀ j, j < 46 → P (cd j) = none := fun j hj => by
    cases hp : P (cd j) with
    | none => rfl
    | some e =>
      obtain ⟨e', h1, -⟩ := hP _ _ hp
      have h2 := hE _ _ h1
      rw [hA.2 j hj] at h2; cases h2
  have hrk : ∀ {a q f : Nat}, Rk V1 a q f → Rk (ov P V1) a q f := fun {a q f} hr => by
    refine ⟨hr.1, hr.2.1, (ov_none ?_).trans hr.2.2⟩
    cases hp : P a with
    | none => rfl
    | some e =>
      obtain ⟨e', h1, h2⟩ := hP _ _ hp
      have h3 := (hE _ _ h1).symm.trans hr.2.2
      exact absurd (Option.some.inj h3) (h2 _ _ cK_12)
  refine ⟨ugA, ugB, ugC, rA, rB, pB, tB, rC, cX, lX, oX, nX, sX, zX, cY, lY, oY, nY, sY, zY, tm, cl, KR, SO, SZ, EL, ov P V1, ov_bk 46 hdis, ⟨hA.1, fun j hj => (ov_none (hdis j hj)).trans (hA.2 j hj)⟩, fun q e he => ?_, hrk hgA, hrk hgB, fun c hc => hrk (hmA c hc), fun c hc => hrk (hmC c hc), hpl, hipl, fun d hd => ?_⟩
  · cases hp : P q with
    | none => rw [ov_none hp] at he ⊢; exact hE q e he
    | some x => rw [ov_some hp] at he ⊢; exact he
  · rcases hSh d hd with q | ⟨q1, ⟨a, x, f, q2, q3, q4, q5⟩, q6⟩ | q
    · exact Or.inl q
    · exact Or.inr (Or.inl ⟨q1, ⟨a, x, f, q2, hrk q3, q4, q5⟩, q6⟩)
    · exact Or.inr (Or.inr q)
theorem CI.base {ik : Int32} {kd fg pl : Nat → Nat} {hr : Nat → Int32} {ikd ifg ipl : Nat → Nat} {ihr : Nat → Int32} {kp so sz : Nat → Nat} {el ki kf : Nat → Int32} {q : Nat} {e : va_E} (h : CI Z b0 cd Vb ik kd fg pl hr ikd ifg ipl ihr kp so sz el ki kf V) (hq : Vb q = some e) : V q = some e := by
  obtain ⟨ugA, ugB, ugC, rA, rB, pB, tB, rC, cX, lX, oX, nX, sX, zX, cY, lY, oY, nY, sY, zY, tm, cl, KR, SO, SZ, EL, V1, rfl, hA, hE, hgA, hgB, hmA, hmC, hpl, hipl, hSh⟩ := h
  exact wC_out hA (hE q e hq)
theorem CI.okm {ik : Int32} {kd fg pl : Nat → Nat} {hr : Nat → Int32} {ikd ifg ipl : Nat → Nat} {ihr : Nat → Int32} {kp so sz : Nat → Nat} {el ki kf : Nat → Int32} (h : CI Z b0 cd Vb ik kd fg pl hr ikd ifg ipl ihr kp so sz el ki kf V) : okM kd fg pl := by
  obtain ⟨ugA, ugB, ugC, rA, rB, pB, tB, rC, cX, lX, oX, nX, sX, zX, cY, lY, oY, nY, sY, zY, tm, cl, KR, SO, SZ, EL, V1, rfl, hA, hE, hgA, hgB, hmA, hmC, hpl, hipl, hSh⟩ := h
  exact ⟨fun c hc => ⟨(hmA c hc).1, (hmA c hc).2.1⟩, hpl⟩
theorem pM_not {hi th po ba en se : Int32} {s im rd mi kp so sz el ki kf ti lo wa nu li to ot : Nat → Int32} : ∀ j, j < 18 → ∀ ci fs, ci ≠ 12 → pM Z ad hi th po ba en se s im rd mi kp so sz el ki kf ti lo wa nu li to ot j ≠ vO ci fs := fun j hj ci fs hc => by
  match j, hj with
  | 0, _ =>
    intro e
    have h1 := Sum.inr.inj e
    exact hc (congrArg Prod.fst h1).symm
  | 1, _ => exact fun e => by cases e
  | 2, _ => exact fun e => by cases e
  | 3, _ => exact fun e => by cases e
  | 4, _ => exact fun e => by cases e
  | 5, _ => exact fun e => by cases e
  | 6, _ => exact fun e => by cases e
  | 7, _ => exact fun e => by cases e
  | 8, _ => exact fun e => by cases e
  | 9, _ => exact fun e => by cases e
  | 10, _ => exact fun e => by cases e
  | 11, _ => exact fun e => by cases e
  | 12, _ => exact fun e => by cases e
  | 13, _ => exact fun e => by cases e
  | 14, _ => exact fun e => by cases e
  | 15, _ => exact fun e => by cases e
  | 16, _ => exact fun e => by cases e
  | 17, _ => exact fun e => by cases e
  | n + 18, hn => exact absurd hn (by omega)
theorem CI.self {ik : Int32} {kd fg pl : Nat → Nat} {hr : Nat → Int32} {ikd ifg ipl : Nat → Nat} {ihr : Nat → Int32} {kp so sz : Nat → Nat} {el ki kf : Nat → Int32} {ik2 : Int32} {kd2 fg2 pl2 : Nat → Nat} {hr2 : Nat → Int32} {kp2 so2 sz2 : Nat → Nat} {el2 ki2 kf2 : Nat → Int32} {th po ba en se : Int32} {im rd mi ti lo wa nu li to ot : Nat → Int32} (hB : ∀ j, j < 18 → Vb (ad j) = some (pM Z ad ik2 th po ba en se (enc kd2 fg2 pl2 hr2) im rd mi (nf kp2) (nf so2) (nf sz2) el2 ki2 kf2 ti lo wa nu li to ot j)) (h : CI Z b0 cd Vb ik kd fg pl hr ikd ifg ipl ihr kp so sz el ki kf V) : V = wM Z ad ik2 th po ba en se (enc kd2 fg2 pl2 hr2) im rd mi (nf kp2) (nf so2) (nf sz2) el2 ki2 kf2 ti lo wa nu li to ot V := (bk_same 18 (fun j hj => h.base (hB j hj))).symm
def LSt (Z : Nat → ClassId) (b0 : Nat) (cd ad : Nat → Nat) (o : Nat) (V : HV) : Prop := ∃ (ik : Int32) (kd fg pl : Nat → Nat) (hr : Nat → Int32) (ikd ifg ipl : Nat → Nat) (ihr : Nat → Int32) (kp so sz : Nat → Nat) (el ki kf : Nat → Int32) (th po ba en se : Int32) (im rd mi ti lo wa nu li to ot : Nat → Int32) (fo : Nat → Int64) (Vb : HV), CI Z b0 cd Vb ik kd fg pl hr ikd ifg ipl ihr kp so sz el ki kf V ∧ (∀ j, j < 18 → Vb (ad j) = some (pM Z ad ik th po ba en se (enc kd fg pl hr) im rd mi (nf kp) (nf so) (nf sz) el ki kf ti lo wa nu li to ot j)) ∧ Vb o = some (vL Z 4 1 fo) ∧ (ik = nI 0 ∨ (ik = nI 1 ∧ im = enc ikd ifg ipl ihr)) ∧ okS kp so sz ki kf
theorem LSt.nx {ik : Int32} {kd fg pl : Nat → Nat} {hr : Nat → Int32} {ikd ifg ipl : Nat → Nat} {ihr : Nat → Int32} {kp so sz : Nat → Nat} {el ki kf : Nat → Int32} {th po ba en se : Int32} {im rd mi ti lo wa nu li to ot : Nat → Int32} {o : Nat} {ik2 th2 po2 ba2 en2 se2 : Int32} {s2 im2 rd2 mi2 kp2 so2 sz2 el2 ki2 kf2 ti2 lo2 wa2 nu2 li2 to2 ot2 : Nat → Int32} {fo : Nat → Int64} (hA : aB b0 18 ad) (hao : ∀ j, j < 18 → ad j ≠ o) (hB : ∀ j, j < 18 → Vb (ad j) = some (pM Z ad ik2 th2 po2 ba2 en2 se2 s2 im2 rd2 mi2 kp2 so2 sz2 el2 ki2 kf2 ti2 lo2 wa2 nu2 li2 to2 ot2 j)) (ho : Vb o = some (vL Z 4 1 fo)) (hCI : CI Z b0 cd Vb ik kd fg pl hr ikd ifg ipl ihr kp so sz el ki kf V) (hik : ik = nI 0 ∨ (ik = nI 1 ∧ im = enc ikd ifg ipl ihr)) (hs : okS kp so sz ki kf) : LSt Z b0 cd ad o (wM Z ad ik th po ba en se (enc kd fg pl hr) im rd mi (nf kp) (nf so) (nf sz) el ki kf ti lo wa nu li to ot V) := by
  have h := hCI.ov (P := bk ad 18 (pM Z ad ik th po ba en se (enc kd fg pl hr) im rd mi (nf kp) (nf so) (nf sz) el ki kf ti lo wa nu li to ot) (fun _ => none)) (fun q e hq => by
    obtain ⟨j, hj, rfl⟩ := bk_in 18 hq
    exact ⟨_, hB j hj, pM_not j hj⟩)
  refine ⟨ik, kd, fg, pl, hr, ikd, ifg, ipl, ihr, kp, so, sz, el, ki, kf, th, po, ba, en, se, im, rd, mi, ti, lo, wa, nu, li, to, ot, fo, _, ?_, fun j hj => ov_some (bk_get hA.1 (Nat.le_refl _) hj), (ov_none ((bk_out (V := fun _ => none) (fun j hj e => hao j hj e.symm)).trans rfl)).trans ho, hik, hs⟩
  show CI Z b0 cd _ ik kd fg pl hr ikd ifg ipl ihr kp so sz el ki kf (bk ad 18 (pM Z ad ik th po ba en se (enc kd fg pl hr) im rd mi (nf kp) (nf so) (nf sz) el ki kf ti lo wa nu li to ot) V)
  rw [bk_ov (V := V) 18]; exact h
theorem CI.outp {ik : Int32} {kd fg pl : Nat → Nat} {hr : Nat → Int32} {ikd ifg ipl : Nat → Nat} {ihr : Nat → Int32} {kp so sz : Nat → Nat} {el ki kf : Nat → Int32} {o : Nat} {fo fn : Nat → Int64} (h : CI Z b0 cd Vb ik kd fg pl hr ikd ifg ipl ihr kp so sz el ki kf V) (ho : Vb o = some (vL Z 4 1 fo)) : CI Z b0 cd (upv Vb o (vL Z 4 1 fn)) ik kd fg pl hr ikd ifg ipl ihr kp so sz el ki kf (upv V o (vL Z 4 1 fn)) := by
  have h2 := h.ov (P := upv (fun _ => none) o (vL Z 4 1 fn)) (fun q e hq => by
    by_cases z : q = o
    · subst z; exact ⟨_, ho, fun ci fs _ e9 => by cases e9⟩
    · rw [upv_ne z] at hq; cases hq)
  rw [← upv_ov, ← upv_ov] at h2
  exact h2
theorem okS.keep1 {kp so sz : Nat → Nat} {ki kf : Nat → Int32} (h : okS kp so sz ki kf) {d q f : Nat} (hq : q < 8) (hf : f < 10) : okS (updN kp d 1) so sz (upd ki d (nI q)) (upd kf d (nI f)) := fun c hc => by
  obtain ⟨h1, h2, h3, h4⟩ := h c hc
  by_cases z : c = d
  · subst z
    rw [updN_eq, upd_eq, upd_eq]
    exact ⟨by decide, h2, h3, fun _ => ⟨q, f, hq, hf, rfl, rfl⟩⟩
  · rw [updN_ne z, upd_ne z, upd_ne z]; exact ⟨h1, h2, h3, h4⟩
theorem okS.keep0 {kp so sz : Nat → Nat} {ki kf : Nat → Int32} (h : okS kp so sz ki kf) {d : Nat} {q f : Int32} : okS (updN kp d 0) so sz (upd ki d q) (upd kf d f) := fun c hc => by
  obtain ⟨h1, h2, h3, h4⟩ := h c hc
  by_cases z : c = d
  · subst z
    rw [updN_eq]
    exact ⟨by decide, h2, h3, fun e => absurd e (by decide)⟩
  · rw [updN_ne z, upd_ne z, upd_ne z]; exact ⟨h1, h2, h3, h4⟩
theorem okS.row {kp so sz : Nat → Nat} {ki kf : Nat → Int32} (h : okS kp so sz ki kf) {d r n : Nat} (hr : r < 3) (hn : n ≤ 100) : okS (updN kp d 2) (updN so d r) (updN sz d n) ki kf := fun c hc => by
  obtain ⟨h1, h2, h3, h4⟩ := h c hc
  by_cases z : c = d
  · subst z
    rw [updN_eq, updN_eq, updN_eq]
    exact ⟨by decide, hr, hn, fun e => absurd e (by decide)⟩
  · rw [updN_ne z, updN_ne z, updN_ne z]; exact ⟨h1, h2, h3, h4⟩
/-! the law's rows -/
def gEl (b0 b Ls : Nat) (xs : Nat → Int32) : Method → Array Value → State → Prop := fun meth args s => zW b0 s ∧ va_X b Ls xs s s.heap ∧ b < s.heap.size ∧ ¬ b0 ≤ b ∧ args = #[Value.ref b] ∧ meth.sig.returnType = ret ∧ s.heap.size ≤ b0
theorem g_slen {l : Launch} {D : va_G} {T : List Frame → Array Value → State → State → Prop} {L : List (Nat × Value)} {k n pc b Ls : Nat} {xs : Nat → Int32} {rest : List Value} (hdg : decode cL_law pc = .ok (.arraylength, 1)) (kk : G l D Z b0 room_1 RL cL_law 8 (gEl b0 b Ls xs) T V L k n (pc + 1) (.int (nI Ls) :: rest)) : G l D Z b0 room_1 RL cL_law 8 (gEl b0 b Ls xs) T V L k n pc (.ref b :: rest) := fun p e s m args below meth c H locs ls X hE hV hS hL =>
  va_slen X.1 X.2.1 hE.2.1 hE.2.2.1 hE.2.2.2.1 hS hdg (kk p e s m args below meth c H locs ls X hE hV hS hL)
theorem g_sld {l : Launch} {D : va_G} {T : List Frame → Array Value → State → State → Prop} {L : List (Nat × Value)} {k n pc b Ls j : Nat} {xs : Nat → Int32} {x : Int32} {rest : List Value} (hj : j < Ls) (hL3 : Ls ≤ 3072) (hx : xs j = x) (hdg : decode cL_law pc = .ok (.iaload, 1)) (kk : G l D Z b0 room_1 RL cL_law 8 (gEl b0 b Ls xs) T V L k n (pc + 1) (.int x :: rest)) : G l D Z b0 room_1 RL cL_law 8 (gEl b0 b Ls xs) T V L k n pc (.int (nI j) :: .ref b :: rest) := fun p e s m args below meth c H locs ls X hE hV hS hL =>
  va_sld X.1 X.2.1 hE.2.1 hE.2.2.1 hE.2.2.2.1 hS (vp_inN hj (by omega)) hdg (by rw [nI_toNat (by omega), hx]; exact kk p e s m args below meth c H locs ls X hE hV hS hL)
theorem g_lawend {l : Launch} {D : va_G} {L : List (Nat × Value)} {k n b Ls : Nat} {xs : Nat → Int32} (hk : k ≤ 60000) (hn : n ≤ 60000) : G l D Z b0 room_1 RL cL_law 8 (gEl b0 b Ls xs) lw_Z V L k n 1311 [.int (nI 1)] := fun p e s m args below meth c H locs ls X hE hV hS hL => by
  obtain ⟨-, -, hbl, hbA, rfl, hr, hsz⟩ := hE
  refine va_forget (fun q hq => Nat.le_trans hsz (hS.2.2 q hq)) ?_
  refine W.widen (Nat.le_trans hk rm_c) (Nat.le_trans hn rm_s) ?_
  exact lw_ret X.1 X.2.1 hr X.2.2.2.2.2.2.2 dL_law_1311
end LW
