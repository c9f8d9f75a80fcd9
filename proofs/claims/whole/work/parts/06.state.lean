def updN (f : Nat → Nat) (k x : Nat) : Nat → Nat := fun j => if j = k then x else f j
theorem updN_eq (f : Nat → Nat) (k x : Nat) : updN f k x k = x := if_pos rfl
theorem updN_ne {f : Nat → Nat} {k x j : Nat} (h : j ≠ k) : updN f k x j = f j := if_neg h
theorem upd_eq (f : Nat → Int32) (k : Nat) (x : Int32) : upd f k x k = x := if_pos rfl
theorem upd_ne {f : Nat → Int32} {k j : Nat} {x : Int32} (h : j ≠ k) : upd f k x j = f j := if_neg h
def nf (f : Nat → Nat) : Nat → Int32 := fun j => nI (f j)
theorem upd_nf (f : Nat → Nat) (k x : Nat) : upd (nf f) k (nI x) = nf (updN f k x) := by
  funext j
  by_cases h : j = k
  · subst h; simp [upd, nf, updN]
  · simp [upd, nf, updN, h]
/-! ===== a block of cells at the addresses ad 0, ad 1 .. ===== -/
def bk (ad : Nat → Nat) : Nat → (Nat → va_E) → HV → HV
  | 0, _, V => V
  | n + 1, f, V => upv (bk ad n f V) (ad n) (f n)
def inj (ad : Nat → Nat) (n : Nat) : Prop := ∀ i, i < n → ∀ j, j < n → ad i = ad j → i = j
theorem bk_get {ad : Nat → Nat} {f : Nat → va_E} {V : HV} {m : Nat} : ∀ {n : Nat}, inj ad m → n ≤ m → ∀ {k : Nat}, k < n → bk ad n f V (ad k) = some (f k)
  | 0, _, _, _, hk => absurd hk (Nat.not_lt_zero _)
  | n + 1, hi, hm, k, hk => by
    by_cases h : k = n
    · subst h; exact upv_eq _ _ _
    · have h2 : ad k ≠ ad n := fun q => h (hi k (by omega) n (by omega) q)
      exact (upv_ne h2).trans (bk_get hi (by omega) (by omega))
theorem bk_congr {ad : Nat → Nat} {f g : Nat → va_E} {V : HV} : ∀ {n : Nat}, (∀ k, k < n → f k = g k) → bk ad n f V = bk ad n g V
  | 0, _ => rfl
  | n + 1, h => by
    show upv _ _ _ = upv _ _ _
    rw [bk_congr (n := n) (fun k hk => h k (by omega)), h n (by omega)]
theorem upv_upv (V : HV) (a : Nat) (e e' : va_E) : upv (upv V a e) a e' = upv V a e' := by
  funext q
  by_cases h : q = a <;> simp [upv, h]
theorem upv_comm {V : HV} {a b : Nat} (h : a ≠ b) (e e' : va_E) : upv (upv V a e) b e' = upv (upv V b e') a e := by
  funext q
  by_cases h1 : q = a
  · subst h1; simp [upv, h]
  · by_cases h2 : q = b
    · subst h2; simp [upv, h1]
    · simp [upv, h1, h2]
theorem bk_set {ad : Nat → Nat} {f g : Nat → va_E} {V : HV} {m : Nat} {e : va_E} {k : Nat} : ∀ {n : Nat}, inj ad m → n ≤ m → k < n → (∀ j, j < n → g j = if j = k then e else f j) → upv (bk ad n f V) (ad k) e = bk ad n g V
  | 0, _, _, hk, _ => absurd hk (Nat.not_lt_zero _)
  | n + 1, hi, hm, hk, hg => by
    show upv (upv (bk ad n f V) (ad n) (f n)) (ad k) e = upv (bk ad n g V) (ad n) (g n)
    by_cases h : k = n
    · subst h
      rw [upv_upv, hg k (by omega), if_pos rfl, bk_congr (f := f) (g := g) (fun j hj => by rw [hg j (by omega), if_neg (by omega)])]
    · have h2 : ad n ≠ ad k := fun q => h (hi k (by omega) n (by omega) q.symm)
      rw [upv_comm h2, bk_set (n := n) (g := g) hi (by omega) (by omega) (fun j hj => hg j (by omega)), hg n (by omega), if_neg (by omega)]
theorem bk_out {ad : Nat → Nat} {f : Nat → va_E} {V : HV} {q : Nat} : ∀ {n : Nat}, (∀ k, k < n → q ≠ ad k) → bk ad n f V q = V q
  | 0, _ => rfl
  | n + 1, h => (upv_ne (h n (by omega))).trans (bk_out (fun k hk => h k (by omega)))
theorem bk_upv {ad : Nat → Nat} {f : Nat → va_E} {V : HV} {a : Nat} {e : va_E} : ∀ {n : Nat}, (∀ k, k < n → a ≠ ad k) → upv (bk ad n f V) a e = bk ad n f (upv V a e)
  | 0, _ => rfl
  | n + 1, h => by
    show upv (upv (bk ad n f V) (ad n) (f n)) a e = upv (bk ad n f (upv V a e)) (ad n) (f n)
    rw [upv_comm (fun q => h n (by omega) q.symm), bk_upv (fun k hk => h k (by omega))]
/-- the addresses of a block: apart, and new -/
def aB (b0 n : Nat) (ad : Nat → Nat) : Prop := inj ad n ∧ ∀ k, k < n → b0 ≤ ad k
/-! ===== a mountain as the reference has it: kinds, figures, the gangs' cells, hours ===== -/
def enc (kd fg pl : Nat → Nat) (hr : Nat → Int32) : Nat → Int32 := fun j => if j < 40 then (if j % 2 = 0 then nI (kd (j / 2)) else nI (fg (j / 2))) else (if j % 2 = 0 then nI (pl ((j - 40) / 2)) else hr ((j - 40) / 2))
theorem enc_k {kd fg pl : Nat → Nat} {hr : Nat → Int32} {c : Nat} (h : c < 20) : enc kd fg pl hr (2 * c) = nI (kd c) := by
  unfold enc; rw [if_pos (by omega), if_pos (by omega), show 2 * c / 2 = c by omega]
theorem enc_f {kd fg pl : Nat → Nat} {hr : Nat → Int32} {c : Nat} (h : c < 20) : enc kd fg pl hr (2 * c + 1) = nI (fg c) := by
  unfold enc; rw [if_pos (by omega), if_neg (by omega), show (2 * c + 1) / 2 = c by omega]
theorem enc_p {kd fg pl : Nat → Nat} {hr : Nat → Int32} {g : Nat} : enc kd fg pl hr (40 + 2 * g) = nI (pl g) := by
  unfold enc; rw [if_neg (by omega), if_pos (by omega), show (40 + 2 * g - 40) / 2 = g by omega]
theorem enc_h {kd fg pl : Nat → Nat} {hr : Nat → Int32} {g : Nat} : enc kd fg pl hr (40 + 2 * g + 1) = hr g := by
  unfold enc; rw [if_neg (by omega), if_neg (by omega), show (40 + 2 * g + 1 - 40) / 2 = g by omega]
theorem enc_sk {kd fg pl : Nat → Nat} {hr : Nat → Int32} {c x : Nat} (h : c < 20) : upd (enc kd fg pl hr) (2 * c) (nI x) = enc (updN kd c x) fg pl hr := by
  funext j; unfold upd enc updN
  by_cases h1 : j = 2 * c
  · subst h1; rw [if_pos rfl, if_pos (by omega), if_pos (by omega), if_pos (by omega)]
  · rw [if_neg h1]
    by_cases h2 : j < 40 <;> by_cases h3 : j % 2 = 0 <;> simp only [h2, h3, if_true, if_false]
    rw [if_neg (by omega)]
theorem enc_sf {kd fg pl : Nat → Nat} {hr : Nat → Int32} {c x : Nat} (h : c < 20) : upd (enc kd fg pl hr) (2 * c + 1) (nI x) = enc kd (updN fg c x) pl hr := by
  funext j; unfold upd enc updN
  by_cases h1 : j = 2 * c + 1
  · subst h1; rw [if_pos rfl, if_pos (by omega), if_neg (by omega), if_pos (by omega)]
  · rw [if_neg h1]
    by_cases h2 : j < 40 <;> by_cases h3 : j % 2 = 0 <;> simp only [h2, h3, if_true, if_false]
    rw [if_neg (by omega)]
theorem enc_sp {kd fg pl : Nat → Nat} {hr : Nat → Int32} {g x : Nat} : upd (enc kd fg pl hr) (40 + 2 * g) (nI x) = enc kd fg (updN pl g x) hr := by
  funext j; unfold upd enc updN
  by_cases h1 : j = 40 + 2 * g
  · subst h1; rw [if_pos rfl, if_neg (by omega), if_pos (by omega), if_pos (by omega)]
  · rw [if_neg h1]
    by_cases h2 : j < 40 <;> by_cases h3 : j % 2 = 0 <;> simp only [h2, h3, if_true, if_false]
    rw [if_neg (by omega)]
theorem enc_sh {kd fg pl : Nat → Nat} {hr : Nat → Int32} {g : Nat} {x : Int32} : upd (enc kd fg pl hr) (40 + 2 * g + 1) x = enc kd fg pl (upd hr g x) := by
  funext j; unfold upd enc
  by_cases h1 : j = 40 + 2 * g + 1
  · subst h1; rw [if_pos rfl, if_neg (by omega), if_neg (by omega)]; show x = if _ then x else _; rw [if_pos (by omega)]
  · rw [if_neg h1]
    by_cases h2 : j < 40 <;> by_cases h3 : j % 2 = 0 <;> simp only [h2, h3, if_true, if_false]
    rw [if_neg (by omega)]
def bI (b : Bool) : Int32 := bif b then nI 1 else nI 0
/-! ===== the memory of the reference ===== -/
def pM (Z : Nat → ClassId) (ad : Nat → Nat) (hi th po ba en se : Int32) (s im rd mi kp so sz el ki kf ti lo wa nu li to ot : Nat → Int32) : Nat → va_E
  | 0 => vO 12 [.ref (ad 1), .ref (ad 2), .ref (ad 3), .ref (ad 4), .ref (ad 5), .ref (ad 6), .ref (ad 7), .ref (ad 8), .ref (ad 9), .ref (ad 10), .int hi, .int th, .ref (ad 11), .ref (ad 12), .ref (ad 13), .int po, .int ba, .int en, .ref (ad 14), .ref (ad 15), .ref (ad 16), .ref (ad 17), .int se]
  | 1 => vI Z 0 44 s
  | 2 => vI Z 0 44 im
  | 3 => vI Z 0 44 rd
  | 4 => vI Z 0 44 mi
  | 5 => vI Z 0 8 kp
  | 6 => vI Z 0 8 so
  | 7 => vI Z 0 8 sz
  | 8 => vI Z 0 800 el
  | 9 => vI Z 0 8 ki
  | 10 => vI Z 0 8 kf
  | 11 => vI Z 0 20 ti
  | 12 => vI Z 0 20 lo
  | 13 => vI Z 0 20 wa
  | 14 => vI Z 0 4 nu
  | 15 => vI Z 0 400 li
  | 16 => vI Z 0 20 to
  | _ => vI Z 0 20 ot
def wM (Z : Nat → ClassId) (ad : Nat → Nat) (hi th po ba en se : Int32) (s im rd mi kp so sz el ki kf ti lo wa nu li to ot : Nat → Int32) (V : HV) : HV := bk ad 18 (pM Z ad hi th po ba en se s im rd mi kp so sz el ki kf ti lo wa nu li to ot) V
section MR
variable {b0 : Nat} {Z : Nat → ClassId} {ad : Nat → Nat} {hi th po ba en se : Int32} {s im rd mi kp so sz el ki kf ti lo wa nu li to ot : Nat → Int32} {V : HV}
theorem wM_0 (h : aB b0 18 ad) : wM Z ad hi th po ba en se s im rd mi kp so sz el ki kf ti lo wa nu li to ot V (ad 0) = some (vO 12 [.ref (ad 1), .ref (ad 2), .ref (ad 3), .ref (ad 4), .ref (ad 5), .ref (ad 6), .ref (ad 7), .ref (ad 8), .ref (ad 9), .ref (ad 10), .int hi, .int th, .ref (ad 11), .ref (ad 12), .ref (ad 13), .int po, .int ba, .int en, .ref (ad 14), .ref (ad 15), .ref (ad 16), .ref (ad 17), .int se]) := bk_get (k := 0) h.1 (Nat.le_refl _) (by decide)
theorem wM_s (h : aB b0 18 ad) : wM Z ad hi th po ba en se s im rd mi kp so sz el ki kf ti lo wa nu li to ot V (ad 1) = some (vI Z 0 44 s) := bk_get (k := 1) h.1 (Nat.le_refl _) (by decide)
theorem wMs_s {x9 : Nat → Int32} (h : aB b0 18 ad) : upv (wM Z ad hi th po ba en se s im rd mi kp so sz el ki kf ti lo wa nu li to ot V) (ad 1) (vI Z 0 44 x9) = wM Z ad hi th po ba en se x9 im rd mi kp so sz el ki kf ti lo wa nu li to ot V := bk_set (k := 1) h.1 (Nat.le_refl _) (by decide) (fun j hj => by
    match j, hj with
    | 0, _ => rfl
    | 1, _ => rfl
    | 2, _ => rfl
    | 3, _ => rfl
    | 4, _ => rfl
    | 5, _ => rfl
    | 6, _ => rfl
    | 7, _ => rfl
    | 8, _ => rfl
    | 9, _ => rfl
    | 10, _ => rfl
    | 11, _ => rfl
    | 12, _ => rfl
    | 13, _ => rfl
    | 14, _ => rfl
    | 15, _ => rfl
    | 16, _ => rfl
    | 17, _ => rfl
    | n + 18, hn => exact absurd hn (by omega))
theorem wM_im (h : aB b0 18 ad) : wM Z ad hi th po ba en se s im rd mi kp so sz el ki kf ti lo wa nu li to ot V (ad 2) = some (vI Z 0 44 im) := bk_get (k := 2) h.1 (Nat.le_refl _) (by decide)
theorem wMs_im {x9 : Nat → Int32} (h : aB b0 18 ad) : upv (wM Z ad hi th po ba en se s im rd mi kp so sz el ki kf ti lo wa nu li to ot V) (ad 2) (vI Z 0 44 x9) = wM Z ad hi th po ba en se s x9 rd mi kp so sz el ki kf ti lo wa nu li to ot V := bk_set (k := 2) h.1 (Nat.le_refl _) (by decide) (fun j hj => by
    match j, hj with
    | 0, _ => rfl
    | 1, _ => rfl
    | 2, _ => rfl
    | 3, _ => rfl
    | 4, _ => rfl
    | 5, _ => rfl
    | 6, _ => rfl
    | 7, _ => rfl
    | 8, _ => rfl
    | 9, _ => rfl
    | 10, _ => rfl
    | 11, _ => rfl
    | 12, _ => rfl
    | 13, _ => rfl
    | 14, _ => rfl
    | 15, _ => rfl
    | 16, _ => rfl
    | 17, _ => rfl
    | n + 18, hn => exact absurd hn (by omega))
theorem wM_rd (h : aB b0 18 ad) : wM Z ad hi th po ba en se s im rd mi kp so sz el ki kf ti lo wa nu li to ot V (ad 3) = some (vI Z 0 44 rd) := bk_get (k := 3) h.1 (Nat.le_refl _) (by decide)
theorem wMs_rd {x9 : Nat → Int32} (h : aB b0 18 ad) : upv (wM Z ad hi th po ba en se s im rd mi kp so sz el ki kf ti lo wa nu li to ot V) (ad 3) (vI Z 0 44 x9) = wM Z ad hi th po ba en se s im x9 mi kp so sz el ki kf ti lo wa nu li to ot V := bk_set (k := 3) h.1 (Nat.le_refl _) (by decide) (fun j hj => by
    match j, hj with
    | 0, _ => rfl
    | 1, _ => rfl
    | 2, _ => rfl
    | 3, _ => rfl
    | 4, _ => rfl
    | 5, _ => rfl
    | 6, _ => rfl
    | 7, _ => rfl
    | 8, _ => rfl
    | 9, _ => rfl
    | 10, _ => rfl
    | 11, _ => rfl
    | 12, _ => rfl
    | 13, _ => rfl
    | 14, _ => rfl
    | 15, _ => rfl
    | 16, _ => rfl
    | 17, _ => rfl
    | n + 18, hn => exact absurd hn (by omega))
theorem wM_mi (h : aB b0 18 ad) : wM Z ad hi th po ba en se s im rd mi kp so sz el ki kf ti lo wa nu li to ot V (ad 4) = some (vI Z 0 44 mi) := bk_get (k := 4) h.1 (Nat.le_refl _) (by decide)
theorem wMs_mi {x9 : Nat → Int32} (h : aB b0 18 ad) : upv (wM Z ad hi th po ba en se s im rd mi kp so sz el ki kf ti lo wa nu li to ot V) (ad 4) (vI Z 0 44 x9) = wM Z ad hi th po ba en se s im rd x9 kp so sz el ki kf ti lo wa nu li to ot V := bk_set (k := 4) h.1 (Nat.le_refl _) (by decide) (fun j hj => by
    match j, hj with
    | 0, _ => rfl
    | 1, _ => rfl
    | 2, _ => rfl
    | 3, _ => rfl
    | 4, _ => rfl
    | 5, _ => rfl
    | 6, _ => rfl
    | 7, _ => rfl
    | 8, _ => rfl
    | 9, _ => rfl
    | 10, _ => rfl
    | 11, _ => rfl
    | 12, _ => rfl
    | 13, _ => rfl
    | 14, _ => rfl
    | 15, _ => rfl
    | 16, _ => rfl
    | 17, _ => rfl
    | n + 18, hn => exact absurd hn (by omega))
theorem wM_kp (h : aB b0 18 ad) : wM Z ad hi th po ba en se s im rd mi kp so sz el ki kf ti lo wa nu li to ot V (ad 5) = some (vI Z 0 8 kp) := bk_get (k := 5) h.1 (Nat.le_refl _) (by decide)
theorem wMs_kp {x9 : Nat → Int32} (h : aB b0 18 ad) : upv (wM Z ad hi th po ba en se s im rd mi kp so sz el ki kf ti lo wa nu li to ot V) (ad 5) (vI Z 0 8 x9) = wM Z ad hi th po ba en se s im rd mi x9 so sz el ki kf ti lo wa nu li to ot V := bk_set (k := 5) h.1 (Nat.le_refl _) (by decide) (fun j hj => by
    match j, hj with
    | 0, _ => rfl
    | 1, _ => rfl
    | 2, _ => rfl
    | 3, _ => rfl
    | 4, _ => rfl
    | 5, _ => rfl
    | 6, _ => rfl
    | 7, _ => rfl
    | 8, _ => rfl
    | 9, _ => rfl
    | 10, _ => rfl
    | 11, _ => rfl
    | 12, _ => rfl
    | 13, _ => rfl
    | 14, _ => rfl
    | 15, _ => rfl
    | 16, _ => rfl
    | 17, _ => rfl
    | n + 18, hn => exact absurd hn (by omega))
theorem wM_so (h : aB b0 18 ad) : wM Z ad hi th po ba en se s im rd mi kp so sz el ki kf ti lo wa nu li to ot V (ad 6) = some (vI Z 0 8 so) := bk_get (k := 6) h.1 (Nat.le_refl _) (by decide)
theorem wMs_so {x9 : Nat → Int32} (h : aB b0 18 ad) : upv (wM Z ad hi th po ba en se s im rd mi kp so sz el ki kf ti lo wa nu li to ot V) (ad 6) (vI Z 0 8 x9) = wM Z ad hi th po ba en se s im rd mi kp x9 sz el ki kf ti lo wa nu li to ot V := bk_set (k := 6) h.1 (Nat.le_refl _) (by decide) (fun j hj => by
    match j, hj with
    | 0, _ => rfl
    | 1, _ => rfl
    | 2, _ => rfl
    | 3, _ => rfl
    | 4, _ => rfl
    | 5, _ => rfl
    | 6, _ => rfl
    | 7, _ => rfl
    | 8, _ => rfl
    | 9, _ => rfl
    | 10, _ => rfl
    | 11, _ => rfl
    | 12, _ => rfl
    | 13, _ => rfl
    | 14, _ => rfl
    | 15, _ => rfl
    | 16, _ => rfl
    | 17, _ => rfl
    | n + 18, hn => exact absurd hn (by omega))
theorem wM_sz (h : aB b0 18 ad) : wM Z ad hi th po ba en se s im rd mi kp so sz el ki kf ti lo wa nu li to ot V (ad 7) = some (vI Z 0 8 sz) := bk_get (k := 7) h.1 (Nat.le_refl _) (by decide)
theorem wMs_sz {x9 : Nat → Int32} (h : aB b0 18 ad) : upv (wM Z ad hi th po ba en se s im rd mi kp so sz el ki kf ti lo wa nu li to ot V) (ad 7) (vI Z 0 8 x9) = wM Z ad hi th po ba en se s im rd mi kp so x9 el ki kf ti lo wa nu li to ot V := bk_set (k := 7) h.1 (Nat.le_refl _) (by decide) (fun j hj => by
    match j, hj with
    | 0, _ => rfl
    | 1, _ => rfl
    | 2, _ => rfl
    | 3, _ => rfl
    | 4, _ => rfl
    | 5, _ => rfl
    | 6, _ => rfl
    | 7, _ => rfl
    | 8, _ => rfl
    | 9, _ => rfl
    | 10, _ => rfl
    | 11, _ => rfl
    | 12, _ => rfl
    | 13, _ => rfl
    | 14, _ => rfl
    | 15, _ => rfl
    | 16, _ => rfl
    | 17, _ => rfl
    | n + 18, hn => exact absurd hn (by omega))
theorem wM_el (h : aB b0 18 ad) : wM Z ad hi th po ba en se s im rd mi kp so sz el ki kf ti lo wa nu li to ot V (ad 8) = some (vI Z 0 800 el) := bk_get (k := 8) h.1 (Nat.le_refl _) (by decide)
theorem wMs_el {x9 : Nat → Int32} (h : aB b0 18 ad) : upv (wM Z ad hi th po ba en se s im rd mi kp so sz el ki kf ti lo wa nu li to ot V) (ad 8) (vI Z 0 800 x9) = wM Z ad hi th po ba en se s im rd mi kp so sz x9 ki kf ti lo wa nu li to ot V := bk_set (k := 8) h.1 (Nat.le_refl _) (by decide) (fun j hj => by
    match j, hj with
    | 0, _ => rfl
    | 1, _ => rfl
    | 2, _ => rfl
    | 3, _ => rfl
    | 4, _ => rfl
    | 5, _ => rfl
    | 6, _ => rfl
    | 7, _ => rfl
    | 8, _ => rfl
    | 9, _ => rfl
    | 10, _ => rfl
    | 11, _ => rfl
    | 12, _ => rfl
    | 13, _ => rfl
    | 14, _ => rfl
    | 15, _ => rfl
    | 16, _ => rfl
    | 17, _ => rfl
    | n + 18, hn => exact absurd hn (by omega))
theorem wM_ki (h : aB b0 18 ad) : wM Z ad hi th po ba en se s im rd mi kp so sz el ki kf ti lo wa nu li to ot V (ad 9) = some (vI Z 0 8 ki) := bk_get (k := 9) h.1 (Nat.le_refl _) (by decide)
theorem wMs_ki {x9 : Nat → Int32} (h : aB b0 18 ad) : upv (wM Z ad hi th po ba en se s im rd mi kp so sz el ki kf ti lo wa nu li to ot V) (ad 9) (vI Z 0 8 x9) = wM Z ad hi th po ba en se s im rd mi kp so sz el x9 kf ti lo wa nu li to ot V := bk_set (k := 9) h.1 (Nat.le_refl _) (by decide) (fun j hj => by
    match j, hj with
    | 0, _ => rfl
    | 1, _ => rfl
    | 2, _ => rfl
    | 3, _ => rfl
    | 4, _ => rfl
    | 5, _ => rfl
    | 6, _ => rfl
    | 7, _ => rfl
    | 8, _ => rfl
    | 9, _ => rfl
    | 10, _ => rfl
    | 11, _ => rfl
    | 12, _ => rfl
    | 13, _ => rfl
    | 14, _ => rfl
    | 15, _ => rfl
    | 16, _ => rfl
    | 17, _ => rfl
    | n + 18, hn => exact absurd hn (by omega))
theorem wM_kf (h : aB b0 18 ad) : wM Z ad hi th po ba en se s im rd mi kp so sz el ki kf ti lo wa nu li to ot V (ad 10) = some (vI Z 0 8 kf) := bk_get (k := 10) h.1 (Nat.le_refl _) (by decide)
theorem wMs_kf {x9 : Nat → Int32} (h : aB b0 18 ad) : upv (wM Z ad hi th po ba en se s im rd mi kp so sz el ki kf ti lo wa nu li to ot V) (ad 10) (vI Z 0 8 x9) = wM Z ad hi th po ba en se s im rd mi kp so sz el ki x9 ti lo wa nu li to ot V := bk_set (k := 10) h.1 (Nat.le_refl _) (by decide) (fun j hj => by
    match j, hj with
    | 0, _ => rfl
    | 1, _ => rfl
    | 2, _ => rfl
    | 3, _ => rfl
    | 4, _ => rfl
    | 5, _ => rfl
    | 6, _ => rfl
    | 7, _ => rfl
    | 8, _ => rfl
    | 9, _ => rfl
    | 10, _ => rfl
    | 11, _ => rfl
    | 12, _ => rfl
    | 13, _ => rfl
    | 14, _ => rfl
    | 15, _ => rfl
    | 16, _ => rfl
    | 17, _ => rfl
    | n + 18, hn => exact absurd hn (by omega))
theorem wM_ti (h : aB b0 18 ad) : wM Z ad hi th po ba en se s im rd mi kp so sz el ki kf ti lo wa nu li to ot V (ad 11) = some (vI Z 0 20 ti) := bk_get (k := 11) h.1 (Nat.le_refl _) (by decide)
theorem wMs_ti {x9 : Nat → Int32} (h : aB b0 18 ad) : upv (wM Z ad hi th po ba en se s im rd mi kp so sz el ki kf ti lo wa nu li to ot V) (ad 11) (vI Z 0 20 x9) = wM Z ad hi th po ba en se s im rd mi kp so sz el ki kf x9 lo wa nu li to ot V := bk_set (k := 11) h.1 (Nat.le_refl _) (by decide) (fun j hj => by
    match j, hj with
    | 0, _ => rfl
    | 1, _ => rfl
    | 2, _ => rfl
    | 3, _ => rfl
    | 4, _ => rfl
    | 5, _ => rfl
    | 6, _ => rfl
    | 7, _ => rfl
    | 8, _ => rfl
    | 9, _ => rfl
    | 10, _ => rfl
    | 11, _ => rfl
    | 12, _ => rfl
    | 13, _ => rfl
    | 14, _ => rfl
    | 15, _ => rfl
    | 16, _ => rfl
    | 17, _ => rfl
    | n + 18, hn => exact absurd hn (by omega))
theorem wM_lo (h : aB b0 18 ad) : wM Z ad hi th po ba en se s im rd mi kp so sz el ki kf ti lo wa nu li to ot V (ad 12) = some (vI Z 0 20 lo) := bk_get (k := 12) h.1 (Nat.le_refl _) (by decide)
theorem wMs_lo {x9 : Nat → Int32} (h : aB b0 18 ad) : upv (wM Z ad hi th po ba en se s im rd mi kp so sz el ki kf ti lo wa nu li to ot V) (ad 12) (vI Z 0 20 x9) = wM Z ad hi th po ba en se s im rd mi kp so sz el ki kf ti x9 wa nu li to ot V := bk_set (k := 12) h.1 (Nat.le_refl _) (by decide) (fun j hj => by
    match j, hj with
    | 0, _ => rfl
    | 1, _ => rfl
    | 2, _ => rfl
    | 3, _ => rfl
    | 4, _ => rfl
    | 5, _ => rfl
    | 6, _ => rfl
    | 7, _ => rfl
    | 8, _ => rfl
    | 9, _ => rfl
    | 10, _ => rfl
    | 11, _ => rfl
    | 12, _ => rfl
    | 13, _ => rfl
    | 14, _ => rfl
    | 15, _ => rfl
    | 16, _ => rfl
    | 17, _ => rfl
    | n + 18, hn => exact absurd hn (by omega))
theorem wM_wa (h : aB b0 18 ad) : wM Z ad hi th po ba en se s im rd mi kp so sz el ki kf ti lo wa nu li to ot V (ad 13) = some (vI Z 0 20 wa) := bk_get (k := 13) h.1 (Nat.le_refl _) (by decide)
theorem wMs_wa {x9 : Nat → Int32} (h : aB b0 18 ad) : upv (wM Z ad hi th po ba en se s im rd mi kp so sz el ki kf ti lo wa nu li to ot V) (ad 13) (vI Z 0 20 x9) = wM Z ad hi th po ba en se s im rd mi kp so sz el ki kf ti lo x9 nu li to ot V := bk_set (k := 13) h.1 (Nat.le_refl _) (by decide) (fun j hj => by
    match j, hj with
    | 0, _ => rfl
    | 1, _ => rfl
    | 2, _ => rfl
    | 3, _ => rfl
    | 4, _ => rfl
    | 5, _ => rfl
    | 6, _ => rfl
    | 7, _ => rfl
    | 8, _ => rfl
    | 9, _ => rfl
    | 10, _ => rfl
    | 11, _ => rfl
    | 12, _ => rfl
    | 13, _ => rfl
    | 14, _ => rfl
    | 15, _ => rfl
    | 16, _ => rfl
    | 17, _ => rfl
    | n + 18, hn => exact absurd hn (by omega))
theorem wM_nu (h : aB b0 18 ad) : wM Z ad hi th po ba en se s im rd mi kp so sz el ki kf ti lo wa nu li to ot V (ad 14) = some (vI Z 0 4 nu) := bk_get (k := 14) h.1 (Nat.le_refl _) (by decide)
theorem wMs_nu {x9 : Nat → Int32} (h : aB b0 18 ad) : upv (wM Z ad hi th po ba en se s im rd mi kp so sz el ki kf ti lo wa nu li to ot V) (ad 14) (vI Z 0 4 x9) = wM Z ad hi th po ba en se s im rd mi kp so sz el ki kf ti lo wa x9 li to ot V := bk_set (k := 14) h.1 (Nat.le_refl _) (by decide) (fun j hj => by
    match j, hj with
    | 0, _ => rfl
    | 1, _ => rfl
    | 2, _ => rfl
    | 3, _ => rfl
    | 4, _ => rfl
    | 5, _ => rfl
    | 6, _ => rfl
    | 7, _ => rfl
    | 8, _ => rfl
    | 9, _ => rfl
    | 10, _ => rfl
    | 11, _ => rfl
    | 12, _ => rfl
    | 13, _ => rfl
    | 14, _ => rfl
    | 15, _ => rfl
    | 16, _ => rfl
    | 17, _ => rfl
    | n + 18, hn => exact absurd hn (by omega))
theorem wM_li (h : aB b0 18 ad) : wM Z ad hi th po ba en se s im rd mi kp so sz el ki kf ti lo wa nu li to ot V (ad 15) = some (vI Z 0 400 li) := bk_get (k := 15) h.1 (Nat.le_refl _) (by decide)
theorem wMs_li {x9 : Nat → Int32} (h : aB b0 18 ad) : upv (wM Z ad hi th po ba en se s im rd mi kp so sz el ki kf ti lo wa nu li to ot V) (ad 15) (vI Z 0 400 x9) = wM Z ad hi th po ba en se s im rd mi kp so sz el ki kf ti lo wa nu x9 to ot V := bk_set (k := 15) h.1 (Nat.le_refl _) (by decide) (fun j hj => by
    match j, hj with
    | 0, _ => rfl
    | 1, _ => rfl
    | 2, _ => rfl
    | 3, _ => rfl
    | 4, _ => rfl
    | 5, _ => rfl
    | 6, _ => rfl
    | 7, _ => rfl
    | 8, _ => rfl
    | 9, _ => rfl
    | 10, _ => rfl
    | 11, _ => rfl
    | 12, _ => rfl
    | 13, _ => rfl
    | 14, _ => rfl
    | 15, _ => rfl
    | 16, _ => rfl
    | 17, _ => rfl
    | n + 18, hn => exact absurd hn (by omega))
theorem wM_to (h : aB b0 18 ad) : wM Z ad hi th po ba en se s im rd mi kp so sz el ki kf ti lo wa nu li to ot V (ad 16) = some (vI Z 0 20 to) := bk_get (k := 16) h.1 (Nat.le_refl _) (by decide)
theorem wMs_to {x9 : Nat → Int32} (h : aB b0 18 ad) : upv (wM Z ad hi th po ba en se s im rd mi kp so sz el ki kf ti lo wa nu li to ot V) (ad 16) (vI Z 0 20 x9) = wM Z ad hi th po ba en se s im rd mi kp so sz el ki kf ti lo wa nu li x9 ot V := bk_set (k := 16) h.1 (Nat.le_refl _) (by decide) (fun j hj => by
    match j, hj with
    | 0, _ => rfl
    | 1, _ => rfl
    | 2, _ => rfl
    | 3, _ => rfl
    | 4, _ => rfl
    | 5, _ => rfl
    | 6, _ => rfl
    | 7, _ => rfl
    | 8, _ => rfl
    | 9, _ => rfl
    | 10, _ => rfl
    | 11, _ => rfl
    | 12, _ => rfl
    | 13, _ => rfl
    | 14, _ => rfl
    | 15, _ => rfl
    | 16, _ => rfl
    | 17, _ => rfl
    | n + 18, hn => exact absurd hn (by omega))
theorem wM_ot (h : aB b0 18 ad) : wM Z ad hi th po ba en se s im rd mi kp so sz el ki kf ti lo wa nu li to ot V (ad 17) = some (vI Z 0 20 ot) := bk_get (k := 17) h.1 (Nat.le_refl _) (by decide)
theorem wMs_ot {x9 : Nat → Int32} (h : aB b0 18 ad) : upv (wM Z ad hi th po ba en se s im rd mi kp so sz el ki kf ti lo wa nu li to ot V) (ad 17) (vI Z 0 20 x9) = wM Z ad hi th po ba en se s im rd mi kp so sz el ki kf ti lo wa nu li to x9 V := bk_set (k := 17) h.1 (Nat.le_refl _) (by decide) (fun j hj => by
    match j, hj with
    | 0, _ => rfl
    | 1, _ => rfl
    | 2, _ => rfl
    | 3, _ => rfl
    | 4, _ => rfl
    | 5, _ => rfl
    | 6, _ => rfl
    | 7, _ => rfl
    | 8, _ => rfl
    | 9, _ => rfl
    | 10, _ => rfl
    | 11, _ => rfl
    | 12, _ => rfl
    | 13, _ => rfl
    | 14, _ => rfl
    | 15, _ => rfl
    | 16, _ => rfl
    | 17, _ => rfl
    | n + 18, hn => exact absurd hn (by omega))
theorem wMs_hi {x9 : Int32} (h : aB b0 18 ad) : upv (wM Z ad hi th po ba en se s im rd mi kp so sz el ki kf ti lo wa nu li to ot V) (ad 0) (vO 12 (([.ref (ad 1), .ref (ad 2), .ref (ad 3), .ref (ad 4), .ref (ad 5), .ref (ad 6), .ref (ad 7), .ref (ad 8), .ref (ad 9), .ref (ad 10), .int hi, .int th, .ref (ad 11), .ref (ad 12), .ref (ad 13), .int po, .int ba, .int en, .ref (ad 14), .ref (ad 15), .ref (ad 16), .ref (ad 17), .int se] : List Value).set 10 (.int x9))) = wM Z ad x9 th po ba en se s im rd mi kp so sz el ki kf ti lo wa nu li to ot V := bk_set (k := 0) h.1 (Nat.le_refl _) (by decide) (fun j hj => by
    match j, hj with
    | 0, _ => rfl
    | 1, _ => rfl
    | 2, _ => rfl
    | 3, _ => rfl
    | 4, _ => rfl
    | 5, _ => rfl
    | 6, _ => rfl
    | 7, _ => rfl
    | 8, _ => rfl
    | 9, _ => rfl
    | 10, _ => rfl
    | 11, _ => rfl
    | 12, _ => rfl
    | 13, _ => rfl
    | 14, _ => rfl
    | 15, _ => rfl
    | 16, _ => rfl
    | 17, _ => rfl
    | n + 18, hn => exact absurd hn (by omega))
theorem wMs_th {x9 : Int32} (h : aB b0 18 ad) : upv (wM Z ad hi th po ba en se s im rd mi kp so sz el ki kf ti lo wa nu li to ot V) (ad 0) (vO 12 (([.ref (ad 1), .ref (ad 2), .ref (ad 3), .ref (ad 4), .ref (ad 5), .ref (ad 6), .ref (ad 7), .ref (ad 8), .ref (ad 9), .ref (ad 10), .int hi, .int th, .ref (ad 11), .ref (ad 12), .ref (ad 13), .int po, .int ba, .int en, .ref (ad 14), .ref (ad 15), .ref (ad 16), .ref (ad 17), .int se] : List Value).set 11 (.int x9))) = wM Z ad hi x9 po ba en se s im rd mi kp so sz el ki kf ti lo wa nu li to ot V := bk_set (k := 0) h.1 (Nat.le_refl _) (by decide) (fun j hj => by
    match j, hj with
    | 0, _ => rfl
    | 1, _ => rfl
    | 2, _ => rfl
    | 3, _ => rfl
    | 4, _ => rfl
    | 5, _ => rfl
    | 6, _ => rfl
    | 7, _ => rfl
    | 8, _ => rfl
    | 9, _ => rfl
    | 10, _ => rfl
    | 11, _ => rfl
    | 12, _ => rfl
    | 13, _ => rfl
    | 14, _ => rfl
    | 15, _ => rfl
    | 16, _ => rfl
    | 17, _ => rfl
    | n + 18, hn => exact absurd hn (by omega))
theorem wMs_po {x9 : Int32} (h : aB b0 18 ad) : upv (wM Z ad hi th po ba en se s im rd mi kp so sz el ki kf ti lo wa nu li to ot V) (ad 0) (vO 12 (([.ref (ad 1), .ref (ad 2), .ref (ad 3), .ref (ad 4), .ref (ad 5), .ref (ad 6), .ref (ad 7), .ref (ad 8), .ref (ad 9), .ref (ad 10), .int hi, .int th, .ref (ad 11), .ref (ad 12), .ref (ad 13), .int po, .int ba, .int en, .ref (ad 14), .ref (ad 15), .ref (ad 16), .ref (ad 17), .int se] : List Value).set 15 (.int x9))) = wM Z ad hi th x9 ba en se s im rd mi kp so sz el ki kf ti lo wa nu li to ot V := bk_set (k := 0) h.1 (Nat.le_refl _) (by decide) (fun j hj => by
    match j, hj with
    | 0, _ => rfl
    | 1, _ => rfl
    | 2, _ => rfl
    | 3, _ => rfl
    | 4, _ => rfl
    | 5, _ => rfl
    | 6, _ => rfl
    | 7, _ => rfl
    | 8, _ => rfl
    | 9, _ => rfl
    | 10, _ => rfl
    | 11, _ => rfl
    | 12, _ => rfl
    | 13, _ => rfl
    | 14, _ => rfl
    | 15, _ => rfl
    | 16, _ => rfl
    | 17, _ => rfl
    | n + 18, hn => exact absurd hn (by omega))
theorem wMs_ba {x9 : Int32} (h : aB b0 18 ad) : upv (wM Z ad hi th po ba en se s im rd mi kp so sz el ki kf ti lo wa nu li to ot V) (ad 0) (vO 12 (([.ref (ad 1), .ref (ad 2), .ref (ad 3), .ref (ad 4), .ref (ad 5), .ref (ad 6), .ref (ad 7), .ref (ad 8), .ref (ad 9), .ref (ad 10), .int hi, .int th, .ref (ad 11), .ref (ad 12), .ref (ad 13), .int po, .int ba, .int en, .ref (ad 14), .ref (ad 15), .ref (ad 16), .ref (ad 17), .int se] : List Value).set 16 (.int x9))) = wM Z ad hi th po x9 en se s im rd mi kp so sz el ki kf ti lo wa nu li to ot V := bk_set (k := 0) h.1 (Nat.le_refl _) (by decide) (fun j hj => by
    match j, hj with
    | 0, _ => rfl
    | 1, _ => rfl
    | 2, _ => rfl
    | 3, _ => rfl
    | 4, _ => rfl
    | 5, _ => rfl
    | 6, _ => rfl
    | 7, _ => rfl
    | 8, _ => rfl
    | 9, _ => rfl
    | 10, _ => rfl
    | 11, _ => rfl
    | 12, _ => rfl
    | 13, _ => rfl
    | 14, _ => rfl
    | 15, _ => rfl
    | 16, _ => rfl
    | 17, _ => rfl
    | n + 18, hn => exact absurd hn (by omega))
theorem wMs_en {x9 : Int32} (h : aB b0 18 ad) : upv (wM Z ad hi th po ba en se s im rd mi kp so sz el ki kf ti lo wa nu li to ot V) (ad 0) (vO 12 (([.ref (ad 1), .ref (ad 2), .ref (ad 3), .ref (ad 4), .ref (ad 5), .ref (ad 6), .ref (ad 7), .ref (ad 8), .ref (ad 9), .ref (ad 10), .int hi, .int th, .ref (ad 11), .ref (ad 12), .ref (ad 13), .int po, .int ba, .int en, .ref (ad 14), .ref (ad 15), .ref (ad 16), .ref (ad 17), .int se] : List Value).set 17 (.int x9))) = wM Z ad hi th po ba x9 se s im rd mi kp so sz el ki kf ti lo wa nu li to ot V := bk_set (k := 0) h.1 (Nat.le_refl _) (by decide) (fun j hj => by
    match j, hj with
    | 0, _ => rfl
    | 1, _ => rfl
    | 2, _ => rfl
    | 3, _ => rfl
    | 4, _ => rfl
    | 5, _ => rfl
    | 6, _ => rfl
    | 7, _ => rfl
    | 8, _ => rfl
    | 9, _ => rfl
    | 10, _ => rfl
    | 11, _ => rfl
    | 12, _ => rfl
    | 13, _ => rfl
    | 14, _ => rfl
    | 15, _ => rfl
    | 16, _ => rfl
    | 17, _ => rfl
    | n + 18, hn => exact absurd hn (by omega))
theorem wMs_se {x9 : Int32} (h : aB b0 18 ad) : upv (wM Z ad hi th po ba en se s im rd mi kp so sz el ki kf ti lo wa nu li to ot V) (ad 0) (vO 12 (([.ref (ad 1), .ref (ad 2), .ref (ad 3), .ref (ad 4), .ref (ad 5), .ref (ad 6), .ref (ad 7), .ref (ad 8), .ref (ad 9), .ref (ad 10), .int hi, .int th, .ref (ad 11), .ref (ad 12), .ref (ad 13), .int po, .int ba, .int en, .ref (ad 14), .ref (ad 15), .ref (ad 16), .ref (ad 17), .int se] : List Value).set 22 (.int x9))) = wM Z ad hi th po ba en x9 s im rd mi kp so sz el ki kf ti lo wa nu li to ot V := bk_set (k := 0) h.1 (Nat.le_refl _) (by decide) (fun j hj => by
    match j, hj with
    | 0, _ => rfl
    | 1, _ => rfl
    | 2, _ => rfl
    | 3, _ => rfl
    | 4, _ => rfl
    | 5, _ => rfl
    | 6, _ => rfl
    | 7, _ => rfl
    | 8, _ => rfl
    | 9, _ => rfl
    | 10, _ => rfl
    | 11, _ => rfl
    | 12, _ => rfl
    | 13, _ => rfl
    | 14, _ => rfl
    | 15, _ => rfl
    | 16, _ => rfl
    | 17, _ => rfl
    | n + 18, hn => exact absurd hn (by omega))
end MR
/-! ===== exact contracts: an answer, a memory behind it ===== -/
def KE (l : Launch) (D : va_G) (Z : Nat → ClassId) (b0 : Nat) (y : MethodName) (bytes : ByteArray) (maxL : Nat) (ret : Option FieldType) (rm : Room) (av : List Value) (V : HV) (r : Option Value) (V2 : HV) : Prop := KM l D Z b0 y bytes maxL ret rm av V (fun v V' => v = r ∧ V' = V2)
section KR
variable {l : Launch} {D : va_G} {Z : Nat → ClassId} {b0 : Nat} {R : Room} {own : String} {cc : ByteArray} {nL : Nat} {E : Method → Array Value → State → Prop} {T : List Frame → Array Value → State → State → Prop} {V : HV} {L : List (Nat × Value)} {k n pc : Nat} {rest : List Value}
theorem KM.ofP {y : MethodName} {bytes : ByteArray} {maxL : Nat} {ret : Option FieldType} {rm : Room} {av : List Value} {Po : Option Value → HV → Prop} (hy : plainName y.cls = true) (hav : (lg_sl av).length ≤ maxL) (g : ∀ Po' : Option Value → HV → Prop, (∀ v V', Po v V' → Po' v V') → G l D Z b0 rm y.cls bytes maxL (gE ret y.name) (gT D b0 Po' rm.cells rm.slots) V (lv_args 0 av) 0 0 0 []) : KM l D Z b0 y bytes maxL ret rm av V Po := KM.of hy hav (g Po (fun _ _ h => h))
theorem KE.of {y : MethodName} {bytes : ByteArray} {maxL : Nat} {ret : Option FieldType} {rm : Room} {av : List Value} {r : Option Value} {V2 : HV} (hy : plainName y.cls = true) (hav : (lg_sl av).length ≤ maxL) (g : ∀ Po : Option Value → HV → Prop, Po r V2 → G l D Z b0 rm y.cls bytes maxL (gE ret y.name) (gT D b0 Po rm.cells rm.slots) V (lv_args 0 av) 0 0 0 []) : KE l D Z b0 y bytes maxL ret rm av V r V2 := KM.of hy hav (g _ ⟨rfl, rfl⟩)
theorem e_callS {y : MethodName} {bytes : ByteArray} {maxL n0 index : Nat} {ret : Option FieldType} {rm : Room} {r : Value} {V2 : HV} {k2 n2 : Nat} {As st : List Value} (hM : KE l D Z b0 y bytes maxL ret rm (As) V (some r) V2) (hl : Cond.methodLink own index y ∈ TB) (hm : mS y bytes maxL ret n0) (hR : rm.frames + 1 ≤ R.frames ∧ 8 + (maxL + 11) + rm.locals ≤ R.locals) (hn : As.length = n0) (hst : st = As.reverse ++ rest) (hcat : (rest.map fun v => v.category).sum ≤ 8) (hdg : decode cc pc = .ok (.invokestatic index, 3)) (hf : k + rm.cells ≤ R.cells ∧ n + rm.slots ≤ R.slots) (hk2 : k + rm.cells = k2) (hn2 : n + rm.slots = n2) (kk : G l D Z b0 R own cc nL E T V2 L k2 n2 (pc + 3) (r :: rest)) : G l D Z b0 R own cc nL E T V L k n pc st := g_callS (hM := hM) (hl := hl) (hm := hm) (hR := hR) (hn := hn) (hst := hst) (hcat := hcat) (hdg := hdg) (hf := hf) (fun v V' h => by
  obtain ⟨rfl, rfl⟩ := h
  subst hk2; subst hn2
  exact kk)
theorem e_callSv {y : MethodName} {bytes : ByteArray} {maxL n0 index : Nat} {ret : Option FieldType} {rm : Room} {V2 : HV} {k2 n2 : Nat} {As st : List Value} (hM : KE l D Z b0 y bytes maxL ret rm (As) V none V2) (hl : Cond.methodLink own index y ∈ TB) (hm : mS y bytes maxL ret n0) (hR : rm.frames + 1 ≤ R.frames ∧ 8 + (maxL + 11) + rm.locals ≤ R.locals) (hn : As.length = n0) (hst : st = As.reverse ++ rest) (hcat : (rest.map fun v => v.category).sum ≤ 8) (hdg : decode cc pc = .ok (.invokestatic index, 3)) (hf : k + rm.cells ≤ R.cells ∧ n + rm.slots ≤ R.slots) (hk2 : k + rm.cells = k2) (hn2 : n + rm.slots = n2) (kk : G l D Z b0 R own cc nL E T V2 L k2 n2 (pc + 3) rest) : G l D Z b0 R own cc nL E T V L k n pc st := g_callS (hM := hM) (hl := hl) (hm := hm) (hR := hR) (hn := hn) (hst := hst) (hcat := hcat) (hdg := hdg) (hf := hf) (fun v V' h => by
  obtain ⟨rfl, rfl⟩ := h
  subst hk2; subst hn2
  exact kk)
theorem e_callV {y : MethodName} {bytes : ByteArray} {maxL n0 index : Nat} {ret : Option FieldType} {rm : Room} {r : Value} {V2 : HV} {k2 n2 : Nat} {As st : List Value} {b ci N : Nat} {F : u_T} {fs : List Value} (hb : V b = some (vO ci fs)) (hc : vwCl[ci]? = some (y.cls, F, N)) (hM : KE l D Z b0 y bytes maxL ret rm (.ref b :: As) V (some r) V2) (hl : Cond.methodLink own index y ∈ TB) (hsel : Cond.selects y.cls y y ∈ TB) (hm : mV y bytes maxL ret n0) (hR : rm.frames + 1 ≤ R.frames ∧ 8 + (maxL + 11) + rm.locals ≤ R.locals) (hn : As.length = n0) (hst : st = As.reverse ++ .ref b :: rest) (hcat : (rest.map fun v => v.category).sum ≤ 8) (hdg : decode cc pc = .ok (.invokevirtual index, 3)) (hf : k + rm.cells ≤ R.cells ∧ n + rm.slots ≤ R.slots) (hk2 : k + rm.cells = k2) (hn2 : n + rm.slots = n2) (kk : G l D Z b0 R own cc nL E T V2 L k2 n2 (pc + 3) (r :: rest)) : G l D Z b0 R own cc nL E T V L k n pc st := g_callV (hb := hb) (hc := hc) (hM := hM) (hl := hl) (hsel := hsel) (hm := hm) (hR := hR) (hn := hn) (hst := hst) (hcat := hcat) (hdg := hdg) (hf := hf) (fun v V' h => by
  obtain ⟨rfl, rfl⟩ := h
  subst hk2; subst hn2
  exact kk)
theorem e_callVv {y : MethodName} {bytes : ByteArray} {maxL n0 index : Nat} {ret : Option FieldType} {rm : Room} {V2 : HV} {k2 n2 : Nat} {As st : List Value} {b ci N : Nat} {F : u_T} {fs : List Value} (hb : V b = some (vO ci fs)) (hc : vwCl[ci]? = some (y.cls, F, N)) (hM : KE l D Z b0 y bytes maxL ret rm (.ref b :: As) V none V2) (hl : Cond.methodLink own index y ∈ TB) (hsel : Cond.selects y.cls y y ∈ TB) (hm : mV y bytes maxL ret n0) (hR : rm.frames + 1 ≤ R.frames ∧ 8 + (maxL + 11) + rm.locals ≤ R.locals) (hn : As.length = n0) (hst : st = As.reverse ++ .ref b :: rest) (hcat : (rest.map fun v => v.category).sum ≤ 8) (hdg : decode cc pc = .ok (.invokevirtual index, 3)) (hf : k + rm.cells ≤ R.cells ∧ n + rm.slots ≤ R.slots) (hk2 : k + rm.cells = k2) (hn2 : n + rm.slots = n2) (kk : G l D Z b0 R own cc nL E T V2 L k2 n2 (pc + 3) rest) : G l D Z b0 R own cc nL E T V L k n pc st := g_callV (hb := hb) (hc := hc) (hM := hM) (hl := hl) (hsel := hsel) (hm := hm) (hR := hR) (hn := hn) (hst := hst) (hcat := hcat) (hdg := hdg) (hf := hf) (fun v V' h => by
  obtain ⟨rfl, rfl⟩ := h
  subst hk2; subst hn2
  exact kk)
theorem e_callIv {y : MethodName} {bytes : ByteArray} {maxL n0 index : Nat} {rm : Room} {V2 : HV} {k2 n2 : Nat} {As st : List Value} {b : Nat} (hy : y.name = "<init>") (hM : KE l D Z b0 y bytes maxL none rm (.ref b :: As) V none V2) (hl : Cond.methodLink own index y ∈ TB) (hm : mV y bytes maxL none n0) (hR : rm.frames + 1 ≤ R.frames ∧ 8 + (maxL + 11) + rm.locals ≤ R.locals) (hn : As.length = n0) (hst : st = As.reverse ++ .ref b :: rest) (hcat : (rest.map fun v => v.category).sum ≤ 8) (hdg : decode cc pc = .ok (.invokespecial index, 3)) (hf : k + rm.cells ≤ R.cells ∧ n + rm.slots ≤ R.slots) (hk2 : k + rm.cells = k2) (hn2 : n + rm.slots = n2) (kk : G l D Z b0 R own cc nL E T V2 L k2 n2 (pc + 3) rest) : G l D Z b0 R own cc nL E T V L k n pc st := g_callI (hy := hy) (hM := hM) (hl := hl) (hm := hm) (hR := hR) (hn := hn) (hst := hst) (hcat := hcat) (hdg := hdg) (hf := hf) (ret := none) (fun v V' h => by
  obtain ⟨rfl, rfl⟩ := h
  subst hk2; subst hn2
  exact kk)
theorem e_callSN {y : MethodName} {bytes : ByteArray} {maxL n0 index : Nat} {ret : Option FieldType} {rm : Room} {r : Value} {V2 : HV} {k2 n2 : Nat} {As st : List Value} (hM : KE l D Z b0 y bytes maxL ret rm (As) V (some r) V2) {host : String} (hl : ∀ U, kNs U → va_Nw (.methodLinkNest own index y host) U) (hm : mS y bytes maxL ret n0) (hR : rm.frames + 1 ≤ R.frames ∧ 8 + (maxL + 11) + rm.locals ≤ R.locals) (hn : As.length = n0) (hst : st = As.reverse ++ rest) (hcat : (rest.map fun v => v.category).sum ≤ 8) (hdg : decode cc pc = .ok (.invokestatic index, 3)) (hf : k + rm.cells ≤ R.cells ∧ n + rm.slots ≤ R.slots) (hk2 : k + rm.cells = k2) (hn2 : n + rm.slots = n2) (kk : G l D Z b0 R own cc nL E T V2 L k2 n2 (pc + 3) (r :: rest)) : G l D Z b0 R own cc nL E T V L k n pc st := g_callSN (hM := hM) (hl := hl) (hm := hm) (hR := hR) (hn := hn) (hst := hst) (hcat := hcat) (hdg := hdg) (hf := hf) (fun v V' h => by
  obtain ⟨rfl, rfl⟩ := h
  subst hk2; subst hn2
  exact kk)
theorem e_callSNv {y : MethodName} {bytes : ByteArray} {maxL n0 index : Nat} {ret : Option FieldType} {rm : Room} {V2 : HV} {k2 n2 : Nat} {As st : List Value} (hM : KE l D Z b0 y bytes maxL ret rm (As) V none V2) {host : String} (hl : ∀ U, kNs U → va_Nw (.methodLinkNest own index y host) U) (hm : mS y bytes maxL ret n0) (hR : rm.frames + 1 ≤ R.frames ∧ 8 + (maxL + 11) + rm.locals ≤ R.locals) (hn : As.length = n0) (hst : st = As.reverse ++ rest) (hcat : (rest.map fun v => v.category).sum ≤ 8) (hdg : decode cc pc = .ok (.invokestatic index, 3)) (hf : k + rm.cells ≤ R.cells ∧ n + rm.slots ≤ R.slots) (hk2 : k + rm.cells = k2) (hn2 : n + rm.slots = n2) (kk : G l D Z b0 R own cc nL E T V2 L k2 n2 (pc + 3) rest) : G l D Z b0 R own cc nL E T V L k n pc st := g_callSN (hM := hM) (hl := hl) (hm := hm) (hR := hR) (hn := hn) (hst := hst) (hcat := hcat) (hdg := hdg) (hf := hf) (fun v V' h => by
  obtain ⟨rfl, rfl⟩ := h
  subst hk2; subst hn2
  exact kk)
theorem e_callINv {y : MethodName} {bytes : ByteArray} {maxL n0 index : Nat} {rm : Room} {V2 : HV} {k2 n2 : Nat} {As st : List Value} {b : Nat} (hy : y.name = "<init>") (hM : KE l D Z b0 y bytes maxL none rm (.ref b :: As) V none V2) {host : String} (hl : ∀ U, kNs U → va_Nw (.methodLinkNest own index y host) U) (hm : mV y bytes maxL none n0) (hR : rm.frames + 1 ≤ R.frames ∧ 8 + (maxL + 11) + rm.locals ≤ R.locals) (hn : As.length = n0) (hst : st = As.reverse ++ .ref b :: rest) (hcat : (rest.map fun v => v.category).sum ≤ 8) (hdg : decode cc pc = .ok (.invokespecial index, 3)) (hf : k + rm.cells ≤ R.cells ∧ n + rm.slots ≤ R.slots) (hk2 : k + rm.cells = k2) (hn2 : n + rm.slots = n2) (kk : G l D Z b0 R own cc nL E T V2 L k2 n2 (pc + 3) rest) : G l D Z b0 R own cc nL E T V L k n pc st := g_callIN (hy := hy) (hM := hM) (hl := hl) (hm := hm) (hR := hR) (hn := hn) (hst := hst) (hcat := hcat) (hdg := hdg) (hf := hf) (ret := none) (fun v V' h => by
  obtain ⟨rfl, rfl⟩ := h
  subst hk2; subst hn2
  exact kk)
theorem e_callU {y : MethodName} {bytes : ByteArray} {maxL n0 index : Nat} {ret : Option FieldType} {rm : Room} {r : Value} {V2 : HV} {k2 n2 : Nat} {As st : List Value} {x : MethodName} {C owner : String} {b ci N : Nat} {F : u_T} {fs : List Value} (hb : V b = some (vO ci fs)) (hc : vwCl[ci]? = some (C, F, N)) (hyx : y = ⟨owner, x.name, x.desc⟩) (hx : owner ≠ "java/lang/invoke/MethodHandle" ∧ owner ≠ "java/lang/invoke/VarHandle" ∧ (parseMethodDescriptor x.desc).map (fun d => d.parameters.length) = some n0) (hM : KE l D Z b0 y bytes maxL ret rm (.ref b :: As) V (some r) V2) (hl : Cond.methodLink own index x ∈ TB) (hsm : Cond.sameMethod x.cls owner x.name x.desc ∈ TB) (hsel : Cond.selects C x y ∈ TB) (hm : mV y bytes maxL ret n0) (hR : rm.frames + 1 ≤ R.frames ∧ 8 + (maxL + 11) + rm.locals ≤ R.locals) (hn : As.length = n0) (hst : st = As.reverse ++ .ref b :: rest) (hcat : (rest.map fun v => v.category).sum ≤ 8) (hdg : decode cc pc = .ok (.invokevirtual index, 3)) (hf : k + rm.cells ≤ R.cells ∧ n + rm.slots ≤ R.slots) (hk2 : k + rm.cells = k2) (hn2 : n + rm.slots = n2) (kk : G l D Z b0 R own cc nL E T V2 L k2 n2 (pc + 3) (r :: rest)) : G l D Z b0 R own cc nL E T V L k n pc st := g_callU (hb := hb) (hc := hc) (hyx := hyx) (hx := hx) (hM := hM) (hl := hl) (hsm := hsm) (hsel := hsel) (hm := hm) (hR := hR) (hn := hn) (hst := hst) (hcat := hcat) (hdg := hdg) (hf := hf) (fun v V' h => by
  obtain ⟨rfl, rfl⟩ := h
  subst hk2; subst hn2
  exact kk)
theorem e_callUv {y : MethodName} {bytes : ByteArray} {maxL n0 index : Nat} {ret : Option FieldType} {rm : Room} {V2 : HV} {k2 n2 : Nat} {As st : List Value} {x : MethodName} {C owner : String} {b ci N : Nat} {F : u_T} {fs : List Value} (hb : V b = some (vO ci fs)) (hc : vwCl[ci]? = some (C, F, N)) (hyx : y = ⟨owner, x.name, x.desc⟩) (hx : owner ≠ "java/lang/invoke/MethodHandle" ∧ owner ≠ "java/lang/invoke/VarHandle" ∧ (parseMethodDescriptor x.desc).map (fun d => d.parameters.length) = some n0) (hM : KE l D Z b0 y bytes maxL ret rm (.ref b :: As) V none V2) (hl : Cond.methodLink own index x ∈ TB) (hsm : Cond.sameMethod x.cls owner x.name x.desc ∈ TB) (hsel : Cond.selects C x y ∈ TB) (hm : mV y bytes maxL ret n0) (hR : rm.frames + 1 ≤ R.frames ∧ 8 + (maxL + 11) + rm.locals ≤ R.locals) (hn : As.length = n0) (hst : st = As.reverse ++ .ref b :: rest) (hcat : (rest.map fun v => v.category).sum ≤ 8) (hdg : decode cc pc = .ok (.invokevirtual index, 3)) (hf : k + rm.cells ≤ R.cells ∧ n + rm.slots ≤ R.slots) (hk2 : k + rm.cells = k2) (hn2 : n + rm.slots = n2) (kk : G l D Z b0 R own cc nL E T V2 L k2 n2 (pc + 3) rest) : G l D Z b0 R own cc nL E T V L k n pc st := g_callU (hb := hb) (hc := hc) (hyx := hyx) (hx := hx) (hM := hM) (hl := hl) (hsm := hsm) (hsel := hsel) (hm := hm) (hR := hR) (hn := hn) (hst := hst) (hcat := hcat) (hdg := hdg) (hf := hf) (fun v V' h => by
  obtain ⟨rfl, rfl⟩ := h
  subst hk2; subst hn2
  exact kk)
theorem e_callP {y : MethodName} {bytes : ByteArray} {maxL n0 index : Nat} {ret : Option FieldType} {rm : Room} {r : Value} {V2 : HV} {k2 n2 : Nat} {As st : List Value} {C : String} {b ci N : Nat} {F : u_T} {fs : List Value} (hb : V b = some (vO ci fs)) (hc : vwCl[ci]? = some (C, F, N)) (hx : y.name ≠ "<init>") (hM : KE l D Z b0 y bytes maxL ret rm (.ref b :: As) V (some r) V2) (hl : Cond.methodLink own index y ∈ TB) (hsm : Cond.sameMethod y.cls y.cls y.name y.desc ∈ TB) (hsup : Cond.superclass own y.cls ∈ TB) (hm : mV y bytes maxL ret n0) (hR : rm.frames + 1 ≤ R.frames ∧ 8 + (maxL + 11) + rm.locals ≤ R.locals) (hn : As.length = n0) (hst : st = As.reverse ++ .ref b :: rest) (hcat : (rest.map fun v => v.category).sum ≤ 8) (hdg : decode cc pc = .ok (.invokespecial index, 3)) (hf : k + rm.cells ≤ R.cells ∧ n + rm.slots ≤ R.slots) (hk2 : k + rm.cells = k2) (hn2 : n + rm.slots = n2) (kk : G l D Z b0 R own cc nL E T V2 L k2 n2 (pc + 3) (r :: rest)) : G l D Z b0 R own cc nL E T V L k n pc st := g_callP (hb := hb) (hc := hc) (hx := hx) (hM := hM) (hl := hl) (hsm := hsm) (hsup := hsup) (hm := hm) (hR := hR) (hn := hn) (hst := hst) (hcat := hcat) (hdg := hdg) (hf := hf) (fun v V' h => by
  obtain ⟨rfl, rfl⟩ := h
  subst hk2; subst hn2
  exact kk)
theorem e_callPv {y : MethodName} {bytes : ByteArray} {maxL n0 index : Nat} {ret : Option FieldType} {rm : Room} {V2 : HV} {k2 n2 : Nat} {As st : List Value} {C : String} {b ci N : Nat} {F : u_T} {fs : List Value} (hb : V b = some (vO ci fs)) (hc : vwCl[ci]? = some (C, F, N)) (hx : y.name ≠ "<init>") (hM : KE l D Z b0 y bytes maxL ret rm (.ref b :: As) V none V2) (hl : Cond.methodLink own index y ∈ TB) (hsm : Cond.sameMethod y.cls y.cls y.name y.desc ∈ TB) (hsup : Cond.superclass own y.cls ∈ TB) (hm : mV y bytes maxL ret n0) (hR : rm.frames + 1 ≤ R.frames ∧ 8 + (maxL + 11) + rm.locals ≤ R.locals) (hn : As.length = n0) (hst : st = As.reverse ++ .ref b :: rest) (hcat : (rest.map fun v => v.category).sum ≤ 8) (hdg : decode cc pc = .ok (.invokespecial index, 3)) (hf : k + rm.cells ≤ R.cells ∧ n + rm.slots ≤ R.slots) (hk2 : k + rm.cells = k2) (hn2 : n + rm.slots = n2) (kk : G l D Z b0 R own cc nL E T V2 L k2 n2 (pc + 3) rest) : G l D Z b0 R own cc nL E T V L k n pc st := g_callP (hb := hb) (hc := hc) (hx := hx) (hM := hM) (hl := hl) (hsm := hsm) (hsup := hsup) (hm := hm) (hR := hR) (hn := hn) (hst := hst) (hcat := hcat) (hdg := hdg) (hf := hf) (fun v V' h => by
  obtain ⟨rfl, rfl⟩ := h
  subst hk2; subst hn2
  exact kk)
theorem nI_mul (a b : Nat) : nI a * nI b = nI (a * b) := (Int32.ofNat_mul a b).symm
theorem nI_sub {a b : Nat} (h : b ≤ a) : nI a - nI b = nI (a - b) := by
  have h1 : nI (a - b) + nI b = nI a := by rw [nI_add, Nat.sub_add_cancel h]
  rw [← h1, Int32.add_sub_cancel]
theorem nI_toNat {i : Nat} (h : i < 2147483648) : (nI i).toNatClampNeg = i := by
  have h1 := nI_toInt (n := i) (by omega)
  rw [Int32.toNatClampNeg, h1]; rfl
theorem vp_inN {i n : Nat} (h : i < n) (h2 : n ≤ 2147483648) : vp_in (nI i) n := by
  intro q
  rcases q with q | q
  · exact nI_nneg (by omega) q
  · rw [nI_toNat (by omega)] at q; omega
theorem nI_inj {i j : Nat} (hi : i < 2147483648) (hj : j < 2147483648) (h : nI i = nI j) : i = j := by
  have := congrArg Int32.toInt h
  rw [nI_toInt (by omega), nI_toInt (by omega)] at this; omega
theorem nI_mod {a b : Nat} (ha : a < 2147483648) (hb : 0 < b) (hb2 : b < 2147483648) : nI a % nI b = nI (a % b) := by
  apply Int32.toInt_inj.mp
  rw [Int32.toInt_mod, nI_toInt (by omega), nI_toInt (by omega), nI_toInt (by have := Nat.mod_lt a hb; omega), Int.ofNat_tmod]
theorem nI_div {a b : Nat} (ha : a < 2147483648) (hb : 0 < b) (hb2 : b < 2147483648) : nI a / nI b = nI (a / b) := by
  apply Int32.toInt_inj.mp
  have h3 : a / b ≤ a := Nat.div_le_self a b
  have key : (a : Int).tdiv (b : Int) = ((a / b : Nat) : Int) := rfl
  rw [Int32.toInt_div, nI_toInt (by omega), nI_toInt (by omega), nI_toInt (by omega), key]
  generalize a / b = q at h3 ⊢
  rw [Int.bmod_eq_of_le_mul_two] <;> omega
theorem nI_rem {a b : Nat} (ha : a < 2147483648) (hb : 0 < b) (hb2 : b < 2147483648) : nI a - nI a / nI b * nI b = nI (a % b) := by
  rw [nI_div ha hb hb2, nI_mul, nI_sub (Nat.div_mul_le_self a b)]
  congr 1
  have := Nat.div_add_mod a b
  rw [Nat.mul_comm] at this
  omega
theorem nI_nz {b : Nat} (hb : 0 < b) (hb2 : b < 2147483648) : ¬ nI b = 0 := fun h => by
  have := nI_inj (i := b) (j := 0) hb2 (by omega) h
  omega
theorem g_iadd_N {i j : Nat} (hdg : decode cc pc = .ok (.iadd, 1)) (kk : G l D Z b0 R own cc nL E T V L k n (pc + 1) (.int (nI (i + j)) :: rest)) : G l D Z b0 R own cc nL E T V L k n pc (.int (nI j) :: .int (nI i) :: rest) := g_iadd hdg (by rw [nI_add]; exact kk)
theorem g_imul_N {i j : Nat} (hdg : decode cc pc = .ok (.imul, 1)) (kk : G l D Z b0 R own cc nL E T V L k n (pc + 1) (.int (nI (i * j)) :: rest)) : G l D Z b0 R own cc nL E T V L k n pc (.int (nI j) :: .int (nI i) :: rest) := g_imul hdg (by rw [nI_mul]; exact kk)
theorem g_isub_N {i j : Nat} (h : j ≤ i) (hdg : decode cc pc = .ok (.isub, 1)) (kk : G l D Z b0 R own cc nL E T V L k n (pc + 1) (.int (nI (i - j)) :: rest)) : G l D Z b0 R own cc nL E T V L k n pc (.int (nI j) :: .int (nI i) :: rest) := g_isub hdg (by rw [nI_sub h]; exact kk)
theorem g_irem_N {i j : Nat} (hi : i < 2147483648) (hj : 0 < j) (hj2 : j < 2147483648) (hdg : decode cc pc = .ok (.irem, 1)) (kk : G l D Z b0 R own cc nL E T V L k n (pc + 1) (.int (nI (i % j)) :: rest)) : G l D Z b0 R own cc nL E T V L k n pc (.int (nI j) :: .int (nI i) :: rest) := g_irem hdg (nI_nz hj hj2) (by rw [nI_rem hi hj hj2]; exact kk)
theorem g_idiv_N {i j : Nat} (hi : i < 2147483648) (hj : 0 < j) (hj2 : j < 2147483648) (hdg : decode cc pc = .ok (.idiv, 1)) (kk : G l D Z b0 R own cc nL E T V L k n (pc + 1) (.int (nI (i / j)) :: rest)) : G l D Z b0 R own cc nL E T V L k n pc (.int (nI j) :: .int (nI i) :: rest) := g_idiv hdg (nI_nz hj hj2) (by rw [nI_div hi hj hj2]; exact kk)
theorem nI_inc (i z : Nat) : nI i + Int32.ofInt (z : Int) = nI (i + z) := by
  rw [show Int32.ofInt (z : Int) = nI z from rfl, nI_add]
theorem g_iald_N {N a j : Nat} {f : Nat → Int32} {x : Int32} (ha : V a = some (vI Z 0 N f)) (hj : j < N) (hN : N ≤ 2147483648) (hv : f j = x) (hdg : decode cc pc = .ok (.iaload, 1)) (kk : G l D Z b0 R own cc nL E T V L k n (pc + 1) (.int x :: rest)) : G l D Z b0 R own cc nL E T V L k n pc (.int (nI j) :: .ref a :: rest) := g_iald ha (vp_inN hj hN) hdg (by rw [nI_toNat (by omega), hv]; exact kk)
theorem g_iast_N {N a j : Nat} {f f' : Nat → Int32} {V2 : HV} {x : Int32} (ha : V a = some (vI Z 0 N f)) (hj : j < N) (hN : N ≤ 2147483648) (hb0 : b0 ≤ a) (hf : upd f j x = f') (hV2 : upv V a (vI Z 0 N f') = V2) (hdg : decode cc pc = .ok (.iastore, 1)) (kk : G l D Z b0 R own cc nL E T V2 L k n (pc + 1) rest) : G l D Z b0 R own cc nL E T V L k n pc (.int x :: .int (nI j) :: .ref a :: rest) := g_iast ha (vp_inN hj hN) hb0 hdg (by rw [nI_toNat (by omega), hf, hV2]; exact kk)
theorem g_if_eq_B {b : Bool} {off : Int} {tgt : Nat} (hdg : decode cc pc = .ok (.ifCond .eq off, 3)) (ht : (pc : Int) + off = (tgt : Int)) (kt : b = false → G l D Z b0 R own cc nL E T V L k n tgt rest) (kf : b = true → G l D Z b0 R own cc nL E T V L k n (pc + 3) rest) : G l D Z b0 R own cc nL E T V L k n pc (.int (bI b) :: rest) := g_if_eq hdg ht (fun c0 => kt (by cases b; rfl; exact absurd c0 (by decide))) (fun c0 => kf (by cases b; exact absurd rfl c0; rfl))
theorem g_if_ne_B {b : Bool} {off : Int} {tgt : Nat} (hdg : decode cc pc = .ok (.ifCond .ne off, 3)) (ht : (pc : Int) + off = (tgt : Int)) (kt : b = true → G l D Z b0 R own cc nL E T V L k n tgt rest) (kf : b = false → G l D Z b0 R own cc nL E T V L k n (pc + 3) rest) : G l D Z b0 R own cc nL E T V L k n pc (.int (bI b) :: rest) := g_if_ne hdg ht (fun c0 => kt (by cases b; exact absurd rfl c0; rfl)) (fun c0 => kf (by cases b; rfl; exact absurd c0 (by decide)))
end KR
