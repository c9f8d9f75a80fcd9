/-! System.arraycopy between int arrays: follows the kit's va_copyi, over the view. -/
section CP
variable {l : Launch} {D : va_G} {Z : Nat → ClassId} {b0 : Nat} {R : Room} {cc : ByteArray} {nL : Nat} {E : Method → Array Value → State → Prop} {T : List Frame → Array Value → State → State → Prop} {V : HV} {L : List (Nat × Value)} {k n pc : Nat} {rest : List Value}
theorem acl_1 : Cond.methodLink RX11 243 arraycopyName ∈ TB := TB_in 558 (by decide +kernel) (by decide +kernel)
theorem acl_2 : Cond.static arraycopyName ∈ TB := TB_in 559 (by decide +kernel) (by decide +kernel)
theorem acl_3 : Cond.native arraycopyName ∈ TB := TB_in 560 (by decide +kernel) (by decide +kernel)
theorem acl_4 : Cond.initialized "java/lang/System" ∈ TB := TB_in 64 (by decide +kernel) (by decide +kernel)
theorem g_copy {a0 a n0 n1 sp dp w : Nat} {f g : Nat → Int32} (ha0 : V a0 = some (vI Z 0 n0 f)) (ha1 : V a = some (vI Z 0 n1 g)) (h4 : sp + w ≤ n0) (h5 : dp + w ≤ n1) (hn0 : n0 ≤ 1000) (hn1 : n1 ≤ 1000) (hb0 : b0 ≤ a) (hR : 1 ≤ R.frames ∧ 30 ≤ R.locals) (hcat : (rest.map fun v => v.category).sum ≤ 8) (hdg : decode cc pc = .ok (.invokestatic 243, 3))
    (kk : G l D Z b0 R RX11 cc nL E T (upv V a (vI Z 0 n1 (va_cpy f g sp dp w))) L k n (pc + 3) rest) : G l D Z b0 R RX11 cc nL E T V L k n pc (.int (nI w) :: .int (nI dp) :: .ref a :: .int (nI sp) :: .ref a0 :: rest) := by
  intro p e s m args below meth c H locs ls X hE hV hS hL T9 hT X9
  have nn : ∀ z : Nat, z < 2000 → (nI z).toInt = (z : Int) := fun z hz => nI_toInt (by omega)
  have nm : ∀ z : Nat, z < 2000 → (nI z).toNatClampNeg = z := fun z hz => nI_toNat (by omega)
  have hK := X.2.2.2.2.2.1.1
  have ts := X.2.2.2.2.1
  have hc0 : H[a0]? = some (vp_cell (Z 0) (n0, .inl f)) := hV a0 _ ha0
  have hc1 : H[a]? = some (vp_cell (Z 0) (n1, .inl g)) := hV a _ ha1
  obtain ⟨-, k0, hk0, cm0, hkk0⟩ := (hK.2 0 _ rfl).1 n0 (fun j => .int (f j))
  obtain ⟨-, k1, hk1, cm1, hkk1⟩ := (hK.2 0 _ rfl).1 n1 (fun j => .int (g j))
  obtain ⟨vm', X', step⟩ := X9.arraycopy X.1 X.2.2.2.1 (ts _ acl_1) (ts _ acl_3) (ts _ acl_2) (ts _ acl_4) (src := a0) (dst := a) (cs := vp_cell (Z 0) (n0, .inl f)) (cd := vp_cell (Z 0) (n1, .inl g)) (srcPos := nI sp) (destPos := nI dp) (n := nI w) (by rw [hT]; exact hc0) (by rw [hT]; exact hc1)
    (fun _ h => by cases h) (fun _ h => by cases h) (fun h => by cases h) (fun h => by cases h) hk0 hk1 hkk0 hkk1 (by simp [refKind]) (nI_nneg (by omega)) (nI_nneg (by omega)) (nI_nneg (by omega))
    (by rw [nn sp (by omega), nn w (by omega)]; show ¬ _ > ((arrV (Z 0) n0 (fun j => .int (f j))).slots.size : Int); rw [arrV_size]; omega)
    (by rw [nn dp (by omega), nn w (by omega)]; show ¬ _ > ((arrV (Z 0) n1 (fun j => .int (g j))).slots.size : Int); rw [arrV_size]; omega)
    (fun vm₁ _ i hi => by
      rw [nm w (by omega)] at hi
      have e : (vp_cell (Z 0) (n0, .inl f)).slots.getD ((nI sp).toNatClampNeg + i) .null = .int (f ((nI sp).toNatClampNeg + i)) := by
        show (arrV (Z 0) n0 (fun j => .int (f j))).slots.getD _ _ = _
        rw [nm sp (by omega), Array.getD_eq_getD_getElem?, arrV_read _ _ (by omega)]
        rfl
      refine ⟨?_, ?_⟩
      · rw [e]; rfl
      · rw [e]; exact trivial)
    (g := F0 m pc ls (.int (nI w) :: .int (nI dp) :: .ref a :: .int (nI sp) :: .ref a0 :: rest)) rfl (by show ls.size = c.maxLocals; exact hL.1.trans X.2.2.1.symm) (rest := rest) rfl (by rw [X.2.1]; exact hdg) hR.1 (by show 2 * 0 + _ + (7 + 11) ≤ _; omega)
  have e1 : copied (vp_cell (Z 0) (n0, .inl f)) (vp_cell (Z 0) (n1, .inl g)) (nI sp) (nI dp) (nI w) = vp_cell (Z 0) (n1, .inl (va_cpy f g sp dp w)) := by
    have q := va_copied (fun z => .int z) (Z 0) (Z 0) (n0 := n0) (n1 := n1) (sp := sp) (dp := dp) (n := w) f g h4
    show (arrV (Z 0) n1 (fun j => .int (g j))).storeRun (nI dp).toNatClampNeg ((arrV (Z 0) n0 (fun j => .int (f j))).stretch (nI sp).toNatClampNeg (nI w).toNatClampNeg) = _
    rw [nm dp (by omega), nm sp (by omega), nm w (by omega)]
    exact q
  rw [e1] at X' step
  have hl : a < H.size := (Array.getElem?_eq_some_iff.mp hc1).1
  have hheap : ((T9.setVm vm').setCell a (vp_cell (Z 0) (n1, .inl (va_cpy f g sp dp w)))).heap = H.setIfInBounds a (vp_cell (Z 0) (n1, .inl (va_cpy f g sp dp w))) := by rw [← hT]; rfl
  have oq : ∀ q : Nat, q ≠ a → (H.setIfInBounds a (vp_cell (Z 0) (n1, .inl (va_cpy f g sp dp w))))[q]? = H[q]? := fun q hq => by simp [Array.getElem?_setIfInBounds, Ne.symm hq]
  obtain ⟨t, a1, b1⟩ := kk p e s m args below meth c _ _ ls X hE (hV.set (show (H.setIfInBounds a _)[a]? = some _ by simp [Array.getElem?_setIfInBounds, hl]) oq) ⟨by simp; exact hS.1, fun q g1 g2 => by
      rw [oq q (fun e => g2 (by rw [e]; exact hb0))]
      exact hS.2.1 q g1 g2, fun q hq => by
      rcases List.mem_append.mp hq with h | h
      · exact hS.2.2 q h
      · obtain ⟨z, -, hz⟩ := List.mem_map.mp h
        rw [← hz]
        exact hb0⟩ hL _ hheap X'
  exact ⟨t, step t a1, b1⟩
end CP
