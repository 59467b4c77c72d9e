section ZCOP
variable {G : zG} {cc : ByteArray} {own : String} {Ts : List Cond} {nL : Nat} {Γ : zΓ} {w : zW} {cells slots pc : Nat} {lv : zL} {st rest : List Value} {rm : Room} {mc ms index : Nat} {nm : String} {ret : Option FieldType} {Post : Option Value → zW → Prop}
theorem z_acopy (C : z_X G cc own Ts nL Γ) (E : z_E G rm mc ms nm ret Post Γ) {a0 a n0 n1 : Nat} {f g : Nat → Int32} {sp dp n : Int32} (hlk : Cond.methodLink own index arraycopyName ∈ Ts) (hnat : Cond.native arraycopyName ∈ Ts) (hstat : Cond.static arraycopyName ∈ Ts) (hini : Cond.initialized "java/lang/System" ∈ Ts)
    (ha0 : w.2 a0 = some (.inl (0, n0, .inl f))) (ha : w.2 a = some (.inl (0, n1, .inl g))) (h1 : 0 ≤ sp.toInt) (h2 : 0 ≤ dp.toInt) (h3 : 0 ≤ n.toInt) (h4 : sp.toInt + n.toInt ≤ n0) (h5 : dp.toInt + n.toInt ≤ n1)
    (hR : 1 ≤ rm.frames ∧ 8 + (nativeFrameWords "java/lang/System" "arraycopy" 5 + 11) ≤ rm.locals) (hrest : (rest.map fun v => v.category).sum ≤ 8) (hd : decode cc pc = .ok (.invokestatic index, 3))
    (kk : z_J G nL Γ (z_up w a (.inl (0, n1, .inl (va_cpy f g sp.toNatClampNeg dp.toNatClampNeg n.toNatClampNeg)))) cells slots (pc + 3) lv rest) : z_J G nL Γ w cells slots pc lv (.int n :: .int dp :: .ref a :: .int sp :: .ref a0 :: rest) := by
  have hR0 := E.1
  have hts := C.1.2.2.2.2
  have nn : ∀ z : Int32, 0 ≤ z.toInt → z.toInt = (z.toNatClampNeg : Int) := by
    intro z hz
    show z.toInt = ((z.toInt.toNat : Nat) : Int)
    omega
  have nl : ∀ z : Int32, 0 ≤ z.toInt → ¬ z < 0 := by
    intro z hz h
    have h' := Int32.lt_iff_toInt_lt.mp h
    have e0 : (0 : Int32).toInt = 0 := by decide
    omega
  have e0 := nn sp h1
  have e1 := nn dp h2
  have e2 := nn n h3
  intro H locs ls hH hS hl T hT X
  have hc0 : H[a0]? = some (vp_cell (G.2.2.1 0) (n0, .inl f)) := (hH.2 a0 _ ha0).2
  have hc1 : H[a]? = some (vp_cell (G.2.2.1 0) (n1, .inl g)) := (hH.2 a _ ha).2
  obtain ⟨-, k0, hk0, cm0, hkk0⟩ := (C.2.1.2 0 _ rfl).1 n0 (fun j => .int (f j))
  obtain ⟨-, k1, hk1, cm1, hkk1⟩ := (C.2.1.2 0 _ rfl).1 n1 (fun j => .int (g j))
  obtain ⟨vm', X', step⟩ := X.arraycopy C.1.1 C.1.2.2.2.1 (hts _ hlk) (hts _ hnat) (hts _ hstat) (hts _ hini) (src := a0) (dst := a) (cs := vp_cell (G.2.2.1 0) (n0, .inl f)) (cd := vp_cell (G.2.2.1 0) (n1, .inl g)) (srcPos := sp) (destPos := dp) (n := n) (by rw [hT]; exact hc0) (by rw [hT]; exact hc1)
    (fun _ h => by cases h) (fun _ h => by cases h) (fun h => by cases h) (fun h => by cases h) hk0 hk1 hkk0 hkk1 rfl (nl sp h1) (nl dp h2) (nl n h3)
    (by show ¬ _ > ((arrV _ n0 (fun j => .int (f j))).slots.size : Int); rw [arrV_size]; omega)
    (by show ¬ _ > ((arrV _ n1 (fun j => .int (g j))).slots.size : Int); rw [arrV_size]; omega)
    (fun vm₁ _ i hi => by
      have e : (vp_cell (G.2.2.1 0) (n0, .inl f)).slots.getD (sp.toNatClampNeg + i) .null = .int (f (sp.toNatClampNeg + i)) := by
        show (arrV _ n0 (fun j => .int (f j))).slots.getD _ _ = _
        rw [Array.getD_eq_getD_getElem?, arrV_read _ _ (by omega)]
        rfl
      rw [e]
      exact ⟨rfl, trivial⟩)
    (g := F0 (zm Γ) pc ls (.int n :: .int dp :: .ref a :: .int sp :: .ref a0 :: rest)) rfl (by rw [C.1.2.2.1]; exact hl.1) (rest := rest) rfl (by rw [C.1.2.1]; exact hd) (by rw [hR0]; exact hR.1) (by rw [hR0]; show 2 * 0 + _ + _ ≤ _; omega)
  have ec : copied (vp_cell (G.2.2.1 0) (n0, .inl f)) (vp_cell (G.2.2.1 0) (n1, .inl g)) sp dp n = vp_cell (G.2.2.1 0) (n1, .inl (va_cpy f g sp.toNatClampNeg dp.toNatClampNeg n.toNatClampNeg)) := va_copied (fun z => .int z) _ _ f g (by omega)
  rw [ec] at X' step
  have hlt : a < H.size := (Array.getElem?_eq_some_iff.mp hc1).1
  have hheap : ((T.setVm vm').setCell a (vp_cell (G.2.2.1 0) (n1, .inl (va_cpy f g sp.toNatClampNeg dp.toNatClampNeg n.toNatClampNeg)))).heap = H.setIfInBounds a (vp_cell (G.2.2.1 0) (n1, .inl (va_cpy f g sp.toNatClampNeg dp.toNatClampNeg n.toNatClampNeg))) := by rw [← hT]; rfl
  have oq : ∀ q : Nat, q ≠ a → (H.setIfInBounds a (vp_cell (G.2.2.1 0) (n1, .inl (va_cpy f g sp.toNatClampNeg dp.toNatClampNeg n.toNatClampNeg))))[q]? = H[q]? := fun q hq => by simp [Array.getElem?_setIfInBounds, Ne.symm hq]
  have hb := (hH.2 a _ ha).1
  obtain ⟨t, a1, b1⟩ := kk _ _ ls (hH.set ha (by simp) (show (H.setIfInBounds a _)[a]? = some _ by simp [Array.getElem?_setIfInBounds, hlt]) oq) ⟨by simp; exact hS.1, fun q g1 g2 => by
      rw [oq q (fun e => g2 (by rw [e]; exact hb))]
      exact hS.2.1 q g1 g2, fun q hq => by
      rcases List.mem_append.mp hq with h | h
      · exact hS.2.2 q h
      · obtain ⟨z, -, hz⟩ := List.mem_map.mp h
        rw [← hz]
        exact hb⟩ hl _ hheap X'
  exact ⟨t, step t a1, b1⟩
theorem z_tsIn (C : z_X G cc own Ts nL Γ) {dflt lo hi : Int} {offs : Array Int} {len : Nat} {x : Int32} {off : Int} {tgt : Nat} (hd : decode cc pc = .ok (.tableswitch dflt lo hi offs, len)) (h1 : lo ≤ x.toInt) (h2 : x.toInt ≤ hi) (ho : offs[(x.toInt - lo).toNat]? = some off) (ht : (pc : Int) + off = (tgt : Int)) (k : z_J G nL Γ w cells slots tgt lv st) : z_J G nL Γ w cells slots pc lv (.int x :: st) :=
  fun H locs ls hH hS hl => lv_tableIn C.1.1 C.1.2.1 hd (by omega) (by omega) ho ht (k H locs ls hH hS hl)
theorem z_tsOut (C : z_X G cc own Ts nL Γ) {dflt lo hi : Int} {offs : Array Int} {len : Nat} {x : Int32} {tgt : Nat} (hd : decode cc pc = .ok (.tableswitch dflt lo hi offs, len)) (h1 : x.toInt < lo ∨ hi < x.toInt) (ht : (pc : Int) + dflt = (tgt : Int)) (k : z_J G nL Γ w cells slots tgt lv st) : z_J G nL Γ w cells slots pc lv (.int x :: st) :=
  fun H locs ls hH hS hl => lv_tableOut C.1.1 C.1.2.1 hd h1 ht (k H locs ls hH hS hl)
end ZCOP
