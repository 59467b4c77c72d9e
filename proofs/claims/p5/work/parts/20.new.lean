/-! WHAT A CONSTRUCTOR NEEDS: a new object, a new array, Object.<init>, a constant; the table of the keys' sizes; the script -/
section ZNEW
variable {G : zG} {cc : ByteArray} {own : String} {Ts : List Cond} {nL : Nat} {Γ : zΓ} {w : zW} {cells slots pc : Nat} {lv : zL} {st rest : List Value} {rm : Room} {mc ms index : Nat} {nm : String} {ret : Option FieldType} {Post : Option Value → zW → Prop}
theorem z_H.nw {w : zW} {H H1 : Heap} (h : z_H G w H) (hb : G.2.2.2 ≤ w.1) {c : zC} (z : H1.size = w.1 + 1) (he : va_at G.2.1 vwCl (w.1, z_c G.2.2.1 c) H1) (oq : ∀ q : Nat, q < w.1 → H1[q]? = H[q]?) : z_H G (z_nw w c) H1 := by
  refine ⟨z, fun k d hk => ?_⟩
  unfold z_nw at hk
  by_cases e : k = w.1
  · subst e
    simp at hk
    subst hk
    exact ⟨hb, he⟩
  · simp [e] at hk
    obtain ⟨h1, h2⟩ := h.2 k d hk
    have hlt : k < H.size := h2.lt
    exact ⟨h1, h2.kept (oq k (by rw [← h.1]; exact hlt))⟩
theorem z_newa (C : z_X G cc own Ts nL Γ) (E : z_E G rm mc ms nm ret Post Γ) {atype : ArrayType} {n : Int32} {N k : Nat} {a0 : vp_A} {ty : FieldType} (hty : newarray.typeOf atype = ty) (hk : (z_tys G)[k]? = some (G.2.2.1 k, ty)) (hpr : ∀ (U : State) (cA : ClassId), va_RA U cA ty → U.vm.findClass ("[" ++ ty.toString) = some cA) (harr : Cond.arrayClass ty ∈ Ts) (ha : ∀ cA : ClassId, vp_cell cA a0 = arrV cA N (fun _ => defaultValue ty)) (hb : G.2.2.2 ≤ w.1) (hn : ¬ n < 0) (hN : n.toNatClampNeg = N) (hby : N * componentBytes ty ≤ 536870912) (hf : cells + 1 ≤ rm.cells ∧ slots + N ≤ rm.slots) (hd : decode cc pc = .ok (.newarray atype, 2))
    (kk : z_J G nL Γ (z_nw w (.inl (k, a0))) (cells + 1) (slots + N) (pc + 2) lv (.ref w.1 :: st)) : z_J G nL Γ w cells slots pc lv (.int n :: st) := by
  obtain ⟨p, e, R, s, m, args, below, meth, c, Q⟩ := Γ
  obtain ⟨⟨hx, hb', hml, hown, hts⟩, hK, hSt, hlk⟩ := C
  have hR0 : R = rm := E.1
  subst hR0
  subst hty
  intro H locs ls hH hS hl
  refine va_newaK hx hb' (hts _ harr) rfl hd rfl hn hN hby hf.1 hf.2 hH.1 fun H1 cA e1 z1 o1 hAr hNm => ?_
  have hcA : cA = G.2.2.1 k := Option.some.inj (hNm.symm.trans (hpr _ _ (hK.2 k _ hk).2))
  subst hcA
  have hs1 : s.heap.size ≤ w.1 := by rw [← hH.1]; exact hS.1
  exact kk H1 locs ls (hH.nw hb z1 (show H1[w.1]? = some (vp_cell _ _) by rw [ha]; exact e1) (fun q hq => o1 q hq)) ⟨show s.heap.size ≤ H1.size by rw [z1]; omega, fun x h1 h2 => (o1 x (Nat.lt_of_lt_of_le h1 hs1)).trans (hS.2.1 x h1 h2), hS.2.2⟩ hl
theorem z_newi (C : z_X G cc own Ts nL Γ) (E : z_E G rm mc ms nm ret Post Γ) {n : Int32} (N : Nat) (harr : Cond.arrayClass .int ∈ Ts) (hb : G.2.2.2 ≤ w.1) (hn : ¬ n < 0) (hN : n.toNatClampNeg = N) (hby : N * 4 ≤ 536870912) (hf : cells + 1 ≤ rm.cells ∧ slots + N ≤ rm.slots) (hd : decode cc pc = .ok (.newarray .int, 2))
    (kk : z_J G nL Γ (z_nw w (.inl (0, N, .inl (fun _ => 0)))) (cells + 1) (slots + N) (pc + 2) lv (.ref w.1 :: st)) : z_J G nL Γ w cells slots pc lv (.int n :: st) :=
  z_newa (k := 0) (a0 := (N, .inl (fun _ => 0))) (ty := .int) C E rfl rfl (fun _ _ h => h) harr (fun _ => rfl) hb hn hN hby hf hd kk
theorem z_newz (C : z_X G cc own Ts nL Γ) (E : z_E G rm mc ms nm ret Post Γ) {n : Int32} (N : Nat) (harr : Cond.arrayClass .boolean ∈ Ts) (hb : G.2.2.2 ≤ w.1) (hn : ¬ n < 0) (hN : n.toNatClampNeg = N) (hby : N * 1 ≤ 536870912) (hf : cells + 1 ≤ rm.cells ∧ slots + N ≤ rm.slots) (hd : decode cc pc = .ok (.newarray .boolean, 2))
    (kk : z_J G nL Γ (z_nw w (.inl (1, N, .inl (fun _ => 0)))) (cells + 1) (slots + N) (pc + 2) lv (.ref w.1 :: st)) : z_J G nL Γ w cells slots pc lv (.int n :: st) :=
  z_newa (k := 1) (a0 := (N, .inl (fun _ => 0))) (ty := .boolean) C E rfl rfl (fun _ _ h => h) harr (fun _ => rfl) hb hn hN hby hf hd kk
theorem z_newl (C : z_X G cc own Ts nL Γ) (E : z_E G rm mc ms nm ret Post Γ) {n : Int32} (N : Nat) (harr : Cond.arrayClass .long ∈ Ts) (hb : G.2.2.2 ≤ w.1) (hn : ¬ n < 0) (hN : n.toNatClampNeg = N) (hby : N * 8 ≤ 536870912) (hf : cells + 1 ≤ rm.cells ∧ slots + N ≤ rm.slots) (hd : decode cc pc = .ok (.newarray .long, 2))
    (kk : z_J G nL Γ (z_nw w (.inl (2, N, .inr (.inl (fun _ => 0))))) (cells + 1) (slots + N) (pc + 2) lv (.ref w.1 :: st)) : z_J G nL Γ w cells slots pc lv (.int n :: st) :=
  z_newa (k := 2) (a0 := (N, .inr (.inl (fun _ => 0)))) (ty := .long) C E rfl rfl (fun _ _ h => h) harr (fun _ => rfl) hb hn hN hby hf hd kk
theorem z_new (C : z_X G cc own Ts nL Γ) (E : z_E G rm mc ms nm ret Post Γ) {Cn : String} {T : u_T} {N ci : Nat} {fs : List Value} (ty : Nat → FieldType) (hin : ∀ x ∈ u_ws Cn T N, x ∈ Ts) (hty : ∀ k, k < N → parseFieldDescriptor (T k).2.2.1 = some (ty k)) (hcl : Cond.classLink own index Cn ∈ Ts) (hinst : Cond.instantiable Cn N ∈ Ts) (hini : Cond.initialized Cn ∈ Ts) (hc : vwCl[ci]? = some (Cn, T, N)) (hfs : ∀ j, j < N → defaultValue (ty j) = vp_V fs j) (hb : G.2.2.2 ≤ w.1) (hf : cells + 1 ≤ rm.cells ∧ slots + N ≤ rm.slots) (hd : decode cc pc = .ok (.new index, 3))
    (kk : z_J G nL Γ (z_nw w (.inr (ci, fs))) (cells + 1) (slots + N) (pc + 3) lv (.ref w.1 :: st)) : z_J G nL Γ w cells slots pc lv st := by
  obtain ⟨p, e, R, s, m, args, below, meth, c, Q⟩ := Γ
  obtain ⟨⟨hx, hb', hml, hown, hts⟩, hK, hSt, hlk⟩ := C
  have hR0 : R = rm := E.1
  subst hR0
  intro H locs ls hH hS hl
  have hKn := hK.1 ci _ hc
  refine W.newcK hx hb' hown (hts _ hcl) (hts _ hinst) (hts _ hini) rfl hd hf.1 hf.2 hKn.2.1 hH.1 fun H1 kC hkC e1 z1 o1 => ?_
  have hs1 : s.heap.size ≤ w.1 := by rw [← hH.1]; exact hS.1
  exact kk H1 locs ls (hH.nw hb z1 ⟨_, hc, (u_born ty hts hin hKn hkC e1 hty).to hfs⟩ (fun q hq => o1 q hq)) ⟨show s.heap.size ≤ H1.size by rw [z1]; omega, fun x h1 h2 => (o1 x (Nat.lt_of_lt_of_le h1 hs1)).trans (hS.2.1 x h1 h2), hS.2.2⟩ hl
theorem z_oinit (C : z_X G cc own Ts nL Γ) (E : z_E G rm mc ms nm ret Post Γ) {a : Nat} (hlk : Cond.methodLink own index objectInit ∈ Ts) (hin : Cond.instanceMethod objectInit ∈ Ts) (hco : Cond.code objectInit ⟨#[0xb1]⟩ 1 none ∈ Ts) (hR : 1 ≤ rm.frames ∧ 20 ≤ rm.locals) (hrest : (rest.map fun v => v.category).sum ≤ 8) (hd : decode cc pc = .ok (.invokespecial index, 3))
    (kk : z_J G nL Γ w cells slots (pc + 3) lv rest) : z_J G nL Γ w cells slots pc lv (.ref a :: rest) := by
  have hR0 := E.1
  have hts := C.1.2.2.2.2
  intro H locs ls hH hS hl
  have hr := lv_room (m := zm Γ) (pc := pc) (ls := ls) (rest := .ref a :: rest) hrest
  exact W.objInit C.1.1 C.1.2.1 C.1.2.2.2.1 (hts _ hlk) (hts _ hin) (hts _ hco) rfl (by rw [C.1.2.2.1]; exact hl.1) rfl hd (by rw [hR0]; exact hR.1) (by rw [hR0]; omega) (kk H locs ls hH hS hl)
theorem z_ldc (C : z_X G cc own Ts nL Γ) {v : Int32} (hco : Cond.constant own index v ∈ Ts) (hd : decode cc pc = .ok (.ldc index, 2)) (kk : z_J G nL Γ w cells slots (pc + 2) lv (.int v :: st)) : z_J G nL Γ w cells slots pc lv st := by
  have hts := C.1.2.2.2.2
  intro H locs ls hH hS hl
  exact W.ldc C.1.1 C.1.2.1 C.1.2.2.2.1 (hts _ hco) rfl hd (kk H locs ls hH hS hl)
def zMost (j : Nat) : Int32 := if j = 0 then 32 else if j = 1 then 8 else if j = 2 then 8 else 18
def zMoT (G : zG) (Γ : zΓ) (t : Nat) : Prop := va_T .int t 4 (fun j => .int (zMost j)) (z_A G) (zs Γ) (zs Γ).heap
theorem z_most (C : z_X G cc own Ts nL Γ) (hlk : Cond.fieldLink own index "SortMerge$Keys" "MOST_SIZES" "[I" ∈ Ts) (hd : decode cc pc = .ok (.getstatic index, 3))
    (kk : ∀ t, zMoT G Γ t → z_J G nL Γ w cells slots (pc + 3) lv (.ref t :: st)) : z_J G nL Γ w cells slots pc lv st := by
  have hts := C.1.2.2.2.2
  obtain ⟨⟨t, h1, h2⟩, -⟩ := C.2.2.1
  intro H locs ls hH hS hl
  exact va_gets C.1.1 C.1.2.1 h1 hS C.1.2.2.2.1 (hts _ hlk) (fun _ h => h) hd (kk t h2 H locs ls hH hS hl)
theorem z_mlen (C : z_X G cc own Ts nL Γ) {t : Nat} (hT : zMoT G Γ t) (hd : decode cc pc = .ok (.arraylength, 1)) (kk : z_J G nL Γ w cells slots (pc + 1) lv (.int 4 :: st)) : z_J G nL Γ w cells slots pc lv (.ref t :: st) := by
  intro H locs ls hH hS hl
  exact va_tlen C.1.1 C.1.2.1 hT hS rfl hd (kk H locs ls hH hS hl)
theorem z_mld (C : z_X G cc own Ts nL Γ) {t : Nat} {i : Int32} (hT : zMoT G Γ t) (hin : vp_in i 4) (hd : decode cc pc = .ok (.iaload, 1)) (kk : z_J G nL Γ w cells slots (pc + 1) lv (.int (zMost i.toNatClampNeg) :: st)) : z_J G nL Γ w cells slots pc lv (.int i :: .ref t :: st) := by
  intro H locs ls hH hS hl
  exact va_ti C.1.1 C.1.2.1 hT hS hin rfl hd (kk H locs ls hH hS hl)
theorem z_sld (C : z_X G cc own Ts nL Γ) {b L : Nat} {xs : Nat → Int32} (hX : va_X b L xs (zs Γ) (zs Γ).heap) (hbl : b < (zs Γ).heap.size) (hbA : ¬ z_A G b) {i : Int32} (hin : vp_in i L) (hd : decode cc pc = .ok (.iaload, 1)) (kk : z_J G nL Γ w cells slots (pc + 1) lv (.int (xs i.toNatClampNeg) :: st)) : z_J G nL Γ w cells slots pc lv (.int i :: .ref b :: st) := by
  intro H locs ls hH hS hl
  exact va_sld C.1.1 C.1.2.1 hX hbl hbA hS hin hd (kk H locs ls hH hS hl)
theorem z_slen (C : z_X G cc own Ts nL Γ) {b L : Nat} {xs : Nat → Int32} (hX : va_X b L xs (zs Γ) (zs Γ).heap) (hbl : b < (zs Γ).heap.size) (hbA : ¬ z_A G b) (hd : decode cc pc = .ok (.arraylength, 1)) (kk : z_J G nL Γ w cells slots (pc + 1) lv (.int (Int32.ofNat L) :: st)) : z_J G nL Γ w cells slots pc lv (.ref b :: st) := by
  intro H locs ls hH hS hl
  exact va_slen C.1.1 C.1.2.1 hX hbl hbA hS hd (kk H locs ls hH hS hl)
end ZNEW
/-- a world: on top of w0 the cells l, from the address b on -/
def z_ls (w0 : zW) (b : Nat) (l : List zC) : zW := (b + l.length, fun j => if b ≤ j then l[j - b]? else w0.2 j)
theorem zl_1 (w0 : zW) (b : Nat) (l : List zC) : (z_ls w0 b l).1 = b + l.length := rfl
theorem zl_nw (w0 : zW) (b : Nat) (l : List zC) (c : zC) : z_nw (z_ls w0 b l) c = z_ls w0 b (l ++ [c]) := by
  unfold z_nw z_ls
  refine Prod.ext (by simp; omega) ?_
  funext j
  by_cases h : b ≤ j
  · by_cases e : j = b + l.length
    · subst e; simp
    · simp only [e, h, if_true, if_false]
      rw [List.getElem?_append]
      split
      · rfl
      · rename_i h2
        rw [List.getElem?_eq_none (by omega)]
        have : j - b - l.length ≠ 0 := by omega
        cases h3 : j - b - l.length with
        | zero => omega
        | succ n => simp
  · have e : ¬ j = b + l.length := by omega
    simp [h, e]
theorem zl_up (w0 : zW) (b k : Nat) (l : List zC) (c : zC) (hk : k < l.length) : z_up (z_ls w0 b l) (b + k) c = z_ls w0 b (l.set k c) := by
  unfold z_up z_ls
  refine Prod.ext (by simp) ?_
  funext j
  by_cases h : b ≤ j
  · by_cases e : j = b + k
    · subst e; simp [hk]
    · simp only [e, h, if_true, if_false]
      rw [List.getElem?_set]
      have : ¬ k = j - b := by omega
      simp [this]
  · have e : ¬ j = b + k := by omega
    simp [h, e]
theorem zl_at {w0 : zW} {b k : Nat} {l : List zC} {c : zC} (h : l[k]? = some c) : (z_ls w0 b l).2 (b + k) = some c := by
  unfold z_ls
  simp [h]
theorem zl_at0 {w0 : zW} {b : Nat} {l : List zC} {c : zC} : (z_ls w0 b (c :: l)).2 b = some c := by
  unfold z_ls
  simp
theorem zl_up0 (w0 : zW) (b : Nat) (l : List zC) (x c : zC) : z_up (z_ls w0 b (x :: l)) b c = z_ls w0 b (c :: l) := zl_up w0 b 0 (x :: l) c (by simp)
theorem zl_old {w0 : zW} {b j : Nat} {l : List zC} (h : j < b) : (z_ls w0 b l).2 j = w0.2 j := by
  unfold z_ls
  have : ¬ b ≤ j := by omega
  simp [this]
theorem zl_app (w0 : zW) (b n : Nat) (pre l : List zC) (hn : pre.length = n) : z_ls (z_ls w0 b pre) (b + n) l = z_ls w0 b (pre ++ l) := by
  subst hn
  unfold z_ls
  refine Prod.ext (by simp; omega) ?_
  funext j
  by_cases h : b ≤ j
  · by_cases e : b + pre.length ≤ j
    · simp only [e, h, if_true]
      rw [List.getElem?_append_right (by omega)]
      congr 1
      omega
    · simp only [e, h, if_true, if_false]
      rw [List.getElem?_append_left (by omega)]
  · have e : ¬ b + pre.length ≤ j := by omega
    simp [h, e]
theorem zl_M {G : zG} {y : MethodName} {ws : List Cond} {rm : Room} {mc ms : Nat} {av : List Value} {w0 : zW} {b n : Nat} (pre : List zC) {l l' : List zC} (hn : pre.length = n) (h : z_M G y ws rm mc ms av (z_ls (z_ls w0 b pre) (b + n) l) (fun x w' => x = none ∧ w' = z_ls (z_ls w0 b pre) (b + n) l')) : z_M G y ws rm mc ms av (z_ls w0 b (pre ++ l)) (fun x w' => x = none ∧ w' = z_ls w0 b (pre ++ l')) := by
  rw [zl_app w0 b n pre l hn, zl_app w0 b n pre l' hn] at h
  exact h
