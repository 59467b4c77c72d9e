/-! WHAT A CONSTRUCTOR NEEDS: a new object, a new array, Object.<init>, a constant; the table of the keys' sizes; the script -/
section ZNEW
variable {G : zG} {cc : ByteArray} {own : String} {Ts : List Cond} {nL : Nat} {Γ : zΓ} {w : zW} {cells slots pc : Nat} {lv : zL} {st rest : List Value} {rm : Room} {mc ms index : Nat} {nm : String} {ret : Option FieldType} {Post : Option Value → zW → Prop}
theorem z_H.nw {w : zW} {H H1 : Heap} (h : z_H G w H) (hb : G.2.2.2 ≤ w.1) {c : zC} (z : H1.size = w.1 + 1) (he : va_at G.2.1 vwCl (w.1, z_c G.2.2.1 c) H1) (oq : ∀ q : Nat, q < w.1 → H1[q]? = H[q]?) : z_H G (z_nw w c) H1 := by
  refine ⟨z, fun k d hk => ?_⟩
  unfold z_nw at hk
  by_cases e : k = w.1
  · subst e
    simp at hk
    subst hk
    exact ⟨hb, he⟩
  · simp [e] at hk
    obtain ⟨h1, h2⟩ := h.2 k d hk
    have hlt : k < H.size := h2.lt
    exact ⟨h1, h2.kept (oq k (by rw [← h.1]; exact hlt))⟩
theorem z_newa (C : z_X G cc own Ts nL Γ) (E : z_E G rm mc ms nm ret Post Γ) {atype : ArrayType} {n : Int32} {N k : Nat} {a0 : vp_A} {ty : FieldType} (hty : newarray.typeOf atype = ty) (hk : (z_tys G)[k]? = some (G.2.2.1 k, ty)) (hpr : ∀ (U : State) (cA : ClassId), va_RA U cA ty → U.vm.findClass ("[" ++ ty.toString) = some cA) (harr : Cond.arrayClass ty ∈ Ts) (ha : ∀ cA : ClassId, vp_cell cA a0 = arrV cA N (fun _ => defaultValue ty)) (hb : G.2.2.2 ≤ w.1) (hn : ¬ n < 0) (hN : n.toNatClampNeg = N) (hby : N * componentBytes ty ≤ 536870912) (hf : cells + 1 ≤ rm.cells ∧ slots + N ≤ rm.slots) (hd : decode cc pc = .ok (.newarray atype, 2))
    (kk : z_J G nL Γ (z_nw w (.inl (k, a0))) (cells + 1) (slots + N) (pc + 2) lv (.ref w.1 :: st)) : z_J G nL Γ w cells slots pc lv (.int n :: st) := by
  obtain ⟨p, e, R, s, m, args, below, meth, c, Q⟩ := Γ
  obtain ⟨⟨hx, hb', hml, hown, hts⟩, hK, hSt, hlk⟩ := C
  have hR0 : R = rm := E.1
  subst hR0
  subst hty
  intro H locs ls hH hS hl
  refine va_newaK hx hb' (hts _ harr) rfl hd rfl hn hN hby hf.1 hf.2 hH.1 fun H1 cA e1 z1 o1 hAr hNm => ?_
  have hcA : cA = G.2.2.1 k := Option.some.inj (hNm.symm.trans (hpr _ _ (hK.2 k _ hk).2))
  subst hcA
  have hs1 : s.heap.size ≤ w.1 := by rw [← hH.1]; exact hS.1
  exact kk H1 locs ls (hH.nw hb z1 (show H1[w.1]? = some (vp_cell _ _) by rw [ha]; exact e1) (fun q hq => o1 q hq)) ⟨show s.heap.size ≤ H1.size by rw [z1]; omega, fun x h1 h2 => (o1 x (Nat.lt_of_lt_of_le h1 hs1)).trans (hS.2.1 x h1 h2), hS.2.2⟩ hl
theorem z_newi (C : z_X G cc own Ts nL Γ) (E : z_E G rm mc ms nm ret Post Γ) {n : Int32} (N : Nat) (harr : Cond.arrayClass .int ∈ Ts) (hb : G.2.2.2 ≤ w.1) (hn : ¬ n < 0) (hN : n.toNatClampNeg = N) (hby : N * 4 ≤ 536870912) (hf : cells + 1 ≤ rm.cells ∧ slots + N ≤ rm.slots) (hd : decode cc pc = .ok (.newarray .int, 2))
    (kk : z_J G nL Γ (z_nw w (.inl (0, N, .inl (fun _ => 0)))) (cells + 1) (slots + N) (pc + 2) lv (.ref w.1 :: st)) : z_J G nL Γ w cells slots pc lv (.int n :: st) :=
  z_newa (k := 0) (a0 := (N, .inl (fun _ => 0))) (ty := .int) C E rfl rfl (fun _ _ h => h) harr (fun _ => rfl) hb hn hN hby hf hd kk
theorem z_newz (C : z_X G cc own Ts nL Γ) (E : z_E G rm mc ms nm ret Post Γ) {n : Int32} (N : Nat) (harr : Cond.arrayClass .boolean ∈ Ts) (hb : G.2.2.2 ≤ w.1) (hn : ¬ n < 0) (hN : n.toNatClampNeg = N) (hby : N * 1 ≤ 536870912) (hf : cells + 1 ≤ rm.cells ∧ slots + N ≤ rm.slots) (hd : decode cc pc = .ok (.newarray .boolean, 2))
    (kk : z_J G nL Γ (z_nw w (.inl (1, N, .inl (fun _ => 0)))) (cells + 1) (slots + N) (pc + 2) lv (.ref w.1 :: st)) : z_J G nL Γ w cells slots pc lv (.int n :: st) :=
  z_newa (k := 1) (a0 := (N, .inl (fun _ => 0))) (ty := .boolean) C E rfl rfl (fun _ _ h => h) harr (fun _ => rfl) hb hn hN hby hf hd kk
theorem z_newl (C : z_X G cc own Ts nL Γ) (E : z_E G rm mc ms nm ret Post Γ) {n : Int32} (N : Nat) (harr : Cond.arrayClass .long ∈ Ts) (hb : G.2.2.2 ≤ w.1) (hn : ¬ n < 0) (hN : n.toNatClampNeg = N) (hby : N * 8 ≤ 536870912) (hf : cells + 1 ≤ rm.cells ∧ slots + N ≤ rm.slots) (hd : decode cc pc = .ok (.newarray .long, 2))
    (kk : z_J G nL Γ (z_nw w (.inl (2, N, .inr (.inl (fun _ => 0))))) (cells + 1) (slots + N) (pc + 2) lv (.ref w.1 :: st)) : z_J G nL Γ w cells slots pc lv (.int n :: st) :=
  z_newa (k := 2) (a0 := (N, .inr (.inl (fun _ => 0)))) (ty := .long) C E rfl rfl (fun _ _ h => h) harr (fun _ => rfl) hb hn hN hby hf hd kk
theorem z_new (C : z_X G cc own Ts nL Γ) (E : z_E G rm mc ms nm ret Post Γ) {Cn : String} {T : u_T} {N ci : Nat} {fs : List Value} (ty : Nat → FieldType) (hin : ∀ x ∈ u_ws Cn T N, x ∈ Ts) (hty : ∀ k, k < N → parseFieldDescriptor (T k).2.2.1 = some (ty k)) (hcl : Cond.classLink own index Cn ∈ Ts) (hinst : Cond.instantiable Cn N ∈ Ts) (hini : Cond.initialized Cn ∈ Ts) (hc : vwCl[ci]? = some (Cn, T, N)) (hfs : ∀ j, j < N → defaultValue (ty j) = vp_V fs j) (hb : G.2.2.2 ≤ w.1) (hf : cells + 1 ≤ rm.cells ∧ slots + N ≤ rm.slots) (hd : decode cc pc = .ok (.new index, 3))
    (kk : z_J G nL Γ (z_nw w (.inr (ci, fs))) (cells + 1) (slots + N) (pc + 3) lv (.ref w.1 :: st)) : z_J G nL Γ w cells slots pc lv st := by
  obtain ⟨p, e, R, s, m, args, below, meth, c, Q⟩ := Γ
  obtain ⟨⟨hx, hb', hml, hown, hts⟩, hK, hSt, hlk⟩ := C
  have hR0 : R = rm := E.1
  subst hR0
  intro H locs ls hH hS hl
  have hKn := hK.1 ci _ hc
  refine W.newcK hx hb' hown (hts _ hcl) (hts _ hinst) (hts _ hini) rfl hd hf.1 hf.2 hKn.2.1 hH.1 fun H1 kC hkC e1 z1 o1 => ?_
  have hs1 : s.heap.size ≤ w.1 := by rw [← hH.1]; exact hS.1
  exact kk H1 locs ls (hH.nw hb z1 ⟨_, hc, (u_born ty hts hin hKn hkC e1 hty).to hfs⟩ (fun q hq => o1 q hq)) ⟨show s.heap.size ≤ H1.size by rw [z1]; omega, fun x h1 h2 => (o1 x (Nat.lt_of_lt_of_le h1 hs1)).trans (hS.2.1 x h1 h2), hS.2.2⟩ hl
theorem z_oinit (C : z_X G cc own Ts nL Γ) (E : z_E G rm mc ms nm ret Post Γ) {a : Nat} (hlk : Cond.methodLink own index objectInit ∈ Ts) (hin : Cond.instanceMethod objectInit ∈ Ts) (hco : Cond.code objectInit ⟨#[0xb1]⟩ 1 none ∈ Ts) (hR : 1 ≤ rm.frames ∧ 20 ≤ rm.locals) (hrest : (rest.map fun v => v.category).sum ≤ 8) (hd : decode cc pc = .ok (.invokespecial index, 3))
    (kk : z_J G nL Γ w cells slots (pc + 3) lv rest) : z_J G nL Γ w cells slots pc lv (.ref a :: rest) := by
  have hR0 := E.1
  have hts := C.1.2.2.2.2
  intro H locs ls hH hS hl
  have hr := lv_room (m := zm Γ) (pc := pc) (ls := ls) (rest := .ref a :: rest) hrest
  exact W.objInit C.1.1 C.1.2.1 C.1.2.2.2.1 (hts _ hlk) (hts _ hin) (hts _ hco) rfl (by rw [C.1.2.2.1]; exact hl.1) rfl hd (by rw [hR0]; exact hR.1) (by rw [hR0]; omega) (kk H locs ls hH hS hl)
theorem z_ldc (C : z_X G cc own Ts nL Γ) {v : Int32} (hco : Cond.constant own index v ∈ Ts) (hd : decode cc pc = .ok (.ldc index, 2)) (kk : z_J G nL Γ w cells slots (pc + 2) lv (.int v :: st)) : z_J G nL Γ w cells slots pc lv st := by
  have hts := C.1.2.2.2.2
  intro H locs ls hH hS hl
  exact W.ldc C.1.1 C.1.2.1 C.1.2.2.2.1 (hts _ hco) rfl hd (kk H locs ls hH hS hl)
def zMost (j : Nat) : Int32 := if j = 0 then 32 else if j = 1 then 8 else if j = 2 then 8 else 18
def zMoT (G : zG) (Γ : zΓ) (t : Nat) : Prop := va_T .int t 4 (fun j => .int (zMost j)) (z_A G) (zs Γ) (zs Γ).heap
theorem z_most (C : z_X G cc own Ts nL Γ) (hlk : Cond.fieldLink own index "SortMerge$Keys" "MOST_SIZES" "[I" ∈ Ts) (hd : decode cc pc = .ok (.getstatic index, 3))
    (kk : ∀ t, zMoT G Γ t → z_J G nL Γ w cells slots (pc + 3) lv (.ref t :: st)) : z_J G nL Γ w cells slots pc lv st := by
  have hts := C.1.2.2.2.2
  obtain ⟨⟨t, h1, h2⟩, -⟩ := C.2.2.1
  intro H locs ls hH hS hl
  exact va_gets C.1.1 C.1.2.1 h1 hS C.1.2.2.2.1 (hts _ hlk) (fun _ h => h) hd (kk t h2 H locs ls hH hS hl)
theorem z_mlen (C : z_X G cc own Ts nL Γ) {t : Nat} (hT : zMoT G Γ t) (hd : decode cc pc = .ok (.arraylength, 1)) (kk : z_J G nL Γ w cells slots (pc + 1) lv (.int 4 :: st)) : z_J G nL Γ w cells slots pc lv (.ref t :: st) := by
  intro H locs ls hH hS hl
  exact va_tlen C.1.1 C.1.2.1 hT hS rfl hd (kk H locs ls hH hS hl)
theorem z_mld (C : z_X G cc own Ts nL Γ) {t : Nat} {i : Int32} (hT : zMoT G Γ t) (hin : vp_in i 4) (hd : decode cc pc = .ok (.iaload, 1)) (kk : z_J G nL Γ w cells slots (pc + 1) lv (.int (zMost i.toNatClampNeg) :: st)) : z_J G nL Γ w cells slots pc lv (.int i :: .ref t :: st) := by
  intro H locs ls hH hS hl
  exact va_ti C.1.1 C.1.2.1 hT hS hin rfl hd (kk H locs ls hH hS hl)
theorem z_sld (C : z_X G cc own Ts nL Γ) {b L : Nat} {xs : Nat → Int32} (hX : va_X b L xs (zs Γ) (zs Γ).heap) (hbl : b < (zs Γ).heap.size) (hbA : ¬ z_A G b) {i : Int32} (hin : vp_in i L) (hd : decode cc pc = .ok (.iaload, 1)) (kk : z_J G nL Γ w cells slots (pc + 1) lv (.int (xs i.toNatClampNeg) :: st)) : z_J G nL Γ w cells slots pc lv (.int i :: .ref b :: st) := by
  intro H locs ls hH hS hl
  exact va_sld C.1.1 C.1.2.1 hX hbl hbA hS hin hd (kk H locs ls hH hS hl)
theorem z_slen (C : z_X G cc own Ts nL Γ) {b L : Nat} {xs : Nat → Int32} (hX : va_X b L xs (zs Γ) (zs Γ).heap) (hbl : b < (zs Γ).heap.size) (hbA : ¬ z_A G b) (hd : decode cc pc = .ok (.arraylength, 1)) (kk : z_J G nL Γ w cells slots (pc + 1) lv (.int (Int32.ofNat L) :: st)) : z_J G nL Γ w cells slots pc lv (.ref b :: st) := by
  intro H locs ls hH hS hl
  exact va_slen C.1.1 C.1.2.1 hX hbl hbA hS hd (kk H locs ls hH hS hl)
end ZNEW
/-- a world: on top of w0 the cells l, from the address b on -/
def z_ls (w0 : zW) (b : Nat) (l : List zC) : zW := (b + l.length, fun j => if b ≤ j then l[j - b]? else w0.2 j)
theorem zl_1 (w0 : zW) (b : Nat) (l : List zC) : (z_ls w0 b l).1 = b + l.length := rfl
theorem zl_nw (w0 : zW) (b : Nat) (l : List zC) (c : zC) : z_nw (z_ls w0 b l) c = z_ls w0 b (l ++ [c]) := by
  unfold z_nw z_ls
  refine Prod.ext (by simp; omega) ?_
  funext j
  by_cases h : b ≤ j
  · by_cases e : j = b + l.length
    · subst e; simp
    · simp only [e, h, if_true, if_false]
      rw [List.getElem?_append]
      split
      · rfl
      · rename_i h2
        rw [List.getElem?_eq_none (by omega)]
        have : j - b - l.length ≠ 0 := by omega
        cases h3 : j - b - l.length with
        | zero => omega
        | succ n => simp
  · have e : ¬ j = b + l.length := by omega
    simp [h, e]
theorem zl_up (w0 : zW) (b k : Nat) (l : List zC) (c : zC) (hk : k < l.length) : z_up (z_ls w0 b l) (b + k) c = z_ls w0 b (l.set k c) := by
  unfold z_up z_ls
  refine Prod.ext (by simp) ?_
  funext j
  by_cases h : b ≤ j
  · by_cases e : j = b + k
    · subst e; simp [hk]
    · simp only [e, h, if_true, if_false]
      rw [List.getElem?_set]
      have : ¬ k = j - b := by omega
      simp [this]
  · have e : ¬ j = b + k := by omega
    simp [h, e]
theorem zl_at {w0 : zW} {b k : Nat} {l : List zC} {c : zC} (h : l[k]? = some c) : (z_ls w0 b l).2 (b + k) = some c := by
  unfold z_ls
  simp [h]
theorem zl_at0 {w0 : zW} {b : Nat} {l : List zC} {c : zC} : (z_ls w0 b (c :: l)).2 b = some c := by
  unfold z_ls
  simp
theorem zl_up0 (w0 : zW) (b : Nat) (l : List zC) (x c : zC) : z_up (z_ls w0 b (x :: l)) b c = z_ls w0 b (c :: l) := zl_up w0 b 0 (x :: l) c (by simp)
theorem zl_old {w0 : zW} {b j : Nat} {l : List zC} (h : j < b) : (z_ls w0 b l).2 j = w0.2 j := by
  unfold z_ls
  have : ¬ b ≤ j := by omega
  simp [this]
theorem zl_app (w0 : zW) (b n : Nat) (pre l : List zC) (hn : pre.length = n) : z_ls (z_ls w0 b pre) (b + n) l = z_ls w0 b (pre ++ l) := by
  subst hn
  unfold z_ls
  refine Prod.ext (by simp; omega) ?_
  funext j
  by_cases h : b ≤ j
  · by_cases e : b + pre.length ≤ j
    · simp only [e, h, if_true]
      rw [List.getElem?_append_right (by omega)]
      congr 1
      omega
    · simp only [e, h, if_true, if_false]
      rw [List.getElem?_append_left (by omega)]
  · have e : ¬ b + pre.length ≤ j := by omega
    simp [h, e]
theorem zl_M {G : zG} {y : MethodName} {ws : List Cond} {rm : Room} {mc ms : Nat} {av : List Value} {w0 : zW} {b n : Nat} (pre : List zC) {l l' : List zC} (hn : pre.length = n) (h : z_M G y ws rm mc ms av (z_ls (z_ls w0 b pre) (b + n) l) (fun x w' => x = none ∧ w' = z_ls (z_ls w0 b pre) (b + n) l')) : z_M G y ws rm mc ms av (z_ls w0 b (pre ++ l)) (fun x w' => x = none ∧ w' = z_ls w0 b (pre ++ l')) := by
  rw [zl_app w0 b n pre l hn, zl_app w0 b n pre l' hn] at h
  exact h
/-! METHODS THAT THROW, AND THOSE THAT CATCH -/
theorem z_castS {args : Array Value} {s : State} {X : String} {n : Nat} (h : (Cond.instantiable X n).before args s = true) : (Cond.castable X X).before args s = true := by
  obtain ⟨c, k, hc, -⟩ := Cond.instantiable_spec h
  show (Cond.castable X X).holds args s none s [] = true
  have ha : s.vm.assignable c c = true := by
    show s.vm.assignableAux (255 + 1) c c = true
    rw [Vm.assignableAux]
    simp only [beq_self_eq_true, Bool.true_or]
  simp [Cond.holds, Cond.value, hc, ha]
theorem z_ofWW {l : Launch} {y : MethodName} {ws ws' : List Cond} {rm : Room} {Pc : Array Value → State → Prop} {Qc : Array Value → State → Outcome → State → Prop} {mc ms : Nat} {free : Addr → Prop} {cc : ByteArray} {maxL : Nat} {ret : Option FieldType} {hh : List (Nat × Nat × Nat × Nat)}
    (hy : plainName y.cls = true) (hw : ws = Cond.codeWith y cc maxL ret hh :: ws')
    (body : ∀ p e s m args below meth c s₁, BodyLoose p l y (headSpec ws rm) cc maxL ret e s m args below meth c s₁ → c.maxLocals = maxL → Pc args s →
      W p l e (headSpec ws rm).room s m args below meth c s.heap [] 0 0 (MQ below Qc args s mc ms free) (entryFrame m args maxL)) : Met l y ws rm Pc Qc mc ms free := by
  refine MetFree.of_bodyS (code := cc) (maxLocals := maxL) (ret := ret) hy ?_ ?_
  · intro args s m h hn
    obtain ⟨m9, meth, c, hn9, h1, h2, h3, h4, -, h5, h6, -⟩ := Cond.codeWith_spec (atoms_spec (ws := ws) h _ (by rw [hw]; exact List.mem_cons_self))
    cases hn.symm.trans hn9
    exact ⟨meth, c, h1, h2, h3, h4, h5, h6⟩
  · intro p e s m args below meth c s₁ B hml hP _
    have hh0 : s₁.heap = s.heap := by rw [B.state]; rfl
    obtain ⟨t, a1, o, b1, b2, b3⟩ := body p e s m args below meth c s₁ B hml hP s₁ hh0 (Stand.of_body B)
    exact ⟨t, o, a1, b1, b2, ⟨b3.1, b3.2⟩⟩
/-- a contract of a method with handlers, which itself returns -/
theorem z_mtW {G : zG} {y : MethodName} {ws ws' : List Cond} {rm : Room} {mc ms : Nat} {av : List Value} {w : zW} {Post : Option Value → zW → Prop} {cc : ByteArray} {nL : Nat} {ret : Option FieldType} {hh : List (Nat × Nat × Nat × Nat)}
    (hy : plainName y.cls = true) (hw : ws = Cond.codeWith y cc nL ret hh :: ws') (hlen : (lg_sl av).length ≤ nL) (k : Nat) (lv : zL) (hlv : z_ent av ++ List.replicate k none = lv)
    (body : ∀ Γ : zΓ, z_X G cc y.cls ws nL Γ → z_E G rm mc ms y.name ret Post Γ → (zc Γ).exceptionTable.toList = tableOf hh → z_J G nL Γ w 0 0 0 lv []) : z_M G y ws rm mc ms av w Post := by
  refine z_ofWW (cc := cc) (maxL := nL) (ret := ret) (hh := hh) hy hw ?_
  intro p e s m args below meth c s₁ B hml hv
  obtain ⟨rfl, hH, hK, hSt⟩ := hv
  have hx := B.exec
  have hb := B.bytes
  have hr := B.returns
  have hts := atoms_spec (ws := ws) B.pre
  have hown : s.vm.findClass y.cls = some m.cls := findClass_of_methodNamed B.named
  have htb := vx_table (x := y) B (hts _ (by rw [hw]; exact List.mem_cons_self))
  have hl := lv_entry av (n := nL) hlen
  rw [lg_entry_eq]
  exact body (p, e, (headSpec ws rm).room, s, m, av.toArray, below, meth, c, MQ below (z_Q G Post) av.toArray s mc ms (z_A G)) ⟨⟨hx, hb, hml, hown, hts⟩, hK, hSt, B.notSynchronized⟩ ⟨rfl, rfl, hr, (name_of_methodNamed B.named B.method).1⟩ htb s.heap [] _ hH va_S.rf
    ⟨hl.1, hl.2.1, fun i v hi => hl.2.2 (i, v) (by have := z_ent_args av 0 i v (z_lvp k i v (by rw [hlv]; exact hi)); simpa using this)⟩
/-- what holds where the method has thrown -/
def z_XC (G : zG) (PX : String → zW → Prop) : String → State → State → Prop := fun E st t => (∃ w', PX E w' ∧ z_H G w' t.heap) ∧ va_F (z_A G) st t
/-- a contract of a method that returns or throws -/
def z_MX (G : zG) (y : MethodName) (ws : List Cond) (rm : Room) (mc ms : Nat) (av : List Value) (w : zW) (Post : Option Value → zW → Prop) (PX : String → zW → Prop) : Prop :=
  vx_Met G.1 y ws rm (z_Pc G av w) (z_Q G Post) (z_XC G PX) mc ms (z_A G)
def z_sw (Γ : zΓ) (Q : State → Prop) : zΓ := (zp Γ, ze Γ, zR Γ, zs Γ, zm Γ, za Γ, zbl Γ, zmt Γ, zc Γ, Q)
/-- what the body of a method that may throw knows of its end -/
def z_EX (G : zG) (rm : Room) (mc ms : Nat) (nm : String) (ret : Option FieldType) (Post : Option Value → zW → Prop) (PX : String → zW → Prop) (Γ : zΓ) : Prop :=
  zR Γ = rm ∧ zQ Γ = vx_MQ (zbl Γ) (z_Q G Post) (z_XC G PX) (za Γ) (zs Γ) mc ms (z_A G) ∧ (∀ x ∈ (zc Γ).exceptionTable.toList, False) ∧ z_E G rm mc ms nm ret Post (z_sw Γ (MQ (zbl Γ) (z_Q G Post) (za Γ) (zs Γ) mc ms (z_A G)))
theorem z_mtX {G : zG} {y : MethodName} {ws ws' : List Cond} {rm : Room} {mc ms : Nat} {av : List Value} {w : zW} {Post : Option Value → zW → Prop} {PX : String → zW → Prop} {cc : ByteArray} {nL : Nat} {ret : Option FieldType}
    (hy : plainName y.cls = true) (hw : ws = Cond.code y cc nL ret :: ws') (hlen : (lg_sl av).length ≤ nL) (k : Nat) (lv : zL) (hlv : z_ent av ++ List.replicate k none = lv)
    (body : ∀ Γ : zΓ, z_X G cc y.cls ws nL Γ → z_EX G rm mc ms y.name ret Post PX Γ → z_J G nL Γ w 0 0 0 lv []) : z_MX G y ws rm mc ms av w Post PX := by
  refine vx_ofW (cc := cc) (maxL := nL) (ret := ret) hy hw ?_
  intro p e s m args below meth c s₁ B hml htb hv
  obtain ⟨rfl, hH, hK, hSt⟩ := hv
  have hx := B.exec
  have hb := B.bytes
  have hr := B.returns
  have hts := atoms_spec (ws := ws) B.pre
  have hown : s.vm.findClass y.cls = some m.cls := findClass_of_methodNamed B.named
  have hl := lv_entry av (n := nL) hlen
  rw [lg_entry_eq]
  exact body (p, e, (headSpec ws rm).room, s, m, av.toArray, below, meth, c, vx_MQ below (z_Q G Post) (z_XC G PX) av.toArray s mc ms (z_A G)) ⟨⟨hx, hb, hml, hown, hts⟩, hK, hSt, B.notSynchronized⟩ ⟨rfl, rfl, htb, rfl, rfl, hr, (name_of_methodNamed B.named B.method).1⟩ s.heap [] _ hH va_S.rf
    ⟨hl.1, hl.2.1, fun i v hi => hl.2.2 (i, v) (by have := z_ent_args av 0 i v (z_lvp k i v (by rw [hlv]; exact hi)); simpa using this)⟩
theorem z_declS {args : Array Value} {s : State} {x : MethodName} {bytes : ByteArray} {m : Nat} {ret : Option FieldType} (hi : (Cond.instanceMethod x).before args s = true) (hc : (Cond.code x bytes m ret).before args s = true) : (Cond.declares x).before args s = true := by
  obtain ⟨r0, r, hn, hrm, hst, hsig⟩ := va_Decl.of hi hc
  show (Cond.declares x).holds args s none s [] = true
  simp [Cond.holds, Cond.value, hn, hrm, hst, hsig]
section ZTH
variable {G : zG} {cc : ByteArray} {own : String} {Ts : List Cond} {nL : Nat} {Γ : zΓ} {w : zW} {cells slots pc : Nat} {lv : zL} {st rest : List Value} {rm : Room} {mc ms index : Nat} {nm : String} {ret : Option FieldType} {Post : Option Value → zW → Prop} {PX : String → zW → Prop}
/-- a way that returns -/
theorem z_Jret (X : z_EX G rm mc ms nm ret Post PX Γ) (h : z_J G nL (z_sw Γ (MQ (zbl Γ) (z_Q G Post) (za Γ) (zs Γ) mc ms (z_A G))) w cells slots pc lv st) : z_J G nL Γ w cells slots pc lv st := by
  intro H locs ls h1 h2 h3
  rw [X.2.1]
  exact vx_ret (h H locs ls h1 h2 h3)
theorem z_ild (C : z_X G cc own Ts nL Γ) {k : Fin 4} {x : Int32} (hd : decode cc pc = .ok (.iload_n k, 1)) (h1 : lv[k.val]? = some (some (.int x))) (kk : z_J G nL Γ w cells slots (pc + 1) lv (.int x :: st)) : z_J G nL Γ w cells slots pc lv st :=
  fun H locs ls hH hS hl => lv_iload_n C.1.1 C.1.2.1 hd rfl (hl.2.2 _ _ h1) (kk H locs ls hH hS hl)
theorem z_ald (C : z_X G cc own Ts nL Γ) {k : Fin 4} {x : Nat} (hd : decode cc pc = .ok (.aload_n k, 1)) (h1 : lv[k.val]? = some (some (.ref x))) (kk : z_J G nL Γ w cells slots (pc + 1) lv (.ref x :: st)) : z_J G nL Γ w cells slots pc lv st :=
  fun H locs ls hH hS hl => lv_aload_n C.1.1 C.1.2.1 hd rfl (hl.2.2 _ _ h1) (kk H locs ls hH hS hl)
theorem z_ifge (C : z_X G cc own Ts nL Γ) {x : Int32} {off : Int} {tgt : Nat} (hd : decode cc pc = .ok (.ifCond .ge off, 3)) (ht : (pc : Int) + off = (tgt : Int)) (k1 : 0 ≤ x → z_J G nL Γ w cells slots tgt lv st) (k2 : ¬ 0 ≤ x → z_J G nL Γ w cells slots (pc + 3) lv st) : z_J G nL Γ w cells slots pc lv (.int x :: st) :=
  fun H locs ls hH hS hl => lv_if_ge C.1.1 C.1.2.1 hd ht (fun q => k1 q H locs ls hH hS hl) (fun q => k2 q H locs ls hH hS hl)
theorem z_ifeq (C : z_X G cc own Ts nL Γ) {x : Int32} {off : Int} {tgt : Nat} (hd : decode cc pc = .ok (.ifCond .eq off, 3)) (ht : (pc : Int) + off = (tgt : Int)) (k1 : x = 0 → z_J G nL Γ w cells slots tgt lv st) (k2 : ¬ x = 0 → z_J G nL Γ w cells slots (pc + 3) lv st) : z_J G nL Γ w cells slots pc lv (.int x :: st) :=
  fun H locs ls hH hS hl => lv_if_eq C.1.1 C.1.2.1 hd ht (fun q => k1 q H locs ls hH hS hl) (fun q => k2 q H locs ls hH hS hl)
theorem z_throw (C : z_X G cc own Ts nL Γ) (X : z_EX G rm mc ms nm ret Post PX Γ) (hG : G.2.2.2 ≤ w.1) {cls text : String} {names : List String} {ik is ic : Nat} (ho : own = "SortMerge") (hcls : Bundle.fit cls = true) (hnames : ∀ n ∈ names, Bundle.fit n = true) (hk : Cond.classLink own ik cls ∈ Ts) (hini : Cond.initialized cls ∈ Ts) (hstr : (is, text) ∈ z_strs) (hat : ∀ x ∈ (vx_atS own ic cls names).filter goodWord, x ∈ Ts) {B : List Cond} (hng : ∀ x ∈ (vx_atS own ic cls names).filter (fun w => !goodWord w), x ∈ B) (hB : ∀ x ∈ B, x.before (za Γ) (zs Γ) = true)
    (hgood : ∀ w ∈ Cond.classLink own ik cls :: Cond.initialized cls :: vx_atS own ic cls names, vx_ot w = true)
    (d0 : decode cc pc = .ok (.new ik, 3)) (d3 : decode cc (pc + 3) = .ok (.dup, 1)) (d4 : decode cc (pc + 4) = .ok (.ldc is, 2)) (d6 : decode cc (pc + 6) = .ok (.invokespecial ic, 3)) (d9 : decode cc (pc + 9) = .ok (.athrow, 1))
    (hR : names.length + 3 < rm.frames ∧ (rest.map fun v => v.category).sum + (13 * (names.length + 1) + 43) ≤ rm.locals) (hf : cells + 1 ≤ rm.cells ∧ slots + 6 ≤ rm.slots) (hc : cells + 1 ≤ mc) (hs : slots + 6 ≤ ms)
    (hP : ∀ n, w.1 ≤ n → PX cls (n, w.2)) : z_J G nL Γ w cells slots pc lv rest := by
  obtain ⟨hR0, hQ, htb, -⟩ := X
  have hts := C.1.2.2.2.2
  obtain ⟨-, hU, hN, hl0, -, hst⟩ := C.2.2.1
  obtain ⟨sa, hsa⟩ := hst _ hstr
  intro H locs ls hH hS hl
  rw [hQ]
  refine vx_throwS (ik := ik) (is := is) (ic := ic) (A := z_A G) (sa := sa) (text := text) C.1.1 C.1.2.1 hl0 C.1.2.2.2.1 hcls hnames (hts _ hk) (hts _ hini) (by rw [ho]; exact hsa) (vx_hat (fun x hx => hts _ (hat x hx)) hng hB) hgood hU hN hS (hl.1.trans C.1.2.2.1.symm) d0 d3 d4 d6 d9 (fun x hx => (htb x hx).elim) (by rw [hR0]; exact hR.1) (by rw [hR0]; exact hR.2) (by rw [hR0]; exact hf.1) (by rw [hR0]; exact hf.2) C.2.2.2 ?_ hS.2.2 hc hs
  intro t ht hz hq
  refine ⟨⟨(t.heap.size, w.2), hP _ (by rw [← hH.1]; exact hz), rfl, fun k d hk => ?_⟩, Nat.le_trans hS.1 hz, fun q h1 h2 => ?_⟩
  · obtain ⟨h1, h2⟩ := hH.2 k d hk
    have hlt : k < H.size := h2.lt
    exact ⟨h1, h2.kept (hq k hlt)⟩
  · rw [hq q (Nat.lt_of_lt_of_le h1 hS.1)]
    exact hS.2.1 q h1 h2
variable {y : MethodName} {bytes : ByteArray} {maxL mcC msC n : Nat} {retC : Option FieldType} {ws ws' : List Cond} {rmC : Room} {PostC : Option Value → zW → Prop} {PXC : String → zW → Prop} {a : Nat} {As : List Value}
/-- z_callV where only the room is known of the end -/
theorem z_callVr (C : z_X G cc own Ts nL Γ) (hR0 : zR Γ = rm) {Cn : String} {T : u_T} {N ci : Nat} {fs : List Value} (hM : z_M G y ws rmC mcC msC (.ref a :: As) w PostC) (hG : GoodIn Ts (wsV own index Cn y ws)) (hw : ws = Cond.code y bytes maxL retC :: ws') (hrc : rmC.cells = mcC) (hrs : rmC.slots = msC)
    (hdn : y.cls = Cn ∧ y.cls ≠ "java/lang/invoke/MethodHandle" ∧ y.cls ≠ "java/lang/invoke/VarHandle" ∧ (parseMethodDescriptor y.desc).map (fun d => d.parameters.length) = some n) (hR : rmC.frames + 1 ≤ rm.frames ∧ 8 + (maxL + 11) + rmC.locals ≤ rm.locals)
    (hd : decode cc pc = .ok (.invokevirtual index, 3)) (hn : As.length = n) (hf : cells + mcC ≤ rm.cells ∧ slots + msC ≤ rm.slots) (hrest : (rest.map fun v => v.category).sum ≤ 8) (hc : vwCl[ci]? = some (Cn, T, N)) (ha : w.2 a = some (.inr (ci, fs)))
    (kk : ∀ (r : Option Value) (w' : zW), PostC r w' → z_J G nL Γ w' (cells + mcC) (slots + msC) (pc + 3) lv (r.toList ++ rest)) : z_J G nL Γ w cells slots pc lv (As.reverse ++ .ref a :: rest) := by
  have hts := C.1.2.2.2.2
  intro H locs ls hH hS hl
  refine z_after C hl (va_runV (As := As) (rest := rest) C.1 hM (cwV n hts hG hw hrc hrs hdn (by rw [hR0]; exact hR)) ⟨z_Pc_blind G _ w, z_recv C hH ha hc, z_preC C hH hS _⟩ rfl hn hl.1 rfl (lv_room hrest) hd (by rw [hR0]; exact hf)) hS kk
/-- a call of a method with handlers that returns -/
theorem z_callSW (C : z_X G cc own Ts nL Γ) (hR0 : zR Γ = rm) {hh : List (Nat × Nat × Nat × Nat)} {Ts' : List Cond} (hts' : ∀ x ∈ Ts', x.before (za Γ) (zs Γ) = true) (hM : z_M G y ws rmC mcC msC As w PostC) (hG : GoodIn Ts' (va_wsS own index y ws)) (hw : ws = Cond.codeWith y bytes maxL retC hh :: ws') (hrc : rmC.cells = mcC) (hrs : rmC.slots = msC)
    (hdn : y.cls ≠ "java/lang/invoke/MethodHandle" ∧ y.cls ≠ "java/lang/invoke/VarHandle" ∧ (parseMethodDescriptor y.desc).map (fun d => d.parameters.length) = some n) (hR : rmC.frames + 1 ≤ rm.frames ∧ 8 + (maxL + 11) + rmC.locals ≤ rm.locals)
    (hd : decode cc pc = .ok (.invokestatic index, 3)) (hn : As.length = n) (hf : cells + mcC ≤ rm.cells ∧ slots + msC ≤ rm.slots) (hrest : (rest.map fun v => v.category).sum ≤ 8)
    (kk : ∀ (r : Option Value) (w' : zW), PostC r w' → z_J G nL Γ w' (cells + mcC) (slots + msC) (pc + 3) lv (r.toList ++ rest)) : z_J G nL Γ w cells slots pc lv (As.reverse ++ rest) := by
  intro H locs ls hH hS hl
  refine z_after C hl (vx_runSW (As := As) (rest := rest) C.1 hM (vx_cwSW n hts' hG hw hrc hrs hdn (by rw [hR0]; exact hR)) ⟨z_Pc_blind G _ w, z_preC C hH hS _⟩ rfl hn hl.1 rfl (lv_room hrest) hd (by rw [hR0]; exact hf)) hS kk
end ZTH
theorem z_Xsw {G : zG} {cc : ByteArray} {own : String} {Ts : List Cond} {nL : Nat} {Γ : zΓ} {Q : State → Prop} (C : z_X G cc own Ts nL Γ) : z_X G cc own Ts nL (z_sw Γ Q) := C
section ZSX
variable {G : zG} {cc : ByteArray} {own : String} {Ts : List Cond} {nL : Nat} {Γ : zΓ} {w : zW} {cells slots pc : Nat} {lv : zL} {st : List Value} {rm : Room} {mc ms : Nat} {nm : String} {ret : Option FieldType} {Post : Option Value → zW → Prop} {PX : String → zW → Prop}
theorem z_step_okX (C : z_X G cc own Ts nL Γ) (E : z_EX G rm mc ms nm ret Post PX Γ) {op a b n : Nat} {v : Int32} {i : Instr} {len : Nat} (hd : decode cc pc = .ok (i, len)) (hck : z_chk own Ts nL ret pc i len op a b n v = true) (hc : cells ≤ mc) (hs : slots ≤ ms) {nx K : Nat → zL → List Value → zW → Prop}
    (hnx : ∀ pc lv st w, nx pc lv st w → z_J G nL Γ w cells slots pc lv st) (hK : ∀ pc lv st w, K pc lv st w → z_J G nL Γ w cells slots pc lv st) (h : z_step op a b n v pc lv st w nx K Post) : z_J G nL Γ w cells slots pc lv st := by
  by_cases h99 : op = 99
  · subst h99
    exact hK _ _ _ _ h
  have hx := C.1.1
  have hb := C.1.2.1
  have hown := C.1.2.2.2.1
  have hts := C.1.2.2.2.2
  simp only [z_chk, h99, decide_false, Bool.false_or] at hck
  cases i
  case iload k =>
    simp only [decide_eq_true_eq] at hck
    obtain ⟨rfl, rfl, rfl, rfl⟩ := hck
    obtain ⟨x, h1, h2⟩ := z_li_ok h
    intro H locs ls hH hS hl
    exact lv_iload hx hb hd (hl.2.2 _ _ h1) (hnx _ _ _ _ h2 H locs ls hH hS hl)
  case iload_n k =>
    simp only [decide_eq_true_eq] at hck
    obtain ⟨rfl, rfl, rfl, rfl⟩ := hck
    obtain ⟨x, h1, h2⟩ := z_li_ok h
    intro H locs ls hH hS hl
    exact lv_iload_n hx hb hd rfl (hl.2.2 _ _ h1) (hnx _ _ _ _ h2 H locs ls hH hS hl)
  case aload k =>
    simp only [decide_eq_true_eq] at hck
    obtain ⟨rfl, rfl, rfl, rfl⟩ := hck
    obtain ⟨x, h1, h2⟩ := z_la_ok h
    intro H locs ls hH hS hl
    exact lv_aload hx hb hd (hl.2.2 _ _ h1) (hnx _ _ _ _ h2 H locs ls hH hS hl)
  case aload_n k =>
    simp only [decide_eq_true_eq] at hck
    obtain ⟨rfl, rfl, rfl, rfl⟩ := hck
    obtain ⟨x, h1, h2⟩ := z_la_ok h
    intro H locs ls hH hS hl
    exact lv_aload_n hx hb hd rfl (hl.2.2 _ _ h1) (hnx _ _ _ _ h2 H locs ls hH hS hl)
  case lload k =>
    simp only [decide_eq_true_eq] at hck
    obtain ⟨rfl, rfl, rfl, rfl⟩ := hck
    obtain ⟨x, h1, h2⟩ := z_ll_ok h
    intro H locs ls hH hS hl
    exact lv_lload hx hb hd (hl.2.2 _ _ h1) (hnx _ _ _ _ h2 H locs ls hH hS hl)
  case lload_n k =>
    simp only [decide_eq_true_eq] at hck
    obtain ⟨rfl, rfl, rfl, rfl⟩ := hck
    obtain ⟨x, h1, h2⟩ := z_ll_ok h
    intro H locs ls hH hS hl
    exact lv_lload_n hx hb hd rfl (hl.2.2 _ _ h1) (hnx _ _ _ _ h2 H locs ls hH hS hl)
  case istore k =>
    simp only [decide_eq_true_eq] at hck
    obtain ⟨rfl, rfl, rfl, rfl, hlt⟩ := hck
    obtain ⟨x, r, rfl, h1, h2⟩ := z_1i_ok h
    intro H locs ls hH hS hl
    exact lv_istore hx hb hd hl.has hlt rfl (fun ls' hl' => hnx _ _ _ _ h2 H locs ls' hH hS (z_L.st1 h1 hl'))
  case istore_n k =>
    simp only [decide_eq_true_eq] at hck
    obtain ⟨rfl, rfl, rfl, rfl, hlt⟩ := hck
    obtain ⟨x, r, rfl, h1, h2⟩ := z_1i_ok h
    intro H locs ls hH hS hl
    exact lv_istore_n hx hb hd rfl hl.has hlt rfl (fun ls' hl' => hnx _ _ _ _ h2 H locs ls' hH hS (z_L.st1 h1 hl'))
  case astore k =>
    simp only [decide_eq_true_eq] at hck
    obtain ⟨rfl, rfl, rfl, rfl, hlt⟩ := hck
    obtain ⟨x, r, rfl, h1, h2⟩ := z_1a_ok h
    intro H locs ls hH hS hl
    exact lv_astore hx hb hd hl.has hlt rfl (fun ls' hl' => hnx _ _ _ _ h2 H locs ls' hH hS (z_L.st1 h1 hl'))
  case astore_n k =>
    simp only [decide_eq_true_eq] at hck
    obtain ⟨rfl, rfl, rfl, rfl, hlt⟩ := hck
    obtain ⟨x, r, rfl, h1, h2⟩ := z_1a_ok h
    intro H locs ls hH hS hl
    exact lv_astore_n hx hb hd rfl hl.has hlt rfl (fun ls' hl' => hnx _ _ _ _ h2 H locs ls' hH hS (z_L.st1 h1 hl'))
  case lstore k =>
    simp only [decide_eq_true_eq] at hck
    obtain ⟨rfl, rfl, rfl, rfl, hlt⟩ := hck
    obtain ⟨x, r, rfl, h1, h2⟩ := z_1l_ok h
    intro H locs ls hH hS hl
    exact lv_lstore hx hb hd hl.has hlt rfl (fun ls' hl' => hnx _ _ _ _ h2 H locs ls' hH hS (z_L.st2 h1 hl'))
  case lstore_n k =>
    simp only [decide_eq_true_eq] at hck
    obtain ⟨rfl, rfl, rfl, rfl, hlt⟩ := hck
    obtain ⟨x, r, rfl, h1, h2⟩ := z_1l_ok h
    intro H locs ls hH hS hl
    exact lv_lstore_n hx hb hd rfl hl.has hlt rfl (fun ls' hl' => hnx _ _ _ _ h2 H locs ls' hH hS (z_L.st2 h1 hl'))
  case iconst z =>
    simp only [decide_eq_true_eq] at hck
    obtain ⟨rfl, rfl, rfl, rfl⟩ := hck
    intro H locs ls hH hS hl
    exact lv_iconst hx hb hd rfl (hnx _ _ _ _ h H locs ls hH hS hl)
  case bipush z =>
    simp only [decide_eq_true_eq] at hck
    obtain ⟨rfl, rfl, rfl, rfl⟩ := hck
    intro H locs ls hH hS hl
    exact lv_bipush hx hb hd rfl (hnx _ _ _ _ h H locs ls hH hS hl)
  case sipush z =>
    simp only [decide_eq_true_eq] at hck
    obtain ⟨rfl, rfl, rfl, rfl⟩ := hck
    intro H locs ls hH hS hl
    exact lv_sipush hx hb hd rfl (hnx _ _ _ _ h H locs ls hH hS hl)
  case lconst z =>
    simp only [decide_eq_true_eq] at hck
    obtain ⟨rfl, rfl, rfl, hv⟩ := hck
    intro H locs ls hH hS hl
    exact lv_lconst hx hb hd hv.symm (hnx _ _ _ _ h H locs ls hH hS hl)
  case ldc2_w k =>
    simp only [decide_eq_true_eq] at hck
    obtain ⟨rfl, rfl, rfl, hv⟩ := hck
    intro H locs ls hH hS hl
    exact lv_ldc2 hx hb hown (hts _ hv) hd (hnx _ _ _ _ h H locs ls hH hS hl)
  case iinc k z =>
    simp only [decide_eq_true_eq] at hck
    obtain ⟨rfl, rfl, rfl, rfl, hlt, rfl⟩ := hck
    obtain ⟨x, h1, h2, h3⟩ := z_li_ok h
    intro H locs ls hH hS hl
    obtain ⟨j, hj⟩ := List.getElem?_of_mem (z_as_mem.mpr h1)
    exact lv_iinc hx hb hd hl.has hj rfl hlt rfl (fun ls' hl' => hnx _ _ _ _ h3 H locs ls' hH hS (z_L.st1 h2 hl'))
  case iadd =>
    simp only [decide_eq_true_eq] at hck
    obtain ⟨rfl, rfl, rfl⟩ := hck
    obtain ⟨x, y, r, rfl, h1⟩ := z_2i_ok h
    intro H locs ls hH hS hl
    exact lv_iadd hx hb hd (hnx _ _ _ _ h1 H locs ls hH hS hl)
  case isub =>
    simp only [decide_eq_true_eq] at hck
    obtain ⟨rfl, rfl, rfl⟩ := hck
    obtain ⟨x, y, r, rfl, h1⟩ := z_2i_ok h
    intro H locs ls hH hS hl
    exact lv_isub hx hb hd (hnx _ _ _ _ h1 H locs ls hH hS hl)
  case imul =>
    simp only [decide_eq_true_eq] at hck
    obtain ⟨rfl, rfl, rfl⟩ := hck
    obtain ⟨x, y, r, rfl, h1⟩ := z_2i_ok h
    intro H locs ls hH hS hl
    exact lv_imul hx hb hd (hnx _ _ _ _ h1 H locs ls hH hS hl)
  case iand =>
    simp only [decide_eq_true_eq] at hck
    obtain ⟨rfl, rfl, rfl⟩ := hck
    obtain ⟨x, y, r, rfl, h1⟩ := z_2i_ok h
    intro H locs ls hH hS hl
    exact lv_iand hx hb hd (hnx _ _ _ _ h1 H locs ls hH hS hl)
  case ior =>
    simp only [decide_eq_true_eq] at hck
    obtain ⟨rfl, rfl, rfl⟩ := hck
    obtain ⟨x, y, r, rfl, h1⟩ := z_2i_ok h
    intro H locs ls hH hS hl
    exact lv_ior hx hb hd (hnx _ _ _ _ h1 H locs ls hH hS hl)
  case ixor =>
    simp only [decide_eq_true_eq] at hck
    obtain ⟨rfl, rfl, rfl⟩ := hck
    obtain ⟨x, y, r, rfl, h1⟩ := z_2i_ok h
    intro H locs ls hH hS hl
    exact lv_ixor hx hb hd (hnx _ _ _ _ h1 H locs ls hH hS hl)
  case ineg =>
    simp only [decide_eq_true_eq] at hck
    obtain ⟨rfl, rfl, rfl⟩ := hck
    obtain ⟨x, r, rfl, h1⟩ := z_1i_ok h
    intro H locs ls hH hS hl
    exact lv_ineg hx hb hd (hnx _ _ _ _ h1 H locs ls hH hS hl)
  case idiv =>
    simp only [decide_eq_true_eq] at hck
    obtain ⟨rfl, rfl, rfl⟩ := hck
    obtain ⟨x, y, r, rfl, h0, h1⟩ := z_2i_ok h
    intro H locs ls hH hS hl
    exact lv_idiv hx hb hd h0 (hnx _ _ _ _ h1 H locs ls hH hS hl)
  case irem =>
    simp only [decide_eq_true_eq] at hck
    obtain ⟨rfl, rfl, rfl⟩ := hck
    obtain ⟨x, y, r, rfl, h0, h1⟩ := z_2i_ok h
    intro H locs ls hH hS hl
    exact lv_irem hx hb hd h0 (hnx _ _ _ _ h1 H locs ls hH hS hl)
  case ladd =>
    simp only [decide_eq_true_eq] at hck
    obtain ⟨rfl, rfl, rfl⟩ := hck
    obtain ⟨x, y, r, rfl, h1⟩ := z_2l_ok h
    intro H locs ls hH hS hl
    exact lv_ladd hx hb hd (hnx _ _ _ _ h1 H locs ls hH hS hl)
  case lmul =>
    simp only [decide_eq_true_eq] at hck
    obtain ⟨rfl, rfl, rfl⟩ := hck
    obtain ⟨x, y, r, rfl, h1⟩ := z_2l_ok h
    intro H locs ls hH hS hl
    exact lv_lmul hx hb hd (hnx _ _ _ _ h1 H locs ls hH hS hl)
  case lor =>
    simp only [decide_eq_true_eq] at hck
    obtain ⟨rfl, rfl, rfl⟩ := hck
    obtain ⟨x, y, r, rfl, h1⟩ := z_2l_ok h
    intro H locs ls hH hS hl
    exact lv_lor hx hb hd (hnx _ _ _ _ h1 H locs ls hH hS hl)
  case lsub =>
    simp only [decide_eq_true_eq] at hck
    obtain ⟨rfl, rfl, rfl⟩ := hck
    obtain ⟨x, y, r, rfl, h1⟩ := z_2l_ok h
    intro H locs ls hH hS hl
    exact lv_lsub hx hb hd (hnx _ _ _ _ h1 H locs ls hH hS hl)
  case lneg =>
    simp only [decide_eq_true_eq] at hck
    obtain ⟨rfl, rfl, rfl⟩ := hck
    obtain ⟨x, r, rfl, h1⟩ := z_1l_ok h
    intro H locs ls hH hS hl
    exact lv_lneg hx hb hd (hnx _ _ _ _ h1 H locs ls hH hS hl)
  case ishr =>
    simp only [decide_eq_true_eq] at hck
    obtain ⟨rfl, rfl, rfl⟩ := hck
    obtain ⟨x, y, r, rfl, h1⟩ := z_2i_ok h
    intro H locs ls hH hS hl
    exact lv_ishr hx hb hd (hnx _ _ _ _ h1 H locs ls hH hS hl)
  case ishl =>
    simp only [decide_eq_true_eq] at hck
    obtain ⟨rfl, rfl, rfl⟩ := hck
    obtain ⟨x, y, r, rfl, h1⟩ := z_2i_ok h
    intro H locs ls hH hS hl
    exact lv_ishl hx hb hd (hnx _ _ _ _ h1 H locs ls hH hS hl)
  case lshl =>
    simp only [decide_eq_true_eq] at hck
    obtain ⟨rfl, rfl, rfl⟩ := hck
    obtain ⟨x, y, r, rfl, h1⟩ := z_lsi_ok h
    intro H locs ls hH hS hl
    exact lv_lshl hx hb hd rfl (hnx _ _ _ _ h1 H locs ls hH hS hl)
  case i2l =>
    simp only [decide_eq_true_eq] at hck
    obtain ⟨rfl, rfl, rfl⟩ := hck
    obtain ⟨x, r, rfl, h1⟩ := z_1i_ok h
    intro H locs ls hH hS hl
    exact lv_i2l hx hb hd rfl (hnx _ _ _ _ h1 H locs ls hH hS hl)
  case i2b =>
    simp only [decide_eq_true_eq] at hck
    obtain ⟨rfl, rfl, rfl⟩ := hck
    obtain ⟨x, r, rfl, h1⟩ := z_1i_ok h
    intro H locs ls hH hS hl
    exact lv_i2b hx hb hd rfl (hnx _ _ _ _ h1 H locs ls hH hS hl)
  case lcmp =>
    simp only [decide_eq_true_eq] at hck
    obtain ⟨rfl, rfl, rfl⟩ := hck
    obtain ⟨x, y, r, rfl, h1⟩ := z_2l_ok h
    intro H locs ls hH hS hl
    exact W.lcmp hx hb hd (hnx _ _ _ _ h1 H locs ls hH hS hl)
  case dup =>
    simp only [decide_eq_true_eq] at hck
    obtain ⟨rfl, rfl, rfl⟩ := hck
    have h := (show z_d1 st (fun x r => nx (pc + 1) lv (x :: x :: r) w) from h)
    obtain ⟨x, r, rfl, h0, h1⟩ := z_d1_ok h
    intro H locs ls hH hS hl
    exact lv_dup hx hb hd h0 (hnx _ _ _ _ h1 H locs ls hH hS hl)
  case pop =>
    simp only [decide_eq_true_eq] at hck
    obtain ⟨rfl, rfl, rfl⟩ := hck
    have h := (show z_d1 st (fun _ r => nx (pc + 1) lv r w) from h)
    obtain ⟨x, r, rfl, h0, h1⟩ := z_d1_ok h
    intro H locs ls hH hS hl
    exact lv_pop hx hb hd h0 (hnx _ _ _ _ h1 H locs ls hH hS hl)
  case dup2 =>
    simp only [decide_eq_true_eq] at hck
    obtain ⟨rfl, rfl, rfl⟩ := hck
    obtain ⟨x, i, r, rfl, h1⟩ := z_dia_ok h
    intro H locs ls hH hS hl
    exact lv_dup2_11 hx hb hd rfl rfl (hnx _ _ _ _ h1 H locs ls hH hS hl)
  case goto o =>
    simp only [decide_eq_true_eq] at hck
    obtain ⟨rfl, rfl, ht⟩ := hck
    intro H locs ls hH hS hl
    exact lv_goto hx hb hd ht (hnx _ _ _ _ h H locs ls hH hS hl)
  case ifCond c o =>
    cases c <;> simp only [decide_eq_true_eq] at hck <;> obtain ⟨rfl, rfl, rfl, ht⟩ := hck <;> obtain ⟨x, r, rfl, h1, h2⟩ := z_1i_ok h <;> intro H locs ls hH hS hl
    · exact lv_if_eq hx hb hd ht (fun q => hnx _ _ _ _ (h1 q) H locs ls hH hS hl) (fun q => hnx _ _ _ _ (h2 q) H locs ls hH hS hl)
    · exact lv_if_ne hx hb hd ht (fun q => hnx _ _ _ _ (h1 q) H locs ls hH hS hl) (fun q => hnx _ _ _ _ (h2 q) H locs ls hH hS hl)
    · exact lv_if_lt hx hb hd ht (fun q => hnx _ _ _ _ (h1 q) H locs ls hH hS hl) (fun q => hnx _ _ _ _ (h2 q) H locs ls hH hS hl)
    · exact lv_if_ge hx hb hd ht (fun q => hnx _ _ _ _ (h1 q) H locs ls hH hS hl) (fun q => hnx _ _ _ _ (h2 q) H locs ls hH hS hl)
    · exact lv_if_gt hx hb hd ht (fun q => hnx _ _ _ _ (h1 q) H locs ls hH hS hl) (fun q => hnx _ _ _ _ (h2 q) H locs ls hH hS hl)
    · exact lv_if_le hx hb hd ht (fun q => hnx _ _ _ _ (h1 q) H locs ls hH hS hl) (fun q => hnx _ _ _ _ (h2 q) H locs ls hH hS hl)
  case if_icmp c o =>
    cases c <;> simp only [decide_eq_true_eq] at hck <;> obtain ⟨rfl, rfl, rfl, ht⟩ := hck <;> obtain ⟨x, y, r, rfl, h1, h2⟩ := z_2i_ok h <;> intro H locs ls hH hS hl
    · exact lv_icmp_eq hx hb hd ht (fun q => hnx _ _ _ _ (h1 q) H locs ls hH hS hl) (fun q => hnx _ _ _ _ (h2 q) H locs ls hH hS hl)
    · exact lv_icmp_ne hx hb hd ht (fun q => hnx _ _ _ _ (h1 q) H locs ls hH hS hl) (fun q => hnx _ _ _ _ (h2 q) H locs ls hH hS hl)
    · exact lv_icmp_lt hx hb hd ht (fun q => hnx _ _ _ _ (h1 q) H locs ls hH hS hl) (fun q => hnx _ _ _ _ (h2 q) H locs ls hH hS hl)
    · exact lv_icmp_ge hx hb hd ht (fun q => hnx _ _ _ _ (h1 q) H locs ls hH hS hl) (fun q => hnx _ _ _ _ (h2 q) H locs ls hH hS hl)
    · exact lv_icmp_gt hx hb hd ht (fun q => hnx _ _ _ _ (h1 q) H locs ls hH hS hl) (fun q => hnx _ _ _ _ (h2 q) H locs ls hH hS hl)
    · exact lv_icmp_le hx hb hd ht (fun q => hnx _ _ _ _ (h1 q) H locs ls hH hS hl) (fun q => hnx _ _ _ _ (h2 q) H locs ls hH hS hl)
  case getfield k =>
    simp only [Bool.and_eq_true, decide_eq_true_eq] at hck
    obtain ⟨⟨rfl, rfl, rfl⟩, hlk⟩ := hck
    obtain ⟨x, r, rfl, h1⟩ := z_1a_ok h
    obtain ⟨fs, h2, h3⟩ := z_ob_ok h1
    obtain ⟨u, h4, h5⟩ := z_fl_ok h3
    obtain ⟨Cn, T, N, c1, c2, c3, c4⟩ := z_lk_ok hlk
    exact z_get C c4 c1 c2 c3 hd h2 h4 (hnx _ _ _ _ h5)
  case putfield k =>
    simp only [Bool.and_eq_true, Bool.or_eq_true, decide_eq_true_eq] at hck
    obtain ⟨hlk, hq⟩ := hck
    obtain ⟨Cn, T, N, c1, c2, c3, c4⟩ := z_lk_ok hlk
    rcases hq with (hq | hq) | hq
    · obtain ⟨⟨rfl, rfl, rfl⟩, hpk⟩ := hq
      obtain ⟨x, i, r, rfl, h1⟩ := z_ia_ok h
      obtain ⟨fs, h2, h3, h5⟩ := z_ob_ok h1
      obtain ⟨p1, ⟨ty, p2, p3⟩, p4, p5⟩ := z_pk_ok hpk c1
      have e : ty = .int := by unfold z_ti at p3; split at p3 <;> first | rfl | cases p3
      subst e
      exact z_put C c4 c1 _ p4 p5 c2 c3 p1 p2 hd h2 h3 rfl rfl (hnx _ _ _ _ h5)
    · obtain ⟨⟨rfl, rfl, rfl⟩, hpk⟩ := hq
      obtain ⟨x, y, r, rfl, h1⟩ := z_aa_ok h
      obtain ⟨fs, h2, h3, h5⟩ := z_ob_ok h1
      obtain ⟨p1, ⟨ty, p2, p3⟩, p4, p5⟩ := z_pk_ok hpk c1
      have e : (∃ q, ty = .object q) ∨ ∃ q, ty = .array q := by unfold z_tr at p3; split at p3 <;> first | exact Or.inl ⟨_, rfl⟩ | exact Or.inr ⟨_, rfl⟩ | cases p3
      rcases e with ⟨q, rfl⟩ | ⟨q, rfl⟩
      · exact z_put C c4 c1 _ p4 p5 c2 c3 p1 p2 hd h2 h3 rfl rfl (hnx _ _ _ _ h5)
      · exact z_put C c4 c1 _ p4 p5 c2 c3 p1 p2 hd h2 h3 rfl rfl (hnx _ _ _ _ h5)
    · obtain ⟨⟨rfl, rfl, rfl⟩, hpk⟩ := hq
      obtain ⟨x, i, r, rfl, h1⟩ := z_ia_ok h
      obtain ⟨fs, h2, h3, h4, h5⟩ := z_ob_ok h1
      obtain ⟨p1, ⟨ty, p2, p3⟩, p4, p5⟩ := z_pk_ok hpk c1
      have e : ty = .boolean := by unfold z_tz at p3; split at p3 <;> first | rfl | cases p3
      subst e
      rcases h4 with rfl | rfl
      · exact z_put C c4 c1 _ p4 p5 c2 c3 p1 p2 hd h2 h3 rfl rfl (hnx _ _ _ _ h5)
      · exact z_put C c4 c1 _ p4 p5 c2 c3 p1 p2 hd h2 h3 rfl rfl (hnx _ _ _ _ h5)
  case iaload =>
    simp only [decide_eq_true_eq] at hck
    obtain ⟨rfl, rfl, rfl⟩ := hck
    obtain ⟨x, i, r, rfl, h1⟩ := z_ia_ok h
    obtain ⟨m, g, h2, h3, h4⟩ := z_ar0_ok h1
    exact z_iald C hd h2 h3 (hnx _ _ _ _ h4)
  case baload =>
    simp only [decide_eq_true_eq] at hck
    obtain ⟨rfl, rfl, rfl⟩ := hck
    obtain ⟨x, i, r, rfl, h1⟩ := z_ia_ok h
    obtain ⟨m, g, h2, h3, h4⟩ := z_ar1_ok h1
    exact z_zald C hd h2 h3 (hnx _ _ _ _ h4)
  case laload =>
    simp only [decide_eq_true_eq] at hck
    obtain ⟨rfl, rfl, rfl⟩ := hck
    obtain ⟨x, i, r, rfl, h1⟩ := z_ia_ok h
    obtain ⟨m, g, h2, h3, h4⟩ := z_ar2_ok h1
    exact z_lald C hd h2 h3 (hnx _ _ _ _ h4)
  case iastore =>
    simp only [decide_eq_true_eq] at hck
    obtain ⟨rfl, rfl, rfl⟩ := hck
    obtain ⟨x, i, u, r, rfl, h1⟩ := z_iia_ok h
    obtain ⟨m, g, h2, h3, h4⟩ := z_ar0_ok h1
    exact z_iast C hd h2 h3 (hnx _ _ _ _ h4)
  case bastore =>
    simp only [decide_eq_true_eq] at hck
    obtain ⟨rfl, rfl, rfl⟩ := hck
    obtain ⟨x, i, u, r, rfl, h1⟩ := z_iia_ok h
    obtain ⟨m, g, h2, h3, h4⟩ := z_ar1_ok h1
    exact z_zast C hd h2 h3 (hnx _ _ _ _ h4)
  case lastore =>
    simp only [decide_eq_true_eq] at hck
    obtain ⟨rfl, rfl, rfl⟩ := hck
    obtain ⟨x, i, u, r, rfl, h1⟩ := z_lia_ok h
    obtain ⟨m, g, h2, h3, h4⟩ := z_ar2_ok h1
    exact z_last C hd h2 h3 (hnx _ _ _ _ h4)
  case arraylength =>
    simp only [decide_eq_true_eq] at hck
    obtain ⟨rfl, rfl, rfl⟩ := hck
    obtain ⟨x, r, rfl, h1⟩ := z_1a_ok h
    obtain ⟨m, g, h2, h3⟩ := z_ar0_ok h1
    exact z_alen C hd h2 (hnx _ _ _ _ h3)
  case ireturn =>
    simp only [decide_eq_true_eq] at hck
    obtain ⟨rfl, ⟨rfl, hr⟩ | ⟨rfl, hr⟩⟩ := hck
    · obtain ⟨x, rfl, h1⟩ := z_e1_ok h
      exact z_Jret E (z_iret (z_Xsw C) E.2.2.2 hr rfl hc hs hd h1)
    · obtain ⟨x, rfl, h0, h1⟩ := z_e1_ok h
      exact z_Jret E (z_iret (z_Xsw C) E.2.2.2 hr (by rcases h0 with rfl | rfl <;> rfl) hc hs hd h1)
  case lreturn =>
    simp only [decide_eq_true_eq] at hck
    obtain ⟨rfl, rfl, hr⟩ := hck
    obtain ⟨x, rfl, h1⟩ := z_e2_ok h
    exact z_Jret E (z_lret (z_Xsw C) E.2.2.2 hr hc hs hd h1)
  case return_ =>
    simp only [decide_eq_true_eq] at hck
    obtain ⟨rfl, rfl, hr⟩ := hck
    obtain ⟨rfl, h1⟩ := z_e0_ok h
    exact z_Jret E (z_vret (z_Xsw C) E.2.2.2 hr hc hs hd h1)
  all_goals exact absurd hck Bool.false_ne_true
theorem z_run_okX (C : z_X G cc own Ts nL Γ) (E : z_EX G rm mc ms nm ret Post PX Γ) {N : Nat} {tb : Nat → zI} (hT : z_tab own Ts nL ret cc N tb) (hc : cells ≤ mc) (hs : slots ≤ ms) {cut : List Nat} : ∀ (k pc : Nat) (lv : zL) (st : List Value) (w : zW), z_run tb cut (fun pc lv st w => z_J G nL Γ w cells slots pc lv st) Post k pc lv st w → z_J G nL Γ w cells slots pc lv st
  | 0, _, _, _, _, h => h
  | k + 1, pc, lv, st, w, h => by
    unfold z_run at h
    split at h
    · exact h
    · have ht := hT pc
      unfold z_ck at ht
      generalize ht2 : tb pc = t at ht h
      obtain ⟨op, a, b, n, v⟩ := t
      unfold z_st1 at h
      dsimp only at ht h
      by_cases h99 : op = 99
      · subst h99; exact h
      · simp only [h99, decide_false, Bool.false_or] at ht
        split at ht
        · rename_i i len hd
          exact z_step_okX C E hd ht hc hs (fun pc lv st w h => z_run_okX C E hT hc hs k pc lv st w h) (fun _ _ _ _ h => h) h
        · cases ht
/-- one step at least, then on till a cut -/
theorem z_goX (C : z_X G cc own Ts nL Γ) (E : z_EX G rm mc ms nm ret Post PX Γ) {N : Nat} {tb : Nat → zI} (hT : z_tab own Ts nL ret cc N tb) (hc : cells ≤ mc) (hs : slots ≤ ms) (cut : List Nat) (k : Nat) (h : z_st1 (tb pc) pc lv st w (z_run tb cut (fun pc lv st w => z_J G nL Γ w cells slots pc lv st) Post k) (fun pc lv st w => z_J G nL Γ w cells slots pc lv st) Post) : z_J G nL Γ w cells slots pc lv st := by
  have h1 : z_run tb [] (fun pc lv st w => z_J G nL Γ w cells slots pc lv st) Post 1 pc lv st w ∨ True := Or.inr trivial
  have ht := hT pc
  unfold z_ck at ht
  generalize ht2 : tb pc = t at ht h
  obtain ⟨op, a, b, n, v⟩ := t
  unfold z_st1 at h
  dsimp only at ht h
  by_cases h99 : op = 99
  · subst h99; exact h
  · simp only [h99, decide_false, Bool.false_or] at ht
    split at ht
    · rename_i i len hd
      exact z_step_okX C E hd ht hc hs (fun pc lv st w h => z_run_okX C E hT hc hs k pc lv st w h) (fun _ _ _ _ h => h) h
    · cases ht
theorem z_gnX (C : z_X G cc own Ts nL Γ) (E : z_EX G rm mc ms nm ret Post PX Γ) {N : Nat} {tb : Nat → zI} (hT : z_tab own Ts nL ret cc N tb) (hc : cells ≤ mc) (hs : slots ≤ ms) (cut : List Nat) (k : Nat) (h : z_st1 (tb pc) pc lv st w (z_rn tb cut (fun pc lv st w => z_J G nL Γ w cells slots pc lv st) Post k) (fun pc lv st w => z_J G nL Γ w cells slots pc lv st) Post) : z_J G nL Γ w cells slots pc lv st :=
  z_goX C E hT hc hs cut k h
end ZSX
section ZCatch
variable {p : Program} {l : Launch} {e : Env} {R : Room} {s : State} {m : MethodId} {args : Array Value} {below : List Frame} {meth : Method} {c : Code} {H : Heap} {locs : List Loc} {cells slots : Nat} {Q : State → Prop}
variable {pc : Nat} {ls : Array Slot} {rest : List Value}
/-- caught by the row x of this method's table; the rows ahead don't take it -/
theorem vx_catch {own name : String} {E : String} {ce : Cell} {q : Addr} (hown : s.vm.findClass own = some m.cls) (pre : List ExceptionTableEntry) (x : ExceptionTableEntry) (suf : List ExceptionTableEntry) (hsplit : c.exceptionTable.toList = pre ++ x :: suf)
    (hpass : ∀ z ∈ pre, covers z pc = false ∨ (z.catchType ≠ 0 ∧ ∃ nm : String, (Cond.classLink own z.catchType nm).before args s = true ∧ va_Nc E nm s)) (hx : covers x pc = true) (h0 : x.catchType ≠ 0)
    (hlink : (Cond.classLink own x.catchType name).before args s = true) (hcast : (Cond.castable E name).before args s = true) (hcell : H[q]? = some ce) (hv : ce.vm = .none) (hcl : s.vm.findClass E = some ce.cls)
    (kk : W p l e R s m args below meth c H locs cells slots Q (F0 m x.handlerPc ls [.ref q])) : vx_W p l e R s m args below meth c H locs cells slots Q (F0 m pc ls rest) q := by
  intro T hT X
  have hpl : e.platform.magicAccessors = ({} : Platform).magicAccessors := by rw [X.admits.platform]
  obtain ⟨c3, c4, hc3, hc4, hasg⟩ := Cond.castable_spec hcast
  cases Option.some.inj (hc3.symm.trans hcl)
  obtain ⟨c5, hc5, hcl5⟩ := Cond.classLink_spec hown hlink e.platform hpl
  cases Option.some.inj (hc4.symm.trans hc5)
  obtain ⟨vm', X', st⟩ := X.thenCaughtThrough q (g := F0 m pc ls rest) rfl (Steps.refl _) (by rw [hT]; exact hcell) (by rw [hv]; rfl) (by obtain ⟨k9, h9, -⟩ := Vm.findClass_spec hcl; exact ⟨k9, h9⟩) pre x suf hsplit
    (fun z hz => by
      rcases hpass z hz with h | ⟨hz0, nm, hl1, hn1⟩
      · exact Or.inl h
      · obtain ⟨c6, hc6, hcl6⟩ := Cond.classLink_spec hown hl1 e.platform hpl
        obtain ⟨a8, b8, h1, h2, h3⟩ := hn1
        cases Option.some.inj (h1.symm.trans hcl)
        cases Option.some.inj (h2.symm.trans hc6)
        exact Or.inr ⟨hz0, _, hcl6, h3⟩) hx (Or.inr ⟨h0, c4, hcl5, hasg⟩)
  obtain ⟨t, a1, b1⟩ := kk (T.setVm vm') hT X'
  exact ⟨t, st.trans a1, b1⟩
end ZCatch

section ZCT
variable {G : zG} {cc : ByteArray} {own : String} {Ts : List Cond} {nL : Nat} {Γ : zΓ} {w : zW} {cells slots pc : Nat} {lv : zL} {st rest : List Value} {rm : Room} {mc ms index : Nat} {nm : String} {ret : Option FieldType} {Post : Option Value → zW → Prop} {PX : String → zW → Prop}
variable {y : MethodName} {bytes : ByteArray} {maxL mcC msC n : Nat} {retC : Option FieldType} {ws ws' : List Cond} {rmC : Room} {PostC : Option Value → zW → Prop} {PXC : String → zW → Prop} {a : Nat} {As : List Value}
/-- a call of a method that may throw, in a method whose one handler takes it -/
theorem z_callVX (C : z_X G cc own Ts nL Γ) (E : z_E G rm mc ms nm ret Post Γ) {Cn cls : String} {T : u_T} {N ci : Nat} {fs : List Value} {x : ExceptionTableEntry} (htab : (zc Γ).exceptionTable.toList = [x]) (hcov : covers x pc = true) (hct : x.catchType ≠ 0) (hlk : Cond.classLink own x.catchType cls ∈ Ts) (hinst : Cond.instantiable cls 6 ∈ Ts)
    (hM : z_MX G y ws rmC mcC msC (.ref a :: As) w PostC PXC) (hone : ∀ E w', PXC E w' → E = cls) (hG : GoodIn Ts (wsV own index Cn y ws)) (hw : ws = Cond.code y bytes maxL retC :: ws') (hrc : rmC.cells = mcC) (hrs : rmC.slots = msC)
    (hdn : y.cls = Cn ∧ y.cls ≠ "java/lang/invoke/MethodHandle" ∧ y.cls ≠ "java/lang/invoke/VarHandle" ∧ (parseMethodDescriptor y.desc).map (fun d => d.parameters.length) = some n) (hR : rmC.frames + 1 ≤ rm.frames ∧ 8 + (maxL + 11) + rmC.locals ≤ rm.locals)
    (hd : decode cc pc = .ok (.invokevirtual index, 3)) (hn : As.length = n) (hf : cells + mcC ≤ rm.cells ∧ slots + msC ≤ rm.slots) (hrest : (rest.map fun v => v.category).sum ≤ 8) (hc : vwCl[ci]? = some (Cn, T, N)) (ha : w.2 a = some (.inr (ci, fs)))
    (kx : ∀ (q : Nat) (w' : zW), PXC cls w' → z_J G nL Γ w' (cells + mcC) (slots + msC) x.handlerPc lv [.ref q])
    (kk : ∀ (r : Option Value) (w' : zW), PostC r w' → z_J G nL Γ w' (cells + mcC) (slots + msC) (pc + 3) lv (r.toList ++ rest)) : z_J G nL Γ w cells slots pc lv (As.reverse ++ .ref a :: rest) := by
  have hR0 := E.1
  have hts := C.1.2.2.2.2
  intro H locs ls hH hS hl
  have hr := vx_runV (As := As) (rest := rest) (locs := locs) (cells := cells) (slots := slots) (meth := zmt Γ) (g := F0 (zm Γ) pc ls (As.reverse ++ .ref a :: rest)) (below := zbl Γ) (e := ze Γ) C.1 hM (cwV (R := zR Γ) n hts hG hw hrc hrs hdn (by rw [hR0]; exact hR)) ⟨z_Pc_blind G _ w, z_recv C hH ha hc, z_preC C hH hS _⟩ rfl hn hl.1 rfl (lv_room hrest) hd (by rw [hR0]; exact hf)
  intro T9 hT X
  rcases hr T9 hT X with ⟨v, st₀, t, T', L, h0, X', hL, e1, e2, ⟨⟨r, w', hv, hp, hH'⟩, hz, hk⟩, stp⟩ | ⟨q, st₀, t, T', L, E9, ce, h0, X', hL, e1, e2, ⟨⟨w', hp, hH'⟩, hz, hk⟩, hce, hcv, hcl, stp⟩
  · cases hv
    rw [h0] at hz hk
    obtain ⟨t2, a1, b1⟩ := kk v w' hp T'.heap (locs ++ L) ls (by rw [e1]; exact hH')
      ⟨Nat.le_trans hS.1 (by rw [e1]; exact hz), fun q h1 h2 => by rw [e1, hk q (Nat.lt_of_lt_of_le h1 hS.1) h2]; exact hS.2.1 q h1 h2, fun q hq => by
        rcases List.mem_append.mp hq with h | h
        · exact hS.2.2 q h
        · exact hL q h⟩ hl T' rfl X'
    exact ⟨t2, stp t2 a1, b1⟩
  · rw [h0] at hz hk
    have hE := hone _ _ hp
    subst hE
    have hw9 := kx q w' hp T'.heap (locs ++ L) ls (by rw [e1]; exact hH')
      ⟨Nat.le_trans hS.1 (by rw [e1]; exact hz), fun q h1 h2 => by rw [e1, hk q (Nat.lt_of_lt_of_le h1 hS.1) h2]; exact hS.2.1 q h1 h2, fun q hq => by
        rcases List.mem_append.mp hq with h | h
        · exact hS.2.2 q h
        · exact hL q h⟩ hl
    obtain ⟨t2, a1, b1⟩ := vx_catch (pc := pc) (ls := ls) (rest := rest) C.1.2.2.2.1 [] x [] htab (fun z hz => by cases hz) hcov hct (hts _ hlk) (z_castS (hts _ hinst)) (by rw [e1]; exact hce) hcv hcl hw9 T' rfl X'
    exact ⟨t2, stp.trans a1, b1⟩
end ZCT
