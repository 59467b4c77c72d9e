/-! METHODS THAT THROW, AND THOSE THAT CATCH -/
theorem z_castS {args : Array Value} {s : State} {X : String} {n : Nat} (h : (Cond.instantiable X n).before args s = true) : (Cond.castable X X).before args s = true := by
  obtain ⟨c, k, hc, -⟩ := Cond.instantiable_spec h
  show (Cond.castable X X).holds args s none s [] = true
  have ha : s.vm.assignable c c = true := by
    show s.vm.assignableAux (255 + 1) c c = true
    rw [Vm.assignableAux]
    simp only [beq_self_eq_true, Bool.true_or]
  simp [Cond.holds, Cond.value, hc, ha]
theorem z_ofWW {l : Launch} {y : MethodName} {ws ws' : List Cond} {rm : Room} {Pc : Array Value → State → Prop} {Qc : Array Value → State → Outcome → State → Prop} {mc ms : Nat} {free : Addr → Prop} {cc : ByteArray} {maxL : Nat} {ret : Option FieldType} {hh : List (Nat × Nat × Nat × Nat)}
    (hy : plainName y.cls = true) (hw : ws = Cond.codeWith y cc maxL ret hh :: ws')
    (body : ∀ p e s m args below meth c s₁, BodyLoose p l y (headSpec ws rm) cc maxL ret e s m args below meth c s₁ → c.maxLocals = maxL → Pc args s →
      W p l e (headSpec ws rm).room s m args below meth c s.heap [] 0 0 (MQ below Qc args s mc ms free) (entryFrame m args maxL)) : Met l y ws rm Pc Qc mc ms free := by
  refine MetFree.of_bodyS (code := cc) (maxLocals := maxL) (ret := ret) hy ?_ ?_
  · intro args s m h hn
    obtain ⟨m9, meth, c, hn9, h1, h2, h3, h4, -, h5, h6, -⟩ := Cond.codeWith_spec (atoms_spec (ws := ws) h _ (by rw [hw]; exact List.mem_cons_self))
    cases hn.symm.trans hn9
    exact ⟨meth, c, h1, h2, h3, h4, h5, h6⟩
  · intro p e s m args below meth c s₁ B hml hP _
    have hh0 : s₁.heap = s.heap := by rw [B.state]; rfl
    obtain ⟨t, a1, o, b1, b2, b3⟩ := body p e s m args below meth c s₁ B hml hP s₁ hh0 (Stand.of_body B)
    exact ⟨t, o, a1, b1, b2, ⟨b3.1, b3.2⟩⟩
/-- a contract of a method with handlers, which itself returns -/
theorem z_mtW {G : zG} {y : MethodName} {ws ws' : List Cond} {rm : Room} {mc ms : Nat} {av : List Value} {w : zW} {Post : Option Value → zW → Prop} {cc : ByteArray} {nL : Nat} {ret : Option FieldType} {hh : List (Nat × Nat × Nat × Nat)}
    (hy : plainName y.cls = true) (hw : ws = Cond.codeWith y cc nL ret hh :: ws') (hlen : (lg_sl av).length ≤ nL) (k : Nat) (lv : zL) (hlv : z_ent av ++ List.replicate k none = lv)
    (body : ∀ Γ : zΓ, z_X G cc y.cls ws nL Γ → z_E G rm mc ms y.name ret Post Γ → (zc Γ).exceptionTable.toList = tableOf hh → z_J G nL Γ w 0 0 0 lv []) : z_M G y ws rm mc ms av w Post := by
  refine z_ofWW (cc := cc) (maxL := nL) (ret := ret) (hh := hh) hy hw ?_
  intro p e s m args below meth c s₁ B hml hv
  obtain ⟨rfl, hH, hK, hSt⟩ := hv
  have hx := B.exec
  have hb := B.bytes
  have hr := B.returns
  have hts := atoms_spec (ws := ws) B.pre
  have hown : s.vm.findClass y.cls = some m.cls := findClass_of_methodNamed B.named
  have htb := vx_table (x := y) B (hts _ (by rw [hw]; exact List.mem_cons_self))
  have hl := lv_entry av (n := nL) hlen
  rw [lg_entry_eq]
  exact body (p, e, (headSpec ws rm).room, s, m, av.toArray, below, meth, c, MQ below (z_Q G Post) av.toArray s mc ms (z_A G)) ⟨⟨hx, hb, hml, hown, hts⟩, hK, hSt, B.notSynchronized⟩ ⟨rfl, rfl, hr, (name_of_methodNamed B.named B.method).1⟩ htb s.heap [] _ hH va_S.rf
    ⟨hl.1, hl.2.1, fun i v hi => hl.2.2 (i, v) (by have := z_ent_args av 0 i v (z_lvp k i v (by rw [hlv]; exact hi)); simpa using this)⟩
/-- what holds where the method has thrown -/
def z_XC (G : zG) (PX : String → zW → Prop) : String → State → State → Prop := fun E st t => (∃ w', PX E w' ∧ z_H G w' t.heap) ∧ va_F (z_A G) st t
/-- a contract of a method that returns or throws -/
def z_MX (G : zG) (y : MethodName) (ws : List Cond) (rm : Room) (mc ms : Nat) (av : List Value) (w : zW) (Post : Option Value → zW → Prop) (PX : String → zW → Prop) : Prop :=
  vx_Met G.1 y ws rm (z_Pc G av w) (z_Q G Post) (z_XC G PX) mc ms (z_A G)
def z_sw (Γ : zΓ) (Q : State → Prop) : zΓ := (zp Γ, ze Γ, zR Γ, zs Γ, zm Γ, za Γ, zbl Γ, zmt Γ, zc Γ, Q)
/-- what the body of a method that may throw knows of its end -/
def z_EX (G : zG) (rm : Room) (mc ms : Nat) (nm : String) (ret : Option FieldType) (Post : Option Value → zW → Prop) (PX : String → zW → Prop) (Γ : zΓ) : Prop :=
  zR Γ = rm ∧ zQ Γ = vx_MQ (zbl Γ) (z_Q G Post) (z_XC G PX) (za Γ) (zs Γ) mc ms (z_A G) ∧ (∀ x ∈ (zc Γ).exceptionTable.toList, False) ∧ z_E G rm mc ms nm ret Post (z_sw Γ (MQ (zbl Γ) (z_Q G Post) (za Γ) (zs Γ) mc ms (z_A G)))
theorem z_mtX {G : zG} {y : MethodName} {ws ws' : List Cond} {rm : Room} {mc ms : Nat} {av : List Value} {w : zW} {Post : Option Value → zW → Prop} {PX : String → zW → Prop} {cc : ByteArray} {nL : Nat} {ret : Option FieldType}
    (hy : plainName y.cls = true) (hw : ws = Cond.code y cc nL ret :: ws') (hlen : (lg_sl av).length ≤ nL) (k : Nat) (lv : zL) (hlv : z_ent av ++ List.replicate k none = lv)
    (body : ∀ Γ : zΓ, z_X G cc y.cls ws nL Γ → z_EX G rm mc ms y.name ret Post PX Γ → z_J G nL Γ w 0 0 0 lv []) : z_MX G y ws rm mc ms av w Post PX := by
  refine vx_ofW (cc := cc) (maxL := nL) (ret := ret) hy hw ?_
  intro p e s m args below meth c s₁ B hml htb hv
  obtain ⟨rfl, hH, hK, hSt⟩ := hv
  have hx := B.exec
  have hb := B.bytes
  have hr := B.returns
  have hts := atoms_spec (ws := ws) B.pre
  have hown : s.vm.findClass y.cls = some m.cls := findClass_of_methodNamed B.named
  have hl := lv_entry av (n := nL) hlen
  rw [lg_entry_eq]
  exact body (p, e, (headSpec ws rm).room, s, m, av.toArray, below, meth, c, vx_MQ below (z_Q G Post) (z_XC G PX) av.toArray s mc ms (z_A G)) ⟨⟨hx, hb, hml, hown, hts⟩, hK, hSt, B.notSynchronized⟩ ⟨rfl, rfl, htb, rfl, rfl, hr, (name_of_methodNamed B.named B.method).1⟩ s.heap [] _ hH va_S.rf
    ⟨hl.1, hl.2.1, fun i v hi => hl.2.2 (i, v) (by have := z_ent_args av 0 i v (z_lvp k i v (by rw [hlv]; exact hi)); simpa using this)⟩
theorem z_declS {args : Array Value} {s : State} {x : MethodName} {bytes : ByteArray} {m : Nat} {ret : Option FieldType} (hi : (Cond.instanceMethod x).before args s = true) (hc : (Cond.code x bytes m ret).before args s = true) : (Cond.declares x).before args s = true := by
  obtain ⟨r0, r, hn, hrm, hst, hsig⟩ := va_Decl.of hi hc
  show (Cond.declares x).holds args s none s [] = true
  simp [Cond.holds, Cond.value, hn, hrm, hst, hsig]
section ZTH
variable {G : zG} {cc : ByteArray} {own : String} {Ts : List Cond} {nL : Nat} {Γ : zΓ} {w : zW} {cells slots pc : Nat} {lv : zL} {st rest : List Value} {rm : Room} {mc ms index : Nat} {nm : String} {ret : Option FieldType} {Post : Option Value → zW → Prop} {PX : String → zW → Prop}
/-- a way that returns -/
theorem z_Jret (X : z_EX G rm mc ms nm ret Post PX Γ) (h : z_J G nL (z_sw Γ (MQ (zbl Γ) (z_Q G Post) (za Γ) (zs Γ) mc ms (z_A G))) w cells slots pc lv st) : z_J G nL Γ w cells slots pc lv st := by
  intro H locs ls h1 h2 h3
  rw [X.2.1]
  exact vx_ret (h H locs ls h1 h2 h3)
theorem z_ild (C : z_X G cc own Ts nL Γ) {k : Fin 4} {x : Int32} (hd : decode cc pc = .ok (.iload_n k, 1)) (h1 : lv[k.val]? = some (some (.int x))) (kk : z_J G nL Γ w cells slots (pc + 1) lv (.int x :: st)) : z_J G nL Γ w cells slots pc lv st :=
  fun H locs ls hH hS hl => lv_iload_n C.1.1 C.1.2.1 hd rfl (hl.2.2 _ _ h1) (kk H locs ls hH hS hl)
theorem z_ald (C : z_X G cc own Ts nL Γ) {k : Fin 4} {x : Nat} (hd : decode cc pc = .ok (.aload_n k, 1)) (h1 : lv[k.val]? = some (some (.ref x))) (kk : z_J G nL Γ w cells slots (pc + 1) lv (.ref x :: st)) : z_J G nL Γ w cells slots pc lv st :=
  fun H locs ls hH hS hl => lv_aload_n C.1.1 C.1.2.1 hd rfl (hl.2.2 _ _ h1) (kk H locs ls hH hS hl)
theorem z_ifge (C : z_X G cc own Ts nL Γ) {x : Int32} {off : Int} {tgt : Nat} (hd : decode cc pc = .ok (.ifCond .ge off, 3)) (ht : (pc : Int) + off = (tgt : Int)) (k1 : 0 ≤ x → z_J G nL Γ w cells slots tgt lv st) (k2 : ¬ 0 ≤ x → z_J G nL Γ w cells slots (pc + 3) lv st) : z_J G nL Γ w cells slots pc lv (.int x :: st) :=
  fun H locs ls hH hS hl => lv_if_ge C.1.1 C.1.2.1 hd ht (fun q => k1 q H locs ls hH hS hl) (fun q => k2 q H locs ls hH hS hl)
theorem z_ifeq (C : z_X G cc own Ts nL Γ) {x : Int32} {off : Int} {tgt : Nat} (hd : decode cc pc = .ok (.ifCond .eq off, 3)) (ht : (pc : Int) + off = (tgt : Int)) (k1 : x = 0 → z_J G nL Γ w cells slots tgt lv st) (k2 : ¬ x = 0 → z_J G nL Γ w cells slots (pc + 3) lv st) : z_J G nL Γ w cells slots pc lv (.int x :: st) :=
  fun H locs ls hH hS hl => lv_if_eq C.1.1 C.1.2.1 hd ht (fun q => k1 q H locs ls hH hS hl) (fun q => k2 q H locs ls hH hS hl)
theorem z_throw (C : z_X G cc own Ts nL Γ) (X : z_EX G rm mc ms nm ret Post PX Γ) (hG : G.2.2.2 ≤ w.1) {cls text : String} {names : List String} {ik is ic : Nat} (ho : own = "SortMerge") (hcls : Bundle.fit cls = true) (hnames : ∀ n ∈ names, Bundle.fit n = true) (hk : Cond.classLink own ik cls ∈ Ts) (hini : Cond.initialized cls ∈ Ts) (hstr : (is, text) ∈ z_strs) (hat : ∀ x ∈ (vx_atS own ic cls names).filter goodWord, x ∈ Ts) {B : List Cond} (hng : ∀ x ∈ (vx_atS own ic cls names).filter (fun w => !goodWord w), x ∈ B) (hB : ∀ x ∈ B, x.before (za Γ) (zs Γ) = true)
    (hgood : ∀ w ∈ Cond.classLink own ik cls :: Cond.initialized cls :: vx_atS own ic cls names, vx_ot w = true)
    (d0 : decode cc pc = .ok (.new ik, 3)) (d3 : decode cc (pc + 3) = .ok (.dup, 1)) (d4 : decode cc (pc + 4) = .ok (.ldc is, 2)) (d6 : decode cc (pc + 6) = .ok (.invokespecial ic, 3)) (d9 : decode cc (pc + 9) = .ok (.athrow, 1))
    (hR : names.length + 3 < rm.frames ∧ (rest.map fun v => v.category).sum + (13 * (names.length + 1) + 43) ≤ rm.locals) (hf : cells + 1 ≤ rm.cells ∧ slots + 6 ≤ rm.slots) (hc : cells + 1 ≤ mc) (hs : slots + 6 ≤ ms)
    (hP : ∀ n, w.1 ≤ n → PX cls (n, w.2)) : z_J G nL Γ w cells slots pc lv rest := by
  obtain ⟨hR0, hQ, htb, -⟩ := X
  have hts := C.1.2.2.2.2
  obtain ⟨-, hU, hN, hl0, -, hst⟩ := C.2.2.1
  obtain ⟨sa, hsa⟩ := hst _ hstr
  intro H locs ls hH hS hl
  rw [hQ]
  refine vx_throwS (ik := ik) (is := is) (ic := ic) (A := z_A G) (sa := sa) (text := text) C.1.1 C.1.2.1 hl0 C.1.2.2.2.1 hcls hnames (hts _ hk) (hts _ hini) (by rw [ho]; exact hsa) (vx_hat (fun x hx => hts _ (hat x hx)) hng hB) hgood hU hN hS (hl.1.trans C.1.2.2.1.symm) d0 d3 d4 d6 d9 (fun x hx => (htb x hx).elim) (by rw [hR0]; exact hR.1) (by rw [hR0]; exact hR.2) (by rw [hR0]; exact hf.1) (by rw [hR0]; exact hf.2) C.2.2.2 ?_ hS.2.2 hc hs
  intro t ht hz hq
  refine ⟨⟨(t.heap.size, w.2), hP _ (by rw [← hH.1]; exact hz), rfl, fun k d hk => ?_⟩, Nat.le_trans hS.1 hz, fun q h1 h2 => ?_⟩
  · obtain ⟨h1, h2⟩ := hH.2 k d hk
    have hlt : k < H.size := h2.lt
    exact ⟨h1, h2.kept (hq k hlt)⟩
  · rw [hq q (Nat.lt_of_lt_of_le h1 hS.1)]
    exact hS.2.1 q h1 h2
variable {y : MethodName} {bytes : ByteArray} {maxL mcC msC n : Nat} {retC : Option FieldType} {ws ws' : List Cond} {rmC : Room} {PostC : Option Value → zW → Prop} {PXC : String → zW → Prop} {a : Nat} {As : List Value}
/-- z_callV where only the room is known of the end -/
theorem z_callVr (C : z_X G cc own Ts nL Γ) (hR0 : zR Γ = rm) {Cn : String} {T : u_T} {N ci : Nat} {fs : List Value} (hM : z_M G y ws rmC mcC msC (.ref a :: As) w PostC) (hG : GoodIn Ts (wsV own index Cn y ws)) (hw : ws = Cond.code y bytes maxL retC :: ws') (hrc : rmC.cells = mcC) (hrs : rmC.slots = msC)
    (hdn : y.cls = Cn ∧ y.cls ≠ "java/lang/invoke/MethodHandle" ∧ y.cls ≠ "java/lang/invoke/VarHandle" ∧ (parseMethodDescriptor y.desc).map (fun d => d.parameters.length) = some n) (hR : rmC.frames + 1 ≤ rm.frames ∧ 8 + (maxL + 11) + rmC.locals ≤ rm.locals)
    (hd : decode cc pc = .ok (.invokevirtual index, 3)) (hn : As.length = n) (hf : cells + mcC ≤ rm.cells ∧ slots + msC ≤ rm.slots) (hrest : (rest.map fun v => v.category).sum ≤ 8) (hc : vwCl[ci]? = some (Cn, T, N)) (ha : w.2 a = some (.inr (ci, fs)))
    (kk : ∀ (r : Option Value) (w' : zW), PostC r w' → z_J G nL Γ w' (cells + mcC) (slots + msC) (pc + 3) lv (r.toList ++ rest)) : z_J G nL Γ w cells slots pc lv (As.reverse ++ .ref a :: rest) := by
  have hts := C.1.2.2.2.2
  intro H locs ls hH hS hl
  refine z_after C hl (va_runV (As := As) (rest := rest) C.1 hM (cwV n hts hG hw hrc hrs hdn (by rw [hR0]; exact hR)) ⟨z_Pc_blind G _ w, z_recv C hH ha hc, z_preC C hH hS _⟩ rfl hn hl.1 rfl (lv_room hrest) hd (by rw [hR0]; exact hf)) hS kk
/-- a call of a method with handlers that returns -/
theorem z_callSW (C : z_X G cc own Ts nL Γ) (hR0 : zR Γ = rm) {hh : List (Nat × Nat × Nat × Nat)} {Ts' : List Cond} (hts' : ∀ x ∈ Ts', x.before (za Γ) (zs Γ) = true) (hM : z_M G y ws rmC mcC msC As w PostC) (hG : GoodIn Ts' (va_wsS own index y ws)) (hw : ws = Cond.codeWith y bytes maxL retC hh :: ws') (hrc : rmC.cells = mcC) (hrs : rmC.slots = msC)
    (hdn : y.cls ≠ "java/lang/invoke/MethodHandle" ∧ y.cls ≠ "java/lang/invoke/VarHandle" ∧ (parseMethodDescriptor y.desc).map (fun d => d.parameters.length) = some n) (hR : rmC.frames + 1 ≤ rm.frames ∧ 8 + (maxL + 11) + rmC.locals ≤ rm.locals)
    (hd : decode cc pc = .ok (.invokestatic index, 3)) (hn : As.length = n) (hf : cells + mcC ≤ rm.cells ∧ slots + msC ≤ rm.slots) (hrest : (rest.map fun v => v.category).sum ≤ 8)
    (kk : ∀ (r : Option Value) (w' : zW), PostC r w' → z_J G nL Γ w' (cells + mcC) (slots + msC) (pc + 3) lv (r.toList ++ rest)) : z_J G nL Γ w cells slots pc lv (As.reverse ++ rest) := by
  intro H locs ls hH hS hl
  refine z_after C hl (vx_runSW (As := As) (rest := rest) C.1 hM (vx_cwSW n hts' hG hw hrc hrs hdn (by rw [hR0]; exact hR)) ⟨z_Pc_blind G _ w, z_preC C hH hS _⟩ rfl hn hl.1 rfl (lv_room hrest) hd (by rw [hR0]; exact hf)) hS kk
end ZTH
