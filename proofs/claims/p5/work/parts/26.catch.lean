section ZCatch
variable {p : Program} {l : Launch} {e : Env} {R : Room} {s : State} {m : MethodId} {args : Array Value} {below : List Frame} {meth : Method} {c : Code} {H : Heap} {locs : List Loc} {cells slots : Nat} {Q : State → Prop}
variable {pc : Nat} {ls : Array Slot} {rest : List Value}
/-- caught by the row x of this method's table; the rows ahead don't take it -/
theorem vx_catch {own name : String} {E : String} {ce : Cell} {q : Addr} (hown : s.vm.findClass own = some m.cls) (pre : List ExceptionTableEntry) (x : ExceptionTableEntry) (suf : List ExceptionTableEntry) (hsplit : c.exceptionTable.toList = pre ++ x :: suf)
    (hpass : ∀ z ∈ pre, covers z pc = false ∨ (z.catchType ≠ 0 ∧ ∃ nm : String, (Cond.classLink own z.catchType nm).before args s = true ∧ va_Nc E nm s)) (hx : covers x pc = true) (h0 : x.catchType ≠ 0)
    (hlink : (Cond.classLink own x.catchType name).before args s = true) (hcast : (Cond.castable E name).before args s = true) (hcell : H[q]? = some ce) (hv : ce.vm = .none) (hcl : s.vm.findClass E = some ce.cls)
    (kk : W p l e R s m args below meth c H locs cells slots Q (F0 m x.handlerPc ls [.ref q])) : vx_W p l e R s m args below meth c H locs cells slots Q (F0 m pc ls rest) q := by
  intro T hT X
  have hpl : e.platform.magicAccessors = ({} : Platform).magicAccessors := by rw [X.admits.platform]
  obtain ⟨c3, c4, hc3, hc4, hasg⟩ := Cond.castable_spec hcast
  cases Option.some.inj (hc3.symm.trans hcl)
  obtain ⟨c5, hc5, hcl5⟩ := Cond.classLink_spec hown hlink e.platform hpl
  cases Option.some.inj (hc4.symm.trans hc5)
  obtain ⟨vm', X', st⟩ := X.thenCaughtThrough q (g := F0 m pc ls rest) rfl (Steps.refl _) (by rw [hT]; exact hcell) (by rw [hv]; rfl) (by obtain ⟨k9, h9, -⟩ := Vm.findClass_spec hcl; exact ⟨k9, h9⟩) pre x suf hsplit
    (fun z hz => by
      rcases hpass z hz with h | ⟨hz0, nm, hl1, hn1⟩
      · exact Or.inl h
      · obtain ⟨c6, hc6, hcl6⟩ := Cond.classLink_spec hown hl1 e.platform hpl
        obtain ⟨a8, b8, h1, h2, h3⟩ := hn1
        cases Option.some.inj (h1.symm.trans hcl)
        cases Option.some.inj (h2.symm.trans hc6)
        exact Or.inr ⟨hz0, _, hcl6, h3⟩) hx (Or.inr ⟨h0, c4, hcl5, hasg⟩)
  obtain ⟨t, a1, b1⟩ := kk (T.setVm vm') hT X'
  exact ⟨t, st.trans a1, b1⟩
end ZCatch

section ZCT
variable {G : zG} {cc : ByteArray} {own : String} {Ts : List Cond} {nL : Nat} {Γ : zΓ} {w : zW} {cells slots pc : Nat} {lv : zL} {st rest : List Value} {rm : Room} {mc ms index : Nat} {nm : String} {ret : Option FieldType} {Post : Option Value → zW → Prop} {PX : String → zW → Prop}
variable {y : MethodName} {bytes : ByteArray} {maxL mcC msC n : Nat} {retC : Option FieldType} {ws ws' : List Cond} {rmC : Room} {PostC : Option Value → zW → Prop} {PXC : String → zW → Prop} {a : Nat} {As : List Value}
/-- a call of a method that may throw, in a method whose one handler takes it -/
theorem z_callVX (C : z_X G cc own Ts nL Γ) (E : z_E G rm mc ms nm ret Post Γ) {Cn cls : String} {T : u_T} {N ci : Nat} {fs : List Value} {x : ExceptionTableEntry} (htab : (zc Γ).exceptionTable.toList = [x]) (hcov : covers x pc = true) (hct : x.catchType ≠ 0) (hlk : Cond.classLink own x.catchType cls ∈ Ts) (hinst : Cond.instantiable cls 6 ∈ Ts)
    (hM : z_MX G y ws rmC mcC msC (.ref a :: As) w PostC PXC) (hone : ∀ E w', PXC E w' → E = cls) (hG : GoodIn Ts (wsV own index Cn y ws)) (hw : ws = Cond.code y bytes maxL retC :: ws') (hrc : rmC.cells = mcC) (hrs : rmC.slots = msC)
    (hdn : y.cls = Cn ∧ y.cls ≠ "java/lang/invoke/MethodHandle" ∧ y.cls ≠ "java/lang/invoke/VarHandle" ∧ (parseMethodDescriptor y.desc).map (fun d => d.parameters.length) = some n) (hR : rmC.frames + 1 ≤ rm.frames ∧ 8 + (maxL + 11) + rmC.locals ≤ rm.locals)
    (hd : decode cc pc = .ok (.invokevirtual index, 3)) (hn : As.length = n) (hf : cells + mcC ≤ rm.cells ∧ slots + msC ≤ rm.slots) (hrest : (rest.map fun v => v.category).sum ≤ 8) (hc : vwCl[ci]? = some (Cn, T, N)) (ha : w.2 a = some (.inr (ci, fs)))
    (kx : ∀ (q : Nat) (w' : zW), PXC cls w' → z_J G nL Γ w' (cells + mcC) (slots + msC) x.handlerPc lv [.ref q])
    (kk : ∀ (r : Option Value) (w' : zW), PostC r w' → z_J G nL Γ w' (cells + mcC) (slots + msC) (pc + 3) lv (r.toList ++ rest)) : z_J G nL Γ w cells slots pc lv (As.reverse ++ .ref a :: rest) := by
  have hR0 := E.1
  have hts := C.1.2.2.2.2
  intro H locs ls hH hS hl
  have hr := vx_runV (As := As) (rest := rest) (locs := locs) (cells := cells) (slots := slots) (meth := zmt Γ) (g := F0 (zm Γ) pc ls (As.reverse ++ .ref a :: rest)) (below := zbl Γ) (e := ze Γ) C.1 hM (cwV (R := zR Γ) n hts hG hw hrc hrs hdn (by rw [hR0]; exact hR)) ⟨z_Pc_blind G _ w, z_recv C hH ha hc, z_preC C hH hS _⟩ rfl hn hl.1 rfl (lv_room hrest) hd (by rw [hR0]; exact hf)
  intro T9 hT X
  rcases hr T9 hT X with ⟨v, st₀, t, T', L, h0, X', hL, e1, e2, ⟨⟨r, w', hv, hp, hH'⟩, hz, hk⟩, stp⟩ | ⟨q, st₀, t, T', L, E9, ce, h0, X', hL, e1, e2, ⟨⟨w', hp, hH'⟩, hz, hk⟩, hce, hcv, hcl, stp⟩
  · cases hv
    rw [h0] at hz hk
    obtain ⟨t2, a1, b1⟩ := kk v w' hp T'.heap (locs ++ L) ls (by rw [e1]; exact hH')
      ⟨Nat.le_trans hS.1 (by rw [e1]; exact hz), fun q h1 h2 => by rw [e1, hk q (Nat.lt_of_lt_of_le h1 hS.1) h2]; exact hS.2.1 q h1 h2, fun q hq => by
        rcases List.mem_append.mp hq with h | h
        · exact hS.2.2 q h
        · exact hL q h⟩ hl T' rfl X'
    exact ⟨t2, stp t2 a1, b1⟩
  · rw [h0] at hz hk
    have hE := hone _ _ hp
    subst hE
    have hw9 := kx q w' hp T'.heap (locs ++ L) ls (by rw [e1]; exact hH')
      ⟨Nat.le_trans hS.1 (by rw [e1]; exact hz), fun q h1 h2 => by rw [e1, hk q (Nat.lt_of_lt_of_le h1 hS.1) h2]; exact hS.2.1 q h1 h2, fun q hq => by
        rcases List.mem_append.mp hq with h | h
        · exact hS.2.2 q h
        · exact hL q h⟩ hl
    obtain ⟨t2, a1, b1⟩ := vx_catch (pc := pc) (ls := ls) (rest := rest) C.1.2.2.2.1 [] x [] htab (fun z hz => by cases hz) hcov hct (hts _ hlk) (z_castS (hts _ hinst)) (by rw [e1]; exact hce) hcv hcl hw9 T' rfl X'
    exact ⟨t2, stp.trans a1, b1⟩
end ZCT
