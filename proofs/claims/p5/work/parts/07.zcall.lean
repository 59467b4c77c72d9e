section ZCALL
variable {G : zG} {cc : ByteArray} {own : String} {Ts : List Cond} {nL : Nat} {Γ : zΓ} {w : zW} {cells slots pc : Nat} {lv : zL} {st : List Value} {rm : Room} {mc ms : Nat} {nm : String} {ret : Option FieldType} {Post : Option Value → zW → Prop}
variable {y : MethodName} {bytes : ByteArray} {maxL mcC msC n index : Nat} {retC : Option FieldType} {ws ws' : List Cond} {rmC : Room} {PostC : Option Value → zW → Prop} {a : Nat} {As rest : List Value}
theorem z_preC (C : z_X G cc own Ts nL Γ) {H : Heap} {locs : List Loc} (hH : z_H G w H) (hS : va_S (z_A G) (zs Γ).heap H locs) (As : List Value) : ∀ U : State, U.heap = H → (zs Γ).WarmedH U.vm → z_Pc G As w As.toArray U := by
  intro U hU hW
  refine ⟨rfl, by rw [hU]; exact hH, va_K.moved hW.alike C.2.1, ?_⟩
  rw [hU]
  exact z_S.warm hW (C.2.2.1.kept hS.2.1)
theorem z_callV (C : z_X G cc own Ts nL Γ) (E : z_E G rm mc ms nm ret Post Γ) {Cn : String} {T : u_T} {N ci : Nat} {fs : List Value} (hM : z_M G y ws rmC mcC msC (.ref a :: As) w PostC) (hG : GoodIn Ts (wsV own index Cn y ws)) (hw : ws = Cond.code y bytes maxL retC :: ws') (hrc : rmC.cells = mcC) (hrs : rmC.slots = msC)
    (hdn : y.cls = Cn ∧ y.cls ≠ "java/lang/invoke/MethodHandle" ∧ y.cls ≠ "java/lang/invoke/VarHandle" ∧ (parseMethodDescriptor y.desc).map (fun d => d.parameters.length) = some n) (hR : rmC.frames + 1 ≤ rm.frames ∧ 8 + (maxL + 11) + rmC.locals ≤ rm.locals)
    (hd : decode cc pc = .ok (.invokevirtual index, 3)) (hn : As.length = n) (hf : cells + mcC ≤ rm.cells ∧ slots + msC ≤ rm.slots) (hrest : (rest.map fun v => v.category).sum ≤ 8) (hc : vwCl[ci]? = some (Cn, T, N)) (ha : w.2 a = some (.inr (ci, fs)))
    (kk : ∀ (r : Option Value) (w' : zW), PostC r w' → z_J G nL Γ w' (cells + mcC) (slots + msC) (pc + 3) lv (r.toList ++ rest)) : z_J G nL Γ w cells slots pc lv (As.reverse ++ .ref a :: rest) := by
  have hR0 := E.1
  have hts := C.1.2.2.2.2
  intro H locs ls hH hS hl
  refine z_after C hl (va_runV (As := As) (rest := rest) C.1 hM (cwV n hts hG hw hrc hrs hdn (by rw [hR0]; exact hR)) ⟨z_Pc_blind G _ w, z_recv C hH ha hc, z_preC C hH hS _⟩ rfl hn hl.1 rfl (lv_room hrest) hd (by rw [hR0]; exact hf)) hS kk
theorem z_callS (C : z_X G cc own Ts nL Γ) (E : z_E G rm mc ms nm ret Post Γ) (hM : z_M G y ws rmC mcC msC As w PostC) (hG : GoodIn Ts (va_wsS own index y ws)) (hw : ws = Cond.code y bytes maxL retC :: ws') (hrc : rmC.cells = mcC) (hrs : rmC.slots = msC)
    (hdn : y.cls ≠ "java/lang/invoke/MethodHandle" ∧ y.cls ≠ "java/lang/invoke/VarHandle" ∧ (parseMethodDescriptor y.desc).map (fun d => d.parameters.length) = some n) (hR : rmC.frames + 1 ≤ rm.frames ∧ 8 + (maxL + 11) + rmC.locals ≤ rm.locals)
    (hd : decode cc pc = .ok (.invokestatic index, 3)) (hn : As.length = n) (hf : cells + mcC ≤ rm.cells ∧ slots + msC ≤ rm.slots) (hrest : (rest.map fun v => v.category).sum ≤ 8)
    (kk : ∀ (r : Option Value) (w' : zW), PostC r w' → z_J G nL Γ w' (cells + mcC) (slots + msC) (pc + 3) lv (r.toList ++ rest)) : z_J G nL Γ w cells slots pc lv (As.reverse ++ rest) := by
  have hR0 := E.1
  have hts := C.1.2.2.2.2
  intro H locs ls hH hS hl
  refine z_after C hl (va_runS (As := As) (rest := rest) C.1 hM (va_cwS n hts hG hw hrc hrs hdn (by rw [hR0]; exact hR)) ⟨z_Pc_blind G _ w, z_preC C hH hS _⟩ rfl hn hl.1 rfl (lv_room hrest) hd (by rw [hR0]; exact hf)) hS kk
theorem z_callSN (C : z_X G cc own Ts nL Γ) (E : z_E G rm mc ms nm ret Post Γ) (hM : z_M G y ws rmC mcC msC As w PostC) (hG : GoodIn Ts ws) (hw : ws = Cond.code y bytes maxL retC :: ws') (hrc : rmC.cells = mcC) (hrs : rmC.slots = msC) (hnest : (own, index, y) ∈ z_nest) (hini : Cond.initialized y.cls ∈ Ts) (hstat : Cond.static y ∈ Ts)
    (hdn : y.cls ≠ "java/lang/invoke/MethodHandle" ∧ y.cls ≠ "java/lang/invoke/VarHandle" ∧ (parseMethodDescriptor y.desc).map (fun d => d.parameters.length) = some n) (hR : rmC.frames + 1 ≤ rm.frames ∧ 8 + (maxL + 11) + rmC.locals ≤ rm.locals)
    (hd : decode cc pc = .ok (.invokestatic index, 3)) (hn : As.length = n) (hf : cells + mcC ≤ rm.cells ∧ slots + msC ≤ rm.slots) (hrest : (rest.map fun v => v.category).sum ≤ 8)
    (kk : ∀ (r : Option Value) (w' : zW), PostC r w' → z_J G nL Γ w' (cells + mcC) (slots + msC) (pc + 3) lv (r.toList ++ rest)) : z_J G nL Γ w cells slots pc lv (As.reverse ++ rest) := by
  have hR0 := E.1
  have hts := C.1.2.2.2.2
  have hNw := C.2.2.1.2.2.2.2.1 _ hnest
  intro H locs ls hH hS hl
  refine z_after C hl (va_runSN (As := As) (rest := rest) (host := "SortMerge") C.1 hM ⟨va_cnB n hts hG hw hrc hrs hNw (hts _ hini) hdn (by rw [hR0]; exact hR), hts _ hstat, trivial⟩ ⟨z_Pc_blind G _ w, z_preC C hH hS _⟩ rfl hn hl.1 rfl (lv_room hrest) hd (by rw [hR0]; exact hf)) hS kk
theorem z_callI (C : z_X G cc own Ts nL Γ) (E : z_E G rm mc ms nm ret Post Γ) (hM : z_M G y ws rmC mcC msC (.ref a :: As) w PostC) (hG : GoodIn Ts ws) (hw : ws = Cond.code y bytes maxL none :: ws') (hrc : rmC.cells = mcC) (hrs : rmC.slots = msC) (hini : Cond.initialized y.cls ∈ Ts) (hlk : Cond.methodLink own index y ∈ Ts) (hin : Cond.instanceMethod y ∈ Ts) (hy1 : y.name = "<init>")
    (hdn : y.cls ≠ "java/lang/invoke/MethodHandle" ∧ y.cls ≠ "java/lang/invoke/VarHandle" ∧ (parseMethodDescriptor y.desc).map (fun d => d.parameters.length) = some n) (hR : rmC.frames + 1 ≤ rm.frames ∧ 8 + (maxL + 11) + rmC.locals ≤ rm.locals)
    (hd : decode cc pc = .ok (.invokespecial index, 3)) (hn : As.length = n) (hf : cells + mcC ≤ rm.cells ∧ slots + msC ≤ rm.slots) (hrest : (rest.map fun v => v.category).sum ≤ 8)
    (kk : ∀ (r : Option Value) (w' : zW), PostC r w' → z_J G nL Γ w' (cells + mcC) (slots + msC) (pc + 3) lv (r.toList ++ rest)) : z_J G nL Γ w cells slots pc lv (As.reverse ++ .ref a :: rest) := by
  have hR0 := E.1
  have hts := C.1.2.2.2.2
  intro H locs ls hH hS hl
  refine z_after C hl (va_runI (As := As) (rest := rest) C.1 hM (cwI n hts hG hw hrc hrs (hts _ hini) (hts _ hlk) (hts _ hin) hy1 hdn (by rw [hR0]; exact hR)) ⟨z_Pc_blind G _ w, z_preC C hH hS _⟩ rfl hn hl.1 rfl (lv_room hrest) hd (by rw [hR0]; exact hf)) hS kk
theorem z_callIN (C : z_X G cc own Ts nL Γ) (E : z_E G rm mc ms nm ret Post Γ) (hM : z_M G y ws rmC mcC msC (.ref a :: As) w PostC) (hG : GoodIn Ts ws) (hw : ws = Cond.code y bytes maxL none :: ws') (hrc : rmC.cells = mcC) (hrs : rmC.slots = msC) (hnest : (own, index, y) ∈ z_nest) (hini : Cond.initialized y.cls ∈ Ts) (hin : Cond.instanceMethod y ∈ Ts) (hy1 : y.name = "<init>")
    (hdn : y.cls ≠ "java/lang/invoke/MethodHandle" ∧ y.cls ≠ "java/lang/invoke/VarHandle" ∧ (parseMethodDescriptor y.desc).map (fun d => d.parameters.length) = some n) (hR : rmC.frames + 1 ≤ rm.frames ∧ 8 + (maxL + 11) + rmC.locals ≤ rm.locals)
    (hd : decode cc pc = .ok (.invokespecial index, 3)) (hn : As.length = n) (hf : cells + mcC ≤ rm.cells ∧ slots + msC ≤ rm.slots) (hrest : (rest.map fun v => v.category).sum ≤ 8)
    (kk : ∀ (r : Option Value) (w' : zW), PostC r w' → z_J G nL Γ w' (cells + mcC) (slots + msC) (pc + 3) lv (r.toList ++ rest)) : z_J G nL Γ w cells slots pc lv (As.reverse ++ .ref a :: rest) := by
  have hR0 := E.1
  have hts := C.1.2.2.2.2
  have hNw := C.2.2.1.2.2.2.2.1 _ hnest
  intro H locs ls hH hS hl
  refine z_after C hl (va_runIN (As := As) (rest := rest) (host := "SortMerge") C.1 hM ⟨va_cnB n hts hG hw hrc hrs hNw (hts _ hini) hdn (by rw [hR0]; exact hR), hy1, hts _ hin⟩ ⟨z_Pc_blind G _ w, z_preC C hH hS _⟩ rfl hn hl.1 rfl (lv_room hrest) hd (by rw [hR0]; exact hf)) hS kk
theorem z_mmax (C : z_X G cc own Ts nL Γ) (E : z_E G rm mc ms nm ret Post Γ) {x y : Int32} (hlk : Cond.methodLink own index Lib.Math.max.name ∈ Ts) (hst : Cond.static Lib.Math.max.name ∈ Ts) (hini : Cond.initialized "java/lang/Math" ∈ Ts) (hcode : Cond.code Lib.Math.max.name Lib.Math.max.code 2 (some .int) ∈ Ts) (hR : 1 ≤ rm.frames ∧ 21 ≤ rm.locals) (hf : cells ≤ rm.cells ∧ slots ≤ rm.slots) (hrest : (rest.map fun v => v.category).sum ≤ 8) (hd : decode cc pc = .ok (.invokestatic index, 3))
    (kk : z_J G nL Γ w cells slots (pc + 3) lv (.int (if x < y then y else x) :: rest)) : z_J G nL Γ w cells slots pc lv (.int y :: .int x :: rest) := by
  have hR0 := E.1
  have hts := C.1.2.2.2.2
  intro H locs ls hH hS hl
  exact va_mmax C.1.1 C.1.2.1 (C.1.2.2.1.trans hl.1.symm) C.1.2.2.2.1 (hts _ hlk) (hts _ hst) (hts _ hini) (hts _ hcode) (by rw [hR0]; exact hR.1) (by rw [hR0]; omega) (by rw [hR0]; exact hf.1) (by rw [hR0]; exact hf.2) hd (kk H locs ls hH hS hl)
theorem z_mmin (C : z_X G cc own Ts nL Γ) (E : z_E G rm mc ms nm ret Post Γ) {x y : Int32} (hlk : Cond.methodLink own index Lib.Math.min.name ∈ Ts) (hst : Cond.static Lib.Math.min.name ∈ Ts) (hini : Cond.initialized "java/lang/Math" ∈ Ts) (hcode : Cond.code Lib.Math.min.name Lib.Math.min.code 2 (some .int) ∈ Ts) (hR : 1 ≤ rm.frames ∧ 21 ≤ rm.locals) (hf : cells ≤ rm.cells ∧ slots ≤ rm.slots) (hrest : (rest.map fun v => v.category).sum ≤ 8) (hd : decode cc pc = .ok (.invokestatic index, 3))
    (kk : z_J G nL Γ w cells slots (pc + 3) lv (.int (if y < x then y else x) :: rest)) : z_J G nL Γ w cells slots pc lv (.int y :: .int x :: rest) := by
  have hR0 := E.1
  have hts := C.1.2.2.2.2
  intro H locs ls hH hS hl
  exact va_mmin C.1.1 C.1.2.1 (C.1.2.2.1.trans hl.1.symm) C.1.2.2.2.1 (hts _ hlk) (hts _ hst) (hts _ hini) (hts _ hcode) (by rw [hR0]; exact hR.1) (by rw [hR0]; omega) (by rw [hR0]; exact hf.1) (by rw [hR0]; exact hf.2) hd (kk H locs ls hH hS hl)
end ZCALL
