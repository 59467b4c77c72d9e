/-- the machine and the method that is walked: program, environment, room, entry state, method, arguments, frames below, method record, code, the end that is wanted -/
abbrev zΓ : Type := Program × Env × Room × State × MethodId × Array Value × List Frame × Method × Code × (State → Prop)
def zp (Γ : zΓ) : Program := Γ.1
def ze (Γ : zΓ) : Env := Γ.2.1
def zR (Γ : zΓ) : Room := Γ.2.2.1
def zs (Γ : zΓ) : State := Γ.2.2.2.1
def zm (Γ : zΓ) : MethodId := Γ.2.2.2.2.1
def za (Γ : zΓ) : Array Value := Γ.2.2.2.2.2.1
def zbl (Γ : zΓ) : List Frame := Γ.2.2.2.2.2.2.1
def zmt (Γ : zΓ) : Method := Γ.2.2.2.2.2.2.2.1
def zc (Γ : zΓ) : Code := Γ.2.2.2.2.2.2.2.2.1
def zQ (Γ : zΓ) : State → Prop := Γ.2.2.2.2.2.2.2.2.2
/-- what the statics hold: the table of the keys' sizes at its address; what a Throwable reads; no stack traces; the links to nest mates; the exceptions' texts -/
def z_S (G : zG) (U : State) (H : Heap) : Prop := (∃ t : Nat, va_Z "SortMerge$Keys" "MOST_SIZES" "[I" (.ref t) (z_A G) U H ∧ va_T .int t 4 (fun j => .int (if j = 0 then 32 else if j = 1 then 8 else if j = 2 then 8 else 18)) (z_A G) U H) ∧ vx_Zq Bundle.tN "UNASSIGNED_STACK" Bundle.steD (z_A G) U H ∧ vx_Zq Bundle.tN "SUPPRESSED_SENTINEL" Bundle.listD (z_A G) U H ∧ G.1.stackTraces = false ∧ (∀ q ∈ z_nest, va_Nw (.methodLinkNest q.1 q.2.1 q.2.2 "SortMerge") U) ∧ ∀ q ∈ z_strs, ∃ sa : Nat, vk_R "SortMerge" q.1 q.2 sa U
theorem z_S.warm {G : zG} {s U : State} {H : Heap} (hW : s.WarmedH U.vm) (h : z_S G s H) : z_S G U H := by
  obtain ⟨⟨t, h1, h2⟩, h3, h4, h5, h6, h7⟩ := h
  exact ⟨⟨t, h1.moved hW.alike, h2.moved hW.alike⟩, h3.moved hW.alike, h4.moved hW.alike, h5, fun q hq => va_Nw.warmM hW (h6 q hq), fun q hq => (h7 q hq).imp fun sa h => vk_R.warm hW h⟩
theorem z_S.same {G : zG} {u U : State} {H : Heap} (hv : u.vm = U.vm) (h : z_S G u H) : z_S G U H := by
  have hvm : u.vm.Alike U.vm := by rw [hv]; exact Vm.Alike.refl _
  obtain ⟨⟨t, h1, h2⟩, h3, h4, h5, h6, h7⟩ := h
  exact ⟨⟨t, h1.moved hvm, h2.moved hvm⟩, h3.moved hvm, h4.moved hvm, h5, fun q hq => va_Nw.same rfl hv (h6 q hq), fun q hq => (h7 q hq).imp fun sa h => vk_R.same hv.symm h⟩
theorem z_S.kept {G : zG} {U : State} {H H1 : Heap} (h : z_S G U H) (hq : ∀ a : Nat, a < H.size → ¬ z_A G a → H1[a]? = H[a]?) : z_S G U H1 := by
  obtain ⟨⟨t, h1, h2⟩, h3, h4, h5⟩ := h
  exact ⟨⟨t, h1.kept hq, h2.kept hq⟩, h3.kept hq, h4.kept hq, h5⟩
def z_X (G : zG) (cc : ByteArray) (own : String) (Ts : List Cond) (nL : Nat) (Γ : zΓ) : Prop :=
  CallFix (zp Γ) (zm Γ) (zc Γ) cc nL (zs Γ) (za Γ) Ts own ∧ va_K G.2.1 vwCl (z_tys G) (zs Γ) ∧ z_S G (zs Γ) (zs Γ).heap ∧ (zmt Γ).locks = false
/-- the machine, now at pc with these locals and this stack over the world w, comes to the end that is wanted -/
def z_J (G : zG) (nL : Nat) (Γ : zΓ) (w : zW) (cells slots pc : Nat) (lv : zL) (st : List Value) : Prop :=
  ∀ (H : Heap) (locs : List Loc) (ls : Array Slot), z_H G w H → va_S (z_A G) (zs Γ).heap H locs → z_L ls nL lv →
    W (zp Γ) G.1 (ze Γ) (zR Γ) (zs Γ) (zm Γ) (za Γ) (zbl Γ) (zmt Γ) (zc Γ) H locs cells slots (zQ Γ) (F0 (zm Γ) pc ls st)
/-- a contract's end: the answer and the world behind it -/
def z_Q (G : zG) (Post : Option Value → zW → Prop) : Array Value → State → Outcome → State → Prop := fun _ st o t => (∃ (r : Option Value) (w : zW), o = .returned r ∧ Post r w ∧ z_H G w t.heap) ∧ va_F (z_A G) st t
def z_Pc (G : zG) (av : List Value) (w : zW) : Array Value → State → Prop := va_Pc av (fun U => z_H G w U.heap ∧ va_K G.2.1 vwCl (z_tys G) U ∧ z_S G U U.heap)
/-- a contract: from the world w with these arguments the method returns, with an answer and a world of which Post holds -/
def z_M (G : zG) (y : MethodName) (ws : List Cond) (rm : Room) (mc ms : Nat) (av : List Value) (w : zW) (Post : Option Value → zW → Prop) : Prop :=
  Met G.1 y ws rm (z_Pc G av w) (z_Q G Post) mc ms (z_A G)
/-- what a contract's body knows of its own end -/
def z_E (G : zG) (rm : Room) (mc ms : Nat) (nm : String) (ret : Option FieldType) (Post : Option Value → zW → Prop) (Γ : zΓ) : Prop :=
  zR Γ = rm ∧ zQ Γ = MQ (zbl Γ) (z_Q G Post) (za Γ) (zs Γ) mc ms (z_A G) ∧ (zmt Γ).sig.returnType = ret ∧ (zmt Γ).name = nm
theorem z_M.weaken {G : zG} {y : MethodName} {ws : List Cond} {rm : Room} {mc ms : Nat} {av : List Value} {w : zW} {Post Post' : Option Value → zW → Prop} (h : z_M G y ws rm mc ms av w Post) (hp : ∀ r w, Post r w → Post' r w) : z_M G y ws rm mc ms av w Post' := by
  intro p e h1 h2 h3 s m args below hf ha hP hK
  obtain ⟨n, o, a, b, c, ⟨⟨r, w', q1, q2, q3⟩, q4⟩, q5⟩ := h p e h1 h2 h3 s m args below hf ha hP hK
  exact ⟨n, o, a, b, c, ⟨⟨r, w', q1, hp _ _ q2, q3⟩, q4⟩, q5⟩
theorem z_met {G : zG} {y : MethodName} {ws ws' : List Cond} {rm : Room} {mc ms : Nat} {av : List Value} {w : zW} {Post : Option Value → zW → Prop} {cc : ByteArray} {nL : Nat} {ret : Option FieldType}
    (hy : plainName y.cls = true) (hw : ws = Cond.code y cc nL ret :: ws') (hlen : (lg_sl av).length ≤ nL) (lv : zL) (hlv : ∀ (i : Nat) (v : Value), lv[i]? = some (some v) → (z_ent av)[i]? = some (some v))
    (body : ∀ Γ : zΓ, z_X G cc y.cls ws nL Γ → z_E G rm mc ms y.name ret Post Γ → z_J G nL Γ w 0 0 0 lv []) : z_M G y ws rm mc ms av w Post := by
  refine Met.ofW (cc := cc) (maxL := nL) (ret := ret) hy hw ?_
  intro p e s m args below meth c s₁ B hml hv
  obtain ⟨rfl, hH, hK, hSt⟩ := hv
  have hx := B.exec
  have hb := B.bytes
  have hr := B.returns
  have hts := atoms_spec (ws := ws) B.pre
  have hown : s.vm.findClass y.cls = some m.cls := findClass_of_methodNamed B.named
  have hl := lv_entry av (n := nL) hlen
  rw [lg_entry_eq]
  exact body (p, e, (headSpec ws rm).room, s, m, av.toArray, below, meth, c, MQ below (z_Q G Post) av.toArray s mc ms (z_A G)) ⟨⟨hx, hb, hml, hown, hts⟩, hK, hSt, B.notSynchronized⟩ ⟨rfl, rfl, hr, (name_of_methodNamed B.named B.method).1⟩ s.heap [] _ hH va_S.rf
    ⟨hl.1, hl.2.1, fun i v hi => hl.2.2 (i, v) (by have := z_ent_args av 0 i v (hlv i v hi); simpa using this)⟩
theorem z_J.sub {G : zG} {nL : Nat} {Γ : zΓ} {w : zW} {cells slots pc : Nat} {lv : zL} {st : List Value} (lv' : zL) (hs : ∀ (i : Nat) (v : Value), lv'[i]? = some (some v) → lv[i]? = some (some v)) (k : z_J G nL Γ w cells slots pc lv' st) : z_J G nL Γ w cells slots pc lv st :=
  fun H locs ls hH hS hl => k H locs ls hH hS (hl.sub hs)
theorem z_J.widen {G : zG} {nL : Nat} {Γ : zΓ} {w : zW} {cells slots pc : Nat} {lv : zL} {st : List Value} {k n : Nat} (h1 : cells ≤ k) (h2 : slots ≤ n) (kk : z_J G nL Γ w k n pc lv st) : z_J G nL Γ w cells slots pc lv st :=
  fun H locs ls hH hS hl => W.widen h1 h2 (kk H locs ls hH hS hl)
/-- fewer cells known -/
theorem z_J.less {G : zG} {nL : Nat} {Γ : zΓ} {w w' : zW} {cells slots pc : Nat} {lv : zL} {st : List Value} (h1 : w'.1 = w.1) (h : ∀ k c, w'.2 k = some c → w.2 k = some c) (kk : z_J G nL Γ w' cells slots pc lv st) : z_J G nL Γ w cells slots pc lv st :=
  fun H locs ls hH hS hl => kk H locs ls ⟨by rw [h1]; exact hH.1, fun k c hk => hH.2 k c (h k c hk)⟩ hS hl
theorem z_set0 (cA : ClassId) (n : Nat) (f : Nat → Int32) (k : Nat) (x : Int32) : (arrV cA n (fun j => .int (f j))).setSlot k (.int x) = arrV cA n (fun j => .int (upd f k x j)) := by
  rw [arrV_store]
  congr 1
  funext q
  by_cases hq : q = k
  · subst hq; simp [updV, upd]
  · simp [updV, upd, hq]
theorem z_set1 (cA : ClassId) (n : Nat) (f : Nat → Int32) (k : Nat) (x : Int32) : (arrV cA n (fun j => .int (f j))).setSlot k (narrow .boolean (.int x)) = arrV cA n (fun j => .int (upd f k (vp_nar .boolean x) j)) := by
  rw [arrV_store]
  congr 1
  funext q
  by_cases hq : q = k
  · subst hq
    simp [updV, upd, vp_nar]
    try rfl
  · simp [updV, upd, hq]
theorem z_set2 (cA : ClassId) (n : Nat) (f : Nat → Int64) (k : Nat) (x : Int64) : (arrV cA n (fun j => .long (f j))).setSlot k (.long x) = arrV cA n (fun j => .long (vp_updL f k x j)) := by
  rw [arrV_store]
  congr 1
  funext q
  by_cases hq : q = k
  · subst hq; simp [updV, vp_updL]
  · simp [updV, vp_updL, hq]
section ZR
variable {G : zG} {cc : ByteArray} {own : String} {Ts : List Cond} {nL : Nat} {Γ : zΓ} {w : zW} {cells slots pc : Nat} {lv : zL} {st : List Value} {rm : Room} {mc ms : Nat} {nm : String} {ret : Option FieldType} {Post : Option Value → zW → Prop}
theorem z_iret (C : z_X G cc own Ts nL Γ) (E : z_E G rm mc ms nm ret Post Γ) {v : Int32} {ty : FieldType} (hr : ret = some ty) (hn : narrow ty (.int v) = .int v) (hc : cells ≤ mc) (hs : slots ≤ ms) (hd : decode cc pc = .ok (.ireturn, 1)) (hP : Post (some (.int v)) w) : z_J G nL Γ w cells slots pc lv [.int v] := by
  obtain ⟨p, e, R, s, m, args, below, meth, c, Q⟩ := Γ
  obtain ⟨⟨hx, hb, hml, hown, hts⟩, hK, hSt, hlk⟩ := C
  obtain ⟨hR, hQ, hret, -⟩ := E
  intro H locs ls hH hS hl
  refine W.widen hc hs ?_
  rw [hQ]
  exact W.zret hx hb (hret.trans hr) hn (fun t ht hW => ⟨⟨_, w, rfl, hP, by rw [ht]; exact hH⟩, hS.F ht⟩) hS.2.2 hd hlk
theorem z_lret (C : z_X G cc own Ts nL Γ) (E : z_E G rm mc ms nm ret Post Γ) {v : Int64} (hr : ret = some .long) (hc : cells ≤ mc) (hs : slots ≤ ms) (hd : decode cc pc = .ok (.lreturn, 1)) (hP : Post (some (.long v)) w) : z_J G nL Γ w cells slots pc lv [.long v] := by
  obtain ⟨p, e, R, s, m, args, below, meth, c, Q⟩ := Γ
  obtain ⟨⟨hx, hb, hml, hown, hts⟩, hK, hSt, hlk⟩ := C
  obtain ⟨hR, hQ, hret, -⟩ := E
  intro H locs ls hH hS hl
  refine W.widen hc hs ?_
  rw [hQ]
  exact W.lret hx hb (hret.trans hr) (fun t ht hW => ⟨⟨_, w, rfl, hP, by rw [ht]; exact hH⟩, hS.F ht⟩) hS.2.2 hd hlk
theorem z_vret (C : z_X G cc own Ts nL Γ) (E : z_E G rm mc ms nm ret Post Γ) (hr : ret = none) (hc : cells ≤ mc) (hs : slots ≤ ms) (hd : decode cc pc = .ok (.return_, 1)) (hP : Post none w) : z_J G nL Γ w cells slots pc lv [] := by
  obtain ⟨p, e, R, s, m, args, below, meth, c, Q⟩ := Γ
  obtain ⟨⟨hx, hb, hml, hown, hts⟩, hK, hSt, hlk⟩ := C
  obtain ⟨hR, hQ, hret, -⟩ := E
  intro H locs ls hH hS hl
  refine W.widen hc hs ?_
  rw [hQ]
  exact W.vret hx hb (hret.trans hr) (fun t ht hW => ⟨⟨_, w, rfl, hP, by rw [ht]; exact hH⟩, hS.F ht⟩) hS.2.2 hd hlk
theorem z_H.one {w : zW} {H : Heap} (h : z_H G w H) {a : Nat} {c : zC} (ha : w.2 a = some c) : va_P G.2.1 vwCl [(a, z_c G.2.2.1 c)] H := by
  intro k q hk
  match k, hk with
  | 0, hk => cases hk; exact (h.2 a c ha).2
  | k + 1, hk => simp at hk
theorem z_H.set {w : zW} {H H1 : Heap} (h : z_H G w H) {a : Nat} {c c' : zC} (ha : w.2 a = some c) (z : H1.size = H.size) (he : va_at G.2.1 vwCl (a, z_c G.2.2.1 c') H1) (oq : ∀ q : Nat, q ≠ a → H1[q]? = H[q]?) : z_H G (z_up w a c') H1 := by
  refine ⟨z.trans h.1, fun k d hk => ?_⟩
  unfold z_up at hk
  by_cases e : k = a
  · subst e
    simp at hk
    subst hk
    exact ⟨(h.2 k c ha).1, he⟩
  · simp [e] at hk
    obtain ⟨h1, h2⟩ := h.2 k d hk
    exact ⟨h1, h2.kept (oq k e)⟩
theorem z_get (C : z_X G cc own Ts nL Γ) {Cn : String} {T : u_T} {N ci index k a : Nat} {fs : List Value} {v : Value} (hin : ∀ x ∈ u_ws Cn T N, x ∈ Ts) (hc : vwCl[ci]? = some (Cn, T, N)) (hk : k < N) (hlink : Cond.fieldLink own index (T k).1 (T k).2.1 (T k).2.2.1 ∈ Ts) (hd : decode cc pc = .ok (.getfield index, 3)) (ha : w.2 a = some (.inr (ci, fs))) (hv : fs[k]? = some v)
    (kk : z_J G nL Γ w cells slots (pc + 3) lv (v :: st)) : z_J G nL Γ w cells slots pc lv (.ref a :: st) := by
  obtain ⟨p, e, R, s, m, args, below, meth, c, Q⟩ := Γ
  obtain ⟨⟨hx, hb, hml, hown, hts⟩, hK, hSt, hlk⟩ := C
  intro H locs ls hH hS hl
  exact va_get (D := G.2.1) (ws := [(a, .inr (ci, fs))]) (fs := fs) hx hb hts hin hown hK (hH.one ha) 0 rfl hc k hk (hts _ hlink) (fun _ h => h) hv hd (kk H locs ls hH hS hl)
theorem z_put (C : z_X G cc own Ts nL Γ) {Cn : String} {T : u_T} {N ci index k a : Nat} {fs : List Value} {v : Value} {ty : FieldType} (hin : ∀ x ∈ u_ws Cn T N, x ∈ Ts) (hc : vwCl[ci]? = some (Cn, T, N)) (ty0 : Nat → FieldType) (hty : ∀ k, k < N → parseFieldDescriptor (T k).2.2.1 = some (ty0 k)) (hnm : ∀ a, a < N → ∀ b, b < N → a ≠ b → (T a).2.1 ≠ (T b).2.1) (hk : k < N) (hlink : Cond.fieldLink own index (T k).1 (T k).2.1 (T k).2.2.1 ∈ Ts) (hfin : (T k).2.2.2 = false) (hdt : parseFieldDescriptor (T k).2.2.1 = some ty) (hd : decode cc pc = .ok (.putfield index, 3)) (ha : w.2 a = some (.inr (ci, fs))) (hl : k < fs.length) (hn : narrow ty v = v) (hfit : fits ty v = true)
    (kk : z_J G nL Γ (z_up w a (.inr (ci, fs.set k v))) cells slots (pc + 3) lv st) : z_J G nL Γ w cells slots pc lv (v :: .ref a :: st) := by
  obtain ⟨p, e, R, s, m, args, below, meth, c, Q⟩ := Γ
  obtain ⟨⟨hx, hb, hml, hown, hts⟩, hK, hSt, hlk⟩ := C
  intro H locs ls hH hS hls
  have hap := va_apart (own := own) hts hin ty0 hty hnm hK hc
  obtain ⟨hba, r, h1, cell, q1, q2, q3, q4⟩ := hH.2 a _ ha
  have hr : r = (Cn, T, N) := Option.some.inj (h1.symm.trans hc)
  subst hr
  obtain ⟨hSl, hfc, kC, hkC, hkind⟩ := hK.1 ci _ hc
  obtain ⟨cf, kf, fi, f, hi, hsl⟩ := hSl k hk
  have hlay := hts _ (hin _ (u_in_lay hk))
  unfold u_lay at hlay
  rw [if_neg (by rw [hfin]; decide)] at hlay
  have hst := (u_facts hfc hkC (u_lays hts hin hk) hi).1
  have h6 := u_store hfc hkC hkind hlay hi hdt hn hfit
  refine W.putK hx hb (f := f) ⟨hown, hts _ hlink, ⟨_, _, _, hi⟩, hst⟩ (by rw [q2]; exact h6) q1 q3 (by rw [hsl]; exact k2_hasslot (q4 k hk)) rfl rfl hd fun H' e1 e2 e3 => ?_
  rw [hsl] at e1 ⊢
  exact kk H' _ ls (hH.set ha e2 ⟨_, hc, t_OB.to (V := updV (vp_V fs) k v) ⟨_, e1, q2, q3, t_set q4 hap hk v⟩ (fun j _ => vp_updV_set hl v j)⟩ e3) (hS.put e2 e3 hba) hls
theorem z_putF (C : z_X G cc own Ts nL Γ) {Cn : String} {T : u_T} {N ci index k a : Nat} {fs : List Value} {v : Value} {ty : FieldType} (hin : ∀ x ∈ u_ws Cn T N, x ∈ Ts) (hc : vwCl[ci]? = some (Cn, T, N)) (ty0 : Nat → FieldType) (hty : ∀ k, k < N → parseFieldDescriptor (T k).2.2.1 = some (ty0 k)) (hnm : ∀ a, a < N → ∀ b, b < N → a ≠ b → (T a).2.1 ≠ (T b).2.1) (hk : k < N) (hlink : Cond.fieldLink own index (T k).1 (T k).2.1 (T k).2.2.1 ∈ Ts) (hfin : (T k).2.2.2 = true) (hinit : (zmt Γ).name = "<init>") (hdecl : (T k).1 = own) (hdt : parseFieldDescriptor (T k).2.2.1 = some ty) (hd : decode cc pc = .ok (.putfield index, 3)) (ha : w.2 a = some (.inr (ci, fs))) (hl : k < fs.length) (hn : narrow ty v = v) (hfit : fits ty v = true)
    (kk : z_J G nL Γ (z_up w a (.inr (ci, fs.set k v))) cells slots (pc + 3) lv st) : z_J G nL Γ w cells slots pc lv (v :: .ref a :: st) := by
  obtain ⟨p, e, R, s, m, args, below, meth, c, Q⟩ := Γ
  obtain ⟨⟨hx, hb, hml, hown, hts⟩, hK, hSt, hlk⟩ := C
  intro H locs ls hH hS hls
  have hap := va_apart (own := own) hts hin ty0 hty hnm hK hc
  obtain ⟨hba, r, h1, cell, q1, q2, q3, q4⟩ := hH.2 a _ ha
  have hr : r = (Cn, T, N) := Option.some.inj (h1.symm.trans hc)
  subst hr
  obtain ⟨hSl, hfc, kC, hkC, hkind⟩ := hK.1 ci _ hc
  obtain ⟨cf, kf, fi, f, hi, hsl⟩ := hSl k hk
  have hlay := hts _ (hin _ (u_in_lay hk))
  unfold u_lay at hlay
  rw [if_pos hfin] at hlay
  have hst := (u_facts hfc hkC (u_lays hts hin hk) hi).1
  have hcf : m.cls = cf := by
    obtain ⟨_, _, c', _, _, _, -, -, hf', -, -, -, hown2, -⟩ := Cond.laysFinal_spec hlay
    have e1 : c' = cf := by have := hi.symm.trans hf'; simp at this; exact this.1.symm
    rw [hdecl] at hown2
    rw [← e1]; exact Option.some.inj (hown.symm.trans hown2)
  have h6 := u_fits hfc hkC hkind (Or.inr hlay) hi hdt hn hfit
  refine W.putFinK hx hb hown (hts _ hlink) hi hst hcf hinit (by rw [q2]; exact h6) q1 q3 (by rw [hsl]; exact k2_hasslot (q4 k hk)) rfl rfl hd fun H' e1 e2 e3 => ?_
  rw [hsl] at e1 ⊢
  exact kk H' _ ls (hH.set ha e2 ⟨_, hc, t_OB.to (V := updV (vp_V fs) k v) ⟨_, e1, q2, q3, t_set q4 hap hk v⟩ (fun j _ => vp_updV_set hl v j)⟩ e3) (hS.put e2 e3 hba) hls
theorem z_iald (C : z_X G cc own Ts nL Γ) {a n : Nat} {f : Nat → Int32} {i : Int32} (hd : decode cc pc = .ok (.iaload, 1)) (ha : w.2 a = some (.inl (0, n, .inl f))) (hin : vp_in i n) (kk : z_J G nL Γ w cells slots (pc + 1) lv (.int (f i.toNatClampNeg) :: st)) : z_J G nL Γ w cells slots pc lv (.int i :: .ref a :: st) := by
  obtain ⟨p, e, R, s, m, args, below, meth, c, Q⟩ := Γ
  obtain ⟨⟨hx, hb, hml, hown, hts⟩, hK, hSt, hlk⟩ := C
  intro H locs ls hH hS hl
  exact va_iald (D := G.2.1) (ws := [(a, .inl (G.2.2.1 0, n, .inl f))]) (tys := z_tys G) hx hb hK (hH.one ha) 0 0 rfl rfl hin hd (kk H locs ls hH hS hl)
theorem z_zald (C : z_X G cc own Ts nL Γ) {a n : Nat} {f : Nat → Int32} {i : Int32} (hd : decode cc pc = .ok (.baload, 1)) (ha : w.2 a = some (.inl (1, n, .inl f))) (hin : vp_in i n) (kk : z_J G nL Γ w cells slots (pc + 1) lv (.int (f i.toNatClampNeg) :: st)) : z_J G nL Γ w cells slots pc lv (.int i :: .ref a :: st) := by
  obtain ⟨p, e, R, s, m, args, below, meth, c, Q⟩ := Γ
  obtain ⟨⟨hx, hb, hml, hown, hts⟩, hK, hSt, hlk⟩ := C
  intro H locs ls hH hS hl
  exact va_zald (D := G.2.1) (ws := [(a, .inl (G.2.2.1 1, n, .inl f))]) (tys := z_tys G) hx hb hK (hH.one ha) 0 1 rfl rfl hin hd (kk H locs ls hH hS hl)
theorem z_lald (C : z_X G cc own Ts nL Γ) {a n : Nat} {f : Nat → Int64} {i : Int32} (hd : decode cc pc = .ok (.laload, 1)) (ha : w.2 a = some (.inl (2, n, .inr (.inl f)))) (hin : vp_in i n) (kk : z_J G nL Γ w cells slots (pc + 1) lv (.long (f i.toNatClampNeg) :: st)) : z_J G nL Γ w cells slots pc lv (.int i :: .ref a :: st) := by
  obtain ⟨p, e, R, s, m, args, below, meth, c, Q⟩ := Γ
  obtain ⟨⟨hx, hb, hml, hown, hts⟩, hK, hSt, hlk⟩ := C
  intro H locs ls hH hS hl
  exact va_lald (D := G.2.1) (ws := [(a, .inl (G.2.2.1 2, n, .inr (.inl f)))]) (tys := z_tys G) hx hb hK (hH.one ha) 0 2 rfl rfl hin hd (kk H locs ls hH hS hl)
theorem z_alen (C : z_X G cc own Ts nL Γ) {a n : Nat} {f : Nat → Int32} (hd : decode cc pc = .ok (.arraylength, 1)) (ha : w.2 a = some (.inl (0, n, .inl f))) (kk : z_J G nL Γ w cells slots (pc + 1) lv (.int (Int32.ofNat n) :: st)) : z_J G nL Γ w cells slots pc lv (.ref a :: st) := by
  obtain ⟨p, e, R, s, m, args, below, meth, c, Q⟩ := Γ
  obtain ⟨⟨hx, hb, hml, hown, hts⟩, hK, hSt, hlk⟩ := C
  intro H locs ls hH hS hl
  exact va_alen (D := G.2.1) (ws := [(a, .inl (G.2.2.1 0, n, .inl f))]) (tys := z_tys G) hx hb hK (hH.one ha) 0 0 rfl rfl rfl hd (kk H locs ls hH hS hl)
theorem z_iast (C : z_X G cc own Ts nL Γ) {a n : Nat} {f : Nat → Int32} {i x : Int32} (hd : decode cc pc = .ok (.iastore, 1)) (ha : w.2 a = some (.inl (0, n, .inl f))) (hin : vp_in i n) (kk : z_J G nL Γ (z_up w a (.inl (0, n, .inl (upd f i.toNatClampNeg x)))) cells slots (pc + 1) lv st) : z_J G nL Γ w cells slots pc lv (.int x :: .int i :: .ref a :: st) := by
  obtain ⟨p, e, R, s, m, args, below, meth, c, Q⟩ := Γ
  obtain ⟨⟨hx, hb, hml, hown, hts⟩, hK, hSt, hlk⟩ := C
  intro H locs ls hH hS hl
  refine W.iast hx hb (hH.2 a _ ha).2 ((hK.2 0 _ rfl).1 n (fun j => .int (f j))) (fun q => by cases q) (by show ¬ (i < 0 ∨ (arrV _ _ _).slots.size ≤ _); rw [arrV_size]; exact hin) rfl rfl hd fun H1 e z oq => ?_
  refine kk H1 _ ls (hH.set ha z ?_ oq) (hS.put z oq (hH.2 a _ ha).1) hl
  show H1[a]? = some (arrV (G.2.2.1 0) n (fun j => .int ((upd f i.toNatClampNeg x) j)))
  exact e.trans (congrArg some (z_set0 _ _ _ _ _))
theorem z_zast (C : z_X G cc own Ts nL Γ) {a n : Nat} {f : Nat → Int32} {i x : Int32} (hd : decode cc pc = .ok (.bastore, 1)) (ha : w.2 a = some (.inl (1, n, .inl f))) (hin : vp_in i n) (kk : z_J G nL Γ (z_up w a (.inl (1, n, .inl (upd f i.toNatClampNeg (vp_nar .boolean x))))) cells slots (pc + 1) lv st) : z_J G nL Γ w cells slots pc lv (.int x :: .int i :: .ref a :: st) := by
  obtain ⟨p, e, R, s, m, args, below, meth, c, Q⟩ := Γ
  obtain ⟨⟨hx, hb, hml, hown, hts⟩, hK, hSt, hlk⟩ := C
  intro H locs ls hH hS hl
  refine W.zast hx hb (hH.2 a _ ha).2 ((hK.2 1 _ rfl).1 n (fun j => .int (f j))) (fun q => by cases q) (by show ¬ (i < 0 ∨ (arrV _ _ _).slots.size ≤ _); rw [arrV_size]; exact hin) rfl rfl hd fun H1 e z oq => ?_
  refine kk H1 _ ls (hH.set ha z ?_ oq) (hS.put z oq (hH.2 a _ ha).1) hl
  show H1[a]? = some (arrV (G.2.2.1 1) n (fun j => .int ((upd f i.toNatClampNeg (vp_nar .boolean x)) j)))
  exact e.trans (congrArg some (z_set1 _ _ _ _ _))
theorem z_last (C : z_X G cc own Ts nL Γ) {a n : Nat} {f : Nat → Int64} {i : Int32} {x : Int64} (hd : decode cc pc = .ok (.lastore, 1)) (ha : w.2 a = some (.inl (2, n, .inr (.inl f)))) (hin : vp_in i n) (kk : z_J G nL Γ (z_up w a (.inl (2, n, .inr (.inl (vp_updL f i.toNatClampNeg x))))) cells slots (pc + 1) lv st) : z_J G nL Γ w cells slots pc lv (.long x :: .int i :: .ref a :: st) := by
  obtain ⟨p, e, R, s, m, args, below, meth, c, Q⟩ := Γ
  obtain ⟨⟨hx, hb, hml, hown, hts⟩, hK, hSt, hlk⟩ := C
  intro H locs ls hH hS hl
  refine W.last hx hb (hH.2 a _ ha).2 ((hK.2 2 _ rfl).1 n (fun j => .long (f j))) (fun q => by cases q) (by show ¬ (i < 0 ∨ (arrV _ _ _).slots.size ≤ _); rw [arrV_size]; exact hin) rfl rfl hd fun H1 e z oq => ?_
  refine kk H1 _ ls (hH.set ha z ?_ oq) (hS.put z oq (hH.2 a _ ha).1) hl
  show H1[a]? = some (arrV (G.2.2.1 2) n (fun j => .long ((vp_updL f i.toNatClampNeg x) j)))
  exact e.trans (congrArg some (z_set2 _ _ _ _ _))
/-- behind a call -/
theorem z_after (C : z_X G cc own Ts nL Γ) {PostC : Option Value → zW → Prop} {a : Array Value} {rest st0 : List Value} {ls : Array Slot} {H : Heap} {locs : List Loc} (hl : z_L ls nL lv)
    (hr : va_Run (zp Γ) G.1 (ze Γ) (zR Γ) (zs Γ) (zm Γ) (za Γ) (zbl Γ) (zmt Γ) (zc Γ) H locs cells slots mc ms (F0 (zm Γ) pc ls st0) rest (z_Q G PostC a) (z_A G)) (hS : va_S (z_A G) (zs Γ).heap H locs)
    (kk : ∀ (r : Option Value) (w' : zW), PostC r w' → z_J G nL Γ w' (cells + mc) (slots + ms) (pc + 3) lv (r.toList ++ rest)) :
    W (zp Γ) G.1 (ze Γ) (zR Γ) (zs Γ) (zm Γ) (za Γ) (zbl Γ) (zmt Γ) (zc Γ) H locs cells slots (zQ Γ) (F0 (zm Γ) pc ls st0) := by
  intro T hT X
  obtain ⟨v, st₀, t, T', L, h0, X', hL, e1, e2, ⟨⟨r, w', hv, hp, hH'⟩, hz, hk⟩, stp⟩ := hr T hT X
  cases hv
  rw [h0] at hz hk
  obtain ⟨t2, a1, b1⟩ := kk v w' hp T'.heap (locs ++ L) ls (by rw [e1]; exact hH')
    ⟨Nat.le_trans hS.1 (by rw [e1]; exact hz), fun q h1 h2 => by rw [e1, hk q (Nat.lt_of_lt_of_le h1 hS.1) h2]; exact hS.2.1 q h1 h2, fun q hq => by
      rcases List.mem_append.mp hq with h | h
      · exact hS.2.2 q h
      · exact hL q h⟩ hl T' rfl X'
  exact ⟨t2, stp t2 a1, b1⟩
theorem z_Pc_blind (G : zG) (av : List Value) (w : zW) : FrameBlind (z_Pc G av w) := by
  intro a U g mk q
  obtain ⟨q0, q1, q2, q3⟩ := q
  exact ⟨q0, q1, va_K.moved (u := U) (U := U.calling g mk a) (Vm.Alike.refl U.vm) q2, z_S.same (u := U) (U := U.calling g mk a) rfl q3⟩
theorem z_recv (C : z_X G cc own Ts nL Γ) {H : Heap} (hH : z_H G w H) {a ci N : Nat} {fs : List Value} {Cn : String} {T : u_T} (ha : w.2 a = some (.inr (ci, fs))) (hc : vwCl[ci]? = some (Cn, T, N)) : ∃ cellB : Cell, H[a]? = some cellB ∧ cellB.vm.isStatics = false ∧ (zs Γ).vm.findClass Cn = some cellB.cls := by
  have h := va_recv C.2.1 (hH.one ha) hc (q0 := 0) rfl
  exact h
end ZR
