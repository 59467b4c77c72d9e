/-! THE WORLD BY ADDRESSES, A JUDGEMENT OVER IT -/
/-- a cell: an array of a kind (0 int, 1 boolean, 2 long), or an object of a class of vwCl with its fields -/
abbrev zC : Type := (Nat × vp_A) ⊕ (Nat × List Value)
/-- a world: how many cells the heap has, and what some of them hold -/
abbrev zW : Type := Nat × (Nat → Option zC)
/-- launch, class ids and slots, array class ids, the first address that is ours -/
abbrev zG : Type := Launch × va_G × (Nat → ClassId) × Nat
abbrev zL : Type := List (Option Value)
def z_c (cA : Nat → ClassId) : zC → va_E
  | .inl q => .inl (cA q.1, q.2)
  | .inr o => .inr o
def z_up (w : zW) (k : Nat) (c : zC) : zW := (w.1, fun j => if j = k then some c else w.2 j)
def z_nw (w : zW) (c : zC) : zW := (w.1 + 1, fun j => if j = w.1 then some c else w.2 j)
def z_H (G : zG) (w : zW) (H : Heap) : Prop := H.size = w.1 ∧ ∀ (k : Nat) (c : zC), w.2 k = some c → G.2.2.2 ≤ k ∧ va_at G.2.1 vwCl (k, z_c G.2.2.1 c) H
def z_tys (G : zG) : List (ClassId × FieldType) := [(G.2.2.1 0, .int), (G.2.2.1 1, .boolean), (G.2.2.1 2, .long)]
def z_A (G : zG) : Nat → Prop := fun q => G.2.2.2 ≤ q
def z_L (ls : Array Slot) (nL : Nat) (lv : zL) : Prop := ls.size = nL ∧ lv_wf ls ∧ ∀ (i : Nat) (v : Value), lv[i]? = some (some v) → ls[i]? = some (.val v)
def z_as (lv : zL) : List (Nat × Value) := lv.zipIdx.filterMap (fun q => q.1.map (fun v => (q.2, v)))
theorem z_as_mem {lv : zL} {i : Nat} {v : Value} : (i, v) ∈ z_as lv ↔ lv[i]? = some (some v) := by
  unfold z_as
  rw [List.mem_filterMap]
  constructor
  · rintro ⟨⟨o, k⟩, hm, he⟩
    rw [List.mk_mem_zipIdx_iff_getElem?] at hm
    cases o with
    | none => simp at he
    | some u =>
      simp at he
      obtain ⟨rfl, rfl⟩ := he
      exact hm
  · intro h
    exact ⟨(some v, i), List.mk_mem_zipIdx_iff_getElem?.mpr h, rfl⟩
theorem z_L.has {ls : Array Slot} {nL : Nat} {lv : zL} (h : z_L ls nL lv) : lv_has ls nL (z_as lv) := ⟨h.1, h.2.1, fun q hq => h.2.2 q.1 q.2 (z_as_mem.mp hq)⟩
/-- no value of two slots stands just below -/
def z_ok1 (lv : zL) (i : Nat) : Bool := match i with
  | 0 => true
  | j + 1 => match lv[j]? with
    | some (some (.long _)) => false
    | some (some (.double _)) => false
    | _ => true
theorem z_ok1_cat {lv : zL} {j : Nat} {u : Value} (h : z_ok1 lv (j + 1) = true) (hj : lv[j]? = some (some u)) : ¬ u.category = 2 := by
  unfold z_ok1 at h
  simp only [hj] at h
  cases u <;> simp_all [Value.category]
theorem z_L.st1 {ls' : Array Slot} {nL : Nat} {lv : zL} {i : Nat} {v : Value} (hk : z_ok1 lv i = true) (h : lv_has ls' nL ((i, v) :: (z_as lv).filter (fun q => !(q.1 == i) && !(q.1 + 1 == i && q.2.category == 2)))) : z_L ls' nL (lv.set i (some v)) := by
  refine ⟨h.1, h.2.1, fun j u hj => ?_⟩
  rw [List.getElem?_set] at hj
  by_cases e : i = j
  · subst e
    rw [if_pos rfl] at hj
    split at hj
    · cases hj; exact h.2.2 (i, v) List.mem_cons_self
    · cases hj
  · rw [if_neg e] at hj
    refine h.2.2 (j, u) (List.mem_cons_of_mem _ (List.mem_filter.mpr ⟨z_as_mem.mpr hj, ?_⟩))
    have h1 : (j == i) = false := by simp; exact fun h => e h.symm
    by_cases e2 : j + 1 = i
    · subst e2
      have := z_ok1_cat hk hj
      simp [this]
    · have h2 : (j + 1 == i) = false := by simp; exact e2
      simp only [h1, h2]; rfl
theorem z_L.st2 {ls' : Array Slot} {nL : Nat} {lv : zL} {i : Nat} {v : Value} (hk : z_ok1 lv i = true) (h : lv_has ls' nL ((i, v) :: (z_as lv).filter (fun q => !(q.1 == i) && (!(q.1 == i + 1) && !(q.1 + 1 == i && q.2.category == 2))))) : z_L ls' nL ((lv.set i (some v)).set (i + 1) none) := by
  refine ⟨h.1, h.2.1, fun j u hj => ?_⟩
  rw [List.getElem?_set] at hj
  by_cases e3 : i + 1 = j
  · rw [if_pos e3] at hj
    split at hj
    · cases hj
    · cases hj
  · rw [if_neg e3, List.getElem?_set] at hj
    by_cases e : i = j
    · subst e
      rw [if_pos rfl] at hj
      split at hj
      · cases hj; exact h.2.2 (i, v) List.mem_cons_self
      · cases hj
    · rw [if_neg e] at hj
      refine h.2.2 (j, u) (List.mem_cons_of_mem _ (List.mem_filter.mpr ⟨z_as_mem.mpr hj, ?_⟩))
      have h1 : (j == i) = false := by simp; exact fun h => e h.symm
      have h3 : (j == i + 1) = false := by simp; exact fun h => e3 h.symm
      by_cases e2 : j + 1 = i
      · subst e2
        have := z_ok1_cat hk hj
        simp [this]
        omega
      · have h2 : (j + 1 == i) = false := by simp; exact e2
        simp only [h1, h2, h3]; rfl
theorem z_L.sub {ls : Array Slot} {nL : Nat} {lv lv' : zL} (h : z_L ls nL lv) (hs : ∀ (i : Nat) (v : Value), lv'[i]? = some (some v) → lv[i]? = some (some v)) : z_L ls nL lv' := ⟨h.1, h.2.1, fun i v hi => h.2.2 i v (hs i v hi)⟩
/-- the locals at a method's entry -/
def z_ent (vs : List Value) : zL := vs.flatMap (fun v => if v.category = 2 then [some v, none] else [some v])
theorem z_ent_args (vs : List Value) (k : Nat) : ∀ (i : Nat) (v : Value), (z_ent vs)[i]? = some (some v) → (k + i, v) ∈ lv_args k vs := by
  induction vs generalizing k with
  | nil => intro i v h; simp [z_ent] at h
  | cons a t ih =>
    intro i v h
    unfold z_ent at h
    rw [List.flatMap_cons] at h
    by_cases hc : a.category = 2
    · rw [if_pos hc] at h
      match i, h with
      | 0, h => simp at h; subst h; simp [lv_args]
      | 1, h => simp at h
      | i + 2, h =>
        have h2 := ih (k + 2) i v (by unfold z_ent; simpa using h)
        have e : k + (i + 2) = k + 2 + i := by omega
        rw [e]
        simp only [lv_args, hc]
        exact List.mem_cons_of_mem _ h2
    · rw [if_neg hc] at h
      have hc1 : a.category = 1 := (lv_cat a).resolve_right hc
      match i, h with
      | 0, h => simp at h; subst h; simp [lv_args]
      | i + 1, h =>
        have h2 := ih (k + 1) i v (by unfold z_ent; simpa using h)
        have e : k + (i + 1) = k + 1 + i := by omega
        rw [e]
        simp only [lv_args, hc1]
        exact List.mem_cons_of_mem _ h2
/-- the machine and the method that is walked: program, environment, room, entry state, method, arguments, frames below, method record, code, the end that is wanted -/
abbrev zΓ : Type := Program × Env × Room × State × MethodId × Array Value × List Frame × Method × Code × (State → Prop)
def zp (Γ : zΓ) : Program := Γ.1
def ze (Γ : zΓ) : Env := Γ.2.1
def zR (Γ : zΓ) : Room := Γ.2.2.1
def zs (Γ : zΓ) : State := Γ.2.2.2.1
def zm (Γ : zΓ) : MethodId := Γ.2.2.2.2.1
def za (Γ : zΓ) : Array Value := Γ.2.2.2.2.2.1
def zbl (Γ : zΓ) : List Frame := Γ.2.2.2.2.2.2.1
def zmt (Γ : zΓ) : Method := Γ.2.2.2.2.2.2.2.1
def zc (Γ : zΓ) : Code := Γ.2.2.2.2.2.2.2.2.1
def zQ (Γ : zΓ) : State → Prop := Γ.2.2.2.2.2.2.2.2.2
/-- what the statics hold: the table of the keys' sizes at its address; what a Throwable reads; no stack traces; the links to nest mates; the exceptions' texts -/
def z_S (G : zG) (U : State) (H : Heap) : Prop := (∃ t : Nat, va_Z "SortMerge$Keys" "MOST_SIZES" "[I" (.ref t) (z_A G) U H ∧ va_T .int t 4 (fun j => .int (if j = 0 then 32 else if j = 1 then 8 else if j = 2 then 8 else 18)) (z_A G) U H) ∧ vx_Zq Bundle.tN "UNASSIGNED_STACK" Bundle.steD (z_A G) U H ∧ vx_Zq Bundle.tN "SUPPRESSED_SENTINEL" Bundle.listD (z_A G) U H ∧ G.1.stackTraces = false ∧ (∀ q ∈ z_nest, va_Nw (.methodLinkNest q.1 q.2.1 q.2.2 "SortMerge") U) ∧ ∀ q ∈ z_strs, ∃ sa : Nat, vk_R "SortMerge" q.1 q.2 sa U
theorem z_S.warm {G : zG} {s U : State} {H : Heap} (hW : s.WarmedH U.vm) (h : z_S G s H) : z_S G U H := by
  obtain ⟨⟨t, h1, h2⟩, h3, h4, h5, h6, h7⟩ := h
  exact ⟨⟨t, h1.moved hW.alike, h2.moved hW.alike⟩, h3.moved hW.alike, h4.moved hW.alike, h5, fun q hq => va_Nw.warmM hW (h6 q hq), fun q hq => (h7 q hq).imp fun sa h => vk_R.warm hW h⟩
theorem z_S.same {G : zG} {u U : State} {H : Heap} (hv : u.vm = U.vm) (h : z_S G u H) : z_S G U H := by
  have hvm : u.vm.Alike U.vm := by rw [hv]; exact Vm.Alike.refl _
  obtain ⟨⟨t, h1, h2⟩, h3, h4, h5, h6, h7⟩ := h
  exact ⟨⟨t, h1.moved hvm, h2.moved hvm⟩, h3.moved hvm, h4.moved hvm, h5, fun q hq => va_Nw.same rfl hv (h6 q hq), fun q hq => (h7 q hq).imp fun sa h => vk_R.same hv.symm h⟩
theorem z_S.kept {G : zG} {U : State} {H H1 : Heap} (h : z_S G U H) (hq : ∀ a : Nat, a < H.size → ¬ z_A G a → H1[a]? = H[a]?) : z_S G U H1 := by
  obtain ⟨⟨t, h1, h2⟩, h3, h4, h5⟩ := h
  exact ⟨⟨t, h1.kept hq, h2.kept hq⟩, h3.kept hq, h4.kept hq, h5⟩
def z_X (G : zG) (cc : ByteArray) (own : String) (Ts : List Cond) (nL : Nat) (Γ : zΓ) : Prop :=
  CallFix (zp Γ) (zm Γ) (zc Γ) cc nL (zs Γ) (za Γ) Ts own ∧ va_K G.2.1 vwCl (z_tys G) (zs Γ) ∧ z_S G (zs Γ) (zs Γ).heap ∧ (zmt Γ).locks = false
/-- the machine, now at pc with these locals and this stack over the world w, comes to the end that is wanted -/
def z_J (G : zG) (nL : Nat) (Γ : zΓ) (w : zW) (cells slots pc : Nat) (lv : zL) (st : List Value) : Prop :=
  ∀ (H : Heap) (locs : List Loc) (ls : Array Slot), z_H G w H → va_S (z_A G) (zs Γ).heap H locs → z_L ls nL lv →
    W (zp Γ) G.1 (ze Γ) (zR Γ) (zs Γ) (zm Γ) (za Γ) (zbl Γ) (zmt Γ) (zc Γ) H locs cells slots (zQ Γ) (F0 (zm Γ) pc ls st)
/-- a contract's end: the answer and the world behind it -/
def z_Q (G : zG) (Post : Option Value → zW → Prop) : Array Value → State → Outcome → State → Prop := fun _ st o t => (∃ (r : Option Value) (w : zW), o = .returned r ∧ Post r w ∧ z_H G w t.heap) ∧ va_F (z_A G) st t
def z_Pc (G : zG) (av : List Value) (w : zW) : Array Value → State → Prop := va_Pc av (fun U => z_H G w U.heap ∧ va_K G.2.1 vwCl (z_tys G) U ∧ z_S G U U.heap)
/-- a contract: from the world w with these arguments the method returns, with an answer and a world of which Post holds -/
def z_M (G : zG) (y : MethodName) (ws : List Cond) (rm : Room) (mc ms : Nat) (av : List Value) (w : zW) (Post : Option Value → zW → Prop) : Prop :=
  Met G.1 y ws rm (z_Pc G av w) (z_Q G Post) mc ms (z_A G)
/-- what a contract's body knows of its own end -/
def z_E (G : zG) (rm : Room) (mc ms : Nat) (nm : String) (ret : Option FieldType) (Post : Option Value → zW → Prop) (Γ : zΓ) : Prop :=
  zR Γ = rm ∧ zQ Γ = MQ (zbl Γ) (z_Q G Post) (za Γ) (zs Γ) mc ms (z_A G) ∧ (zmt Γ).sig.returnType = ret ∧ (zmt Γ).name = nm
theorem z_M.weaken {G : zG} {y : MethodName} {ws : List Cond} {rm : Room} {mc ms : Nat} {av : List Value} {w : zW} {Post Post' : Option Value → zW → Prop} (h : z_M G y ws rm mc ms av w Post) (hp : ∀ r w, Post r w → Post' r w) : z_M G y ws rm mc ms av w Post' := by
  intro p e h1 h2 h3 s m args below hf ha hP hK
  obtain ⟨n, o, a, b, c, ⟨⟨r, w', q1, q2, q3⟩, q4⟩, q5⟩ := h p e h1 h2 h3 s m args below hf ha hP hK
  exact ⟨n, o, a, b, c, ⟨⟨r, w', q1, hp _ _ q2, q3⟩, q4⟩, q5⟩
theorem z_met {G : zG} {y : MethodName} {ws ws' : List Cond} {rm : Room} {mc ms : Nat} {av : List Value} {w : zW} {Post : Option Value → zW → Prop} {cc : ByteArray} {nL : Nat} {ret : Option FieldType}
    (hy : plainName y.cls = true) (hw : ws = Cond.code y cc nL ret :: ws') (hlen : (lg_sl av).length ≤ nL) (lv : zL) (hlv : ∀ (i : Nat) (v : Value), lv[i]? = some (some v) → (z_ent av)[i]? = some (some v))
    (body : ∀ Γ : zΓ, z_X G cc y.cls ws nL Γ → z_E G rm mc ms y.name ret Post Γ → z_J G nL Γ w 0 0 0 lv []) : z_M G y ws rm mc ms av w Post := by
  refine Met.ofW (cc := cc) (maxL := nL) (ret := ret) hy hw ?_
  intro p e s m args below meth c s₁ B hml hv
  obtain ⟨rfl, hH, hK, hSt⟩ := hv
  have hx := B.exec
  have hb := B.bytes
  have hr := B.returns
  have hts := atoms_spec (ws := ws) B.pre
  have hown : s.vm.findClass y.cls = some m.cls := findClass_of_methodNamed B.named
  have hl := lv_entry av (n := nL) hlen
  rw [lg_entry_eq]
  exact body (p, e, (headSpec ws rm).room, s, m, av.toArray, below, meth, c, MQ below (z_Q G Post) av.toArray s mc ms (z_A G)) ⟨⟨hx, hb, hml, hown, hts⟩, hK, hSt, B.notSynchronized⟩ ⟨rfl, rfl, hr, (name_of_methodNamed B.named B.method).1⟩ s.heap [] _ hH va_S.rf
    ⟨hl.1, hl.2.1, fun i v hi => hl.2.2 (i, v) (by have := z_ent_args av 0 i v (hlv i v hi); simpa using this)⟩
theorem z_J.sub {G : zG} {nL : Nat} {Γ : zΓ} {w : zW} {cells slots pc : Nat} {lv : zL} {st : List Value} (lv' : zL) (hs : ∀ (i : Nat) (v : Value), lv'[i]? = some (some v) → lv[i]? = some (some v)) (k : z_J G nL Γ w cells slots pc lv' st) : z_J G nL Γ w cells slots pc lv st :=
  fun H locs ls hH hS hl => k H locs ls hH hS (hl.sub hs)
theorem z_J.widen {G : zG} {nL : Nat} {Γ : zΓ} {w : zW} {cells slots pc : Nat} {lv : zL} {st : List Value} {k n : Nat} (h1 : cells ≤ k) (h2 : slots ≤ n) (kk : z_J G nL Γ w k n pc lv st) : z_J G nL Γ w cells slots pc lv st :=
  fun H locs ls hH hS hl => W.widen h1 h2 (kk H locs ls hH hS hl)
/-- fewer cells known -/
theorem z_J.less {G : zG} {nL : Nat} {Γ : zΓ} {w w' : zW} {cells slots pc : Nat} {lv : zL} {st : List Value} (h1 : w'.1 = w.1) (h : ∀ k c, w'.2 k = some c → w.2 k = some c) (kk : z_J G nL Γ w' cells slots pc lv st) : z_J G nL Γ w cells slots pc lv st :=
  fun H locs ls hH hS hl => kk H locs ls ⟨by rw [h1]; exact hH.1, fun k c hk => hH.2 k c (h k c hk)⟩ hS hl
theorem z_set0 (cA : ClassId) (n : Nat) (f : Nat → Int32) (k : Nat) (x : Int32) : (arrV cA n (fun j => .int (f j))).setSlot k (.int x) = arrV cA n (fun j => .int (upd f k x j)) := by
  rw [arrV_store]
  congr 1
  funext q
  by_cases hq : q = k
  · subst hq; simp [updV, upd]
  · simp [updV, upd, hq]
theorem z_set1 (cA : ClassId) (n : Nat) (f : Nat → Int32) (k : Nat) (x : Int32) : (arrV cA n (fun j => .int (f j))).setSlot k (narrow .boolean (.int x)) = arrV cA n (fun j => .int (upd f k (vp_nar .boolean x) j)) := by
  rw [arrV_store]
  congr 1
  funext q
  by_cases hq : q = k
  · subst hq
    simp [updV, upd, vp_nar]
    try rfl
  · simp [updV, upd, hq]
theorem z_set2 (cA : ClassId) (n : Nat) (f : Nat → Int64) (k : Nat) (x : Int64) : (arrV cA n (fun j => .long (f j))).setSlot k (.long x) = arrV cA n (fun j => .long (vp_updL f k x j)) := by
  rw [arrV_store]
  congr 1
  funext q
  by_cases hq : q = k
  · subst hq; simp [updV, vp_updL]
  · simp [updV, vp_updL, hq]
section ZR
variable {G : zG} {cc : ByteArray} {own : String} {Ts : List Cond} {nL : Nat} {Γ : zΓ} {w : zW} {cells slots pc : Nat} {lv : zL} {st : List Value} {rm : Room} {mc ms : Nat} {nm : String} {ret : Option FieldType} {Post : Option Value → zW → Prop}
theorem z_iret (C : z_X G cc own Ts nL Γ) (E : z_E G rm mc ms nm ret Post Γ) {v : Int32} {ty : FieldType} (hr : ret = some ty) (hn : narrow ty (.int v) = .int v) (hc : cells ≤ mc) (hs : slots ≤ ms) (hd : decode cc pc = .ok (.ireturn, 1)) (hP : Post (some (.int v)) w) : z_J G nL Γ w cells slots pc lv [.int v] := by
  obtain ⟨p, e, R, s, m, args, below, meth, c, Q⟩ := Γ
  obtain ⟨⟨hx, hb, hml, hown, hts⟩, hK, hSt, hlk⟩ := C
  obtain ⟨hR, hQ, hret, -⟩ := E
  intro H locs ls hH hS hl
  refine W.widen hc hs ?_
  rw [hQ]
  exact W.zret hx hb (hret.trans hr) hn (fun t ht hW => ⟨⟨_, w, rfl, hP, by rw [ht]; exact hH⟩, hS.F ht⟩) hS.2.2 hd hlk
theorem z_lret (C : z_X G cc own Ts nL Γ) (E : z_E G rm mc ms nm ret Post Γ) {v : Int64} (hr : ret = some .long) (hc : cells ≤ mc) (hs : slots ≤ ms) (hd : decode cc pc = .ok (.lreturn, 1)) (hP : Post (some (.long v)) w) : z_J G nL Γ w cells slots pc lv [.long v] := by
  obtain ⟨p, e, R, s, m, args, below, meth, c, Q⟩ := Γ
  obtain ⟨⟨hx, hb, hml, hown, hts⟩, hK, hSt, hlk⟩ := C
  obtain ⟨hR, hQ, hret, -⟩ := E
  intro H locs ls hH hS hl
  refine W.widen hc hs ?_
  rw [hQ]
  exact W.lret hx hb (hret.trans hr) (fun t ht hW => ⟨⟨_, w, rfl, hP, by rw [ht]; exact hH⟩, hS.F ht⟩) hS.2.2 hd hlk
theorem z_vret (C : z_X G cc own Ts nL Γ) (E : z_E G rm mc ms nm ret Post Γ) (hr : ret = none) (hc : cells ≤ mc) (hs : slots ≤ ms) (hd : decode cc pc = .ok (.return_, 1)) (hP : Post none w) : z_J G nL Γ w cells slots pc lv [] := by
  obtain ⟨p, e, R, s, m, args, below, meth, c, Q⟩ := Γ
  obtain ⟨⟨hx, hb, hml, hown, hts⟩, hK, hSt, hlk⟩ := C
  obtain ⟨hR, hQ, hret, -⟩ := E
  intro H locs ls hH hS hl
  refine W.widen hc hs ?_
  rw [hQ]
  exact W.vret hx hb (hret.trans hr) (fun t ht hW => ⟨⟨_, w, rfl, hP, by rw [ht]; exact hH⟩, hS.F ht⟩) hS.2.2 hd hlk
theorem z_H.one {w : zW} {H : Heap} (h : z_H G w H) {a : Nat} {c : zC} (ha : w.2 a = some c) : va_P G.2.1 vwCl [(a, z_c G.2.2.1 c)] H := by
  intro k q hk
  match k, hk with
  | 0, hk => cases hk; exact (h.2 a c ha).2
  | k + 1, hk => simp at hk
theorem z_H.set {w : zW} {H H1 : Heap} (h : z_H G w H) {a : Nat} {c c' : zC} (ha : w.2 a = some c) (z : H1.size = H.size) (he : va_at G.2.1 vwCl (a, z_c G.2.2.1 c') H1) (oq : ∀ q : Nat, q ≠ a → H1[q]? = H[q]?) : z_H G (z_up w a c') H1 := by
  refine ⟨z.trans h.1, fun k d hk => ?_⟩
  unfold z_up at hk
  by_cases e : k = a
  · subst e
    simp at hk
    subst hk
    exact ⟨(h.2 k c ha).1, he⟩
  · simp [e] at hk
    obtain ⟨h1, h2⟩ := h.2 k d hk
    exact ⟨h1, h2.kept (oq k e)⟩
theorem z_get (C : z_X G cc own Ts nL Γ) {Cn : String} {T : u_T} {N ci index k a : Nat} {fs : List Value} {v : Value} (hin : ∀ x ∈ u_ws Cn T N, x ∈ Ts) (hc : vwCl[ci]? = some (Cn, T, N)) (hk : k < N) (hlink : Cond.fieldLink own index (T k).1 (T k).2.1 (T k).2.2.1 ∈ Ts) (hd : decode cc pc = .ok (.getfield index, 3)) (ha : w.2 a = some (.inr (ci, fs))) (hv : fs[k]? = some v)
    (kk : z_J G nL Γ w cells slots (pc + 3) lv (v :: st)) : z_J G nL Γ w cells slots pc lv (.ref a :: st) := by
  obtain ⟨p, e, R, s, m, args, below, meth, c, Q⟩ := Γ
  obtain ⟨⟨hx, hb, hml, hown, hts⟩, hK, hSt, hlk⟩ := C
  intro H locs ls hH hS hl
  exact va_get (D := G.2.1) (ws := [(a, .inr (ci, fs))]) (fs := fs) hx hb hts hin hown hK (hH.one ha) 0 rfl hc k hk (hts _ hlink) (fun _ h => h) hv hd (kk H locs ls hH hS hl)
theorem z_put (C : z_X G cc own Ts nL Γ) {Cn : String} {T : u_T} {N ci index k a : Nat} {fs : List Value} {v : Value} {ty : FieldType} (hin : ∀ x ∈ u_ws Cn T N, x ∈ Ts) (hc : vwCl[ci]? = some (Cn, T, N)) (ty0 : Nat → FieldType) (hty : ∀ k, k < N → parseFieldDescriptor (T k).2.2.1 = some (ty0 k)) (hnm : ∀ a, a < N → ∀ b, b < N → a ≠ b → (T a).2.1 ≠ (T b).2.1) (hk : k < N) (hlink : Cond.fieldLink own index (T k).1 (T k).2.1 (T k).2.2.1 ∈ Ts) (hfin : (T k).2.2.2 = false) (hdt : parseFieldDescriptor (T k).2.2.1 = some ty) (hd : decode cc pc = .ok (.putfield index, 3)) (ha : w.2 a = some (.inr (ci, fs))) (hl : k < fs.length) (hn : narrow ty v = v) (hfit : fits ty v = true)
    (kk : z_J G nL Γ (z_up w a (.inr (ci, fs.set k v))) cells slots (pc + 3) lv st) : z_J G nL Γ w cells slots pc lv (v :: .ref a :: st) := by
  obtain ⟨p, e, R, s, m, args, below, meth, c, Q⟩ := Γ
  obtain ⟨⟨hx, hb, hml, hown, hts⟩, hK, hSt, hlk⟩ := C
  intro H locs ls hH hS hls
  have hap := va_apart (own := own) hts hin ty0 hty hnm hK hc
  obtain ⟨hba, r, h1, cell, q1, q2, q3, q4⟩ := hH.2 a _ ha
  have hr : r = (Cn, T, N) := Option.some.inj (h1.symm.trans hc)
  subst hr
  obtain ⟨hSl, hfc, kC, hkC, hkind⟩ := hK.1 ci _ hc
  obtain ⟨cf, kf, fi, f, hi, hsl⟩ := hSl k hk
  have hlay := hts _ (hin _ (u_in_lay hk))
  unfold u_lay at hlay
  rw [if_neg (by rw [hfin]; decide)] at hlay
  have hst := (u_facts hfc hkC (u_lays hts hin hk) hi).1
  have h6 := u_store hfc hkC hkind hlay hi hdt hn hfit
  refine W.putK hx hb (f := f) ⟨hown, hts _ hlink, ⟨_, _, _, hi⟩, hst⟩ (by rw [q2]; exact h6) q1 q3 (by rw [hsl]; exact k2_hasslot (q4 k hk)) rfl rfl hd fun H' e1 e2 e3 => ?_
  rw [hsl] at e1 ⊢
  exact kk H' _ ls (hH.set ha e2 ⟨_, hc, t_OB.to (V := updV (vp_V fs) k v) ⟨_, e1, q2, q3, t_set q4 hap hk v⟩ (fun j _ => vp_updV_set hl v j)⟩ e3) (hS.put e2 e3 hba) hls
theorem z_putF (C : z_X G cc own Ts nL Γ) {Cn : String} {T : u_T} {N ci index k a : Nat} {fs : List Value} {v : Value} {ty : FieldType} (hin : ∀ x ∈ u_ws Cn T N, x ∈ Ts) (hc : vwCl[ci]? = some (Cn, T, N)) (ty0 : Nat → FieldType) (hty : ∀ k, k < N → parseFieldDescriptor (T k).2.2.1 = some (ty0 k)) (hnm : ∀ a, a < N → ∀ b, b < N → a ≠ b → (T a).2.1 ≠ (T b).2.1) (hk : k < N) (hlink : Cond.fieldLink own index (T k).1 (T k).2.1 (T k).2.2.1 ∈ Ts) (hfin : (T k).2.2.2 = true) (hinit : (zmt Γ).name = "<init>") (hdecl : (T k).1 = own) (hdt : parseFieldDescriptor (T k).2.2.1 = some ty) (hd : decode cc pc = .ok (.putfield index, 3)) (ha : w.2 a = some (.inr (ci, fs))) (hl : k < fs.length) (hn : narrow ty v = v) (hfit : fits ty v = true)
    (kk : z_J G nL Γ (z_up w a (.inr (ci, fs.set k v))) cells slots (pc + 3) lv st) : z_J G nL Γ w cells slots pc lv (v :: .ref a :: st) := by
  obtain ⟨p, e, R, s, m, args, below, meth, c, Q⟩ := Γ
  obtain ⟨⟨hx, hb, hml, hown, hts⟩, hK, hSt, hlk⟩ := C
  intro H locs ls hH hS hls
  have hap := va_apart (own := own) hts hin ty0 hty hnm hK hc
  obtain ⟨hba, r, h1, cell, q1, q2, q3, q4⟩ := hH.2 a _ ha
  have hr : r = (Cn, T, N) := Option.some.inj (h1.symm.trans hc)
  subst hr
  obtain ⟨hSl, hfc, kC, hkC, hkind⟩ := hK.1 ci _ hc
  obtain ⟨cf, kf, fi, f, hi, hsl⟩ := hSl k hk
  have hlay := hts _ (hin _ (u_in_lay hk))
  unfold u_lay at hlay
  rw [if_pos hfin] at hlay
  have hst := (u_facts hfc hkC (u_lays hts hin hk) hi).1
  have hcf : m.cls = cf := by
    obtain ⟨_, _, c', _, _, _, -, -, hf', -, -, -, hown2, -⟩ := Cond.laysFinal_spec hlay
    have e1 : c' = cf := by have := hi.symm.trans hf'; simp at this; exact this.1.symm
    rw [hdecl] at hown2
    rw [← e1]; exact Option.some.inj (hown.symm.trans hown2)
  have h6 := u_fits hfc hkC hkind (Or.inr hlay) hi hdt hn hfit
  refine W.putFinK hx hb hown (hts _ hlink) hi hst hcf hinit (by rw [q2]; exact h6) q1 q3 (by rw [hsl]; exact k2_hasslot (q4 k hk)) rfl rfl hd fun H' e1 e2 e3 => ?_
  rw [hsl] at e1 ⊢
  exact kk H' _ ls (hH.set ha e2 ⟨_, hc, t_OB.to (V := updV (vp_V fs) k v) ⟨_, e1, q2, q3, t_set q4 hap hk v⟩ (fun j _ => vp_updV_set hl v j)⟩ e3) (hS.put e2 e3 hba) hls
theorem z_iald (C : z_X G cc own Ts nL Γ) {a n : Nat} {f : Nat → Int32} {i : Int32} (hd : decode cc pc = .ok (.iaload, 1)) (ha : w.2 a = some (.inl (0, n, .inl f))) (hin : vp_in i n) (kk : z_J G nL Γ w cells slots (pc + 1) lv (.int (f i.toNatClampNeg) :: st)) : z_J G nL Γ w cells slots pc lv (.int i :: .ref a :: st) := by
  obtain ⟨p, e, R, s, m, args, below, meth, c, Q⟩ := Γ
  obtain ⟨⟨hx, hb, hml, hown, hts⟩, hK, hSt, hlk⟩ := C
  intro H locs ls hH hS hl
  exact va_iald (D := G.2.1) (ws := [(a, .inl (G.2.2.1 0, n, .inl f))]) (tys := z_tys G) hx hb hK (hH.one ha) 0 0 rfl rfl hin hd (kk H locs ls hH hS hl)
theorem z_zald (C : z_X G cc own Ts nL Γ) {a n : Nat} {f : Nat → Int32} {i : Int32} (hd : decode cc pc = .ok (.baload, 1)) (ha : w.2 a = some (.inl (1, n, .inl f))) (hin : vp_in i n) (kk : z_J G nL Γ w cells slots (pc + 1) lv (.int (f i.toNatClampNeg) :: st)) : z_J G nL Γ w cells slots pc lv (.int i :: .ref a :: st) := by
  obtain ⟨p, e, R, s, m, args, below, meth, c, Q⟩ := Γ
  obtain ⟨⟨hx, hb, hml, hown, hts⟩, hK, hSt, hlk⟩ := C
  intro H locs ls hH hS hl
  exact va_zald (D := G.2.1) (ws := [(a, .inl (G.2.2.1 1, n, .inl f))]) (tys := z_tys G) hx hb hK (hH.one ha) 0 1 rfl rfl hin hd (kk H locs ls hH hS hl)
theorem z_lald (C : z_X G cc own Ts nL Γ) {a n : Nat} {f : Nat → Int64} {i : Int32} (hd : decode cc pc = .ok (.laload, 1)) (ha : w.2 a = some (.inl (2, n, .inr (.inl f)))) (hin : vp_in i n) (kk : z_J G nL Γ w cells slots (pc + 1) lv (.long (f i.toNatClampNeg) :: st)) : z_J G nL Γ w cells slots pc lv (.int i :: .ref a :: st) := by
  obtain ⟨p, e, R, s, m, args, below, meth, c, Q⟩ := Γ
  obtain ⟨⟨hx, hb, hml, hown, hts⟩, hK, hSt, hlk⟩ := C
  intro H locs ls hH hS hl
  exact va_lald (D := G.2.1) (ws := [(a, .inl (G.2.2.1 2, n, .inr (.inl f)))]) (tys := z_tys G) hx hb hK (hH.one ha) 0 2 rfl rfl hin hd (kk H locs ls hH hS hl)
theorem z_alen (C : z_X G cc own Ts nL Γ) {a n : Nat} {f : Nat → Int32} (hd : decode cc pc = .ok (.arraylength, 1)) (ha : w.2 a = some (.inl (0, n, .inl f))) (kk : z_J G nL Γ w cells slots (pc + 1) lv (.int (Int32.ofNat n) :: st)) : z_J G nL Γ w cells slots pc lv (.ref a :: st) := by
  obtain ⟨p, e, R, s, m, args, below, meth, c, Q⟩ := Γ
  obtain ⟨⟨hx, hb, hml, hown, hts⟩, hK, hSt, hlk⟩ := C
  intro H locs ls hH hS hl
  exact va_alen (D := G.2.1) (ws := [(a, .inl (G.2.2.1 0, n, .inl f))]) (tys := z_tys G) hx hb hK (hH.one ha) 0 0 rfl rfl rfl hd (kk H locs ls hH hS hl)
theorem z_iast (C : z_X G cc own Ts nL Γ) {a n : Nat} {f : Nat → Int32} {i x : Int32} (hd : decode cc pc = .ok (.iastore, 1)) (ha : w.2 a = some (.inl (0, n, .inl f))) (hin : vp_in i n) (kk : z_J G nL Γ (z_up w a (.inl (0, n, .inl (upd f i.toNatClampNeg x)))) cells slots (pc + 1) lv st) : z_J G nL Γ w cells slots pc lv (.int x :: .int i :: .ref a :: st) := by
  obtain ⟨p, e, R, s, m, args, below, meth, c, Q⟩ := Γ
  obtain ⟨⟨hx, hb, hml, hown, hts⟩, hK, hSt, hlk⟩ := C
  intro H locs ls hH hS hl
  refine W.iast hx hb (hH.2 a _ ha).2 ((hK.2 0 _ rfl).1 n (fun j => .int (f j))) (fun q => by cases q) (by show ¬ (i < 0 ∨ (arrV _ _ _).slots.size ≤ _); rw [arrV_size]; exact hin) rfl rfl hd fun H1 e z oq => ?_
  refine kk H1 _ ls (hH.set ha z ?_ oq) (hS.put z oq (hH.2 a _ ha).1) hl
  show H1[a]? = some (arrV (G.2.2.1 0) n (fun j => .int ((upd f i.toNatClampNeg x) j)))
  exact e.trans (congrArg some (z_set0 _ _ _ _ _))
theorem z_zast (C : z_X G cc own Ts nL Γ) {a n : Nat} {f : Nat → Int32} {i x : Int32} (hd : decode cc pc = .ok (.bastore, 1)) (ha : w.2 a = some (.inl (1, n, .inl f))) (hin : vp_in i n) (kk : z_J G nL Γ (z_up w a (.inl (1, n, .inl (upd f i.toNatClampNeg (vp_nar .boolean x))))) cells slots (pc + 1) lv st) : z_J G nL Γ w cells slots pc lv (.int x :: .int i :: .ref a :: st) := by
  obtain ⟨p, e, R, s, m, args, below, meth, c, Q⟩ := Γ
  obtain ⟨⟨hx, hb, hml, hown, hts⟩, hK, hSt, hlk⟩ := C
  intro H locs ls hH hS hl
  refine W.zast hx hb (hH.2 a _ ha).2 ((hK.2 1 _ rfl).1 n (fun j => .int (f j))) (fun q => by cases q) (by show ¬ (i < 0 ∨ (arrV _ _ _).slots.size ≤ _); rw [arrV_size]; exact hin) rfl rfl hd fun H1 e z oq => ?_
  refine kk H1 _ ls (hH.set ha z ?_ oq) (hS.put z oq (hH.2 a _ ha).1) hl
  show H1[a]? = some (arrV (G.2.2.1 1) n (fun j => .int ((upd f i.toNatClampNeg (vp_nar .boolean x)) j)))
  exact e.trans (congrArg some (z_set1 _ _ _ _ _))
theorem z_last (C : z_X G cc own Ts nL Γ) {a n : Nat} {f : Nat → Int64} {i : Int32} {x : Int64} (hd : decode cc pc = .ok (.lastore, 1)) (ha : w.2 a = some (.inl (2, n, .inr (.inl f)))) (hin : vp_in i n) (kk : z_J G nL Γ (z_up w a (.inl (2, n, .inr (.inl (vp_updL f i.toNatClampNeg x))))) cells slots (pc + 1) lv st) : z_J G nL Γ w cells slots pc lv (.long x :: .int i :: .ref a :: st) := by
  obtain ⟨p, e, R, s, m, args, below, meth, c, Q⟩ := Γ
  obtain ⟨⟨hx, hb, hml, hown, hts⟩, hK, hSt, hlk⟩ := C
  intro H locs ls hH hS hl
  refine W.last hx hb (hH.2 a _ ha).2 ((hK.2 2 _ rfl).1 n (fun j => .long (f j))) (fun q => by cases q) (by show ¬ (i < 0 ∨ (arrV _ _ _).slots.size ≤ _); rw [arrV_size]; exact hin) rfl rfl hd fun H1 e z oq => ?_
  refine kk H1 _ ls (hH.set ha z ?_ oq) (hS.put z oq (hH.2 a _ ha).1) hl
  show H1[a]? = some (arrV (G.2.2.1 2) n (fun j => .long ((vp_updL f i.toNatClampNeg x) j)))
  exact e.trans (congrArg some (z_set2 _ _ _ _ _))
/-- behind a call -/
theorem z_after (C : z_X G cc own Ts nL Γ) {PostC : Option Value → zW → Prop} {a : Array Value} {rest st0 : List Value} {ls : Array Slot} {H : Heap} {locs : List Loc} (hl : z_L ls nL lv)
    (hr : va_Run (zp Γ) G.1 (ze Γ) (zR Γ) (zs Γ) (zm Γ) (za Γ) (zbl Γ) (zmt Γ) (zc Γ) H locs cells slots mc ms (F0 (zm Γ) pc ls st0) rest (z_Q G PostC a) (z_A G)) (hS : va_S (z_A G) (zs Γ).heap H locs)
    (kk : ∀ (r : Option Value) (w' : zW), PostC r w' → z_J G nL Γ w' (cells + mc) (slots + ms) (pc + 3) lv (r.toList ++ rest)) :
    W (zp Γ) G.1 (ze Γ) (zR Γ) (zs Γ) (zm Γ) (za Γ) (zbl Γ) (zmt Γ) (zc Γ) H locs cells slots (zQ Γ) (F0 (zm Γ) pc ls st0) := by
  intro T hT X
  obtain ⟨v, st₀, t, T', L, h0, X', hL, e1, e2, ⟨⟨r, w', hv, hp, hH'⟩, hz, hk⟩, stp⟩ := hr T hT X
  cases hv
  rw [h0] at hz hk
  obtain ⟨t2, a1, b1⟩ := kk v w' hp T'.heap (locs ++ L) ls (by rw [e1]; exact hH')
    ⟨Nat.le_trans hS.1 (by rw [e1]; exact hz), fun q h1 h2 => by rw [e1, hk q (Nat.lt_of_lt_of_le h1 hS.1) h2]; exact hS.2.1 q h1 h2, fun q hq => by
      rcases List.mem_append.mp hq with h | h
      · exact hS.2.2 q h
      · exact hL q h⟩ hl T' rfl X'
  exact ⟨t2, stp t2 a1, b1⟩
theorem z_Pc_blind (G : zG) (av : List Value) (w : zW) : FrameBlind (z_Pc G av w) := by
  intro a U g mk q
  obtain ⟨q0, q1, q2, q3⟩ := q
  exact ⟨q0, q1, va_K.moved (u := U) (U := U.calling g mk a) (Vm.Alike.refl U.vm) q2, z_S.same (u := U) (U := U.calling g mk a) rfl q3⟩
theorem z_recv (C : z_X G cc own Ts nL Γ) {H : Heap} (hH : z_H G w H) {a ci N : Nat} {fs : List Value} {Cn : String} {T : u_T} (ha : w.2 a = some (.inr (ci, fs))) (hc : vwCl[ci]? = some (Cn, T, N)) : ∃ cellB : Cell, H[a]? = some cellB ∧ cellB.vm.isStatics = false ∧ (zs Γ).vm.findClass Cn = some cellB.cls := by
  have h := va_recv C.2.1 (hH.one ha) hc (q0 := 0) rfl
  exact h
end ZR
abbrev zI : Type := Nat × Nat × Nat × Nat × Int32
def z_li (lv : zL) (a : Nat) (f : Int32 → Prop) : Prop := match lv[a]? with
  | some (some (.int x)) => f x
  | _ => False
def z_la (lv : zL) (a : Nat) (f : Nat → Prop) : Prop := match lv[a]? with
  | some (some (.ref x)) => f x
  | _ => False
def z_ll (lv : zL) (a : Nat) (f : Int64 → Prop) : Prop := match lv[a]? with
  | some (some (.long x)) => f x
  | _ => False
def z_1i (st : List Value) (f : Int32 → List Value → Prop) : Prop := match st with
  | .int x :: r => f x r
  | _ => False
def z_2i (st : List Value) (f : Int32 → Int32 → List Value → Prop) : Prop := match st with
  | .int y :: .int x :: r => f x y r
  | _ => False
def z_1l (st : List Value) (f : Int64 → List Value → Prop) : Prop := match st with
  | .long x :: r => f x r
  | _ => False
def z_2l (st : List Value) (f : Int64 → Int64 → List Value → Prop) : Prop := match st with
  | .long y :: .long x :: r => f x y r
  | _ => False
def z_lsi (st : List Value) (f : Int64 → Int32 → List Value → Prop) : Prop := match st with
  | .int y :: .long x :: r => f x y r
  | _ => False
def z_1a (st : List Value) (f : Nat → List Value → Prop) : Prop := match st with
  | .ref a :: r => f a r
  | _ => False
def z_ia (st : List Value) (f : Nat → Int32 → List Value → Prop) : Prop := match st with
  | .int i :: .ref a :: r => f a i r
  | _ => False
def z_aa (st : List Value) (f : Nat → Nat → List Value → Prop) : Prop := match st with
  | .ref x :: .ref a :: r => f a x r
  | _ => False
def z_iia (st : List Value) (f : Nat → Int32 → Int32 → List Value → Prop) : Prop := match st with
  | .int x :: .int i :: .ref a :: r => f a i x r
  | _ => False
def z_lia (st : List Value) (f : Nat → Int32 → Int64 → List Value → Prop) : Prop := match st with
  | .long x :: .int i :: .ref a :: r => f a i x r
  | _ => False
def z_d1 (st : List Value) (f : Value → List Value → Prop) : Prop := match st with
  | .int x :: r => f (.int x) r
  | .ref x :: r => f (.ref x) r
  | _ => False
def z_dia (st : List Value) (f : Nat → Int32 → List Value → Prop) : Prop := match st with
  | .int i :: .ref a :: r => f a i r
  | _ => False
def z_e1 (st : List Value) (f : Int32 → Prop) : Prop := match st with
  | [.int x] => f x
  | _ => False
def z_e2 (st : List Value) (f : Int64 → Prop) : Prop := match st with
  | [.long x] => f x
  | _ => False
def z_e0 (st : List Value) (f : Prop) : Prop := match st with
  | [] => f
  | _ => False
def z_ar0 (w : zW) (a : Nat) (f : Nat → (Nat → Int32) → Prop) : Prop := match w.2 a with
  | some (.inl (0, n, .inl g)) => f n g
  | _ => False
def z_ar1 (w : zW) (a : Nat) (f : Nat → (Nat → Int32) → Prop) : Prop := match w.2 a with
  | some (.inl (1, n, .inl g)) => f n g
  | _ => False
def z_ar2 (w : zW) (a : Nat) (f : Nat → (Nat → Int64) → Prop) : Prop := match w.2 a with
  | some (.inl (2, n, .inr (.inl g))) => f n g
  | _ => False
def z_ob (w : zW) (a ci : Nat) (f : List Value → Prop) : Prop := match w.2 a with
  | some (.inr (c, fs)) => c = ci ∧ f fs
  | _ => False
def z_fl (fs : List Value) (k : Nat) (f : Value → Prop) : Prop := match fs[k]? with
  | some v => f v
  | none => False

def z_step (op a b n : Nat) (v : Int32) (pc : Nat) (lv : zL) (st : List Value) (w : zW) (nx K : Nat → zL → List Value → zW → Prop) (Rt : Option Value → zW → Prop) : Prop := match op with
  | 0 => z_li lv a (fun x => nx n lv (.int x :: st) w)
  | 1 => z_la lv a (fun x => nx n lv (.ref x :: st) w)
  | 2 => z_ll lv a (fun x => nx n lv (.long x :: st) w)
  | 3 => z_1i st (fun x r => z_ok1 lv a = true ∧ nx n (lv.set a (some (.int x))) r w)
  | 4 => z_1a st (fun x r => z_ok1 lv a = true ∧ nx n (lv.set a (some (.ref x))) r w)
  | 5 => z_1l st (fun x r => z_ok1 lv a = true ∧ nx n ((lv.set a (some (.long x))).set (a + 1) none) r w)
  | 6 => nx n lv (.int v :: st) w
  | 7 => z_li lv a (fun x => z_ok1 lv a = true ∧ nx n (lv.set a (some (.int (x + v)))) st w)
  | 8 => z_2i st (fun x y r => nx n lv (.int (x + y) :: r) w)
  | 9 => z_2i st (fun x y r => nx n lv (.int (x - y) :: r) w)
  | 10 => z_2i st (fun x y r => nx n lv (.int (x * y) :: r) w)
  | 11 => z_2i st (fun x y r => nx n lv (.int (x &&& y) :: r) w)
  | 12 => z_2i st (fun x y r => nx n lv (.int (x ||| y) :: r) w)
  | 13 => z_2i st (fun x y r => nx n lv (.int (x ^^^ y) :: r) w)
  | 14 => z_1i st (fun x r => nx n lv (.int (-x) :: r) w)
  | 15 => z_2i st (fun x y r => ¬ y = 0 ∧ nx n lv (.int (x / y) :: r) w)
  | 16 => z_2i st (fun x y r => ¬ y = 0 ∧ nx n lv (.int (x - x / y * y) :: r) w)
  | 17 => z_2l st (fun x y r => nx n lv (.long (x + y) :: r) w)
  | 18 => z_2l st (fun x y r => nx n lv (.long (x * y) :: r) w)
  | 19 => z_1l st (fun x r => nx n lv (.long (-x) :: r) w)
  | 20 => z_2l st (fun x y r => nx n lv (.long (x ||| y) :: r) w)
  | 21 => z_2l st (fun x y r => nx n lv (.long (x - y) :: r) w)
  | 22 => z_2i st (fun x y r => nx n lv (.int (x >>> (y &&& 31)) :: r) w)
  | 23 => z_2i st (fun x y r => nx n lv (.int (x <<< (y &&& 31)) :: r) w)
  | 24 => z_lsi st (fun x y r => nx n lv (.long (x <<< (y.toInt64 &&& 63)) :: r) w)
  | 25 => z_1i st (fun x r => nx n lv (.long x.toInt64 :: r) w)
  | 26 => z_1i st (fun x r => nx n lv (.int x.toInt8.toInt32 :: r) w)
  | 28 => z_2l st (fun x y r => nx n lv (.int (lg_cmp x y) :: r) w)
  | 29 => z_d1 st (fun x r => nx n lv (x :: x :: r) w)
  | 30 => z_d1 st (fun _ r => nx n lv r w)
  | 32 => z_dia st (fun x i r => nx n lv (.int i :: .ref x :: .int i :: .ref x :: r) w)
  | 33 => nx a lv st w
  | 34 => z_1i st (fun x r => (x = 0 → nx a lv r w) ∧ (¬ x = 0 → nx n lv r w))
  | 35 => z_1i st (fun x r => (¬ x = 0 → nx a lv r w) ∧ (x = 0 → nx n lv r w))
  | 36 => z_1i st (fun x r => (x < 0 → nx a lv r w) ∧ (¬ x < 0 → nx n lv r w))
  | 37 => z_1i st (fun x r => (0 ≤ x → nx a lv r w) ∧ (¬ 0 ≤ x → nx n lv r w))
  | 38 => z_1i st (fun x r => (0 < x → nx a lv r w) ∧ (¬ 0 < x → nx n lv r w))
  | 39 => z_1i st (fun x r => (x ≤ 0 → nx a lv r w) ∧ (¬ x ≤ 0 → nx n lv r w))
  | 40 => z_2i st (fun x y r => (x = y → nx a lv r w) ∧ (¬ x = y → nx n lv r w))
  | 41 => z_2i st (fun x y r => (¬ x = y → nx a lv r w) ∧ (x = y → nx n lv r w))
  | 42 => z_2i st (fun x y r => (x < y → nx a lv r w) ∧ (¬ x < y → nx n lv r w))
  | 43 => z_2i st (fun x y r => (y ≤ x → nx a lv r w) ∧ (¬ y ≤ x → nx n lv r w))
  | 44 => z_2i st (fun x y r => (y < x → nx a lv r w) ∧ (¬ y < x → nx n lv r w))
  | 45 => z_2i st (fun x y r => (x ≤ y → nx a lv r w) ∧ (¬ x ≤ y → nx n lv r w))
  | 46 => z_1a st (fun x r => z_ob w x a (fun fs => z_fl fs b (fun u => nx n lv (u :: r) w)))
  | 47 => z_ia st (fun x i r => z_ob w x a (fun fs => b < fs.length ∧ nx n lv r (z_up w x (.inr (a, fs.set b (.int i))))))
  | 48 => z_ia st (fun x i r => z_ar0 w x (fun m g => vp_in i m ∧ nx n lv (.int (g i.toNatClampNeg) :: r) w))
  | 49 => z_iia st (fun x i u r => z_ar0 w x (fun m g => vp_in i m ∧ nx n lv r (z_up w x (.inl (0, m, .inl (upd g i.toNatClampNeg u))))))
  | 50 => z_ia st (fun x i r => z_ar1 w x (fun m g => vp_in i m ∧ nx n lv (.int (g i.toNatClampNeg) :: r) w))
  | 51 => z_iia st (fun x i u r => z_ar1 w x (fun m g => vp_in i m ∧ nx n lv r (z_up w x (.inl (1, m, .inl (upd g i.toNatClampNeg (vp_nar .boolean u)))))))
  | 52 => z_1a st (fun x r => z_ar0 w x (fun m _ => nx n lv (.int (Int32.ofNat m) :: r) w))
  | 53 => z_e1 st (fun x => Rt (some (.int x)) w)
  | 54 => z_e2 st (fun x => Rt (some (.long x)) w)
  | 55 => z_e0 st (Rt none w)
  | 57 => nx n lv (.long v.toInt64 :: st) w
  | 58 => z_e1 st (fun x => (x = 0 ∨ x = 1) ∧ Rt (some (.int x)) w)
  | 61 => z_aa st (fun x y r => z_ob w x a (fun fs => b < fs.length ∧ nx n lv r (z_up w x (.inr (a, fs.set b (.ref y))))))
  | 62 => z_ia st (fun x i r => z_ob w x a (fun fs => b < fs.length ∧ (i = 0 ∨ i = 1) ∧ nx n lv r (z_up w x (.inr (a, fs.set b (.int i))))))
  | 63 => z_ia st (fun x i r => z_ar2 w x (fun m g => vp_in i m ∧ nx n lv (.long (g i.toNatClampNeg) :: r) w))
  | 64 => z_lia st (fun x i u r => z_ar2 w x (fun m g => vp_in i m ∧ nx n lv r (z_up w x (.inl (2, m, .inr (.inl (vp_updL g i.toNatClampNeg u)))))))
  | _ => K pc lv st w
def z_in : List Nat → Nat → Bool
  | [], _ => false
  | x :: xs, pc => if pc = x then true else z_in xs pc
def z_st1 (t : zI) (pc : Nat) (lv : zL) (st : List Value) (w : zW) (nx K : Nat → zL → List Value → zW → Prop) (Rt : Option Value → zW → Prop) : Prop := match t with
  | (op, a, b, n, v) => z_step op a b n v pc lv st w nx K Rt
def z_run (tb : Nat → zI) (cut : List Nat) (K : Nat → zL → List Value → zW → Prop) (Rt : Option Value → zW → Prop) : Nat → Nat → zL → List Value → zW → Prop
  | 0, pc, lv, st, w => K pc lv st w
  | k + 1, pc, lv, st, w => if z_in cut pc = true then K pc lv st w else z_st1 (tb pc) pc lv st w (z_run tb cut K Rt k) K Rt
def z_lk (own : String) (Ts : List Cond) (idx ci k : Nat) : Bool := match vwCl[ci]? with
  | some (C, T, N) => decide (k < N) && decide (Cond.fieldLink own idx (T k).1 (T k).2.1 (T k).2.2.1 ∈ Ts) && decide (∀ x ∈ u_ws C T N, x ∈ Ts)
  | none => false
def z_pk (ci k : Nat) (ok : FieldType → Bool) : Bool := match vwCl[ci]? with
  | some (_, T, N) => (T k).2.2.2 == false && (match parseFieldDescriptor (T k).2.2.1 with
    | some ty => ok ty
    | none => false) && decide (∀ j, j < N → (parseFieldDescriptor (T j).2.2.1).isSome = true) && decide (∀ a, a < N → ∀ b, b < N → a ≠ b → (T a).2.1 ≠ (T b).2.1)
  | none => false
def z_tr (ty : FieldType) : Bool := match ty with
  | .object _ => true
  | .array _ => true
  | _ => false
def z_ti (ty : FieldType) : Bool := match ty with
  | .int => true
  | _ => false
def z_tz (ty : FieldType) : Bool := match ty with
  | .boolean => true
  | _ => false

def z_chk (own : String) (Ts : List Cond) (nL : Nat) (ret : Option FieldType) (pc : Nat) (i : Instr) (len : Nat) (op a b n : Nat) (v : Int32) : Bool := decide (op = 99) || match i with
  | .iload k => decide (op = 0 ∧ n = pc + 2 ∧ len = 2 ∧ a = k)
  | .iload_n k => decide (op = 0 ∧ n = pc + 1 ∧ len = 1 ∧ a = k.val)
  | .aload k => decide (op = 1 ∧ n = pc + 2 ∧ len = 2 ∧ a = k)
  | .aload_n k => decide (op = 1 ∧ n = pc + 1 ∧ len = 1 ∧ a = k.val)
  | .lload k => decide (op = 2 ∧ n = pc + 2 ∧ len = 2 ∧ a = k)
  | .lload_n k => decide (op = 2 ∧ n = pc + 1 ∧ len = 1 ∧ a = k.val)
  | .istore k => decide (op = 3 ∧ n = pc + 2 ∧ len = 2 ∧ a = k ∧ a < nL)
  | .istore_n k => decide (op = 3 ∧ n = pc + 1 ∧ len = 1 ∧ a = k.val ∧ a < nL)
  | .astore k => decide (op = 4 ∧ n = pc + 2 ∧ len = 2 ∧ a = k ∧ a < nL)
  | .astore_n k => decide (op = 4 ∧ n = pc + 1 ∧ len = 1 ∧ a = k.val ∧ a < nL)
  | .lstore k => decide (op = 5 ∧ n = pc + 2 ∧ len = 2 ∧ a = k ∧ a + 1 < nL)
  | .lstore_n k => decide (op = 5 ∧ n = pc + 1 ∧ len = 1 ∧ a = k.val ∧ a + 1 < nL)
  | .iconst z => decide (op = 6 ∧ n = pc + 1 ∧ len = 1 ∧ v = Int32.ofInt z)
  | .bipush z => decide (op = 6 ∧ n = pc + 2 ∧ len = 2 ∧ v = (Int8.ofInt z).toInt32)
  | .sipush z => decide (op = 6 ∧ n = pc + 3 ∧ len = 3 ∧ v = (Int16.ofInt z).toInt32)
  | .lconst z => decide (op = 57 ∧ n = pc + 1 ∧ len = 1 ∧ v.toInt64 = Int64.ofNat z.val)
  | .ldc2_w k => decide (op = 57 ∧ n = pc + 3 ∧ len = 3 ∧ Cond.constantLong own k v.toInt64 ∈ Ts)
  | .iinc k z => decide (op = 7 ∧ n = pc + 3 ∧ len = 3 ∧ a = k ∧ a < nL ∧ v = Int32.ofInt z)
  | .iadd => decide (op = 8 ∧ n = pc + 1 ∧ len = 1)
  | .isub => decide (op = 9 ∧ n = pc + 1 ∧ len = 1)
  | .imul => decide (op = 10 ∧ n = pc + 1 ∧ len = 1)
  | .iand => decide (op = 11 ∧ n = pc + 1 ∧ len = 1)
  | .ior => decide (op = 12 ∧ n = pc + 1 ∧ len = 1)
  | .ixor => decide (op = 13 ∧ n = pc + 1 ∧ len = 1)
  | .ineg => decide (op = 14 ∧ n = pc + 1 ∧ len = 1)
  | .idiv => decide (op = 15 ∧ n = pc + 1 ∧ len = 1)
  | .irem => decide (op = 16 ∧ n = pc + 1 ∧ len = 1)
  | .ladd => decide (op = 17 ∧ n = pc + 1 ∧ len = 1)
  | .lmul => decide (op = 18 ∧ n = pc + 1 ∧ len = 1)
  | .lor => decide (op = 20 ∧ n = pc + 1 ∧ len = 1)
  | .lsub => decide (op = 21 ∧ n = pc + 1 ∧ len = 1)
  | .lneg => decide (op = 19 ∧ n = pc + 1 ∧ len = 1)
  | .ishr => decide (op = 22 ∧ n = pc + 1 ∧ len = 1)
  | .ishl => decide (op = 23 ∧ n = pc + 1 ∧ len = 1)
  | .lshl => decide (op = 24 ∧ n = pc + 1 ∧ len = 1)
  | .i2l => decide (op = 25 ∧ n = pc + 1 ∧ len = 1)
  | .i2b => decide (op = 26 ∧ n = pc + 1 ∧ len = 1)
  | .lcmp => decide (op = 28 ∧ n = pc + 1 ∧ len = 1)
  | .dup => decide (op = 29 ∧ n = pc + 1 ∧ len = 1)
  | .pop => decide (op = 30 ∧ n = pc + 1 ∧ len = 1)
  | .dup2 => decide (op = 32 ∧ n = pc + 1 ∧ len = 1)
  | .goto o => decide (op = 33 ∧ len = 3 ∧ (pc : Int) + o = (a : Int))
  | .ifCond .eq o => decide (op = 34 ∧ n = pc + 3 ∧ len = 3 ∧ (pc : Int) + o = (a : Int))
  | .if_icmp .eq o => decide (op = 40 ∧ n = pc + 3 ∧ len = 3 ∧ (pc : Int) + o = (a : Int))
  | .ifCond .ne o => decide (op = 35 ∧ n = pc + 3 ∧ len = 3 ∧ (pc : Int) + o = (a : Int))
  | .if_icmp .ne o => decide (op = 41 ∧ n = pc + 3 ∧ len = 3 ∧ (pc : Int) + o = (a : Int))
  | .ifCond .lt o => decide (op = 36 ∧ n = pc + 3 ∧ len = 3 ∧ (pc : Int) + o = (a : Int))
  | .if_icmp .lt o => decide (op = 42 ∧ n = pc + 3 ∧ len = 3 ∧ (pc : Int) + o = (a : Int))
  | .ifCond .ge o => decide (op = 37 ∧ n = pc + 3 ∧ len = 3 ∧ (pc : Int) + o = (a : Int))
  | .if_icmp .ge o => decide (op = 43 ∧ n = pc + 3 ∧ len = 3 ∧ (pc : Int) + o = (a : Int))
  | .ifCond .gt o => decide (op = 38 ∧ n = pc + 3 ∧ len = 3 ∧ (pc : Int) + o = (a : Int))
  | .if_icmp .gt o => decide (op = 44 ∧ n = pc + 3 ∧ len = 3 ∧ (pc : Int) + o = (a : Int))
  | .ifCond .le o => decide (op = 39 ∧ n = pc + 3 ∧ len = 3 ∧ (pc : Int) + o = (a : Int))
  | .if_icmp .le o => decide (op = 45 ∧ n = pc + 3 ∧ len = 3 ∧ (pc : Int) + o = (a : Int))
  | .getfield k => decide (op = 46 ∧ n = pc + 3 ∧ len = 3) && (z_lk own Ts k a b)
  | .putfield k => (z_lk own Ts k a b && ((decide (op = 47 ∧ n = pc + 3 ∧ len = 3) && z_pk a b z_ti) || (decide (op = 61 ∧ n = pc + 3 ∧ len = 3) && z_pk a b z_tr) || (decide (op = 62 ∧ n = pc + 3 ∧ len = 3) && z_pk a b z_tz)))
  | .iaload => decide (op = 48 ∧ n = pc + 1 ∧ len = 1)
  | .laload => decide (op = 63 ∧ n = pc + 1 ∧ len = 1)
  | .baload => decide (op = 50 ∧ n = pc + 1 ∧ len = 1)
  | .iastore => decide (op = 49 ∧ n = pc + 1 ∧ len = 1)
  | .bastore => decide (op = 51 ∧ n = pc + 1 ∧ len = 1)
  | .lastore => decide (op = 64 ∧ n = pc + 1 ∧ len = 1)
  | .arraylength => decide (op = 52 ∧ n = pc + 1 ∧ len = 1)
  | .ireturn => decide (len = 1 ∧ ((op = 53 ∧ ret = some .int) ∨ (op = 58 ∧ ret = some .boolean)))
  | .lreturn => decide (len = 1 ∧ op = 54 ∧ ret = some .long)
  | .return_ => decide (len = 1 ∧ op = 55 ∧ ret = none)
  | _ => false
def z_ck (own : String) (Ts : List Cond) (nL : Nat) (ret : Option FieldType) (cc : ByteArray) (pc : Nat) (t : zI) : Bool := decide (t.1 = 99) || match decode cc pc with
  | .ok (i, len) => z_chk own Ts nL ret pc i len t.1 t.2.1 t.2.2.1 t.2.2.2.1 t.2.2.2.2
  | .error _ => false
/-- the table is the code's, as far as N -/
def z_tab (own : String) (Ts : List Cond) (nL : Nat) (ret : Option FieldType) (cc : ByteArray) (N : Nat) (tb : Nat → zI) : Prop := ∀ pc, z_ck own Ts nL ret cc pc (tb pc) = true

section ZS
variable {G : zG} {cc : ByteArray} {own : String} {Ts : List Cond} {nL : Nat} {Γ : zΓ} {w : zW} {cells slots pc : Nat} {lv : zL} {st : List Value} {rm : Room} {mc ms : Nat} {nm : String} {ret : Option FieldType} {Post : Option Value → zW → Prop}
theorem z_li_ok {a : Nat} {f : Int32 → Prop} (h : z_li lv a f) : ∃ x, lv[a]? = some (some (.int x)) ∧ f x := by
  unfold z_li at h
  split at h
  · exact ⟨_, by assumption, h⟩
  · exact h.elim
theorem z_la_ok {a : Nat} {f : Nat → Prop} (h : z_la lv a f) : ∃ x, lv[a]? = some (some (.ref x)) ∧ f x := by
  unfold z_la at h
  split at h
  · exact ⟨_, by assumption, h⟩
  · exact h.elim
theorem z_ll_ok {a : Nat} {f : Int64 → Prop} (h : z_ll lv a f) : ∃ x, lv[a]? = some (some (.long x)) ∧ f x := by
  unfold z_ll at h
  split at h
  · exact ⟨_, by assumption, h⟩
  · exact h.elim
theorem z_1i_ok {f : Int32 → List Value → Prop} (h : z_1i st f) : ∃ x r, st = .int x :: r ∧ f x r := by
  unfold z_1i at h
  split at h
  · exact ⟨_, _, rfl, h⟩
  · exact h.elim
theorem z_2i_ok {f : Int32 → Int32 → List Value → Prop} (h : z_2i st f) : ∃ x y r, st = .int y :: .int x :: r ∧ f x y r := by
  unfold z_2i at h
  split at h
  · exact ⟨_, _, _, rfl, h⟩
  · exact h.elim
theorem z_1l_ok {f : Int64 → List Value → Prop} (h : z_1l st f) : ∃ x r, st = .long x :: r ∧ f x r := by
  unfold z_1l at h
  split at h
  · exact ⟨_, _, rfl, h⟩
  · exact h.elim
theorem z_2l_ok {f : Int64 → Int64 → List Value → Prop} (h : z_2l st f) : ∃ x y r, st = .long y :: .long x :: r ∧ f x y r := by
  unfold z_2l at h
  split at h
  · exact ⟨_, _, _, rfl, h⟩
  · exact h.elim
theorem z_lsi_ok {f : Int64 → Int32 → List Value → Prop} (h : z_lsi st f) : ∃ x y r, st = .int y :: .long x :: r ∧ f x y r := by
  unfold z_lsi at h
  split at h
  · exact ⟨_, _, _, rfl, h⟩
  · exact h.elim
theorem z_1a_ok {f : Nat → List Value → Prop} (h : z_1a st f) : ∃ x r, st = .ref x :: r ∧ f x r := by
  unfold z_1a at h
  split at h
  · exact ⟨_, _, rfl, h⟩
  · exact h.elim
theorem z_ia_ok {f : Nat → Int32 → List Value → Prop} (h : z_ia st f) : ∃ x i r, st = .int i :: .ref x :: r ∧ f x i r := by
  unfold z_ia at h
  split at h
  · exact ⟨_, _, _, rfl, h⟩
  · exact h.elim
theorem z_aa_ok {f : Nat → Nat → List Value → Prop} (h : z_aa st f) : ∃ x y r, st = .ref y :: .ref x :: r ∧ f x y r := by
  unfold z_aa at h
  split at h
  · exact ⟨_, _, _, rfl, h⟩
  · exact h.elim
theorem z_iia_ok {f : Nat → Int32 → Int32 → List Value → Prop} (h : z_iia st f) : ∃ x i u r, st = .int u :: .int i :: .ref x :: r ∧ f x i u r := by
  unfold z_iia at h
  split at h
  · exact ⟨_, _, _, _, rfl, h⟩
  · exact h.elim
theorem z_lia_ok {f : Nat → Int32 → Int64 → List Value → Prop} (h : z_lia st f) : ∃ x i u r, st = .long u :: .int i :: .ref x :: r ∧ f x i u r := by
  unfold z_lia at h
  split at h
  · exact ⟨_, _, _, _, rfl, h⟩
  · exact h.elim
theorem z_dia_ok {f : Nat → Int32 → List Value → Prop} (h : z_dia st f) : ∃ x i r, st = .int i :: .ref x :: r ∧ f x i r := by
  unfold z_dia at h
  split at h
  · exact ⟨_, _, _, rfl, h⟩
  · exact h.elim
theorem z_e1_ok {f : Int32 → Prop} (h : z_e1 st f) : ∃ x, st = [.int x] ∧ f x := by
  unfold z_e1 at h
  split at h
  · exact ⟨_, rfl, h⟩
  · exact h.elim
theorem z_e2_ok {f : Int64 → Prop} (h : z_e2 st f) : ∃ x, st = [.long x] ∧ f x := by
  unfold z_e2 at h
  split at h
  · exact ⟨_, rfl, h⟩
  · exact h.elim
theorem z_e0_ok {f : Prop} (h : z_e0 st f) : st = [] ∧ f := by
  unfold z_e0 at h
  split at h
  · exact ⟨rfl, h⟩
  · exact h.elim
theorem z_d1_ok {f : Value → List Value → Prop} (h : z_d1 st f) : ∃ x r, st = x :: r ∧ x.category = 1 ∧ f x r := by
  unfold z_d1 at h
  split at h
  · exact ⟨_, _, rfl, rfl, h⟩
  · exact ⟨_, _, rfl, rfl, h⟩
  · exact h.elim
theorem z_ar0_ok {a : Nat} {f : Nat → (Nat → Int32) → Prop} (h : z_ar0 w a f) : ∃ n g, w.2 a = some (.inl (0, n, .inl g)) ∧ f n g := by
  unfold z_ar0 at h
  split at h
  · exact ⟨_, _, by assumption, h⟩
  · exact h.elim
theorem z_ar1_ok {a : Nat} {f : Nat → (Nat → Int32) → Prop} (h : z_ar1 w a f) : ∃ n g, w.2 a = some (.inl (1, n, .inl g)) ∧ f n g := by
  unfold z_ar1 at h
  split at h
  · exact ⟨_, _, by assumption, h⟩
  · exact h.elim
theorem z_ar2_ok {a : Nat} {f : Nat → (Nat → Int64) → Prop} (h : z_ar2 w a f) : ∃ n g, w.2 a = some (.inl (2, n, .inr (.inl g))) ∧ f n g := by
  unfold z_ar2 at h
  split at h
  · exact ⟨_, _, by assumption, h⟩
  · exact h.elim
theorem z_ob_ok {a ci : Nat} {f : List Value → Prop} (h : z_ob w a ci f) : ∃ fs, w.2 a = some (.inr (ci, fs)) ∧ f fs := by
  unfold z_ob at h
  split at h
  · obtain ⟨rfl, h⟩ := h; exact ⟨_, by assumption, h⟩
  · exact h.elim
theorem z_fl_ok {fs : List Value} {k : Nat} {f : Value → Prop} (h : z_fl fs k f) : ∃ v, fs[k]? = some v ∧ f v := by
  unfold z_fl at h
  split at h
  · exact ⟨_, by assumption, h⟩
  · exact h.elim
theorem z_lk_ok {idx ci k : Nat} (h : z_lk own Ts idx ci k = true) : ∃ C T N, vwCl[ci]? = some (C, T, N) ∧ k < N ∧ Cond.fieldLink own idx (T k).1 (T k).2.1 (T k).2.2.1 ∈ Ts ∧ ∀ x ∈ u_ws C T N, x ∈ Ts := by
  unfold z_lk at h
  split at h
  · simp only [Bool.and_eq_true, decide_eq_true_eq] at h
    exact ⟨_, _, _, by assumption, h.1.1, h.1.2, h.2⟩
  · cases h
theorem z_pk_ok {ci k : Nat} {ok : FieldType → Bool} (h : z_pk ci k ok = true) {C : String} {T : u_T} {N : Nat} (hc : vwCl[ci]? = some (C, T, N)) : (T k).2.2.2 = false ∧ (∃ ty, parseFieldDescriptor (T k).2.2.1 = some ty ∧ ok ty = true) ∧ (∀ j, j < N → parseFieldDescriptor (T j).2.2.1 = some ((parseFieldDescriptor (T j).2.2.1).getD .int)) ∧ ∀ a, a < N → ∀ b, b < N → a ≠ b → (T a).2.1 ≠ (T b).2.1 := by
  unfold z_pk at h
  rw [hc] at h
  simp only [Bool.and_eq_true, decide_eq_true_eq, beq_iff_eq] at h
  obtain ⟨⟨⟨h1, h2⟩, h3⟩, h4⟩ := h
  refine ⟨h1, ?_, fun j hj => ?_, h4⟩
  · split at h2
    · exact ⟨_, by assumption, h2⟩
    · cases h2
  · obtain ⟨ty, hty⟩ := Option.isSome_iff_exists.mp (h3 j hj)
    rw [hty]; rfl

theorem z_step_ok (C : z_X G cc own Ts nL Γ) (E : z_E G rm mc ms nm ret Post Γ) {op a b n : Nat} {v : Int32} {i : Instr} {len : Nat} (hd : decode cc pc = .ok (i, len)) (hck : z_chk own Ts nL ret pc i len op a b n v = true) (hc : cells ≤ mc) (hs : slots ≤ ms) {nx K : Nat → zL → List Value → zW → Prop}
    (hnx : ∀ pc lv st w, nx pc lv st w → z_J G nL Γ w cells slots pc lv st) (hK : ∀ pc lv st w, K pc lv st w → z_J G nL Γ w cells slots pc lv st) (h : z_step op a b n v pc lv st w nx K Post) : z_J G nL Γ w cells slots pc lv st := by
  by_cases h99 : op = 99
  · subst h99
    exact hK _ _ _ _ h
  have hx := C.1.1
  have hb := C.1.2.1
  have hown := C.1.2.2.2.1
  have hts := C.1.2.2.2.2
  simp only [z_chk, h99, decide_false, Bool.false_or] at hck
  cases i
  case iload k =>
    simp only [decide_eq_true_eq] at hck
    obtain ⟨rfl, rfl, rfl, rfl⟩ := hck
    obtain ⟨x, h1, h2⟩ := z_li_ok h
    intro H locs ls hH hS hl
    exact lv_iload hx hb hd (hl.2.2 _ _ h1) (hnx _ _ _ _ h2 H locs ls hH hS hl)
  case iload_n k =>
    simp only [decide_eq_true_eq] at hck
    obtain ⟨rfl, rfl, rfl, rfl⟩ := hck
    obtain ⟨x, h1, h2⟩ := z_li_ok h
    intro H locs ls hH hS hl
    exact lv_iload_n hx hb hd rfl (hl.2.2 _ _ h1) (hnx _ _ _ _ h2 H locs ls hH hS hl)
  case aload k =>
    simp only [decide_eq_true_eq] at hck
    obtain ⟨rfl, rfl, rfl, rfl⟩ := hck
    obtain ⟨x, h1, h2⟩ := z_la_ok h
    intro H locs ls hH hS hl
    exact lv_aload hx hb hd (hl.2.2 _ _ h1) (hnx _ _ _ _ h2 H locs ls hH hS hl)
  case aload_n k =>
    simp only [decide_eq_true_eq] at hck
    obtain ⟨rfl, rfl, rfl, rfl⟩ := hck
    obtain ⟨x, h1, h2⟩ := z_la_ok h
    intro H locs ls hH hS hl
    exact lv_aload_n hx hb hd rfl (hl.2.2 _ _ h1) (hnx _ _ _ _ h2 H locs ls hH hS hl)
  case lload k =>
    simp only [decide_eq_true_eq] at hck
    obtain ⟨rfl, rfl, rfl, rfl⟩ := hck
    obtain ⟨x, h1, h2⟩ := z_ll_ok h
    intro H locs ls hH hS hl
    exact lv_lload hx hb hd (hl.2.2 _ _ h1) (hnx _ _ _ _ h2 H locs ls hH hS hl)
  case lload_n k =>
    simp only [decide_eq_true_eq] at hck
    obtain ⟨rfl, rfl, rfl, rfl⟩ := hck
    obtain ⟨x, h1, h2⟩ := z_ll_ok h
    intro H locs ls hH hS hl
    exact lv_lload_n hx hb hd rfl (hl.2.2 _ _ h1) (hnx _ _ _ _ h2 H locs ls hH hS hl)
  case istore k =>
    simp only [decide_eq_true_eq] at hck
    obtain ⟨rfl, rfl, rfl, rfl, hlt⟩ := hck
    obtain ⟨x, r, rfl, h1, h2⟩ := z_1i_ok h
    intro H locs ls hH hS hl
    exact lv_istore hx hb hd hl.has hlt rfl (fun ls' hl' => hnx _ _ _ _ h2 H locs ls' hH hS (z_L.st1 h1 hl'))
  case istore_n k =>
    simp only [decide_eq_true_eq] at hck
    obtain ⟨rfl, rfl, rfl, rfl, hlt⟩ := hck
    obtain ⟨x, r, rfl, h1, h2⟩ := z_1i_ok h
    intro H locs ls hH hS hl
    exact lv_istore_n hx hb hd rfl hl.has hlt rfl (fun ls' hl' => hnx _ _ _ _ h2 H locs ls' hH hS (z_L.st1 h1 hl'))
  case astore k =>
    simp only [decide_eq_true_eq] at hck
    obtain ⟨rfl, rfl, rfl, rfl, hlt⟩ := hck
    obtain ⟨x, r, rfl, h1, h2⟩ := z_1a_ok h
    intro H locs ls hH hS hl
    exact lv_astore hx hb hd hl.has hlt rfl (fun ls' hl' => hnx _ _ _ _ h2 H locs ls' hH hS (z_L.st1 h1 hl'))
  case astore_n k =>
    simp only [decide_eq_true_eq] at hck
    obtain ⟨rfl, rfl, rfl, rfl, hlt⟩ := hck
    obtain ⟨x, r, rfl, h1, h2⟩ := z_1a_ok h
    intro H locs ls hH hS hl
    exact lv_astore_n hx hb hd rfl hl.has hlt rfl (fun ls' hl' => hnx _ _ _ _ h2 H locs ls' hH hS (z_L.st1 h1 hl'))
  case lstore k =>
    simp only [decide_eq_true_eq] at hck
    obtain ⟨rfl, rfl, rfl, rfl, hlt⟩ := hck
    obtain ⟨x, r, rfl, h1, h2⟩ := z_1l_ok h
    intro H locs ls hH hS hl
    exact lv_lstore hx hb hd hl.has hlt rfl (fun ls' hl' => hnx _ _ _ _ h2 H locs ls' hH hS (z_L.st2 h1 hl'))
  case lstore_n k =>
    simp only [decide_eq_true_eq] at hck
    obtain ⟨rfl, rfl, rfl, rfl, hlt⟩ := hck
    obtain ⟨x, r, rfl, h1, h2⟩ := z_1l_ok h
    intro H locs ls hH hS hl
    exact lv_lstore_n hx hb hd rfl hl.has hlt rfl (fun ls' hl' => hnx _ _ _ _ h2 H locs ls' hH hS (z_L.st2 h1 hl'))
  case iconst z =>
    simp only [decide_eq_true_eq] at hck
    obtain ⟨rfl, rfl, rfl, rfl⟩ := hck
    intro H locs ls hH hS hl
    exact lv_iconst hx hb hd rfl (hnx _ _ _ _ h H locs ls hH hS hl)
  case bipush z =>
    simp only [decide_eq_true_eq] at hck
    obtain ⟨rfl, rfl, rfl, rfl⟩ := hck
    intro H locs ls hH hS hl
    exact lv_bipush hx hb hd rfl (hnx _ _ _ _ h H locs ls hH hS hl)
  case sipush z =>
    simp only [decide_eq_true_eq] at hck
    obtain ⟨rfl, rfl, rfl, rfl⟩ := hck
    intro H locs ls hH hS hl
    exact lv_sipush hx hb hd rfl (hnx _ _ _ _ h H locs ls hH hS hl)
  case lconst z =>
    simp only [decide_eq_true_eq] at hck
    obtain ⟨rfl, rfl, rfl, hv⟩ := hck
    intro H locs ls hH hS hl
    exact lv_lconst hx hb hd hv.symm (hnx _ _ _ _ h H locs ls hH hS hl)
  case ldc2_w k =>
    simp only [decide_eq_true_eq] at hck
    obtain ⟨rfl, rfl, rfl, hv⟩ := hck
    intro H locs ls hH hS hl
    exact lv_ldc2 hx hb hown (hts _ hv) hd (hnx _ _ _ _ h H locs ls hH hS hl)
  case iinc k z =>
    simp only [decide_eq_true_eq] at hck
    obtain ⟨rfl, rfl, rfl, rfl, hlt, rfl⟩ := hck
    obtain ⟨x, h1, h2, h3⟩ := z_li_ok h
    intro H locs ls hH hS hl
    obtain ⟨j, hj⟩ := List.getElem?_of_mem (z_as_mem.mpr h1)
    exact lv_iinc hx hb hd hl.has hj rfl hlt rfl (fun ls' hl' => hnx _ _ _ _ h3 H locs ls' hH hS (z_L.st1 h2 hl'))
  case iadd =>
    simp only [decide_eq_true_eq] at hck
    obtain ⟨rfl, rfl, rfl⟩ := hck
    obtain ⟨x, y, r, rfl, h1⟩ := z_2i_ok h
    intro H locs ls hH hS hl
    exact lv_iadd hx hb hd (hnx _ _ _ _ h1 H locs ls hH hS hl)
  case isub =>
    simp only [decide_eq_true_eq] at hck
    obtain ⟨rfl, rfl, rfl⟩ := hck
    obtain ⟨x, y, r, rfl, h1⟩ := z_2i_ok h
    intro H locs ls hH hS hl
    exact lv_isub hx hb hd (hnx _ _ _ _ h1 H locs ls hH hS hl)
  case imul =>
    simp only [decide_eq_true_eq] at hck
    obtain ⟨rfl, rfl, rfl⟩ := hck
    obtain ⟨x, y, r, rfl, h1⟩ := z_2i_ok h
    intro H locs ls hH hS hl
    exact lv_imul hx hb hd (hnx _ _ _ _ h1 H locs ls hH hS hl)
  case iand =>
    simp only [decide_eq_true_eq] at hck
    obtain ⟨rfl, rfl, rfl⟩ := hck
    obtain ⟨x, y, r, rfl, h1⟩ := z_2i_ok h
    intro H locs ls hH hS hl
    exact lv_iand hx hb hd (hnx _ _ _ _ h1 H locs ls hH hS hl)
  case ior =>
    simp only [decide_eq_true_eq] at hck
    obtain ⟨rfl, rfl, rfl⟩ := hck
    obtain ⟨x, y, r, rfl, h1⟩ := z_2i_ok h
    intro H locs ls hH hS hl
    exact lv_ior hx hb hd (hnx _ _ _ _ h1 H locs ls hH hS hl)
  case ixor =>
    simp only [decide_eq_true_eq] at hck
    obtain ⟨rfl, rfl, rfl⟩ := hck
    obtain ⟨x, y, r, rfl, h1⟩ := z_2i_ok h
    intro H locs ls hH hS hl
    exact lv_ixor hx hb hd (hnx _ _ _ _ h1 H locs ls hH hS hl)
  case ineg =>
    simp only [decide_eq_true_eq] at hck
    obtain ⟨rfl, rfl, rfl⟩ := hck
    obtain ⟨x, r, rfl, h1⟩ := z_1i_ok h
    intro H locs ls hH hS hl
    exact lv_ineg hx hb hd (hnx _ _ _ _ h1 H locs ls hH hS hl)
  case idiv =>
    simp only [decide_eq_true_eq] at hck
    obtain ⟨rfl, rfl, rfl⟩ := hck
    obtain ⟨x, y, r, rfl, h0, h1⟩ := z_2i_ok h
    intro H locs ls hH hS hl
    exact lv_idiv hx hb hd h0 (hnx _ _ _ _ h1 H locs ls hH hS hl)
  case irem =>
    simp only [decide_eq_true_eq] at hck
    obtain ⟨rfl, rfl, rfl⟩ := hck
    obtain ⟨x, y, r, rfl, h0, h1⟩ := z_2i_ok h
    intro H locs ls hH hS hl
    exact lv_irem hx hb hd h0 (hnx _ _ _ _ h1 H locs ls hH hS hl)
  case ladd =>
    simp only [decide_eq_true_eq] at hck
    obtain ⟨rfl, rfl, rfl⟩ := hck
    obtain ⟨x, y, r, rfl, h1⟩ := z_2l_ok h
    intro H locs ls hH hS hl
    exact lv_ladd hx hb hd (hnx _ _ _ _ h1 H locs ls hH hS hl)
  case lmul =>
    simp only [decide_eq_true_eq] at hck
    obtain ⟨rfl, rfl, rfl⟩ := hck
    obtain ⟨x, y, r, rfl, h1⟩ := z_2l_ok h
    intro H locs ls hH hS hl
    exact lv_lmul hx hb hd (hnx _ _ _ _ h1 H locs ls hH hS hl)
  case lor =>
    simp only [decide_eq_true_eq] at hck
    obtain ⟨rfl, rfl, rfl⟩ := hck
    obtain ⟨x, y, r, rfl, h1⟩ := z_2l_ok h
    intro H locs ls hH hS hl
    exact lv_lor hx hb hd (hnx _ _ _ _ h1 H locs ls hH hS hl)
  case lsub =>
    simp only [decide_eq_true_eq] at hck
    obtain ⟨rfl, rfl, rfl⟩ := hck
    obtain ⟨x, y, r, rfl, h1⟩ := z_2l_ok h
    intro H locs ls hH hS hl
    exact lv_lsub hx hb hd (hnx _ _ _ _ h1 H locs ls hH hS hl)
  case lneg =>
    simp only [decide_eq_true_eq] at hck
    obtain ⟨rfl, rfl, rfl⟩ := hck
    obtain ⟨x, r, rfl, h1⟩ := z_1l_ok h
    intro H locs ls hH hS hl
    exact lv_lneg hx hb hd (hnx _ _ _ _ h1 H locs ls hH hS hl)
  case ishr =>
    simp only [decide_eq_true_eq] at hck
    obtain ⟨rfl, rfl, rfl⟩ := hck
    obtain ⟨x, y, r, rfl, h1⟩ := z_2i_ok h
    intro H locs ls hH hS hl
    exact lv_ishr hx hb hd (hnx _ _ _ _ h1 H locs ls hH hS hl)
  case ishl =>
    simp only [decide_eq_true_eq] at hck
    obtain ⟨rfl, rfl, rfl⟩ := hck
    obtain ⟨x, y, r, rfl, h1⟩ := z_2i_ok h
    intro H locs ls hH hS hl
    exact lv_ishl hx hb hd (hnx _ _ _ _ h1 H locs ls hH hS hl)
  case lshl =>
    simp only [decide_eq_true_eq] at hck
    obtain ⟨rfl, rfl, rfl⟩ := hck
    obtain ⟨x, y, r, rfl, h1⟩ := z_lsi_ok h
    intro H locs ls hH hS hl
    exact lv_lshl hx hb hd rfl (hnx _ _ _ _ h1 H locs ls hH hS hl)
  case i2l =>
    simp only [decide_eq_true_eq] at hck
    obtain ⟨rfl, rfl, rfl⟩ := hck
    obtain ⟨x, r, rfl, h1⟩ := z_1i_ok h
    intro H locs ls hH hS hl
    exact lv_i2l hx hb hd rfl (hnx _ _ _ _ h1 H locs ls hH hS hl)
  case i2b =>
    simp only [decide_eq_true_eq] at hck
    obtain ⟨rfl, rfl, rfl⟩ := hck
    obtain ⟨x, r, rfl, h1⟩ := z_1i_ok h
    intro H locs ls hH hS hl
    exact lv_i2b hx hb hd rfl (hnx _ _ _ _ h1 H locs ls hH hS hl)
  case lcmp =>
    simp only [decide_eq_true_eq] at hck
    obtain ⟨rfl, rfl, rfl⟩ := hck
    obtain ⟨x, y, r, rfl, h1⟩ := z_2l_ok h
    intro H locs ls hH hS hl
    exact W.lcmp hx hb hd (hnx _ _ _ _ h1 H locs ls hH hS hl)
  case dup =>
    simp only [decide_eq_true_eq] at hck
    obtain ⟨rfl, rfl, rfl⟩ := hck
    have h := (show z_d1 st (fun x r => nx (pc + 1) lv (x :: x :: r) w) from h)
    obtain ⟨x, r, rfl, h0, h1⟩ := z_d1_ok h
    intro H locs ls hH hS hl
    exact lv_dup hx hb hd h0 (hnx _ _ _ _ h1 H locs ls hH hS hl)
  case pop =>
    simp only [decide_eq_true_eq] at hck
    obtain ⟨rfl, rfl, rfl⟩ := hck
    have h := (show z_d1 st (fun _ r => nx (pc + 1) lv r w) from h)
    obtain ⟨x, r, rfl, h0, h1⟩ := z_d1_ok h
    intro H locs ls hH hS hl
    exact lv_pop hx hb hd h0 (hnx _ _ _ _ h1 H locs ls hH hS hl)
  case dup2 =>
    simp only [decide_eq_true_eq] at hck
    obtain ⟨rfl, rfl, rfl⟩ := hck
    obtain ⟨x, i, r, rfl, h1⟩ := z_dia_ok h
    intro H locs ls hH hS hl
    exact lv_dup2_11 hx hb hd rfl rfl (hnx _ _ _ _ h1 H locs ls hH hS hl)
  case goto o =>
    simp only [decide_eq_true_eq] at hck
    obtain ⟨rfl, rfl, ht⟩ := hck
    intro H locs ls hH hS hl
    exact lv_goto hx hb hd ht (hnx _ _ _ _ h H locs ls hH hS hl)
  case ifCond c o =>
    cases c <;> simp only [decide_eq_true_eq] at hck <;> obtain ⟨rfl, rfl, rfl, ht⟩ := hck <;> obtain ⟨x, r, rfl, h1, h2⟩ := z_1i_ok h <;> intro H locs ls hH hS hl
    · exact lv_if_eq hx hb hd ht (fun q => hnx _ _ _ _ (h1 q) H locs ls hH hS hl) (fun q => hnx _ _ _ _ (h2 q) H locs ls hH hS hl)
    · exact lv_if_ne hx hb hd ht (fun q => hnx _ _ _ _ (h1 q) H locs ls hH hS hl) (fun q => hnx _ _ _ _ (h2 q) H locs ls hH hS hl)
    · exact lv_if_lt hx hb hd ht (fun q => hnx _ _ _ _ (h1 q) H locs ls hH hS hl) (fun q => hnx _ _ _ _ (h2 q) H locs ls hH hS hl)
    · exact lv_if_ge hx hb hd ht (fun q => hnx _ _ _ _ (h1 q) H locs ls hH hS hl) (fun q => hnx _ _ _ _ (h2 q) H locs ls hH hS hl)
    · exact lv_if_gt hx hb hd ht (fun q => hnx _ _ _ _ (h1 q) H locs ls hH hS hl) (fun q => hnx _ _ _ _ (h2 q) H locs ls hH hS hl)
    · exact lv_if_le hx hb hd ht (fun q => hnx _ _ _ _ (h1 q) H locs ls hH hS hl) (fun q => hnx _ _ _ _ (h2 q) H locs ls hH hS hl)
  case if_icmp c o =>
    cases c <;> simp only [decide_eq_true_eq] at hck <;> obtain ⟨rfl, rfl, rfl, ht⟩ := hck <;> obtain ⟨x, y, r, rfl, h1, h2⟩ := z_2i_ok h <;> intro H locs ls hH hS hl
    · exact lv_icmp_eq hx hb hd ht (fun q => hnx _ _ _ _ (h1 q) H locs ls hH hS hl) (fun q => hnx _ _ _ _ (h2 q) H locs ls hH hS hl)
    · exact lv_icmp_ne hx hb hd ht (fun q => hnx _ _ _ _ (h1 q) H locs ls hH hS hl) (fun q => hnx _ _ _ _ (h2 q) H locs ls hH hS hl)
    · exact lv_icmp_lt hx hb hd ht (fun q => hnx _ _ _ _ (h1 q) H locs ls hH hS hl) (fun q => hnx _ _ _ _ (h2 q) H locs ls hH hS hl)
    · exact lv_icmp_ge hx hb hd ht (fun q => hnx _ _ _ _ (h1 q) H locs ls hH hS hl) (fun q => hnx _ _ _ _ (h2 q) H locs ls hH hS hl)
    · exact lv_icmp_gt hx hb hd ht (fun q => hnx _ _ _ _ (h1 q) H locs ls hH hS hl) (fun q => hnx _ _ _ _ (h2 q) H locs ls hH hS hl)
    · exact lv_icmp_le hx hb hd ht (fun q => hnx _ _ _ _ (h1 q) H locs ls hH hS hl) (fun q => hnx _ _ _ _ (h2 q) H locs ls hH hS hl)
  case getfield k =>
    simp only [Bool.and_eq_true, decide_eq_true_eq] at hck
    obtain ⟨⟨rfl, rfl, rfl⟩, hlk⟩ := hck
    obtain ⟨x, r, rfl, h1⟩ := z_1a_ok h
    obtain ⟨fs, h2, h3⟩ := z_ob_ok h1
    obtain ⟨u, h4, h5⟩ := z_fl_ok h3
    obtain ⟨Cn, T, N, c1, c2, c3, c4⟩ := z_lk_ok hlk
    exact z_get C c4 c1 c2 c3 hd h2 h4 (hnx _ _ _ _ h5)
  case putfield k =>
    simp only [Bool.and_eq_true, Bool.or_eq_true, decide_eq_true_eq] at hck
    obtain ⟨hlk, hq⟩ := hck
    obtain ⟨Cn, T, N, c1, c2, c3, c4⟩ := z_lk_ok hlk
    rcases hq with (hq | hq) | hq
    · obtain ⟨⟨rfl, rfl, rfl⟩, hpk⟩ := hq
      obtain ⟨x, i, r, rfl, h1⟩ := z_ia_ok h
      obtain ⟨fs, h2, h3, h5⟩ := z_ob_ok h1
      obtain ⟨p1, ⟨ty, p2, p3⟩, p4, p5⟩ := z_pk_ok hpk c1
      have e : ty = .int := by unfold z_ti at p3; split at p3 <;> first | rfl | cases p3
      subst e
      exact z_put C c4 c1 _ p4 p5 c2 c3 p1 p2 hd h2 h3 rfl rfl (hnx _ _ _ _ h5)
    · obtain ⟨⟨rfl, rfl, rfl⟩, hpk⟩ := hq
      obtain ⟨x, y, r, rfl, h1⟩ := z_aa_ok h
      obtain ⟨fs, h2, h3, h5⟩ := z_ob_ok h1
      obtain ⟨p1, ⟨ty, p2, p3⟩, p4, p5⟩ := z_pk_ok hpk c1
      have e : (∃ q, ty = .object q) ∨ ∃ q, ty = .array q := by unfold z_tr at p3; split at p3 <;> first | exact Or.inl ⟨_, rfl⟩ | exact Or.inr ⟨_, rfl⟩ | cases p3
      rcases e with ⟨q, rfl⟩ | ⟨q, rfl⟩
      · exact z_put C c4 c1 _ p4 p5 c2 c3 p1 p2 hd h2 h3 rfl rfl (hnx _ _ _ _ h5)
      · exact z_put C c4 c1 _ p4 p5 c2 c3 p1 p2 hd h2 h3 rfl rfl (hnx _ _ _ _ h5)
    · obtain ⟨⟨rfl, rfl, rfl⟩, hpk⟩ := hq
      obtain ⟨x, i, r, rfl, h1⟩ := z_ia_ok h
      obtain ⟨fs, h2, h3, h4, h5⟩ := z_ob_ok h1
      obtain ⟨p1, ⟨ty, p2, p3⟩, p4, p5⟩ := z_pk_ok hpk c1
      have e : ty = .boolean := by unfold z_tz at p3; split at p3 <;> first | rfl | cases p3
      subst e
      rcases h4 with rfl | rfl
      · exact z_put C c4 c1 _ p4 p5 c2 c3 p1 p2 hd h2 h3 rfl rfl (hnx _ _ _ _ h5)
      · exact z_put C c4 c1 _ p4 p5 c2 c3 p1 p2 hd h2 h3 rfl rfl (hnx _ _ _ _ h5)
  case iaload =>
    simp only [decide_eq_true_eq] at hck
    obtain ⟨rfl, rfl, rfl⟩ := hck
    obtain ⟨x, i, r, rfl, h1⟩ := z_ia_ok h
    obtain ⟨m, g, h2, h3, h4⟩ := z_ar0_ok h1
    exact z_iald C hd h2 h3 (hnx _ _ _ _ h4)
  case baload =>
    simp only [decide_eq_true_eq] at hck
    obtain ⟨rfl, rfl, rfl⟩ := hck
    obtain ⟨x, i, r, rfl, h1⟩ := z_ia_ok h
    obtain ⟨m, g, h2, h3, h4⟩ := z_ar1_ok h1
    exact z_zald C hd h2 h3 (hnx _ _ _ _ h4)
  case laload =>
    simp only [decide_eq_true_eq] at hck
    obtain ⟨rfl, rfl, rfl⟩ := hck
    obtain ⟨x, i, r, rfl, h1⟩ := z_ia_ok h
    obtain ⟨m, g, h2, h3, h4⟩ := z_ar2_ok h1
    exact z_lald C hd h2 h3 (hnx _ _ _ _ h4)
  case iastore =>
    simp only [decide_eq_true_eq] at hck
    obtain ⟨rfl, rfl, rfl⟩ := hck
    obtain ⟨x, i, u, r, rfl, h1⟩ := z_iia_ok h
    obtain ⟨m, g, h2, h3, h4⟩ := z_ar0_ok h1
    exact z_iast C hd h2 h3 (hnx _ _ _ _ h4)
  case bastore =>
    simp only [decide_eq_true_eq] at hck
    obtain ⟨rfl, rfl, rfl⟩ := hck
    obtain ⟨x, i, u, r, rfl, h1⟩ := z_iia_ok h
    obtain ⟨m, g, h2, h3, h4⟩ := z_ar1_ok h1
    exact z_zast C hd h2 h3 (hnx _ _ _ _ h4)
  case lastore =>
    simp only [decide_eq_true_eq] at hck
    obtain ⟨rfl, rfl, rfl⟩ := hck
    obtain ⟨x, i, u, r, rfl, h1⟩ := z_lia_ok h
    obtain ⟨m, g, h2, h3, h4⟩ := z_ar2_ok h1
    exact z_last C hd h2 h3 (hnx _ _ _ _ h4)
  case arraylength =>
    simp only [decide_eq_true_eq] at hck
    obtain ⟨rfl, rfl, rfl⟩ := hck
    obtain ⟨x, r, rfl, h1⟩ := z_1a_ok h
    obtain ⟨m, g, h2, h3⟩ := z_ar0_ok h1
    exact z_alen C hd h2 (hnx _ _ _ _ h3)
  case ireturn =>
    simp only [decide_eq_true_eq] at hck
    obtain ⟨rfl, ⟨rfl, hr⟩ | ⟨rfl, hr⟩⟩ := hck
    · obtain ⟨x, rfl, h1⟩ := z_e1_ok h
      exact z_iret C E hr rfl hc hs hd h1
    · obtain ⟨x, rfl, h0, h1⟩ := z_e1_ok h
      exact z_iret C E hr (by rcases h0 with rfl | rfl <;> rfl) hc hs hd h1
  case lreturn =>
    simp only [decide_eq_true_eq] at hck
    obtain ⟨rfl, rfl, hr⟩ := hck
    obtain ⟨x, rfl, h1⟩ := z_e2_ok h
    exact z_lret C E hr hc hs hd h1
  case return_ =>
    simp only [decide_eq_true_eq] at hck
    obtain ⟨rfl, rfl, hr⟩ := hck
    obtain ⟨rfl, h1⟩ := z_e0_ok h
    exact z_vret C E hr hc hs hd h1
  all_goals exact absurd hck Bool.false_ne_true
theorem z_run_ok (C : z_X G cc own Ts nL Γ) (E : z_E G rm mc ms nm ret Post Γ) {N : Nat} {tb : Nat → zI} (hT : z_tab own Ts nL ret cc N tb) (hc : cells ≤ mc) (hs : slots ≤ ms) {cut : List Nat} : ∀ (k pc : Nat) (lv : zL) (st : List Value) (w : zW), z_run tb cut (fun pc lv st w => z_J G nL Γ w cells slots pc lv st) Post k pc lv st w → z_J G nL Γ w cells slots pc lv st
  | 0, _, _, _, _, h => h
  | k + 1, pc, lv, st, w, h => by
    unfold z_run at h
    split at h
    · exact h
    · have ht := hT pc
      unfold z_ck at ht
      generalize ht2 : tb pc = t at ht h
      obtain ⟨op, a, b, n, v⟩ := t
      unfold z_st1 at h
      dsimp only at ht h
      by_cases h99 : op = 99
      · subst h99; exact h
      · simp only [h99, decide_false, Bool.false_or] at ht
        split at ht
        · rename_i i len hd
          exact z_step_ok C E hd ht hc hs (fun pc lv st w h => z_run_ok C E hT hc hs k pc lv st w h) (fun _ _ _ _ h => h) h
        · cases ht
/-- one step at least, then on till a cut -/
theorem z_go (C : z_X G cc own Ts nL Γ) (E : z_E G rm mc ms nm ret Post Γ) {N : Nat} {tb : Nat → zI} (hT : z_tab own Ts nL ret cc N tb) (hc : cells ≤ mc) (hs : slots ≤ ms) (cut : List Nat) (k : Nat) (h : z_st1 (tb pc) pc lv st w (z_run tb cut (fun pc lv st w => z_J G nL Γ w cells slots pc lv st) Post k) (fun pc lv st w => z_J G nL Γ w cells slots pc lv st) Post) : z_J G nL Γ w cells slots pc lv st := by
  have h1 : z_run tb [] (fun pc lv st w => z_J G nL Γ w cells slots pc lv st) Post 1 pc lv st w ∨ True := Or.inr trivial
  have ht := hT pc
  unfold z_ck at ht
  generalize ht2 : tb pc = t at ht h
  obtain ⟨op, a, b, n, v⟩ := t
  unfold z_st1 at h
  dsimp only at ht h
  by_cases h99 : op = 99
  · subst h99; exact h
  · simp only [h99, decide_false, Bool.false_or] at ht
    split at ht
    · rename_i i len hd
      exact z_step_ok C E hd ht hc hs (fun pc lv st w h => z_run_ok C E hT hc hs k pc lv st w h) (fun _ _ _ _ h => h) h
    · cases ht
end ZS
section ZCALL
variable {G : zG} {cc : ByteArray} {own : String} {Ts : List Cond} {nL : Nat} {Γ : zΓ} {w : zW} {cells slots pc : Nat} {lv : zL} {st : List Value} {rm : Room} {mc ms : Nat} {nm : String} {ret : Option FieldType} {Post : Option Value → zW → Prop}
variable {y : MethodName} {bytes : ByteArray} {maxL mcC msC n index : Nat} {retC : Option FieldType} {ws ws' : List Cond} {rmC : Room} {PostC : Option Value → zW → Prop} {a : Nat} {As rest : List Value}
theorem z_preC (C : z_X G cc own Ts nL Γ) {H : Heap} {locs : List Loc} (hH : z_H G w H) (hS : va_S (z_A G) (zs Γ).heap H locs) (As : List Value) : ∀ U : State, U.heap = H → (zs Γ).WarmedH U.vm → z_Pc G As w As.toArray U := by
  intro U hU hW
  refine ⟨rfl, by rw [hU]; exact hH, va_K.moved hW.alike C.2.1, ?_⟩
  rw [hU]
  exact z_S.warm hW (C.2.2.1.kept hS.2.1)
theorem z_callV (C : z_X G cc own Ts nL Γ) (E : z_E G rm mc ms nm ret Post Γ) {Cn : String} {T : u_T} {N ci : Nat} {fs : List Value} (hM : z_M G y ws rmC mcC msC (.ref a :: As) w PostC) (hG : GoodIn Ts (wsV own index Cn y ws)) (hw : ws = Cond.code y bytes maxL retC :: ws') (hrc : rmC.cells = mcC) (hrs : rmC.slots = msC)
    (hdn : y.cls = Cn ∧ y.cls ≠ "java/lang/invoke/MethodHandle" ∧ y.cls ≠ "java/lang/invoke/VarHandle" ∧ (parseMethodDescriptor y.desc).map (fun d => d.parameters.length) = some n) (hR : rmC.frames + 1 ≤ rm.frames ∧ 8 + (maxL + 11) + rmC.locals ≤ rm.locals)
    (hd : decode cc pc = .ok (.invokevirtual index, 3)) (hn : As.length = n) (hf : cells + mcC ≤ rm.cells ∧ slots + msC ≤ rm.slots) (hrest : (rest.map fun v => v.category).sum ≤ 8) (hc : vwCl[ci]? = some (Cn, T, N)) (ha : w.2 a = some (.inr (ci, fs)))
    (kk : ∀ (r : Option Value) (w' : zW), PostC r w' → z_J G nL Γ w' (cells + mcC) (slots + msC) (pc + 3) lv (r.toList ++ rest)) : z_J G nL Γ w cells slots pc lv (As.reverse ++ .ref a :: rest) := by
  have hR0 := E.1
  have hts := C.1.2.2.2.2
  intro H locs ls hH hS hl
  refine z_after C hl (va_runV (As := As) (rest := rest) C.1 hM (cwV n hts hG hw hrc hrs hdn (by rw [hR0]; exact hR)) ⟨z_Pc_blind G _ w, z_recv C hH ha hc, z_preC C hH hS _⟩ rfl hn hl.1 rfl (lv_room hrest) hd (by rw [hR0]; exact hf)) hS kk
theorem z_callS (C : z_X G cc own Ts nL Γ) (E : z_E G rm mc ms nm ret Post Γ) (hM : z_M G y ws rmC mcC msC As w PostC) (hG : GoodIn Ts (va_wsS own index y ws)) (hw : ws = Cond.code y bytes maxL retC :: ws') (hrc : rmC.cells = mcC) (hrs : rmC.slots = msC)
    (hdn : y.cls ≠ "java/lang/invoke/MethodHandle" ∧ y.cls ≠ "java/lang/invoke/VarHandle" ∧ (parseMethodDescriptor y.desc).map (fun d => d.parameters.length) = some n) (hR : rmC.frames + 1 ≤ rm.frames ∧ 8 + (maxL + 11) + rmC.locals ≤ rm.locals)
    (hd : decode cc pc = .ok (.invokestatic index, 3)) (hn : As.length = n) (hf : cells + mcC ≤ rm.cells ∧ slots + msC ≤ rm.slots) (hrest : (rest.map fun v => v.category).sum ≤ 8)
    (kk : ∀ (r : Option Value) (w' : zW), PostC r w' → z_J G nL Γ w' (cells + mcC) (slots + msC) (pc + 3) lv (r.toList ++ rest)) : z_J G nL Γ w cells slots pc lv (As.reverse ++ rest) := by
  have hR0 := E.1
  have hts := C.1.2.2.2.2
  intro H locs ls hH hS hl
  refine z_after C hl (va_runS (As := As) (rest := rest) C.1 hM (va_cwS n hts hG hw hrc hrs hdn (by rw [hR0]; exact hR)) ⟨z_Pc_blind G _ w, z_preC C hH hS _⟩ rfl hn hl.1 rfl (lv_room hrest) hd (by rw [hR0]; exact hf)) hS kk
theorem z_callSN (C : z_X G cc own Ts nL Γ) (E : z_E G rm mc ms nm ret Post Γ) (hM : z_M G y ws rmC mcC msC As w PostC) (hG : GoodIn Ts ws) (hw : ws = Cond.code y bytes maxL retC :: ws') (hrc : rmC.cells = mcC) (hrs : rmC.slots = msC) (hnest : (own, index, y) ∈ z_nest) (hini : Cond.initialized y.cls ∈ Ts) (hstat : Cond.static y ∈ Ts)
    (hdn : y.cls ≠ "java/lang/invoke/MethodHandle" ∧ y.cls ≠ "java/lang/invoke/VarHandle" ∧ (parseMethodDescriptor y.desc).map (fun d => d.parameters.length) = some n) (hR : rmC.frames + 1 ≤ rm.frames ∧ 8 + (maxL + 11) + rmC.locals ≤ rm.locals)
    (hd : decode cc pc = .ok (.invokestatic index, 3)) (hn : As.length = n) (hf : cells + mcC ≤ rm.cells ∧ slots + msC ≤ rm.slots) (hrest : (rest.map fun v => v.category).sum ≤ 8)
    (kk : ∀ (r : Option Value) (w' : zW), PostC r w' → z_J G nL Γ w' (cells + mcC) (slots + msC) (pc + 3) lv (r.toList ++ rest)) : z_J G nL Γ w cells slots pc lv (As.reverse ++ rest) := by
  have hR0 := E.1
  have hts := C.1.2.2.2.2
  have hNw := C.2.2.1.2.2.2.2.1 _ hnest
  intro H locs ls hH hS hl
  refine z_after C hl (va_runSN (As := As) (rest := rest) (host := "SortMerge") C.1 hM ⟨va_cnB n hts hG hw hrc hrs hNw (hts _ hini) hdn (by rw [hR0]; exact hR), hts _ hstat, trivial⟩ ⟨z_Pc_blind G _ w, z_preC C hH hS _⟩ rfl hn hl.1 rfl (lv_room hrest) hd (by rw [hR0]; exact hf)) hS kk
theorem z_callI (C : z_X G cc own Ts nL Γ) (E : z_E G rm mc ms nm ret Post Γ) (hM : z_M G y ws rmC mcC msC (.ref a :: As) w PostC) (hG : GoodIn Ts ws) (hw : ws = Cond.code y bytes maxL none :: ws') (hrc : rmC.cells = mcC) (hrs : rmC.slots = msC) (hini : Cond.initialized y.cls ∈ Ts) (hlk : Cond.methodLink own index y ∈ Ts) (hin : Cond.instanceMethod y ∈ Ts) (hy1 : y.name = "<init>")
    (hdn : y.cls ≠ "java/lang/invoke/MethodHandle" ∧ y.cls ≠ "java/lang/invoke/VarHandle" ∧ (parseMethodDescriptor y.desc).map (fun d => d.parameters.length) = some n) (hR : rmC.frames + 1 ≤ rm.frames ∧ 8 + (maxL + 11) + rmC.locals ≤ rm.locals)
    (hd : decode cc pc = .ok (.invokespecial index, 3)) (hn : As.length = n) (hf : cells + mcC ≤ rm.cells ∧ slots + msC ≤ rm.slots) (hrest : (rest.map fun v => v.category).sum ≤ 8)
    (kk : ∀ (r : Option Value) (w' : zW), PostC r w' → z_J G nL Γ w' (cells + mcC) (slots + msC) (pc + 3) lv (r.toList ++ rest)) : z_J G nL Γ w cells slots pc lv (As.reverse ++ .ref a :: rest) := by
  have hR0 := E.1
  have hts := C.1.2.2.2.2
  intro H locs ls hH hS hl
  refine z_after C hl (va_runI (As := As) (rest := rest) C.1 hM (cwI n hts hG hw hrc hrs (hts _ hini) (hts _ hlk) (hts _ hin) hy1 hdn (by rw [hR0]; exact hR)) ⟨z_Pc_blind G _ w, z_preC C hH hS _⟩ rfl hn hl.1 rfl (lv_room hrest) hd (by rw [hR0]; exact hf)) hS kk
theorem z_callIN (C : z_X G cc own Ts nL Γ) (E : z_E G rm mc ms nm ret Post Γ) (hM : z_M G y ws rmC mcC msC (.ref a :: As) w PostC) (hG : GoodIn Ts ws) (hw : ws = Cond.code y bytes maxL none :: ws') (hrc : rmC.cells = mcC) (hrs : rmC.slots = msC) (hnest : (own, index, y) ∈ z_nest) (hini : Cond.initialized y.cls ∈ Ts) (hin : Cond.instanceMethod y ∈ Ts) (hy1 : y.name = "<init>")
    (hdn : y.cls ≠ "java/lang/invoke/MethodHandle" ∧ y.cls ≠ "java/lang/invoke/VarHandle" ∧ (parseMethodDescriptor y.desc).map (fun d => d.parameters.length) = some n) (hR : rmC.frames + 1 ≤ rm.frames ∧ 8 + (maxL + 11) + rmC.locals ≤ rm.locals)
    (hd : decode cc pc = .ok (.invokespecial index, 3)) (hn : As.length = n) (hf : cells + mcC ≤ rm.cells ∧ slots + msC ≤ rm.slots) (hrest : (rest.map fun v => v.category).sum ≤ 8)
    (kk : ∀ (r : Option Value) (w' : zW), PostC r w' → z_J G nL Γ w' (cells + mcC) (slots + msC) (pc + 3) lv (r.toList ++ rest)) : z_J G nL Γ w cells slots pc lv (As.reverse ++ .ref a :: rest) := by
  have hR0 := E.1
  have hts := C.1.2.2.2.2
  have hNw := C.2.2.1.2.2.2.2.1 _ hnest
  intro H locs ls hH hS hl
  refine z_after C hl (va_runIN (As := As) (rest := rest) (host := "SortMerge") C.1 hM ⟨va_cnB n hts hG hw hrc hrs hNw (hts _ hini) hdn (by rw [hR0]; exact hR), hy1, hts _ hin⟩ ⟨z_Pc_blind G _ w, z_preC C hH hS _⟩ rfl hn hl.1 rfl (lv_room hrest) hd (by rw [hR0]; exact hf)) hS kk
theorem z_mmax (C : z_X G cc own Ts nL Γ) (E : z_E G rm mc ms nm ret Post Γ) {x y : Int32} (hlk : Cond.methodLink own index Lib.Math.max.name ∈ Ts) (hst : Cond.static Lib.Math.max.name ∈ Ts) (hini : Cond.initialized "java/lang/Math" ∈ Ts) (hcode : Cond.code Lib.Math.max.name Lib.Math.max.code 2 (some .int) ∈ Ts) (hR : 1 ≤ rm.frames ∧ 21 ≤ rm.locals) (hf : cells ≤ rm.cells ∧ slots ≤ rm.slots) (hrest : (rest.map fun v => v.category).sum ≤ 8) (hd : decode cc pc = .ok (.invokestatic index, 3))
    (kk : z_J G nL Γ w cells slots (pc + 3) lv (.int (if x < y then y else x) :: rest)) : z_J G nL Γ w cells slots pc lv (.int y :: .int x :: rest) := by
  have hR0 := E.1
  have hts := C.1.2.2.2.2
  intro H locs ls hH hS hl
  exact va_mmax C.1.1 C.1.2.1 (C.1.2.2.1.trans hl.1.symm) C.1.2.2.2.1 (hts _ hlk) (hts _ hst) (hts _ hini) (hts _ hcode) (by rw [hR0]; exact hR.1) (by rw [hR0]; omega) (by rw [hR0]; exact hf.1) (by rw [hR0]; exact hf.2) hd (kk H locs ls hH hS hl)
theorem z_mmin (C : z_X G cc own Ts nL Γ) (E : z_E G rm mc ms nm ret Post Γ) {x y : Int32} (hlk : Cond.methodLink own index Lib.Math.min.name ∈ Ts) (hst : Cond.static Lib.Math.min.name ∈ Ts) (hini : Cond.initialized "java/lang/Math" ∈ Ts) (hcode : Cond.code Lib.Math.min.name Lib.Math.min.code 2 (some .int) ∈ Ts) (hR : 1 ≤ rm.frames ∧ 21 ≤ rm.locals) (hf : cells ≤ rm.cells ∧ slots ≤ rm.slots) (hrest : (rest.map fun v => v.category).sum ≤ 8) (hd : decode cc pc = .ok (.invokestatic index, 3))
    (kk : z_J G nL Γ w cells slots (pc + 3) lv (.int (if y < x then y else x) :: rest)) : z_J G nL Γ w cells slots pc lv (.int y :: .int x :: rest) := by
  have hR0 := E.1
  have hts := C.1.2.2.2.2
  intro H locs ls hH hS hl
  exact va_mmin C.1.1 C.1.2.1 (C.1.2.2.1.trans hl.1.symm) C.1.2.2.2.1 (hts _ hlk) (hts _ hst) (hts _ hini) (hts _ hcode) (by rw [hR0]; exact hR.1) (by rw [hR0]; omega) (by rw [hR0]; exact hf.1) (by rw [hR0]; exact hf.2) hd (kk H locs ls hH hS hl)
end ZCALL
