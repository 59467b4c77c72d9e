/-! THE WORLD BY ADDRESSES, A JUDGEMENT OVER IT -/
/-- a cell: an array of a kind (0 int, 1 boolean, 2 long), or an object of a class of vwCl with its fields -/
abbrev zC : Type := (Nat × vp_A) ⊕ (Nat × List Value)
/-- a world: how many cells the heap has, and what some of them hold -/
abbrev zW : Type := Nat × (Nat → Option zC)
/-- launch, class ids and slots, array class ids, the first address that is ours -/
abbrev zG : Type := Launch × va_G × (Nat → ClassId) × Nat
abbrev zL : Type := List (Option Value)
def z_c (cA : Nat → ClassId) : zC → va_E
  | .inl q => .inl (cA q.1, q.2)
  | .inr o => .inr o
def z_up (w : zW) (k : Nat) (c : zC) : zW := (w.1, fun j => if j = k then some c else w.2 j)
def z_nw (w : zW) (c : zC) : zW := (w.1 + 1, fun j => if j = w.1 then some c else w.2 j)
def z_H (G : zG) (w : zW) (H : Heap) : Prop := H.size = w.1 ∧ ∀ (k : Nat) (c : zC), w.2 k = some c → G.2.2.2 ≤ k ∧ va_at G.2.1 vwCl (k, z_c G.2.2.1 c) H
def z_tys (G : zG) : List (ClassId × FieldType) := [(G.2.2.1 0, .int), (G.2.2.1 1, .boolean), (G.2.2.1 2, .long)]
def z_A (G : zG) : Nat → Prop := fun q => G.2.2.2 ≤ q
def z_L (ls : Array Slot) (nL : Nat) (lv : zL) : Prop := ls.size = nL ∧ lv_wf ls ∧ ∀ (i : Nat) (v : Value), lv[i]? = some (some v) → ls[i]? = some (.val v)
def z_as (lv : zL) : List (Nat × Value) := lv.zipIdx.filterMap (fun q => q.1.map (fun v => (q.2, v)))
theorem z_as_mem {lv : zL} {i : Nat} {v : Value} : (i, v) ∈ z_as lv ↔ lv[i]? = some (some v) := by
  unfold z_as
  rw [List.mem_filterMap]
  constructor
  · rintro ⟨⟨o, k⟩, hm, he⟩
    rw [List.mk_mem_zipIdx_iff_getElem?] at hm
    cases o with
    | none => simp at he
    | some u =>
      simp at he
      obtain ⟨rfl, rfl⟩ := he
      exact hm
  · intro h
    exact ⟨(some v, i), List.mk_mem_zipIdx_iff_getElem?.mpr h, rfl⟩
theorem z_L.has {ls : Array Slot} {nL : Nat} {lv : zL} (h : z_L ls nL lv) : lv_has ls nL (z_as lv) := ⟨h.1, h.2.1, fun q hq => h.2.2 q.1 q.2 (z_as_mem.mp hq)⟩
/-- no value of two slots stands just below -/
def z_ok1 (lv : zL) (i : Nat) : Bool := match i with
  | 0 => true
  | j + 1 => match lv[j]? with
    | some (some (.long _)) => false
    | some (some (.double _)) => false
    | _ => true
theorem z_ok1_cat {lv : zL} {j : Nat} {u : Value} (h : z_ok1 lv (j + 1) = true) (hj : lv[j]? = some (some u)) : ¬ u.category = 2 := by
  unfold z_ok1 at h
  simp only [hj] at h
  cases u <;> simp_all [Value.category]
theorem z_L.st1 {ls' : Array Slot} {nL : Nat} {lv : zL} {i : Nat} {v : Value} (hk : z_ok1 lv i = true) (h : lv_has ls' nL ((i, v) :: (z_as lv).filter (fun q => !(q.1 == i) && !(q.1 + 1 == i && q.2.category == 2)))) : z_L ls' nL (lv.set i (some v)) := by
  refine ⟨h.1, h.2.1, fun j u hj => ?_⟩
  rw [List.getElem?_set] at hj
  by_cases e : i = j
  · subst e
    rw [if_pos rfl] at hj
    split at hj
    · cases hj; exact h.2.2 (i, v) List.mem_cons_self
    · cases hj
  · rw [if_neg e] at hj
    refine h.2.2 (j, u) (List.mem_cons_of_mem _ (List.mem_filter.mpr ⟨z_as_mem.mpr hj, ?_⟩))
    have h1 : (j == i) = false := by simp; exact fun h => e h.symm
    by_cases e2 : j + 1 = i
    · subst e2
      have := z_ok1_cat hk hj
      simp [this]
    · have h2 : (j + 1 == i) = false := by simp; exact e2
      simp only [h1, h2]; rfl
theorem z_L.st2 {ls' : Array Slot} {nL : Nat} {lv : zL} {i : Nat} {v : Value} (hk : z_ok1 lv i = true) (h : lv_has ls' nL ((i, v) :: (z_as lv).filter (fun q => !(q.1 == i) && (!(q.1 == i + 1) && !(q.1 + 1 == i && q.2.category == 2))))) : z_L ls' nL ((lv.set i (some v)).set (i + 1) none) := by
  refine ⟨h.1, h.2.1, fun j u hj => ?_⟩
  rw [List.getElem?_set] at hj
  by_cases e3 : i + 1 = j
  · rw [if_pos e3] at hj
    split at hj
    · cases hj
    · cases hj
  · rw [if_neg e3, List.getElem?_set] at hj
    by_cases e : i = j
    · subst e
      rw [if_pos rfl] at hj
      split at hj
      · cases hj; exact h.2.2 (i, v) List.mem_cons_self
      · cases hj
    · rw [if_neg e] at hj
      refine h.2.2 (j, u) (List.mem_cons_of_mem _ (List.mem_filter.mpr ⟨z_as_mem.mpr hj, ?_⟩))
      have h1 : (j == i) = false := by simp; exact fun h => e h.symm
      have h3 : (j == i + 1) = false := by simp; exact fun h => e3 h.symm
      by_cases e2 : j + 1 = i
      · subst e2
        have := z_ok1_cat hk hj
        simp [this]
        omega
      · have h2 : (j + 1 == i) = false := by simp; exact e2
        simp only [h1, h2, h3]; rfl
theorem z_L.sub {ls : Array Slot} {nL : Nat} {lv lv' : zL} (h : z_L ls nL lv) (hs : ∀ (i : Nat) (v : Value), lv'[i]? = some (some v) → lv[i]? = some (some v)) : z_L ls nL lv' := ⟨h.1, h.2.1, fun i v hi => h.2.2 i v (hs i v hi)⟩
/-- the locals at a method's entry -/
def z_ent (vs : List Value) : zL := vs.flatMap (fun v => if v.category = 2 then [some v, none] else [some v])
theorem z_ent_args (vs : List Value) (k : Nat) : ∀ (i : Nat) (v : Value), (z_ent vs)[i]? = some (some v) → (k + i, v) ∈ lv_args k vs := by
  induction vs generalizing k with
  | nil => intro i v h; simp [z_ent] at h
  | cons a t ih =>
    intro i v h
    unfold z_ent at h
    rw [List.flatMap_cons] at h
    by_cases hc : a.category = 2
    · rw [if_pos hc] at h
      match i, h with
      | 0, h => simp at h; subst h; simp [lv_args]
      | 1, h => simp at h
      | i + 2, h =>
        have h2 := ih (k + 2) i v (by unfold z_ent; simpa using h)
        have e : k + (i + 2) = k + 2 + i := by omega
        rw [e]
        simp only [lv_args, hc]
        exact List.mem_cons_of_mem _ h2
    · rw [if_neg hc] at h
      have hc1 : a.category = 1 := (lv_cat a).resolve_right hc
      match i, h with
      | 0, h => simp at h; subst h; simp [lv_args]
      | i + 1, h =>
        have h2 := ih (k + 1) i v (by unfold z_ent; simpa using h)
        have e : k + (i + 1) = k + 1 + i := by omega
        rw [e]
        simp only [lv_args, hc1]
        exact List.mem_cons_of_mem _ h2
