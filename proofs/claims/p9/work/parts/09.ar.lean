theorem z_up_2 (w : zW) (k : Nat) (c : zC) (j : Nat) : (z_up w k c).2 j = if j = k then some c else w.2 j := rfl
theorem z_up_1 (w : zW) (k : Nat) (c : zC) : (z_up w k c).1 = w.1 := rfl
theorem z_up_up (w : zW) (k : Nat) (c d : zC) : z_up (z_up w k c) k d = z_up w k d := by
  unfold z_up
  refine Prod.ext rfl ?_
  funext j
  by_cases h : j = k <;> simp [h]
theorem z_up_same {w : zW} {k : Nat} {c : zC} (h : w.2 k = some c) : z_up w k c = w := by
  unfold z_up
  refine Prod.ext rfl ?_
  funext j
  by_cases e : j = k
  · subst e; simp [h]
  · simp [e]
theorem zi_add {x y : Int32} (h1 : -2147483648 ≤ x.toInt + y.toInt) (h2 : x.toInt + y.toInt < 2147483648) : (x + y).toInt = x.toInt + y.toInt := by
  rw [Int32.toInt_add]
  exact Int.bmod_eq_of_le (by omega) (by omega)
theorem zi_sub {x y : Int32} (h1 : -2147483648 ≤ x.toInt - y.toInt) (h2 : x.toInt - y.toInt < 2147483648) : (x - y).toInt = x.toInt - y.toInt := by
  rw [Int32.toInt_sub]
  exact Int.bmod_eq_of_le (by omega) (by omega)
theorem zi_mul {x y : Int32} (h1 : -2147483648 ≤ x.toInt * y.toInt) (h2 : x.toInt * y.toInt < 2147483648) : (x * y).toInt = x.toInt * y.toInt := by
  rw [Int32.toInt_mul]
  exact Int.bmod_eq_of_le (by omega) (by omega)
theorem zi_lt {x y : Int32} : x < y ↔ x.toInt < y.toInt := Int32.lt_iff_toInt_lt
theorem zi_le {x y : Int32} : x ≤ y ↔ x.toInt ≤ y.toInt := Int32.le_iff_toInt_le
theorem zi_0 : (0 : Int32).toInt = 0 := by decide
theorem zi_1 : (1 : Int32).toInt = 1 := by decide
theorem zi_m1 : (-1 : Int32).toInt = -1 := by decide
theorem zi_2 : (2 : Int32).toInt = 2 := by decide
theorem zi_32 : (32 : Int32).toInt = 32 := by decide
theorem zi_eq {x y : Int32} : x = y ↔ x.toInt = y.toInt := Int32.toInt_inj.symm
theorem zi_nat {x : Int32} (h : 0 ≤ x.toInt) : (x.toNatClampNeg : Int) = x.toInt := by
  have : x.toNatClampNeg = x.toInt.toNat := rfl
  rw [this]
  omega
theorem zi_nat_lt {x : Int32} {n : Nat} (h : vp_in x n) : x.toNatClampNeg < n := by
  have h1 := vp_in_iff.mp h
  have h2 := zi_nat h1.1
  omega
theorem zi_max {x y : Int32} : (if x < y then y else x).toInt = max x.toInt y.toInt := by
  split <;> rename_i h <;> rw [zi_lt] at h <;> omega
theorem zi_min {x y : Int32} : (if y < x then y else x).toInt = min x.toInt y.toInt := by
  split <;> rename_i h <;> rw [zi_lt] at h <;> omega
/-- only these addresses may have changed -/
def z_fr (S : List Nat) (w w' : zW) : Prop := w'.1 = w.1 ∧ ∀ k, k ∉ S → w'.2 k = w.2 k
/-- locals behind the arguments -/
theorem z_lvp {av : List Value} (k : Nat) : ∀ (i : Nat) (v : Value), (z_ent av ++ List.replicate k none)[i]? = some (some v) → (z_ent av)[i]? = some (some v) := by
  intro i v h
  rw [List.getElem?_append] at h
  split at h
  · exact h
  · rw [List.getElem?_replicate] at h
    split at h <;> cases h
/-- a contract, its end held as a word of its own; k locals behind the arguments -/
theorem z_mt {G : zG} {y : MethodName} {ws ws' : List Cond} {rm : Room} {mc ms : Nat} {av : List Value} {w : zW} {Post : Option Value → zW → Prop} {cc : ByteArray} {nL : Nat} {ret : Option FieldType}
    (hy : plainName y.cls = true) (hw : ws = Cond.code y cc nL ret :: ws') (hlen : (lg_sl av).length ≤ nL) (k : Nat) (lv : zL) (hlv : z_ent av ++ List.replicate k none = lv)
    (body : ∀ P : Option Value → zW → Prop, (∀ x w', Post x w' → P x w') → ∀ Γ : zΓ, z_X G cc y.cls ws nL Γ → z_E G rm mc ms y.name ret P Γ → z_J G nL Γ w 0 0 0 lv []) : z_M G y ws rm mc ms av w Post :=
  z_met hy hw hlen lv (fun i v h => z_lvp k i v (by rw [hlv]; exact h)) (body Post (fun _ _ h => h))
