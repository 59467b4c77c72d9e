/-- z_run under a plain name -/
def z_rn (tb : Nat → zI) (cut : List Nat) (K : Nat → zL → List Value → zW → Prop) (Rt : Option Value → zW → Prop) (k pc : Nat) (lv : zL) (st : List Value) (w : zW) : Prop := z_run tb cut K Rt k pc lv st w
theorem z_rn_s (tb : Nat → zI) (cut : List Nat) (K : Nat → zL → List Value → zW → Prop) (Rt : Option Value → zW → Prop) (k pc : Nat) (lv : zL) (st : List Value) (w : zW) : z_rn tb cut K Rt (k + 1) pc lv st w = bif z_in cut pc then K pc lv st w else z_st1 (tb pc) pc lv st w (z_rn tb cut K Rt k) K Rt := by
  unfold z_rn
  rw [z_run]
  cases z_in cut pc <;> simp
theorem z_rn_t (tb : Nat → zI) (cut : List Nat) (K : Nat → zL → List Value → zW → Prop) (Rt : Option Value → zW → Prop) (k pc : Nat) (lv : zL) (st : List Value) (w : zW) (h : z_in cut pc = true) : z_rn tb cut K Rt (k + 1) pc lv st w = K pc lv st w := by rw [z_rn_s, h]; rfl
theorem z_rn_f (tb : Nat → zI) (cut : List Nat) (K : Nat → zL → List Value → zW → Prop) (Rt : Option Value → zW → Prop) (k pc : Nat) (lv : zL) (st : List Value) (w : zW) (h : z_in cut pc = false) : z_rn tb cut K Rt (k + 1) pc lv st w = z_st1 (tb pc) pc lv st w (z_rn tb cut K Rt k) K Rt := by rw [z_rn_s, h]; rfl
theorem z_rn_0 (tb : Nat → zI) (cut : List Nat) (K : Nat → zL → List Value → zW → Prop) (Rt : Option Value → zW → Prop) (pc : Nat) (lv : zL) (st : List Value) (w : zW) : z_rn tb cut K Rt 0 pc lv st w = K pc lv st w := by
  unfold z_rn
  rw [z_run]
theorem z_gn {G : zG} {cc : ByteArray} {own : String} {Ts : List Cond} {nL : Nat} {Γ : zΓ} {w : zW} {cells slots pc : Nat} {lv : zL} {st : List Value} {rm : Room} {mc ms : Nat} {nm : String} {ret : Option FieldType} {Post : Option Value → zW → Prop} (C : z_X G cc own Ts nL Γ) (E : z_E G rm mc ms nm ret Post Γ) {N : Nat} {tb : Nat → zI} (hT : z_tab own Ts nL ret cc N tb) (hc : cells ≤ mc) (hs : slots ≤ ms) (cut : List Nat) (k : Nat) (h : z_st1 (tb pc) pc lv st w (z_rn tb cut (fun pc lv st w => z_J G nL Γ w cells slots pc lv st) Post k) (fun pc lv st w => z_J G nL Γ w cells slots pc lv st) Post) : z_J G nL Γ w cells slots pc lv st :=
  z_go C E hT hc hs cut k h
theorem zr_in0 (pc : Nat) : z_in [] pc = false := id rfl
theorem zr_ins (x : Nat) (xs : List Nat) : z_in (x :: xs) x = true := by simp [z_in]
theorem zr_inn (x pc : Nat) (xs : List Nat) (h : ¬ pc = x) : z_in (x :: xs) pc = z_in xs pc := by simp [z_in, h]
theorem zr_bt (a b : Prop) : (bif true then a else b) = a := id rfl
theorem zr_bf (a b : Prop) : (bif false then a else b) = b := id rfl
theorem zr_li0 (x : Int32) (lv : zL) (f : Int32 → Prop) : z_li (some (.int x) :: lv) 0 f = f x := id rfl
theorem zr_lis (q : Option Value) (lv : zL) (k : Nat) (f : Int32 → Prop) : z_li (q :: lv) (k + 1) f = z_li lv k f := id rfl
theorem zr_la0 (x : Nat) (lv : zL) (f : Nat → Prop) : z_la (some (.ref x) :: lv) 0 f = f x := id rfl
theorem zr_las (q : Option Value) (lv : zL) (k : Nat) (f : Nat → Prop) : z_la (q :: lv) (k + 1) f = z_la lv k f := id rfl
theorem zr_ll0 (x : Int64) (lv : zL) (f : Int64 → Prop) : z_ll (some (.long x) :: lv) 0 f = f x := id rfl
theorem zr_lls (q : Option Value) (lv : zL) (k : Nat) (f : Int64 → Prop) : z_ll (q :: lv) (k + 1) f = z_ll lv k f := id rfl
theorem zr_1i (x : Int32) (r : List Value) (f : Int32 → List Value → Prop) : z_1i (.int x :: r) f = f x r := id rfl
theorem zr_1l (x : Int64) (r : List Value) (f : Int64 → List Value → Prop) : z_1l (.long x :: r) f = f x r := id rfl
theorem zr_1a (x : Nat) (r : List Value) (f : Nat → List Value → Prop) : z_1a (.ref x :: r) f = f x r := id rfl
theorem zr_2i (x : Int32) (y : Int32) (r : List Value) (f : Int32 → Int32 → List Value → Prop) : z_2i (.int y :: .int x :: r) f = f x y r := id rfl
theorem zr_2l (x : Int64) (y : Int64) (r : List Value) (f : Int64 → Int64 → List Value → Prop) : z_2l (.long y :: .long x :: r) f = f x y r := id rfl
theorem zr_lsi (x : Int64) (y : Int32) (r : List Value) (f : Int64 → Int32 → List Value → Prop) : z_lsi (.int y :: .long x :: r) f = f x y r := id rfl
theorem zr_ia (x : Nat) (y : Int32) (r : List Value) (f : Nat → Int32 → List Value → Prop) : z_ia (.int y :: .ref x :: r) f = f x y r := id rfl
theorem zr_aa (x : Nat) (y : Nat) (r : List Value) (f : Nat → Nat → List Value → Prop) : z_aa (.ref y :: .ref x :: r) f = f x y r := id rfl
theorem zr_dia (x : Nat) (y : Int32) (r : List Value) (f : Nat → Int32 → List Value → Prop) : z_dia (.int y :: .ref x :: r) f = f x y r := id rfl
theorem zr_iia (a : Nat) (i x : Int32) (r : List Value) (f : Nat → Int32 → Int32 → List Value → Prop) : z_iia (.int x :: .int i :: .ref a :: r) f = f a i x r := id rfl
theorem zr_lia (a : Nat) (i : Int32) (x : Int64) (r : List Value) (f : Nat → Int32 → Int64 → List Value → Prop) : z_lia (.long x :: .int i :: .ref a :: r) f = f a i x r := id rfl
theorem zr_d1i (x : Int32) (r : List Value) (f : Value → List Value → Prop) : z_d1 (.int x :: r) f = f (.int x) r := id rfl
theorem zr_d1r (x : Nat) (r : List Value) (f : Value → List Value → Prop) : z_d1 (.ref x :: r) f = f (.ref x) r := id rfl
theorem zr_e1 (x : Int32) (f : Int32 → Prop) : z_e1 [.int x] f = f x := id rfl
theorem zr_e2 (x : Int64) (f : Int64 → Prop) : z_e2 [.long x] f = f x := id rfl
theorem zr_e0 (f : Prop) : z_e0 [] f = f := id rfl
theorem zr_f0 (v : Value) (fs : List Value) (f : Value → Prop) : z_fl (v :: fs) 0 f = f v := id rfl
theorem zr_fs (v : Value) (fs : List Value) (k : Nat) (f : Value → Prop) : z_fl (v :: fs) (k + 1) f = z_fl fs k f := id rfl
theorem zr_s0 {α : Type} (a v : α) (l : List α) : (a :: l).set 0 v = v :: l := id rfl
theorem zr_ss {α : Type} (a v : α) (l : List α) (k : Nat) : (a :: l).set (k + 1) v = a :: l.set k v := id rfl
theorem zr_len {α : Type} (a : α) (l : List α) (k : Nat) : (k + 1 < (a :: l).length) = (k < l.length) := by simp
theorem zr_len0 {α : Type} (a : α) (l : List α) : (0 < (a :: l).length) = True := by simp
theorem zr_ok0 (lv : zL) : z_ok1 lv 0 = true := id rfl
theorem zr_okn (lv : zL) : z_ok1 (none :: lv) 1 = true := id rfl
theorem zr_oki (x : Int32) (lv : zL) : z_ok1 (some (.int x) :: lv) 1 = true := id rfl
theorem zr_okr (x : Nat) (lv : zL) : z_ok1 (some (.ref x) :: lv) 1 = true := id rfl
theorem zr_oks (q : Option Value) (lv : zL) (k : Nat) : z_ok1 (q :: lv) (k + 2) = z_ok1 lv (k + 1) := id rfl
theorem zr_tt (p : Prop) : (true = true ∧ p) = p := by simp
theorem zh_ar0 {w : zW} {a n : Nat} {g : Nat → Int32} (h : w.2 a = some (.inl (0, n, .inl g))) (f : Nat → (Nat → Int32) → Prop) : z_ar0 w a f = f n g := by simp only [z_ar0, h]
theorem zr_ar0u (w : zW) (a n : Nat) (g : Nat → Int32) (f : Nat → (Nat → Int32) → Prop) : z_ar0 (z_up w a (.inl (0, n, .inl g))) a f = f n g := by simp [z_ar0, z_up]
theorem zr_ar0n (w : zW) (a k : Nat) (c : zC) (f : Nat → (Nat → Int32) → Prop) (h : ¬ a = k) : z_ar0 (z_up w k c) a f = z_ar0 w a f := by simp [z_ar0, z_up, h]
theorem zh_ar1 {w : zW} {a n : Nat} {g : Nat → Int32} (h : w.2 a = some (.inl (1, n, .inl g))) (f : Nat → (Nat → Int32) → Prop) : z_ar1 w a f = f n g := by simp only [z_ar1, h]
theorem zr_ar1u (w : zW) (a n : Nat) (g : Nat → Int32) (f : Nat → (Nat → Int32) → Prop) : z_ar1 (z_up w a (.inl (1, n, .inl g))) a f = f n g := by simp [z_ar1, z_up]
theorem zr_ar1n (w : zW) (a k : Nat) (c : zC) (f : Nat → (Nat → Int32) → Prop) (h : ¬ a = k) : z_ar1 (z_up w k c) a f = z_ar1 w a f := by simp [z_ar1, z_up, h]
theorem zh_ar2 {w : zW} {a n : Nat} {g : Nat → Int64} (h : w.2 a = some (.inl (2, n, .inr (.inl g)))) (f : Nat → (Nat → Int64) → Prop) : z_ar2 w a f = f n g := by simp only [z_ar2, h]
theorem zr_ar2u (w : zW) (a n : Nat) (g : Nat → Int64) (f : Nat → (Nat → Int64) → Prop) : z_ar2 (z_up w a (.inl (2, n, .inr (.inl g)))) a f = f n g := by simp [z_ar2, z_up]
theorem zr_ar2n (w : zW) (a k : Nat) (c : zC) (f : Nat → (Nat → Int64) → Prop) (h : ¬ a = k) : z_ar2 (z_up w k c) a f = z_ar2 w a f := by simp [z_ar2, z_up, h]
theorem zh_ob {w : zW} {a ci : Nat} {fs : List Value} (h : w.2 a = some (.inr (ci, fs))) (f : List Value → Prop) : z_ob w a ci f = f fs := by simp only [z_ob, h, true_and]
theorem zr_obu (w : zW) (a ci : Nat) (fs : List Value) (f : List Value → Prop) : z_ob (z_up w a (.inr (ci, fs))) a ci f = f fs := by simp [z_ob, z_up]
theorem zr_obn (w : zW) (a k ci : Nat) (c : zC) (f : List Value → Prop) (h : ¬ a = k) : z_ob (z_up w k c) a ci f = z_ob w a ci f := by simp [z_ob, z_up, h]
