/-! THE CLASS IN ANY STATE -/
def zrK (f c s l : Nat) : Room := { frames := f, cells := c, slots := s, locals := l }
theorem zLi.fr {b : Nat} {w w' : zW} {held runs asc : Int32} (h : zLi b w held runs asc) (S : List Nat) (hf : z_fr S w w') (hS : ∀ k ∈ S, b + 18 < k ∨ k < b + 14) : zLi b w' held runs asc := by
  obtain ⟨⟨f1, f2, f3, f4, h0, h1, h2, h3, h4, hq⟩, ht⟩ := h
  have g : ∀ k, b + 14 ≤ k → k ≤ b + 18 → w'.2 k = w.2 k := fun k a1 a2 => hf.2 k (fun q => by have := hS k q; omega)
  exact ⟨⟨f1, f2, f3, f4, (g _ (by omega) (by omega)).trans h0, (g _ (by omega) (by omega)).trans h1, (g _ (by omega) (by omega)).trans h2, (g _ (by omega) (by omega)).trans h3, (g _ (by omega) (by omega)).trans h4, hq⟩, ht⟩
def zCo (b : Nat) (w : zW) : Prop := ∃ p o v, w.2 (b + 19) = some (.inr (1, [.int p, .int o, .int v]))
def zEx (t : Nat) (w : zW) : Prop := ∃ d f c, w.2 t = some (.inr (2, [.int d, .int f, .int c]))
def zTa (t : Nat) (w : zW) : Prop := ∃ x1 x2 x3 x4 x5, w.2 t = some (.inr (8, [.int x1, .int x2, .int x3, .int x4, .int x5]))
def zRl (b : Nat) (w : zW) : Prop := ∃ f, w.2 (b + 29) = some (.inl (0, 1000, .inl f))
def zCp (b : Nat) (w : zW) : Prop := ∃ hc fn fl fb, zRo w (b + 1) (b + 2) (b + 3) (b + 4) 1600 hc fn fl fb
def zRe (b : Nat) (w : zW) (rc : Int32) (fl : Nat → Int32) : Prop := ∃ fn fb, zRo w (b + 10) (b + 11) (b + 12) (b + 13) 400 rc fn fl fb
/-- all but the object itself -/
def zRest (b : Nat) (w : zW) (rc su : Int32) (fl : Nat → Int32) : Prop := zCp b w ∧ zRe b w rc fl ∧ (∃ told, zKy b w told) ∧ (∃ held runs asc, zLi b w held runs asc) ∧ zCo b w ∧ zSu b w su ∧ zEx (b + 24) w ∧ zEx (b + 25) w ∧ zIn b w ∧ zRl b w ∧ zTa (b + 30) w ∧ zTa (b + 31) w
/-- the object's cell -/
def zSM (b : Nat) (rel ar wy st tk hd fa : Int32) (t1 t2 : Nat) : zC := .inr (9, [.ref (b + 10), .ref (b + 1), .ref (b + 5), .ref (b + 14), .ref (b + 19), .ref (b + 20), .ref (b + 24), .ref (b + 25), .ref (b + 26), .ref (b + 29), .int rel, .int ar, .int wy, .int st, .int tk, .int hd, .int fa, .ref t1, .ref t2])
def zOk (b : Nat) (rel ar wy tk : Int32) (t1 t2 : Nat) : Prop := (0 ≤ rel.toInt ∧ rel.toInt ≤ 1000) ∧ (1 ≤ ar.toInt ∧ ar.toInt ≤ 1000) ∧ (2 ≤ wy.toInt ∧ wy.toInt ≤ 16) ∧ (0 ≤ tk.toInt ∧ tk.toInt ≤ 1600) ∧ ((t1 = b + 30 ∧ t2 = b + 31) ∨ (t1 = b + 31 ∧ t2 = b + 30))
def zCl (b : Nat) (w : zW) (wy rc su : Int32) (fl : Nat → Int32) : Prop := (∃ rel ar st tk hd fa t1 t2, w.2 b = some (zSM b rel ar wy st tk hd fa t1 t2) ∧ zOk b rel ar wy tk t1 t2) ∧ zRest b w rc su fl
theorem zCo.fr {b : Nat} {w w' : zW} (h : zCo b w) (S : List Nat) (hf : z_fr S w w') (hS : b + 19 ∉ S) : zCo b w' := by
  obtain ⟨p, o, v, h⟩ := h
  exact ⟨p, o, v, (hf.2 _ hS).trans h⟩
theorem zEx.fr {t : Nat} {w w' : zW} (h : zEx t w) (S : List Nat) (hf : z_fr S w w') (hS : t ∉ S) : zEx t w' := by
  obtain ⟨p, o, v, h⟩ := h
  exact ⟨p, o, v, (hf.2 _ hS).trans h⟩
theorem zTa.fr {t : Nat} {w w' : zW} (h : zTa t w) (S : List Nat) (hf : z_fr S w w') (hS : t ∉ S) : zTa t w' := by
  obtain ⟨x1, x2, x3, x4, x5, h⟩ := h
  exact ⟨x1, x2, x3, x4, x5, (hf.2 _ hS).trans h⟩
theorem zRl.fr {b : Nat} {w w' : zW} (h : zRl b w) (S : List Nat) (hf : z_fr S w w') (hS : b + 29 ∉ S) : zRl b w' := by
  obtain ⟨f, h⟩ := h
  exact ⟨f, (hf.2 _ hS).trans h⟩
theorem zCp.fr {b : Nat} {w w' : zW} (h : zCp b w) (S : List Nat) (hf : z_fr S w w') (hS : b + 1 ∉ S ∧ b + 2 ∉ S ∧ b + 3 ∉ S ∧ b + 4 ∉ S) : zCp b w' := by
  obtain ⟨hc, fn, fl, fb, h⟩ := h
  exact ⟨hc, fn, fl, fb, h.fr S hf hS⟩
theorem zRe.fr {b : Nat} {w w' : zW} {rc : Int32} {fl : Nat → Int32} (h : zRe b w rc fl) (S : List Nat) (hf : z_fr S w w') (hS : b + 10 ∉ S ∧ b + 11 ∉ S ∧ b + 12 ∉ S ∧ b + 13 ∉ S) : zRe b w' rc fl := by
  obtain ⟨fn, fb, h⟩ := h
  exact ⟨fn, fb, h.fr S hf hS⟩
/-- only the object has changed -/
theorem zRest.fr0 {b : Nat} {w w' : zW} {rc su : Int32} {fl : Nat → Int32} (h : zRest b w rc su fl) (hf : z_fr [b] w w') : zRest b w' rc su fl := by
  obtain ⟨h1, h2, ⟨td, h3⟩, ⟨he, rn, as, h4⟩, h5, h6, h7, h8, h9, h10, h11, h12⟩ := h
  exact ⟨h1.fr _ hf (by simp), h2.fr _ hf (by simp), ⟨td, h3.fr _ hf (by intro k hk; simp at hk; omega)⟩, ⟨he, rn, as, h4.fr _ hf (by intro k hk; simp at hk; omega)⟩, h5.fr _ hf (by simp), h6.fr _ hf (by intro k hk; simp at hk; omega), h7.fr _ hf (by simp), h8.fr _ hf (by simp), h9.fr _ hf (by intro k hk; simp at hk; omega), h10.fr _ hf (by simp), h11.fr _ hf (by simp), h12.fr _ hf (by simp)⟩
/-- nothing but the class has changed -/
def zKc (b : Nat) (w w' : zW) : Prop := w.1 ≤ w'.1 ∧ ∀ k, b + 32 ≤ k → w'.2 k = w.2 k
theorem zKc.rf (b : Nat) (w : zW) : zKc b w w := ⟨Nat.le_refl _, fun _ _ => rfl⟩
theorem zKc.fr {b : Nat} {w w' w2 : zW} (h : zKc b w w') {S : List Nat} (hf : z_fr S w' w2) (hS : ∀ k, k ∈ S → k < b + 32) : zKc b w w2 := ⟨by rw [hf.1]; exact h.1, fun k hk => by
  rw [hf.2 k (fun hm => by have := hS k hm; omega)]
  exact h.2 k hk⟩
theorem zKc.up {b : Nat} {w w' : zW} (h : zKc b w w') (j : Nat) (c : zC) (hj : j < b + 32) : zKc b w (z_up w' j c) := ⟨h.1, fun k hk => by
  rw [z_up_2, if_neg (by omega)]
  exact h.2 k hk⟩
theorem zn_a (b k : Nat) : (b + (k + 1) = b) = False := by simp
theorem zn_b (b k : Nat) : (b = b + (k + 1)) = False := by simp
theorem zq1 : ((0 : Int32) = 1) = False := eq_false (by decide)
theorem zq2 : ((0 : Int32) = 2) = False := eq_false (by decide)
theorem zq3 : ((0 : Int32) = 4) = False := eq_false (by decide)
theorem zq4 : ((0 : Int32) = 8) = False := eq_false (by decide)
theorem zq5 : ((0 : Int32) = 400) = False := eq_false (by decide)
theorem zq6 : ((0 : Int32) = (-1)) = False := eq_false (by decide)
theorem zq7 : ((1 : Int32) = 0) = False := eq_false (by decide)
def zFld (fr sz mx : Int32) : Int32 := if 0 ≤ fr.toInt ∧ fr.toInt < 32 ∧ 1 ≤ sz.toInt ∧ sz.toInt ≤ mx.toInt ∧ sz.toInt ≤ (32 - fr).toInt then 1 else 0
theorem zFld_01 (fr sz mx : Int32) : zFld fr sz mx = 0 ∨ zFld fr sz mx = 1 := by
  unfold zFld
  split
  · exact Or.inr rfl
  · exact Or.inl rfl
set_option maxRecDepth 100000 in
set_option maxHeartbeats 1000000 in
theorem c_isField (G : zG) (w : zW) (fr sz mx : Int32) :
    z_M G yX8_isField wsX8_isField zrm0 0 0 [.int fr, .int sz, .int mx] w (fun x w' => x = some (.int (zFld fr sz mx)) ∧ w' = w) := by
  refine z_mt (nL := 3) (cc := cX8_isField) (ret := some .boolean) (by decide) rfl (Nat.le_of_ble_eq_true rfl) 0 [some (.int fr), some (.int sz), some (.int mx)] rfl ?_
  intro P hP Γ C E
  refine z_gn C E tkX8_isField (Nat.zero_le _) (Nat.zero_le _) [] 60 ?_
  simp only [↓z_rn_f, ↓z_rn_t, ↓z_rn_0, ↓zr_in0, ↓zr_ins, ↓zr_inn, ↓zr_bt, ↓zr_bf, ↓zr_li0, ↓zr_lis, ↓zr_la0, ↓zr_las, ↓zr_ll0, ↓zr_lls, ↓zr_1i, ↓zr_1l, ↓zr_1a, ↓zr_2i, ↓zr_2l, ↓zr_lsi, ↓zr_ia, ↓zr_aa, ↓zr_dia, ↓zr_iia, ↓zr_lia, ↓zr_d1i, ↓zr_d1r, ↓zr_e1, ↓zr_e2, ↓zr_e0, ↓zr_f0, ↓zr_fs, ↓zr_s0, ↓zr_ss, ↓zr_len, ↓zr_len0, ↓zr_ok0, ↓zr_okn, ↓zr_oki, ↓zr_okr, ↓zr_oks, ↓zr_tt, ↓zr_ar0u, ↓zr_ar0n, ↓zr_ar1u, ↓zr_ar1n, ↓zr_ar2u, ↓zr_ar2n, ↓zr_obu, ↓zr_obn, ↓Nat.reduceAdd, Nat.reduceEqDiff, Nat.add_left_cancel_iff, not_false_eq_true, z_up_up, true_and, ↓sX8_isField_0, ↓sX8_isField_1, ↓sX8_isField_4, ↓sX8_isField_5, ↓sX8_isField_7, ↓sX8_isField_10, ↓sX8_isField_11, ↓sX8_isField_12, ↓sX8_isField_15, ↓sX8_isField_16, ↓sX8_isField_17, ↓sX8_isField_20, ↓sX8_isField_21, ↓sX8_isField_23, ↓sX8_isField_24, ↓sX8_isField_25, ↓sX8_isField_28, ↓sX8_isField_29, ↓sX8_isField_32, ↓sX8_isField_33, zn_a, zn_b, zq1, zq2, zq3, zq4, zq5, zq6, zq7, eq_self, Int32.reduceLT, Int32.reduceLE, Int32.reduceAdd, not_true_eq_false, not_false_eq_true, false_implies, true_implies, and_true, true_and, or_true, true_or]
  repeat' first | refine And.intro ?_ ?_ | (show _ → _; intro _)
  all_goals try (first | exact Or.inl rfl | exact Or.inr rfl)
  all_goals try simp only [zi_lt, zi_le, zi_eq, Int32.reduceToInt] at *
  all_goals first | exact Or.inl rfl | exact Or.inr rfl | (refine hP _ _ ⟨?_, rfl⟩; unfold zFld; first | rw [if_pos (by omega)] | rw [if_neg (by omega)])
set_option maxRecDepth 100000 in
set_option maxHeartbeats 1000000 in
theorem k_ways (G : zG) (w : zW) (b : Nat) (n wy rc su : Int32) (fl : Nat → Int32) (h : zCl b w wy rc su fl) :
    z_M G yX8_ways wsX8_ways zrm0 0 0 [.ref b, .int n] w (fun x w' => zKc b w w' ∧ ((2 ≤ n.toInt ∧ n.toInt ≤ 16 ∧ x = some (.int wy) ∧ zCl b w' n rc su fl) ∨ (¬ (2 ≤ n.toInt ∧ n.toInt ≤ 16) ∧ x = some (.int (-4)) ∧ zCl b w' wy rc su fl))) := by
  obtain ⟨⟨rel, ar, st, tk, hd, fa, t1, t2, h0, hok⟩, hR⟩ := id h
  unfold zSM at h0
  refine z_mt (nL := 3) (cc := cX8_ways) (ret := some .int) (by decide) rfl (Nat.le_of_ble_eq_true rfl) 1 [some (.ref b), some (.int n), none] rfl ?_
  intro P hP Γ C E
  refine z_gn C E tkX8_ways (Nat.zero_le _) (Nat.zero_le _) [] 60 ?_
  simp only [↓z_rn_f, ↓z_rn_t, ↓z_rn_0, ↓zr_in0, ↓zr_ins, ↓zr_inn, ↓zr_bt, ↓zr_bf, ↓zr_li0, ↓zr_lis, ↓zr_la0, ↓zr_las, ↓zr_ll0, ↓zr_lls, ↓zr_1i, ↓zr_1l, ↓zr_1a, ↓zr_2i, ↓zr_2l, ↓zr_lsi, ↓zr_ia, ↓zr_aa, ↓zr_dia, ↓zr_iia, ↓zr_lia, ↓zr_d1i, ↓zr_d1r, ↓zr_e1, ↓zr_e2, ↓zr_e0, ↓zr_f0, ↓zr_fs, ↓zr_s0, ↓zr_ss, ↓zr_len, ↓zr_len0, ↓zr_ok0, ↓zr_okn, ↓zr_oki, ↓zr_okr, ↓zr_oks, ↓zr_tt, ↓zr_ar0u, ↓zr_ar0n, ↓zr_ar1u, ↓zr_ar1n, ↓zr_ar2u, ↓zr_ar2n, ↓zr_obu, ↓zr_obn, ↓Nat.reduceAdd, Nat.reduceEqDiff, Nat.add_left_cancel_iff, not_false_eq_true, z_up_up, true_and, ↓sX8_ways_0, ↓sX8_ways_1, ↓sX8_ways_2, ↓sX8_ways_5, ↓sX8_ways_6, ↓sX8_ways_8, ↓sX8_ways_11, ↓sX8_ways_13, ↓sX8_ways_14, ↓sX8_ways_15, ↓sX8_ways_18, ↓sX8_ways_19, ↓sX8_ways_20, ↓sX8_ways_21, ↓sX8_ways_24, ↓sX8_ways_25, ↓zh_ob h0, zn_a, zn_b, zq1, zq2, zq3, zq4, zq5, zq6, zq7, eq_self, Int32.reduceLT, Int32.reduceLE, Int32.reduceAdd, not_true_eq_false, not_false_eq_true, false_implies, true_implies, and_true, true_and, or_true, true_or]
  have z16 : (16 : Int32).toInt = 16 := by decide
  refine ⟨fun a1 => ?_, fun a1 => ⟨fun a2 => ?_, fun a2 => ?_⟩⟩
  · simp only [zi_lt, zi_le, zi_0, zi_1, zi_m1, zi_2, zi_32] at a1
    exact hP _ _ ⟨zKc.rf _ _, Or.inr ⟨by omega, rfl, h⟩⟩
  · simp only [zi_lt, zi_le, zi_0, zi_1, zi_m1, zi_2, zi_32, z16] at a1 a2
    exact hP _ _ ⟨(zKc.rf _ _).up _ _ (by omega), Or.inl ⟨by omega, by omega, rfl, ⟨rel, ar, st, tk, hd, fa, t1, t2, by rw [z_up_2, if_pos rfl]; rfl, hok.1, hok.2.1, by omega, hok.2.2.2⟩, hR.fr0 ((z_fr.rf _ _).up _ _ (by simp))⟩⟩
  · simp only [zi_lt, zi_le, zi_0, zi_1, zi_m1, zi_2, zi_32, z16] at a1 a2
    exact hP _ _ ⟨zKc.rf _ _, Or.inr ⟨by omega, rfl, h⟩⟩
