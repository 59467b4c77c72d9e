def zrm0 : Room := { frames := 0, cells := 0, slots := 0, locals := 0 }
def zrm1 : Room := { frames := 1, cells := 0, slots := 0, locals := 30 }
def zRo (w : zW) (r an al ab cap : Nat) (held : Int32) (fn fl fb : Nat → Int32) : Prop :=
  (w.2 r = some (.inr (6, [.int (nI cap), .ref an, .ref al, .ref ab, .int held])) ∧ w.2 an = some (.inl (0, cap, .inl fn)) ∧ w.2 al = some (.inl (0, cap, .inl fl)) ∧ w.2 ab = some (.inl (0, cap * 32, .inl fb))) ∧
  (r ≠ an ∧ r ≠ al ∧ r ≠ ab ∧ an ≠ al ∧ an ≠ ab ∧ al ≠ ab) ∧ cap ≤ 1600 ∧ (0 ≤ held.toInt ∧ held.toInt ≤ cap) ∧ ∀ j, j < cap → 0 ≤ (fl j).toInt ∧ (fl j).toInt ≤ 32
set_option maxRecDepth 100000 in
set_option maxHeartbeats 400000 in
theorem c_Rows_held (G : zG) (w : zW) (r an al ab cap : Nat) (held : Int32) (fn fl fb : Nat → Int32) (h : zRo w r an al ab cap held fn fl fb) :
    z_M G yX5_held wsX5_held zrm0 0 0 [.ref r] w (fun x w' => x = some (.int held) ∧ w' = w) := by
  obtain ⟨⟨h0, h1, h2, h3⟩, -, hcap, hh, hl⟩ := h
  refine z_mt (nL := 1) (cc := cX5_held) (ret := some .int) (by decide) rfl (Nat.le_of_ble_eq_true rfl) 0 [some (.ref r)] rfl ?_
  intro P hP Γ C E
  refine z_gn C E tkX5_held (Nat.le_refl _) (Nat.le_refl _) [] 60 ?_
  simp only [↓z_rn_s, ↓z_rn_0, ↓zr_in0, ↓zr_ins, ↓zr_inn, ↓zr_bt, ↓zr_bf, ↓zr_li0, ↓zr_lis, ↓zr_la0, ↓zr_las, ↓zr_ll0, ↓zr_lls, ↓zr_1i, ↓zr_1l, ↓zr_1a, ↓zr_2i, ↓zr_2l, ↓zr_lsi, ↓zr_ia, ↓zr_aa, ↓zr_dia, ↓zr_iia, ↓zr_lia, ↓zr_d1i, ↓zr_d1r, ↓zr_e1, ↓zr_e2, ↓zr_e0, ↓zr_f0, ↓zr_fs, ↓zr_s0, ↓zr_ss, ↓zr_len, ↓zr_len0, ↓zr_ok0, ↓zr_okn, ↓zr_oki, ↓zr_okr, ↓zr_oks, ↓zr_tt, ↓zr_ar0u, ↓zr_ar0n, ↓zr_ar1u, ↓zr_ar1n, ↓zr_ar2u, ↓zr_ar2n, ↓zr_obu, ↓zr_obn, ↓Nat.reduceAdd, Nat.reduceEqDiff, Nat.add_left_cancel_iff, not_false_eq_true, z_up_up, true_and, ↓sX5_held_0, ↓sX5_held_1, ↓sX5_held_4, ↓zh_ob h0]
  exact hP _ _ ⟨rfl, rfl⟩
set_option maxRecDepth 100000 in
set_option maxHeartbeats 400000 in
theorem c_Rows_clear (G : zG) (w : zW) (r an al ab cap : Nat) (held : Int32) (fn fl fb : Nat → Int32) (h : zRo w r an al ab cap held fn fl fb) :
    z_M G yX5_clear wsX5_clear zrm0 0 0 [.ref r] w (fun x w' => x = none ∧ z_fr [r] w w' ∧ zRo w' r an al ab cap 0 fn fl fb) := by
  obtain ⟨⟨h0, h1, h2, h3⟩, ⟨n1, n2, n3, n4, n5, n6⟩, hcap, hh, hl⟩ := h
  refine z_mt (nL := 1) (cc := cX5_clear) (ret := none) (by decide) rfl (Nat.le_of_ble_eq_true rfl) 0 [some (.ref r)] rfl ?_
  intro P hP Γ C E
  refine z_gn C E tkX5_clear (Nat.le_refl _) (Nat.le_refl _) [] 60 ?_
  simp only [↓z_rn_s, ↓z_rn_0, ↓zr_in0, ↓zr_ins, ↓zr_inn, ↓zr_bt, ↓zr_bf, ↓zr_li0, ↓zr_lis, ↓zr_la0, ↓zr_las, ↓zr_ll0, ↓zr_lls, ↓zr_1i, ↓zr_1l, ↓zr_1a, ↓zr_2i, ↓zr_2l, ↓zr_lsi, ↓zr_ia, ↓zr_aa, ↓zr_dia, ↓zr_iia, ↓zr_lia, ↓zr_d1i, ↓zr_d1r, ↓zr_e1, ↓zr_e2, ↓zr_e0, ↓zr_f0, ↓zr_fs, ↓zr_s0, ↓zr_ss, ↓zr_len, ↓zr_len0, ↓zr_ok0, ↓zr_okn, ↓zr_oki, ↓zr_okr, ↓zr_oks, ↓zr_tt, ↓zr_ar0u, ↓zr_ar0n, ↓zr_ar1u, ↓zr_ar1n, ↓zr_ar2u, ↓zr_ar2n, ↓zr_obu, ↓zr_obn, ↓Nat.reduceAdd, Nat.reduceEqDiff, Nat.add_left_cancel_iff, not_false_eq_true, z_up_up, true_and, ↓sX5_clear_0, ↓sX5_clear_1, ↓sX5_clear_2, ↓sX5_clear_5, ↓zh_ob h0]
  refine hP _ _ ⟨rfl, ⟨rfl, fun k hk => ?_⟩, ⟨?_, ?_, ?_, ?_⟩, ⟨n1, n2, n3, n4, n5, n6⟩, hcap, ?_, hl⟩
  all_goals simp_all [z_up_2, zi_0, Ne.symm n1, Ne.symm n2, Ne.symm n3]
set_option maxRecDepth 100000 in
set_option maxHeartbeats 400000 in
theorem c_Rows_numberOf (G : zG) (w : zW) (r an al ab cap : Nat) (held row : Int32) (fn fl fb : Nat → Int32) (h : zRo w r an al ab cap held fn fl fb) :
    z_M G yX5_numberOf wsX5_numberOf zrm0 0 0 [.ref r, .int row] w (fun x w' => (∃ v, x = some (.int v) ∧ (0 ≤ row.toInt → row.toInt < held.toInt → v = fn row.toNatClampNeg)) ∧ w' = w) := by
  obtain ⟨⟨h0, h1, h2, h3⟩, -, hcap, hh, hl⟩ := h
  refine z_mt (nL := 2) (cc := cX5_numberOf) (ret := some .int) (by decide) rfl (Nat.le_of_ble_eq_true rfl) 0 [some (.ref r), some (.int row)] rfl ?_
  intro P hP Γ C E
  refine z_gn C E tkX5_numberOf (Nat.le_refl _) (Nat.le_refl _) [] 60 ?_
  simp only [↓z_rn_s, ↓z_rn_0, ↓zr_in0, ↓zr_ins, ↓zr_inn, ↓zr_bt, ↓zr_bf, ↓zr_li0, ↓zr_lis, ↓zr_la0, ↓zr_las, ↓zr_ll0, ↓zr_lls, ↓zr_1i, ↓zr_1l, ↓zr_1a, ↓zr_2i, ↓zr_2l, ↓zr_lsi, ↓zr_ia, ↓zr_aa, ↓zr_dia, ↓zr_iia, ↓zr_lia, ↓zr_d1i, ↓zr_d1r, ↓zr_e1, ↓zr_e2, ↓zr_e0, ↓zr_f0, ↓zr_fs, ↓zr_s0, ↓zr_ss, ↓zr_len, ↓zr_len0, ↓zr_ok0, ↓zr_okn, ↓zr_oki, ↓zr_okr, ↓zr_oks, ↓zr_tt, ↓zr_ar0u, ↓zr_ar0n, ↓zr_ar1u, ↓zr_ar1n, ↓zr_ar2u, ↓zr_ar2n, ↓zr_obu, ↓zr_obn, ↓Nat.reduceAdd, Nat.reduceEqDiff, Nat.add_left_cancel_iff, not_false_eq_true, z_up_up, true_and, ↓sX5_numberOf_0, ↓sX5_numberOf_1, ↓sX5_numberOf_4, ↓sX5_numberOf_5, ↓sX5_numberOf_6, ↓sX5_numberOf_9, ↓sX5_numberOf_12, ↓sX5_numberOf_13, ↓sX5_numberOf_16, ↓sX5_numberOf_17, ↓sX5_numberOf_20, ↓sX5_numberOf_21, ↓sX5_numberOf_22, ↓zh_ob h0, ↓zh_ar0 h1, ↓zh_ar0 h2, ↓zh_ar0 h3]
  refine ⟨fun a1 => ?_, fun a1 => ⟨fun a2 => ?_, fun a2 => ?_⟩⟩
  · simp only [zi_lt, zi_le, zi_0, zi_1, zi_m1, zi_2, zi_32] at a1
    exact hP _ _ ⟨⟨_, rfl, fun _ _ => by omega⟩, rfl⟩
  · simp only [zi_lt, zi_le, zi_0, zi_1, zi_m1, zi_2, zi_32] at a1 a2
    exact ⟨vp_in_iff.mpr (by omega), hP _ _ ⟨⟨_, rfl, fun _ _ => rfl⟩, rfl⟩⟩
  · simp only [zi_lt, zi_le, zi_0, zi_1, zi_m1, zi_2, zi_32] at a1 a2
    exact hP _ _ ⟨⟨_, rfl, fun _ _ => by omega⟩, rfl⟩
theorem zi_nI {n : Nat} (h : n < 2147483648) : (nI n).toInt = n := nI_toInt h
set_option maxRecDepth 100000 in
set_option maxHeartbeats 400000 in
theorem c_Rows_add (G : zG) (w : zW) (r an al ab cap : Nat) (held num : Int32) (fn fl fb : Nat → Int32) (h : zRo w r an al ab cap held fn fl fb) :
    z_M G yX5_add wsX5_add zrm0 0 0 [.ref r, .int num] w (fun x w' => (held.toInt = cap ∧ x = some (.int (-1)) ∧ w' = w) ∨ (held.toInt < cap ∧ x = some (.int held) ∧ z_fr [r, an, al] w w' ∧ zRo w' r an al ab cap (held + 1) (upd fn held.toNatClampNeg num) (upd fl held.toNatClampNeg 0) fb)) := by
  obtain ⟨⟨h0, h1, h2, h3⟩, ⟨n1, n2, n3, n4, n5, n6⟩, hcap, hh, hl⟩ := h
  refine z_mt (nL := 3) (cc := cX5_add) (ret := some .int) (by decide) rfl (Nat.le_of_ble_eq_true rfl) 1 [some (.ref r), some (.int num), none] rfl ?_
  intro P hP Γ C E
  refine z_gn C E tkX5_add (Nat.le_refl _) (Nat.le_refl _) [] 60 ?_
  simp only [↓z_rn_s, ↓z_rn_0, ↓zr_in0, ↓zr_ins, ↓zr_inn, ↓zr_bt, ↓zr_bf, ↓zr_li0, ↓zr_lis, ↓zr_la0, ↓zr_las, ↓zr_ll0, ↓zr_lls, ↓zr_1i, ↓zr_1l, ↓zr_1a, ↓zr_2i, ↓zr_2l, ↓zr_lsi, ↓zr_ia, ↓zr_aa, ↓zr_dia, ↓zr_iia, ↓zr_lia, ↓zr_d1i, ↓zr_d1r, ↓zr_e1, ↓zr_e2, ↓zr_e0, ↓zr_f0, ↓zr_fs, ↓zr_s0, ↓zr_ss, ↓zr_len, ↓zr_len0, ↓zr_ok0, ↓zr_okn, ↓zr_oki, ↓zr_okr, ↓zr_oks, ↓zr_tt, ↓zr_ar0u, ↓zr_ar0n, ↓zr_ar1u, ↓zr_ar1n, ↓zr_ar2u, ↓zr_ar2n, ↓zr_obu, ↓zr_obn, ↓Nat.reduceAdd, Nat.reduceEqDiff, Nat.add_left_cancel_iff, not_false_eq_true, z_up_up, true_and, ↓sX5_add_0, ↓sX5_add_1, ↓sX5_add_4, ↓sX5_add_5, ↓sX5_add_8, ↓sX5_add_11, ↓sX5_add_12, ↓sX5_add_13, ↓sX5_add_14, ↓sX5_add_17, ↓sX5_add_18, ↓sX5_add_19, ↓sX5_add_20, ↓sX5_add_23, ↓sX5_add_24, ↓sX5_add_25, ↓sX5_add_28, ↓sX5_add_29, ↓sX5_add_32, ↓sX5_add_33, ↓sX5_add_34, ↓sX5_add_35, ↓sX5_add_36, ↓sX5_add_39, ↓sX5_add_40, ↓sX5_add_41, ↓sX5_add_42, ↓sX5_add_43, ↓zh_ob h0, ↓zh_ar0 h1, ↓zh_ar0 h2, ↓zh_ar0 h3, n1, n2, n3, n4, n5, n6, Ne.symm n1, Ne.symm n2, Ne.symm n3, Ne.symm n4]
  have ec := zi_nI (n := cap) (by omega)
  refine ⟨fun a1 => ?_, fun a1 => ?_⟩
  · simp only [zi_lt, zi_le, zi_0, zi_1, zi_m1, zi_2, zi_32, ec] at a1
    have hr : vp_in held cap := vp_in_iff.mpr (by omega)
    have e : (held + 1).toInt = held.toInt + 1 := by rw [zi_add (by rw [zi_1]; omega) (by rw [zi_1]; omega), zi_1]
    refine ⟨hr, hr, hP _ _ (Or.inr ⟨by omega, rfl, ⟨rfl, fun k hk => ?_⟩, ⟨?_, ?_, ?_, ?_⟩, ⟨n1, n2, n3, n4, n5, n6⟩, hcap, by omega, fun j hj => ?_⟩)⟩
    · simp only [List.mem_cons, List.not_mem_nil, or_false, not_or] at hk
      simp [z_up_2, hk.1, hk.2.1, hk.2.2]
    · simp [z_up_2, n1, n2]
    · simp [z_up_2, n4]
    · simp [z_up_2]
    · simp [z_up_2, Ne.symm n3, Ne.symm n5, Ne.symm n6, h3]
    · unfold upd
      split
      · rw [zi_0]; omega
      · exact hl j hj
  · simp only [zi_lt, zi_le, zi_0, zi_1, zi_m1, zi_2, zi_32, ec] at a1
    exact hP _ _ (Or.inl ⟨by omega, rfl, rfl⟩)
def zrm2 : Room := { frames := 2, cells := 0, slots := 0, locals := 60 }
set_option maxRecDepth 100000 in
set_option maxHeartbeats 400000 in
theorem c_Condition_tell (G : zG) (w : zW) (t : Nat) (x1 x2 x3 i op b : Int32) (h0 : w.2 t = some (.inr (1, [.int x1, .int x2, .int x3]))) :
    z_M G yX0_tell wsX0_tell zrm0 0 0 [.ref t, .int i, .int op, .int b] w (fun x w' => x = none ∧ w' = z_up w t (.inr (1, [.int i, .int op, .int b]))) := by
  refine z_mt (nL := 4) (cc := cX0_tell) (ret := none) (by decide) rfl (Nat.le_of_ble_eq_true rfl) 0 [some (.ref t), some (.int i), some (.int op), some (.int b)] rfl ?_
  intro P hP Γ C E
  refine z_gn C E tkX0_tell (Nat.le_refl _) (Nat.le_refl _) [] 60 ?_
  simp only [↓z_rn_s, ↓z_rn_0, ↓zr_in0, ↓zr_ins, ↓zr_inn, ↓zr_bt, ↓zr_bf, ↓zr_li0, ↓zr_lis, ↓zr_la0, ↓zr_las, ↓zr_ll0, ↓zr_lls, ↓zr_1i, ↓zr_1l, ↓zr_1a, ↓zr_2i, ↓zr_2l, ↓zr_lsi, ↓zr_ia, ↓zr_aa, ↓zr_dia, ↓zr_iia, ↓zr_lia, ↓zr_d1i, ↓zr_d1r, ↓zr_e1, ↓zr_e2, ↓zr_e0, ↓zr_f0, ↓zr_fs, ↓zr_s0, ↓zr_ss, ↓zr_len, ↓zr_len0, ↓zr_ok0, ↓zr_okn, ↓zr_oki, ↓zr_okr, ↓zr_oks, ↓zr_tt, ↓zr_ar0u, ↓zr_ar0n, ↓zr_ar1u, ↓zr_ar1n, ↓zr_ar2u, ↓zr_ar2n, ↓zr_obu, ↓zr_obn, ↓Nat.reduceAdd, Nat.reduceEqDiff, Nat.add_left_cancel_iff, not_false_eq_true, z_up_up, true_and, ↓sX0_tell_0, ↓sX0_tell_1, ↓sX0_tell_2, ↓sX0_tell_5, ↓sX0_tell_6, ↓sX0_tell_7, ↓sX0_tell_10, ↓sX0_tell_11, ↓sX0_tell_12, ↓sX0_tell_15, ↓zh_ob h0]
  exact hP _ _ ⟨rfl, rfl⟩
set_option maxRecDepth 100000 in
set_option maxHeartbeats 400000 in
theorem c_Exit_tell (G : zG) (w : zW) (t : Nat) (x1 x2 x3 a b : Int32) (h0 : w.2 t = some (.inr (2, [.int x1, .int x2, .int x3]))) :
    z_M G yX1_tell wsX1_tell zrm0 0 0 [.ref t, .int a, .int b] w (fun x w' => x = none ∧ w' = z_up w t (.inr (2, [.int a, .int b, .int x3]))) := by
  refine z_mt (nL := 3) (cc := cX1_tell) (ret := none) (by decide) rfl (Nat.le_of_ble_eq_true rfl) 0 [some (.ref t), some (.int a), some (.int b)] rfl ?_
  intro P hP Γ C E
  refine z_gn C E tkX1_tell (Nat.le_refl _) (Nat.le_refl _) [] 60 ?_
  simp only [↓z_rn_s, ↓z_rn_0, ↓zr_in0, ↓zr_ins, ↓zr_inn, ↓zr_bt, ↓zr_bf, ↓zr_li0, ↓zr_lis, ↓zr_la0, ↓zr_las, ↓zr_ll0, ↓zr_lls, ↓zr_1i, ↓zr_1l, ↓zr_1a, ↓zr_2i, ↓zr_2l, ↓zr_lsi, ↓zr_ia, ↓zr_aa, ↓zr_dia, ↓zr_iia, ↓zr_lia, ↓zr_d1i, ↓zr_d1r, ↓zr_e1, ↓zr_e2, ↓zr_e0, ↓zr_f0, ↓zr_fs, ↓zr_s0, ↓zr_ss, ↓zr_len, ↓zr_len0, ↓zr_ok0, ↓zr_okn, ↓zr_oki, ↓zr_okr, ↓zr_oks, ↓zr_tt, ↓zr_ar0u, ↓zr_ar0n, ↓zr_ar1u, ↓zr_ar1n, ↓zr_ar2u, ↓zr_ar2n, ↓zr_obu, ↓zr_obn, ↓Nat.reduceAdd, Nat.reduceEqDiff, Nat.add_left_cancel_iff, not_false_eq_true, z_up_up, true_and, ↓sX1_tell_0, ↓sX1_tell_1, ↓sX1_tell_2, ↓sX1_tell_5, ↓sX1_tell_6, ↓sX1_tell_7, ↓sX1_tell_10, ↓zh_ob h0]
  exact hP _ _ ⟨rfl, rfl⟩
def zSu (b : Nat) (w : zW) (told : Int32) : Prop := (∃ f1 f2 f3, w.2 (b + 20) = some (.inr (7, [.ref (b + 21), .ref (b + 22), .ref (b + 23), .int told])) ∧ w.2 (b + 21) = some (.inl (0, 4, .inl f1)) ∧ w.2 (b + 22) = some (.inl (0, 4, .inl f2)) ∧ w.2 (b + 23) = some (.inl (0, 32, .inl f3)) ∧ ∀ j, j < 4 → 0 ≤ (f1 j).toInt ∧ (f1 j).toInt ≤ 31 ∧ 0 ≤ (f2 j).toInt ∧ (f2 j).toInt ≤ 32) ∧ 0 ≤ told.toInt ∧ told.toInt ≤ 4
set_option maxRecDepth 100000 in
set_option maxHeartbeats 400000 in
theorem c_Sums_tell (G : zG) (w : zW) (b : Nat) (told fr sz : Int32) (h : zSu b w told) (hfr : 0 ≤ fr.toInt ∧ fr.toInt ≤ 31) (hsz : 0 ≤ sz.toInt ∧ sz.toInt ≤ 32) :
    z_M G yX6_tell wsX6_tell zrm0 0 0 [.ref (b + 20), .int fr, .int sz] w (fun x w' => z_fr [b + 20, b + 21, b + 22] w w' ∧ ((told.toInt = 4 ∧ x = some (.int (-1)) ∧ zSu b w' told) ∨ (told.toInt < 4 ∧ x = some (.int (told + 1)) ∧ zSu b w' (told + 1)))) := by
  have hq := h
  obtain ⟨⟨f1, f2, f3, h0, h1, h2, h3, hf⟩, ht⟩ := h
  refine z_mt (nL := 3) (cc := cX6_tell) (ret := some .int) (by decide) rfl (Nat.le_of_ble_eq_true rfl) 0 [some (.ref (b + 20)), some (.int fr), some (.int sz)] rfl ?_
  intro P hP Γ C E
  refine z_gn C E tkX6_tell (Nat.le_refl _) (Nat.le_refl _) [] 60 ?_
  simp only [↓z_rn_s, ↓z_rn_0, ↓zr_in0, ↓zr_ins, ↓zr_inn, ↓zr_bt, ↓zr_bf, ↓zr_li0, ↓zr_lis, ↓zr_la0, ↓zr_las, ↓zr_ll0, ↓zr_lls, ↓zr_1i, ↓zr_1l, ↓zr_1a, ↓zr_2i, ↓zr_2l, ↓zr_lsi, ↓zr_ia, ↓zr_aa, ↓zr_dia, ↓zr_iia, ↓zr_lia, ↓zr_d1i, ↓zr_d1r, ↓zr_e1, ↓zr_e2, ↓zr_e0, ↓zr_f0, ↓zr_fs, ↓zr_s0, ↓zr_ss, ↓zr_len, ↓zr_len0, ↓zr_ok0, ↓zr_okn, ↓zr_oki, ↓zr_okr, ↓zr_oks, ↓zr_tt, ↓zr_ar0u, ↓zr_ar0n, ↓zr_ar1u, ↓zr_ar1n, ↓zr_ar2u, ↓zr_ar2n, ↓zr_obu, ↓zr_obn, ↓Nat.reduceAdd, Nat.reduceEqDiff, Nat.add_left_cancel_iff, not_false_eq_true, z_up_up, true_and, ↓sX6_tell_0, ↓sX6_tell_1, ↓sX6_tell_4, ↓sX6_tell_5, ↓sX6_tell_8, ↓sX6_tell_9, ↓sX6_tell_10, ↓sX6_tell_11, ↓sX6_tell_14, ↓sX6_tell_15, ↓sX6_tell_18, ↓sX6_tell_19, ↓sX6_tell_20, ↓sX6_tell_21, ↓sX6_tell_24, ↓sX6_tell_25, ↓sX6_tell_28, ↓sX6_tell_29, ↓sX6_tell_30, ↓sX6_tell_31, ↓sX6_tell_32, ↓sX6_tell_35, ↓sX6_tell_36, ↓sX6_tell_37, ↓sX6_tell_40, ↓sX6_tell_41, ↓sX6_tell_44, ↓zh_ob h0, ↓zh_ar0 h1, ↓zh_ar0 h2, ↓zh_ar0 h3, Nat.add_left_cancel_iff]
  have e4 : (4 : Int32).toInt = 4 := by decide
  refine ⟨fun a1 => ?_, fun a1 => ?_⟩ <;> simp only [zi_lt, zi_le, zi_0, zi_1, zi_m1, zi_2, zi_32, e4] at a1
  · have hv : vp_in told 4 := vp_in_iff.mpr (by omega)
    have e : (told + 1).toInt = told.toInt + 1 := by rw [zi_add (by rw [zi_1]; omega) (by rw [zi_1]; omega), zi_1]
    refine ⟨hv, hv, hP _ _ ⟨⟨rfl, fun k hk => by simp at hk; simp [z_up_2, hk]⟩, Or.inr ⟨a1, rfl, ⟨_, _, f3, by simp [z_up_2], by simp [z_up_2]; rfl, by simp [z_up_2]; rfl, by simp [z_up_2, h3], fun j hj => ?_⟩, by omega⟩⟩⟩
    have := hf j hj
    unfold upd
    by_cases q : j = told.toNatClampNeg
    · simp only [q, if_true]; omega
    · simp only [q, if_false]; exact this
  · exact hP _ _ ⟨⟨rfl, fun _ _ => rfl⟩, Or.inl ⟨by omega, rfl, hq⟩⟩
