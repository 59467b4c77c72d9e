def zrm0 : Room := { frames := 0, cells := 0, slots := 0, locals := 0 }
def zrm1 : Room := { frames := 1, cells := 0, slots := 0, locals := 30 }
/-- Rows at r: cap rows of 0 to 32 bytes, held of them in use -/
def zRo (w : zW) (r an al ab cap : Nat) (held : Int32) (fn fl fb : Nat → Int32) : Prop :=
  (w.2 r = some (.inr (6, [.int (nI cap), .ref an, .ref al, .ref ab, .int held])) ∧ w.2 an = some (.inl (0, cap, .inl fn)) ∧ w.2 al = some (.inl (0, cap, .inl fl)) ∧ w.2 ab = some (.inl (0, cap * 32, .inl fb))) ∧
  (r ≠ an ∧ r ≠ al ∧ r ≠ ab ∧ an ≠ al ∧ an ≠ ab ∧ al ≠ ab) ∧ cap ≤ 1600 ∧ (0 ≤ held.toInt ∧ held.toInt ≤ cap) ∧ ∀ j, j < cap → 0 ≤ (fl j).toInt ∧ (fl j).toInt ≤ 32
set_option maxRecDepth 100000 in
set_option maxHeartbeats 400000 in
theorem c_Rows_byteAt (G : zG) (w : zW) (r an al ab cap : Nat) (held row i : Int32) (fn fl fb : Nat → Int32) (h : zRo w r an al ab cap held fn fl fb) :
    z_M G yX5_byteAt wsX5_byteAt zrm0 0 0 [.ref r, .int row, .int i] w (fun x w' => (∃ v, x = some (.int v)) ∧ w' = w) := by
  obtain ⟨⟨h0, h1, h2, h3⟩, -, hcap, hh, hl⟩ := h
  refine z_mt (nL := 3) (cc := cX5_byteAt) (ret := some .int) (by decide) rfl (Nat.le_of_ble_eq_true rfl) 0 [some (.ref r), some (.int row), some (.int i)] rfl ?_
  intro P hP Γ C E
  refine z_gn C E tkX5_byteAt (Nat.le_refl _) (Nat.le_refl _) [] 60 ?_
  simp only [↓z_rn_f, ↓z_rn_t, ↓z_rn_0, ↓zr_in0, ↓zr_ins, ↓zr_inn, ↓zr_bt, ↓zr_bf, ↓zr_li0, ↓zr_lis, ↓zr_la0, ↓zr_las, ↓zr_ll0, ↓zr_lls, ↓zr_1i, ↓zr_1l, ↓zr_1a, ↓zr_2i, ↓zr_2l, ↓zr_lsi, ↓zr_ia, ↓zr_aa, ↓zr_dia, ↓zr_iia, ↓zr_lia, ↓zr_d1i, ↓zr_d1r, ↓zr_e1, ↓zr_e2, ↓zr_e0, ↓zr_f0, ↓zr_fs, ↓zr_s0, ↓zr_ss, ↓zr_len, ↓zr_len0, ↓zr_ok0, ↓zr_okn, ↓zr_oki, ↓zr_okr, ↓zr_oks, ↓zr_tt, ↓zr_ar0u, ↓zr_ar0n, ↓zr_ar1u, ↓zr_ar1n, ↓zr_ar2u, ↓zr_ar2n, ↓zr_obu, ↓zr_obn, ↓Nat.reduceAdd, Nat.reduceEqDiff, Nat.add_left_cancel_iff, not_false_eq_true, z_up_up, true_and, ↓sX5_byteAt_0, ↓sX5_byteAt_1, ↓sX5_byteAt_4, ↓sX5_byteAt_5, ↓sX5_byteAt_6, ↓sX5_byteAt_9, ↓sX5_byteAt_12, ↓sX5_byteAt_13, ↓sX5_byteAt_16, ↓sX5_byteAt_17, ↓sX5_byteAt_18, ↓sX5_byteAt_21, ↓sX5_byteAt_22, ↓sX5_byteAt_23, ↓sX5_byteAt_26, ↓sX5_byteAt_27, ↓sX5_byteAt_28, ↓sX5_byteAt_29, ↓sX5_byteAt_32, ↓sX5_byteAt_33, ↓sX5_byteAt_35, ↓sX5_byteAt_36, ↓sX5_byteAt_37, ↓sX5_byteAt_38, ↓sX5_byteAt_39, ↓zh_ob h0, ↓zh_ar0 h1, ↓zh_ar0 h2, ↓zh_ar0 h3]
  refine ⟨fun _ => hP _ _ ⟨⟨_, rfl⟩, rfl⟩, fun a1 => ⟨fun _ => hP _ _ ⟨⟨_, rfl⟩, rfl⟩, fun a2 => ⟨fun _ => hP _ _ ⟨⟨_, rfl⟩, rfl⟩, fun a3 => ?_⟩⟩⟩
  rw [zi_lt, zi_0] at a1 a3
  rw [zi_le] at a2
  have hr : vp_in row cap := vp_in_iff.mpr (by omega)
  have hrn := zi_nat (x := row) (by omega)
  have hlr := hl _ (zi_nat_lt hr)
  refine ⟨hr, fun a4 => ⟨?_, hP _ _ ⟨⟨_, rfl⟩, rfl⟩⟩, fun _ => hP _ _ ⟨⟨_, rfl⟩, rfl⟩⟩
  rw [zi_lt] at a4
  have e1 : (row * 32).toInt = row.toInt * 32 := by rw [zi_mul (by rw [zi_32]; omega) (by rw [zi_32]; omega), zi_32]
  have e2 : (row * 32 + i).toInt = row.toInt * 32 + i.toInt := by rw [zi_add (by omega) (by omega), e1]
  exact vp_in_iff.mpr (by rw [e2]; omega)
set_option maxRecDepth 100000 in
set_option maxHeartbeats 400000 in
theorem c_Rows_held (G : zG) (w : zW) (r an al ab cap : Nat) (held : Int32) (fn fl fb : Nat → Int32) (h : zRo w r an al ab cap held fn fl fb) :
    z_M G yX5_held wsX5_held zrm0 0 0 [.ref r] w (fun x w' => x = some (.int held) ∧ w' = w) := by
  obtain ⟨⟨h0, h1, h2, h3⟩, -, hcap, hh, hl⟩ := h
  refine z_mt (nL := 1) (cc := cX5_held) (ret := some .int) (by decide) rfl (Nat.le_of_ble_eq_true rfl) 0 [some (.ref r)] rfl ?_
  intro P hP Γ C E
  refine z_gn C E tkX5_held (Nat.le_refl _) (Nat.le_refl _) [] 60 ?_
  simp only [↓z_rn_f, ↓z_rn_t, ↓z_rn_0, ↓zr_in0, ↓zr_ins, ↓zr_inn, ↓zr_bt, ↓zr_bf, ↓zr_li0, ↓zr_lis, ↓zr_la0, ↓zr_las, ↓zr_ll0, ↓zr_lls, ↓zr_1i, ↓zr_1l, ↓zr_1a, ↓zr_2i, ↓zr_2l, ↓zr_lsi, ↓zr_ia, ↓zr_aa, ↓zr_dia, ↓zr_iia, ↓zr_lia, ↓zr_d1i, ↓zr_d1r, ↓zr_e1, ↓zr_e2, ↓zr_e0, ↓zr_f0, ↓zr_fs, ↓zr_s0, ↓zr_ss, ↓zr_len, ↓zr_len0, ↓zr_ok0, ↓zr_okn, ↓zr_oki, ↓zr_okr, ↓zr_oks, ↓zr_tt, ↓zr_ar0u, ↓zr_ar0n, ↓zr_ar1u, ↓zr_ar1n, ↓zr_ar2u, ↓zr_ar2n, ↓zr_obu, ↓zr_obn, ↓Nat.reduceAdd, Nat.reduceEqDiff, Nat.add_left_cancel_iff, not_false_eq_true, z_up_up, true_and, ↓sX5_held_0, ↓sX5_held_1, ↓sX5_held_4, ↓zh_ob h0]
  exact hP _ _ ⟨rfl, rfl⟩
set_option maxRecDepth 100000 in
set_option maxHeartbeats 400000 in
theorem c_Rows_clear (G : zG) (w : zW) (r an al ab cap : Nat) (held : Int32) (fn fl fb : Nat → Int32) (h : zRo w r an al ab cap held fn fl fb) :
    z_M G yX5_clear wsX5_clear zrm0 0 0 [.ref r] w (fun x w' => x = none ∧ z_fr [r] w w' ∧ zRo w' r an al ab cap 0 fn fl fb) := by
  obtain ⟨⟨h0, h1, h2, h3⟩, ⟨n1, n2, n3, n4, n5, n6⟩, hcap, hh, hl⟩ := h
  refine z_mt (nL := 1) (cc := cX5_clear) (ret := none) (by decide) rfl (Nat.le_of_ble_eq_true rfl) 0 [some (.ref r)] rfl ?_
  intro P hP Γ C E
  refine z_gn C E tkX5_clear (Nat.le_refl _) (Nat.le_refl _) [] 60 ?_
  simp only [↓z_rn_f, ↓z_rn_t, ↓z_rn_0, ↓zr_in0, ↓zr_ins, ↓zr_inn, ↓zr_bt, ↓zr_bf, ↓zr_li0, ↓zr_lis, ↓zr_la0, ↓zr_las, ↓zr_ll0, ↓zr_lls, ↓zr_1i, ↓zr_1l, ↓zr_1a, ↓zr_2i, ↓zr_2l, ↓zr_lsi, ↓zr_ia, ↓zr_aa, ↓zr_dia, ↓zr_iia, ↓zr_lia, ↓zr_d1i, ↓zr_d1r, ↓zr_e1, ↓zr_e2, ↓zr_e0, ↓zr_f0, ↓zr_fs, ↓zr_s0, ↓zr_ss, ↓zr_len, ↓zr_len0, ↓zr_ok0, ↓zr_okn, ↓zr_oki, ↓zr_okr, ↓zr_oks, ↓zr_tt, ↓zr_ar0u, ↓zr_ar0n, ↓zr_ar1u, ↓zr_ar1n, ↓zr_ar2u, ↓zr_ar2n, ↓zr_obu, ↓zr_obn, ↓Nat.reduceAdd, Nat.reduceEqDiff, Nat.add_left_cancel_iff, not_false_eq_true, z_up_up, true_and, ↓sX5_clear_0, ↓sX5_clear_1, ↓sX5_clear_2, ↓sX5_clear_5, ↓zh_ob h0]
  refine hP _ _ ⟨rfl, ⟨rfl, fun k hk => ?_⟩, ⟨?_, ?_, ?_, ?_⟩, ⟨n1, n2, n3, n4, n5, n6⟩, hcap, ?_, hl⟩
  all_goals simp_all [z_up_2, zi_0, Ne.symm n1, Ne.symm n2, Ne.symm n3]
set_option maxRecDepth 100000 in
set_option maxHeartbeats 400000 in
theorem c_Rows_lengthOf (G : zG) (w : zW) (r an al ab cap : Nat) (held row : Int32) (fn fl fb : Nat → Int32) (h : zRo w r an al ab cap held fn fl fb) :
    z_M G yX5_lengthOf wsX5_lengthOf zrm0 0 0 [.ref r, .int row] w (fun x w' => (∃ v, x = some (.int v) ∧ 0 ≤ v.toInt ∧ v.toInt ≤ 32 ∧ (0 ≤ row.toInt → row.toInt < held.toInt → v = fl row.toNatClampNeg)) ∧ w' = w) := by
  obtain ⟨⟨h0, h1, h2, h3⟩, -, hcap, hh, hl⟩ := h
  refine z_mt (nL := 2) (cc := cX5_lengthOf) (ret := some .int) (by decide) rfl (Nat.le_of_ble_eq_true rfl) 0 [some (.ref r), some (.int row)] rfl ?_
  intro P hP Γ C E
  refine z_gn C E tkX5_lengthOf (Nat.le_refl _) (Nat.le_refl _) [] 60 ?_
  simp only [↓z_rn_f, ↓z_rn_t, ↓z_rn_0, ↓zr_in0, ↓zr_ins, ↓zr_inn, ↓zr_bt, ↓zr_bf, ↓zr_li0, ↓zr_lis, ↓zr_la0, ↓zr_las, ↓zr_ll0, ↓zr_lls, ↓zr_1i, ↓zr_1l, ↓zr_1a, ↓zr_2i, ↓zr_2l, ↓zr_lsi, ↓zr_ia, ↓zr_aa, ↓zr_dia, ↓zr_iia, ↓zr_lia, ↓zr_d1i, ↓zr_d1r, ↓zr_e1, ↓zr_e2, ↓zr_e0, ↓zr_f0, ↓zr_fs, ↓zr_s0, ↓zr_ss, ↓zr_len, ↓zr_len0, ↓zr_ok0, ↓zr_okn, ↓zr_oki, ↓zr_okr, ↓zr_oks, ↓zr_tt, ↓zr_ar0u, ↓zr_ar0n, ↓zr_ar1u, ↓zr_ar1n, ↓zr_ar2u, ↓zr_ar2n, ↓zr_obu, ↓zr_obn, ↓Nat.reduceAdd, Nat.reduceEqDiff, Nat.add_left_cancel_iff, not_false_eq_true, z_up_up, true_and, ↓sX5_lengthOf_0, ↓sX5_lengthOf_1, ↓sX5_lengthOf_4, ↓sX5_lengthOf_5, ↓sX5_lengthOf_6, ↓sX5_lengthOf_9, ↓sX5_lengthOf_12, ↓sX5_lengthOf_13, ↓sX5_lengthOf_16, ↓sX5_lengthOf_17, ↓sX5_lengthOf_20, ↓sX5_lengthOf_21, ↓sX5_lengthOf_22, ↓zh_ob h0, ↓zh_ar0 h1, ↓zh_ar0 h2, ↓zh_ar0 h3]
  refine ⟨fun a1 => ?_, fun a1 => ⟨fun a2 => ?_, fun a2 => ?_⟩⟩
  · simp only [zi_lt, zi_le, zi_0, zi_1, zi_m1, zi_2, zi_32] at a1
    exact hP _ _ ⟨⟨_, rfl, by rw [zi_0]; omega, by rw [zi_0]; omega, fun _ _ => by omega⟩, rfl⟩
  · simp only [zi_lt, zi_le, zi_0, zi_1, zi_m1, zi_2, zi_32] at a1 a2
    have hr : vp_in row cap := vp_in_iff.mpr (by omega)
    have hlr := hl _ (zi_nat_lt hr)
    exact ⟨hr, hP _ _ ⟨⟨_, rfl, hlr.1, hlr.2, fun _ _ => rfl⟩, rfl⟩⟩
  · simp only [zi_lt, zi_le, zi_0, zi_1, zi_m1, zi_2, zi_32] at a1 a2
    exact hP _ _ ⟨⟨_, rfl, by rw [zi_0]; omega, by rw [zi_0]; omega, fun _ _ => by omega⟩, rfl⟩
set_option maxRecDepth 100000 in
set_option maxHeartbeats 400000 in
theorem c_Rows_numberOf (G : zG) (w : zW) (r an al ab cap : Nat) (held row : Int32) (fn fl fb : Nat → Int32) (h : zRo w r an al ab cap held fn fl fb) :
    z_M G yX5_numberOf wsX5_numberOf zrm0 0 0 [.ref r, .int row] w (fun x w' => (∃ v, x = some (.int v) ∧ (0 ≤ row.toInt → row.toInt < held.toInt → v = fn row.toNatClampNeg)) ∧ w' = w) := by
  obtain ⟨⟨h0, h1, h2, h3⟩, -, hcap, hh, hl⟩ := h
  refine z_mt (nL := 2) (cc := cX5_numberOf) (ret := some .int) (by decide) rfl (Nat.le_of_ble_eq_true rfl) 0 [some (.ref r), some (.int row)] rfl ?_
  intro P hP Γ C E
  refine z_gn C E tkX5_numberOf (Nat.le_refl _) (Nat.le_refl _) [] 60 ?_
  simp only [↓z_rn_f, ↓z_rn_t, ↓z_rn_0, ↓zr_in0, ↓zr_ins, ↓zr_inn, ↓zr_bt, ↓zr_bf, ↓zr_li0, ↓zr_lis, ↓zr_la0, ↓zr_las, ↓zr_ll0, ↓zr_lls, ↓zr_1i, ↓zr_1l, ↓zr_1a, ↓zr_2i, ↓zr_2l, ↓zr_lsi, ↓zr_ia, ↓zr_aa, ↓zr_dia, ↓zr_iia, ↓zr_lia, ↓zr_d1i, ↓zr_d1r, ↓zr_e1, ↓zr_e2, ↓zr_e0, ↓zr_f0, ↓zr_fs, ↓zr_s0, ↓zr_ss, ↓zr_len, ↓zr_len0, ↓zr_ok0, ↓zr_okn, ↓zr_oki, ↓zr_okr, ↓zr_oks, ↓zr_tt, ↓zr_ar0u, ↓zr_ar0n, ↓zr_ar1u, ↓zr_ar1n, ↓zr_ar2u, ↓zr_ar2n, ↓zr_obu, ↓zr_obn, ↓Nat.reduceAdd, Nat.reduceEqDiff, Nat.add_left_cancel_iff, not_false_eq_true, z_up_up, true_and, ↓sX5_numberOf_0, ↓sX5_numberOf_1, ↓sX5_numberOf_4, ↓sX5_numberOf_5, ↓sX5_numberOf_6, ↓sX5_numberOf_9, ↓sX5_numberOf_12, ↓sX5_numberOf_13, ↓sX5_numberOf_16, ↓sX5_numberOf_17, ↓sX5_numberOf_20, ↓sX5_numberOf_21, ↓sX5_numberOf_22, ↓zh_ob h0, ↓zh_ar0 h1, ↓zh_ar0 h2, ↓zh_ar0 h3]
  refine ⟨fun a1 => ?_, fun a1 => ⟨fun a2 => ?_, fun a2 => ?_⟩⟩
  · simp only [zi_lt, zi_le, zi_0, zi_1, zi_m1, zi_2, zi_32] at a1
    exact hP _ _ ⟨⟨_, rfl, fun _ _ => by omega⟩, rfl⟩
  · simp only [zi_lt, zi_le, zi_0, zi_1, zi_m1, zi_2, zi_32] at a1 a2
    exact ⟨vp_in_iff.mpr (by omega), hP _ _ ⟨⟨_, rfl, fun _ _ => rfl⟩, rfl⟩⟩
  · simp only [zi_lt, zi_le, zi_0, zi_1, zi_m1, zi_2, zi_32] at a1 a2
    exact hP _ _ ⟨⟨_, rfl, fun _ _ => by omega⟩, rfl⟩
set_option maxRecDepth 100000 in
set_option maxHeartbeats 400000 in
theorem c_Rows_removeLast (G : zG) (w : zW) (r an al ab cap : Nat) (held : Int32) (fn fl fb : Nat → Int32) (h : zRo w r an al ab cap held fn fl fb) :
    z_M G yX5_removeLast wsX5_removeLast zrm0 0 0 [.ref r] w (fun x w' => x = none ∧ z_fr [r] w w' ∧ ∃ h', h'.toInt ≤ held.toInt ∧ zRo w' r an al ab cap h' fn fl fb) := by
  have h' := h
  obtain ⟨⟨h0, h1, h2, h3⟩, ⟨n1, n2, n3, n4, n5, n6⟩, hcap, hh, hl⟩ := h
  refine z_mt (nL := 1) (cc := cX5_removeLast) (ret := none) (by decide) rfl (Nat.le_of_ble_eq_true rfl) 0 [some (.ref r)] rfl ?_
  intro P hP Γ C E
  refine z_gn C E tkX5_removeLast (Nat.le_refl _) (Nat.le_refl _) [] 60 ?_
  simp only [↓z_rn_f, ↓z_rn_t, ↓z_rn_0, ↓zr_in0, ↓zr_ins, ↓zr_inn, ↓zr_bt, ↓zr_bf, ↓zr_li0, ↓zr_lis, ↓zr_la0, ↓zr_las, ↓zr_ll0, ↓zr_lls, ↓zr_1i, ↓zr_1l, ↓zr_1a, ↓zr_2i, ↓zr_2l, ↓zr_lsi, ↓zr_ia, ↓zr_aa, ↓zr_dia, ↓zr_iia, ↓zr_lia, ↓zr_d1i, ↓zr_d1r, ↓zr_e1, ↓zr_e2, ↓zr_e0, ↓zr_f0, ↓zr_fs, ↓zr_s0, ↓zr_ss, ↓zr_len, ↓zr_len0, ↓zr_ok0, ↓zr_okn, ↓zr_oki, ↓zr_okr, ↓zr_oks, ↓zr_tt, ↓zr_ar0u, ↓zr_ar0n, ↓zr_ar1u, ↓zr_ar1n, ↓zr_ar2u, ↓zr_ar2n, ↓zr_obu, ↓zr_obn, ↓Nat.reduceAdd, Nat.reduceEqDiff, Nat.add_left_cancel_iff, not_false_eq_true, z_up_up, true_and, ↓sX5_removeLast_0, ↓sX5_removeLast_1, ↓sX5_removeLast_4, ↓sX5_removeLast_7, ↓sX5_removeLast_8, ↓sX5_removeLast_9, ↓sX5_removeLast_12, ↓sX5_removeLast_13, ↓sX5_removeLast_14, ↓sX5_removeLast_17, ↓zh_ob h0]
  refine ⟨fun a1 => hP _ _ ⟨rfl, ⟨rfl, fun k hk => rfl⟩, held, Int.le_refl _, h'⟩, fun a1 => ?_⟩
  simp only [zi_lt, zi_le, zi_0, zi_1, zi_m1, zi_2, zi_32] at a1
  have e : (held - 1).toInt = held.toInt - 1 := by rw [zi_sub (by rw [zi_1]; omega) (by rw [zi_1]; omega), zi_1]
  refine hP _ _ ⟨rfl, ⟨rfl, fun k hk => ?_⟩, held - 1, by omega, ⟨?_, ?_, ?_, ?_⟩, ⟨n1, n2, n3, n4, n5, n6⟩, hcap, by omega, hl⟩
  all_goals simp_all [z_up_2, Ne.symm n1, Ne.symm n2, Ne.symm n3]
theorem zi_nI {n : Nat} (h : n < 2147483648) : (nI n).toInt = n := nI_toInt h
set_option maxRecDepth 100000 in
set_option maxHeartbeats 400000 in
theorem c_Rows_add (G : zG) (w : zW) (r an al ab cap : Nat) (held num : Int32) (fn fl fb : Nat → Int32) (h : zRo w r an al ab cap held fn fl fb) :
    z_M G yX5_add wsX5_add zrm0 0 0 [.ref r, .int num] w (fun x w' => (held.toInt = cap ∧ x = some (.int (-1)) ∧ w' = w) ∨ (held.toInt < cap ∧ x = some (.int held) ∧ z_fr [r, an, al] w w' ∧ zRo w' r an al ab cap (held + 1) (upd fn held.toNatClampNeg num) (upd fl held.toNatClampNeg 0) fb)) := by
  obtain ⟨⟨h0, h1, h2, h3⟩, ⟨n1, n2, n3, n4, n5, n6⟩, hcap, hh, hl⟩ := h
  refine z_mt (nL := 3) (cc := cX5_add) (ret := some .int) (by decide) rfl (Nat.le_of_ble_eq_true rfl) 1 [some (.ref r), some (.int num), none] rfl ?_
  intro P hP Γ C E
  refine z_gn C E tkX5_add (Nat.le_refl _) (Nat.le_refl _) [] 60 ?_
  simp only [↓z_rn_f, ↓z_rn_t, ↓z_rn_0, ↓zr_in0, ↓zr_ins, ↓zr_inn, ↓zr_bt, ↓zr_bf, ↓zr_li0, ↓zr_lis, ↓zr_la0, ↓zr_las, ↓zr_ll0, ↓zr_lls, ↓zr_1i, ↓zr_1l, ↓zr_1a, ↓zr_2i, ↓zr_2l, ↓zr_lsi, ↓zr_ia, ↓zr_aa, ↓zr_dia, ↓zr_iia, ↓zr_lia, ↓zr_d1i, ↓zr_d1r, ↓zr_e1, ↓zr_e2, ↓zr_e0, ↓zr_f0, ↓zr_fs, ↓zr_s0, ↓zr_ss, ↓zr_len, ↓zr_len0, ↓zr_ok0, ↓zr_okn, ↓zr_oki, ↓zr_okr, ↓zr_oks, ↓zr_tt, ↓zr_ar0u, ↓zr_ar0n, ↓zr_ar1u, ↓zr_ar1n, ↓zr_ar2u, ↓zr_ar2n, ↓zr_obu, ↓zr_obn, ↓Nat.reduceAdd, Nat.reduceEqDiff, Nat.add_left_cancel_iff, not_false_eq_true, z_up_up, true_and, ↓sX5_add_0, ↓sX5_add_1, ↓sX5_add_4, ↓sX5_add_5, ↓sX5_add_8, ↓sX5_add_11, ↓sX5_add_12, ↓sX5_add_13, ↓sX5_add_14, ↓sX5_add_17, ↓sX5_add_18, ↓sX5_add_19, ↓sX5_add_20, ↓sX5_add_23, ↓sX5_add_24, ↓sX5_add_25, ↓sX5_add_28, ↓sX5_add_29, ↓sX5_add_32, ↓sX5_add_33, ↓sX5_add_34, ↓sX5_add_35, ↓sX5_add_36, ↓sX5_add_39, ↓sX5_add_40, ↓sX5_add_41, ↓sX5_add_42, ↓sX5_add_43, ↓zh_ob h0, ↓zh_ar0 h1, ↓zh_ar0 h2, ↓zh_ar0 h3, n1, n2, n3, n4, n5, n6, Ne.symm n1, Ne.symm n2, Ne.symm n3, Ne.symm n4]
  have ec := zi_nI (n := cap) (by omega)
  refine ⟨fun a1 => ?_, fun a1 => ?_⟩
  · simp only [zi_lt, zi_le, zi_0, zi_1, zi_m1, zi_2, zi_32, ec] at a1
    have hr : vp_in held cap := vp_in_iff.mpr (by omega)
    have e : (held + 1).toInt = held.toInt + 1 := by rw [zi_add (by rw [zi_1]; omega) (by rw [zi_1]; omega), zi_1]
    refine ⟨hr, hr, hP _ _ (Or.inr ⟨by omega, rfl, ⟨rfl, fun k hk => ?_⟩, ⟨?_, ?_, ?_, ?_⟩, ⟨n1, n2, n3, n4, n5, n6⟩, hcap, by omega, fun j hj => ?_⟩)⟩
    · simp only [List.mem_cons, List.not_mem_nil, or_false, not_or] at hk
      simp [z_up_2, hk.1, hk.2.1, hk.2.2]
    · simp [z_up_2, n1, n2]
    · simp [z_up_2, n4]
    · simp [z_up_2]
    · simp [z_up_2, Ne.symm n3, Ne.symm n5, Ne.symm n6, h3]
    · unfold upd
      split
      · rw [zi_0]; omega
      · exact hl j hj
  · simp only [zi_lt, zi_le, zi_0, zi_1, zi_m1, zi_2, zi_32, ec] at a1
    exact hP _ _ (Or.inl ⟨by omega, rfl, rfl⟩)
set_option maxRecDepth 100000 in
set_option maxHeartbeats 800000 in
theorem c_Rows_put (G : zG) (w : zW) (r an al ab cap : Nat) (held row i b : Int32) (fn fl fb : Nat → Int32) (h : zRo w r an al ab cap held fn fl fb) :
    z_M G yX5_put wsX5_put zrm1 0 0 [.ref r, .int row, .int i, .int b] w (fun x w' => x = none ∧ z_fr [al, ab] w w' ∧ ∃ fl' fb', zRo w' r an al ab cap held fn fl' fb' ∧ (0 ≤ row.toInt → row.toInt < held.toInt → 0 ≤ i.toInt → i.toInt < 32 → fl' = upd fl row.toNatClampNeg (if fl row.toNatClampNeg < i + 1 then i + 1 else fl row.toNatClampNeg))) := by
  have h' := h
  obtain ⟨⟨h0, h1, h2, h3⟩, ⟨n1, n2, n3, n4, n5, n6⟩, hcap, hh, hl⟩ := h
  refine z_mt (nL := 6) (cc := cX5_put) (ret := none) (by decide) rfl (Nat.le_of_ble_eq_true rfl) 2 [some (.ref r), some (.int row), some (.int i), some (.int b), none, none] rfl ?_
  intro P hP Γ C E
  -- behind the loop
  have tail : ∀ (base bt : Int32) (fb' : Nat → Int32), 0 ≤ row.toInt → row.toInt < held.toInt → 0 ≤ i.toInt → i.toInt < 32 → base.toInt = row.toInt * 32 → z_J G 6 Γ (z_up w ab (.inl (0, cap * 32, .inl fb'))) 0 0 60 [some (.ref r), some (.int row), some (.int i), some (.int b), some (.int base), some (.int bt)] [] := by
    intro base bt fb' b1 b2 b3 b4 b5
    refine z_gn C E tkX5_put (Nat.le_refl _) (Nat.le_refl _) [] 60 ?_
    simp only [↓z_rn_f, ↓z_rn_t, ↓z_rn_0, ↓zr_in0, ↓zr_ins, ↓zr_inn, ↓zr_bt, ↓zr_bf, ↓zr_li0, ↓zr_lis, ↓zr_la0, ↓zr_las, ↓zr_ll0, ↓zr_lls, ↓zr_1i, ↓zr_1l, ↓zr_1a, ↓zr_2i, ↓zr_2l, ↓zr_lsi, ↓zr_ia, ↓zr_aa, ↓zr_dia, ↓zr_iia, ↓zr_lia, ↓zr_d1i, ↓zr_d1r, ↓zr_e1, ↓zr_e2, ↓zr_e0, ↓zr_f0, ↓zr_fs, ↓zr_s0, ↓zr_ss, ↓zr_len, ↓zr_len0, ↓zr_ok0, ↓zr_okn, ↓zr_oki, ↓zr_okr, ↓zr_oks, ↓zr_tt, ↓zr_ar0u, ↓zr_ar0n, ↓zr_ar1u, ↓zr_ar1n, ↓zr_ar2u, ↓zr_ar2n, ↓zr_obu, ↓zr_obn, ↓Nat.reduceAdd, Nat.reduceEqDiff, Nat.add_left_cancel_iff, not_false_eq_true, z_up_up, true_and, ↓sX5_put_0, ↓sX5_put_1, ↓sX5_put_4, ↓sX5_put_5, ↓sX5_put_6, ↓sX5_put_9, ↓sX5_put_12, ↓sX5_put_13, ↓sX5_put_16, ↓sX5_put_17, ↓sX5_put_19, ↓sX5_put_22, ↓sX5_put_23, ↓sX5_put_24, ↓sX5_put_26, ↓sX5_put_27, ↓sX5_put_29, ↓sX5_put_30, ↓sX5_put_33, ↓sX5_put_34, ↓sX5_put_35, ↓sX5_put_37, ↓sX5_put_39, ↓sX5_put_40, ↓sX5_put_43, ↓sX5_put_44, ↓sX5_put_47, ↓sX5_put_49, ↓sX5_put_51, ↓sX5_put_52, ↓sX5_put_53, ↓sX5_put_54, ↓sX5_put_57, ↓sX5_put_60, ↓sX5_put_61, ↓sX5_put_64, ↓sX5_put_66, ↓sX5_put_67, ↓sX5_put_68, ↓sX5_put_69, ↓sX5_put_70, ↓sX5_put_71, ↓sX5_put_74, ↓sX5_put_75, ↓sX5_put_76, ↓sX5_put_79, ↓sX5_put_80, ↓sX5_put_81, ↓sX5_put_82, ↓sX5_put_83, ↓sX5_put_84, ↓sX5_put_87, ↓sX5_put_88, ↓zh_ob h0, ↓zh_ar0 h1, ↓zh_ar0 h2, ↓zh_ar0 h3, n1, n2, n3, n4, n5, n6, Ne.symm n1, Ne.symm n2, Ne.symm n3, Ne.symm n4, Ne.symm n6]
    have e1 : (base + i).toInt = base.toInt + i.toInt := zi_add (by omega) (by omega)
    have hr : vp_in row cap := vp_in_iff.mpr (by omega)
    have hlr := hl _ (zi_nat_lt hr)
    have e2 : (i + 1).toInt = i.toInt + 1 := by rw [zi_add (by rw [zi_1]; omega) (by rw [zi_1]; omega), zi_1]
    refine ⟨vp_in_iff.mpr (by rw [e1]; omega), hr, ?_⟩
    refine z_mmax C E (by decide +kernel) (by decide +kernel) (by decide +kernel) (by decide +kernel) (by decide) ⟨Nat.zero_le _, Nat.zero_le _⟩ (Nat.le_of_ble_eq_true rfl) dX5_put_84 ?_
    refine z_gn C E tkX5_put (Nat.le_refl _) (Nat.le_refl _) [] 60 ?_
    simp only [↓z_rn_f, ↓z_rn_t, ↓z_rn_0, ↓zr_in0, ↓zr_ins, ↓zr_inn, ↓zr_bt, ↓zr_bf, ↓zr_li0, ↓zr_lis, ↓zr_la0, ↓zr_las, ↓zr_ll0, ↓zr_lls, ↓zr_1i, ↓zr_1l, ↓zr_1a, ↓zr_2i, ↓zr_2l, ↓zr_lsi, ↓zr_ia, ↓zr_aa, ↓zr_dia, ↓zr_iia, ↓zr_lia, ↓zr_d1i, ↓zr_d1r, ↓zr_e1, ↓zr_e2, ↓zr_e0, ↓zr_f0, ↓zr_fs, ↓zr_s0, ↓zr_ss, ↓zr_len, ↓zr_len0, ↓zr_ok0, ↓zr_okn, ↓zr_oki, ↓zr_okr, ↓zr_oks, ↓zr_tt, ↓zr_ar0u, ↓zr_ar0n, ↓zr_ar1u, ↓zr_ar1n, ↓zr_ar2u, ↓zr_ar2n, ↓zr_obu, ↓zr_obn, ↓Nat.reduceAdd, Nat.reduceEqDiff, Nat.add_left_cancel_iff, not_false_eq_true, z_up_up, true_and, ↓sX5_put_0, ↓sX5_put_1, ↓sX5_put_4, ↓sX5_put_5, ↓sX5_put_6, ↓sX5_put_9, ↓sX5_put_12, ↓sX5_put_13, ↓sX5_put_16, ↓sX5_put_17, ↓sX5_put_19, ↓sX5_put_22, ↓sX5_put_23, ↓sX5_put_24, ↓sX5_put_26, ↓sX5_put_27, ↓sX5_put_29, ↓sX5_put_30, ↓sX5_put_33, ↓sX5_put_34, ↓sX5_put_35, ↓sX5_put_37, ↓sX5_put_39, ↓sX5_put_40, ↓sX5_put_43, ↓sX5_put_44, ↓sX5_put_47, ↓sX5_put_49, ↓sX5_put_51, ↓sX5_put_52, ↓sX5_put_53, ↓sX5_put_54, ↓sX5_put_57, ↓sX5_put_60, ↓sX5_put_61, ↓sX5_put_64, ↓sX5_put_66, ↓sX5_put_67, ↓sX5_put_68, ↓sX5_put_69, ↓sX5_put_70, ↓sX5_put_71, ↓sX5_put_74, ↓sX5_put_75, ↓sX5_put_76, ↓sX5_put_79, ↓sX5_put_80, ↓sX5_put_81, ↓sX5_put_82, ↓sX5_put_83, ↓sX5_put_84, ↓sX5_put_87, ↓sX5_put_88, ↓zh_ob h0, ↓zh_ar0 h1, ↓zh_ar0 h2, ↓zh_ar0 h3, n1, n2, n3, n4, n5, n6, Ne.symm n1, Ne.symm n2, Ne.symm n3, Ne.symm n4, Ne.symm n6]
    refine ⟨hr, hP _ _ ⟨rfl, ⟨rfl, fun k hk => ?_⟩, _, upd fb' (base + i).toNatClampNeg b, ⟨⟨?_, ?_, ?_, ?_⟩, ⟨n1, n2, n3, n4, n5, n6⟩, hcap, hh, fun j hj => ?_⟩, fun _ _ _ _ => rfl⟩⟩
    · simp only [List.mem_cons, List.not_mem_nil, or_false, not_or] at hk
      simp [z_up_2, hk.1, hk.2]
    · simp [z_up_2, n2, n3, h0]
    · simp [z_up_2, n4, n5, h1]
    · simp [z_up_2]
    · simp [z_up_2, Ne.symm n6]
    · unfold upd
      split
      · rw [zi_max]; omega
      · exact hl j hj
  have loop : ∀ (m : Nat) (base bt : Int32) (fb' : Nat → Int32), i.toInt - bt.toInt < m → 0 ≤ bt.toInt → bt.toInt ≤ 32 → 0 ≤ row.toInt → row.toInt < held.toInt → 0 ≤ i.toInt → i.toInt < 32 → base.toInt = row.toInt * 32 → z_J G 6 Γ (z_up w ab (.inl (0, cap * 32, .inl fb'))) 0 0 37 [some (.ref r), some (.int row), some (.int i), some (.int b), some (.int base), some (.int bt)] [] := by
    intro m
    induction m with
    | zero =>
      intro base bt fb' b0 c1 c2 b1 b2 b3 b4 b5
      refine z_gn C E tkX5_put (Nat.le_refl _) (Nat.le_refl _) [37, 60] 60 ?_
      simp only [↓z_rn_f, ↓z_rn_t, ↓z_rn_0, ↓zr_in0, ↓zr_ins, ↓zr_inn, ↓zr_bt, ↓zr_bf, ↓zr_li0, ↓zr_lis, ↓zr_la0, ↓zr_las, ↓zr_ll0, ↓zr_lls, ↓zr_1i, ↓zr_1l, ↓zr_1a, ↓zr_2i, ↓zr_2l, ↓zr_lsi, ↓zr_ia, ↓zr_aa, ↓zr_dia, ↓zr_iia, ↓zr_lia, ↓zr_d1i, ↓zr_d1r, ↓zr_e1, ↓zr_e2, ↓zr_e0, ↓zr_f0, ↓zr_fs, ↓zr_s0, ↓zr_ss, ↓zr_len, ↓zr_len0, ↓zr_ok0, ↓zr_okn, ↓zr_oki, ↓zr_okr, ↓zr_oks, ↓zr_tt, ↓zr_ar0u, ↓zr_ar0n, ↓zr_ar1u, ↓zr_ar1n, ↓zr_ar2u, ↓zr_ar2n, ↓zr_obu, ↓zr_obn, ↓Nat.reduceAdd, Nat.reduceEqDiff, Nat.add_left_cancel_iff, not_false_eq_true, z_up_up, true_and, ↓sX5_put_0, ↓sX5_put_1, ↓sX5_put_4, ↓sX5_put_5, ↓sX5_put_6, ↓sX5_put_9, ↓sX5_put_12, ↓sX5_put_13, ↓sX5_put_16, ↓sX5_put_17, ↓sX5_put_19, ↓sX5_put_22, ↓sX5_put_23, ↓sX5_put_24, ↓sX5_put_26, ↓sX5_put_27, ↓sX5_put_29, ↓sX5_put_30, ↓sX5_put_33, ↓sX5_put_34, ↓sX5_put_35, ↓sX5_put_37, ↓sX5_put_39, ↓sX5_put_40, ↓sX5_put_43, ↓sX5_put_44, ↓sX5_put_47, ↓sX5_put_49, ↓sX5_put_51, ↓sX5_put_52, ↓sX5_put_53, ↓sX5_put_54, ↓sX5_put_57, ↓sX5_put_60, ↓sX5_put_61, ↓sX5_put_64, ↓sX5_put_66, ↓sX5_put_67, ↓sX5_put_68, ↓sX5_put_69, ↓sX5_put_70, ↓sX5_put_71, ↓sX5_put_74, ↓sX5_put_75, ↓sX5_put_76, ↓sX5_put_79, ↓sX5_put_80, ↓sX5_put_81, ↓sX5_put_82, ↓sX5_put_83, ↓sX5_put_84, ↓sX5_put_87, ↓sX5_put_88, ↓zh_ob h0, ↓zh_ar0 h1, ↓zh_ar0 h2, ↓zh_ar0 h3, n1, n2, n3, n4, n5, n6, Ne.symm n1, Ne.symm n2, Ne.symm n3, Ne.symm n4, Ne.symm n6]
      refine ⟨fun _ => tail base bt fb' b1 b2 b3 b4 b5, fun a1 => ?_⟩
      simp only [zi_lt, zi_le, zi_0, zi_1, zi_m1, zi_2, zi_32] at a1
      omega
    | succ m ih =>
      intro base bt fb' b0 c1 c2 b1 b2 b3 b4 b5
      refine z_gn C E tkX5_put (Nat.le_refl _) (Nat.le_refl _) [37, 60] 60 ?_
      simp only [↓z_rn_f, ↓z_rn_t, ↓z_rn_0, ↓zr_in0, ↓zr_ins, ↓zr_inn, ↓zr_bt, ↓zr_bf, ↓zr_li0, ↓zr_lis, ↓zr_la0, ↓zr_las, ↓zr_ll0, ↓zr_lls, ↓zr_1i, ↓zr_1l, ↓zr_1a, ↓zr_2i, ↓zr_2l, ↓zr_lsi, ↓zr_ia, ↓zr_aa, ↓zr_dia, ↓zr_iia, ↓zr_lia, ↓zr_d1i, ↓zr_d1r, ↓zr_e1, ↓zr_e2, ↓zr_e0, ↓zr_f0, ↓zr_fs, ↓zr_s0, ↓zr_ss, ↓zr_len, ↓zr_len0, ↓zr_ok0, ↓zr_okn, ↓zr_oki, ↓zr_okr, ↓zr_oks, ↓zr_tt, ↓zr_ar0u, ↓zr_ar0n, ↓zr_ar1u, ↓zr_ar1n, ↓zr_ar2u, ↓zr_ar2n, ↓zr_obu, ↓zr_obn, ↓Nat.reduceAdd, Nat.reduceEqDiff, Nat.add_left_cancel_iff, not_false_eq_true, z_up_up, true_and, ↓sX5_put_0, ↓sX5_put_1, ↓sX5_put_4, ↓sX5_put_5, ↓sX5_put_6, ↓sX5_put_9, ↓sX5_put_12, ↓sX5_put_13, ↓sX5_put_16, ↓sX5_put_17, ↓sX5_put_19, ↓sX5_put_22, ↓sX5_put_23, ↓sX5_put_24, ↓sX5_put_26, ↓sX5_put_27, ↓sX5_put_29, ↓sX5_put_30, ↓sX5_put_33, ↓sX5_put_34, ↓sX5_put_35, ↓sX5_put_37, ↓sX5_put_39, ↓sX5_put_40, ↓sX5_put_43, ↓sX5_put_44, ↓sX5_put_47, ↓sX5_put_49, ↓sX5_put_51, ↓sX5_put_52, ↓sX5_put_53, ↓sX5_put_54, ↓sX5_put_57, ↓sX5_put_60, ↓sX5_put_61, ↓sX5_put_64, ↓sX5_put_66, ↓sX5_put_67, ↓sX5_put_68, ↓sX5_put_69, ↓sX5_put_70, ↓sX5_put_71, ↓sX5_put_74, ↓sX5_put_75, ↓sX5_put_76, ↓sX5_put_79, ↓sX5_put_80, ↓sX5_put_81, ↓sX5_put_82, ↓sX5_put_83, ↓sX5_put_84, ↓sX5_put_87, ↓sX5_put_88, ↓zh_ob h0, ↓zh_ar0 h1, ↓zh_ar0 h2, ↓zh_ar0 h3, n1, n2, n3, n4, n5, n6, Ne.symm n1, Ne.symm n2, Ne.symm n3, Ne.symm n4, Ne.symm n6]
      refine ⟨fun _ => tail base bt fb' b1 b2 b3 b4 b5, fun a1 => ?_⟩
      simp only [zi_lt, zi_le, zi_0, zi_1, zi_m1, zi_2, zi_32] at a1
      have e1 : (base + bt).toInt = base.toInt + bt.toInt := zi_add (by omega) (by omega)
      have e2 : (bt + 1).toInt = bt.toInt + 1 := by rw [zi_add (by rw [zi_1]; omega) (by rw [zi_1]; omega), zi_1]
      exact ⟨vp_in_iff.mpr (by rw [e1]; omega), ih base (bt + 1) _ (by omega) (by omega) (by omega) b1 b2 b3 b4 b5⟩
  refine z_gn C E tkX5_put (Nat.le_refl _) (Nat.le_refl _) [37] 60 ?_
  simp only [↓z_rn_f, ↓z_rn_t, ↓z_rn_0, ↓zr_in0, ↓zr_ins, ↓zr_inn, ↓zr_bt, ↓zr_bf, ↓zr_li0, ↓zr_lis, ↓zr_la0, ↓zr_las, ↓zr_ll0, ↓zr_lls, ↓zr_1i, ↓zr_1l, ↓zr_1a, ↓zr_2i, ↓zr_2l, ↓zr_lsi, ↓zr_ia, ↓zr_aa, ↓zr_dia, ↓zr_iia, ↓zr_lia, ↓zr_d1i, ↓zr_d1r, ↓zr_e1, ↓zr_e2, ↓zr_e0, ↓zr_f0, ↓zr_fs, ↓zr_s0, ↓zr_ss, ↓zr_len, ↓zr_len0, ↓zr_ok0, ↓zr_okn, ↓zr_oki, ↓zr_okr, ↓zr_oks, ↓zr_tt, ↓zr_ar0u, ↓zr_ar0n, ↓zr_ar1u, ↓zr_ar1n, ↓zr_ar2u, ↓zr_ar2n, ↓zr_obu, ↓zr_obn, ↓Nat.reduceAdd, Nat.reduceEqDiff, Nat.add_left_cancel_iff, not_false_eq_true, z_up_up, true_and, ↓sX5_put_0, ↓sX5_put_1, ↓sX5_put_4, ↓sX5_put_5, ↓sX5_put_6, ↓sX5_put_9, ↓sX5_put_12, ↓sX5_put_13, ↓sX5_put_16, ↓sX5_put_17, ↓sX5_put_19, ↓sX5_put_22, ↓sX5_put_23, ↓sX5_put_24, ↓sX5_put_26, ↓sX5_put_27, ↓sX5_put_29, ↓sX5_put_30, ↓sX5_put_33, ↓sX5_put_34, ↓sX5_put_35, ↓sX5_put_37, ↓sX5_put_39, ↓sX5_put_40, ↓sX5_put_43, ↓sX5_put_44, ↓sX5_put_47, ↓sX5_put_49, ↓sX5_put_51, ↓sX5_put_52, ↓sX5_put_53, ↓sX5_put_54, ↓sX5_put_57, ↓sX5_put_60, ↓sX5_put_61, ↓sX5_put_64, ↓sX5_put_66, ↓sX5_put_67, ↓sX5_put_68, ↓sX5_put_69, ↓sX5_put_70, ↓sX5_put_71, ↓sX5_put_74, ↓sX5_put_75, ↓sX5_put_76, ↓sX5_put_79, ↓sX5_put_80, ↓sX5_put_81, ↓sX5_put_82, ↓sX5_put_83, ↓sX5_put_84, ↓sX5_put_87, ↓sX5_put_88, ↓zh_ob h0, ↓zh_ar0 h1, ↓zh_ar0 h2, ↓zh_ar0 h3, n1, n2, n3, n4, n5, n6, Ne.symm n1, Ne.symm n2, Ne.symm n3, Ne.symm n4]
  have hno : ∀ (q : ¬ (0 ≤ row.toInt ∧ row.toInt < held.toInt ∧ 0 ≤ i.toInt ∧ i.toInt < 32)), P none w := fun q => hP _ _ ⟨rfl, ⟨rfl, fun _ _ => rfl⟩, fl, fb, h', fun b1 b2 b3 b4 => absurd ⟨b1, b2, b3, b4⟩ q⟩
  refine ⟨fun a1 => hno ?_, fun a1 => ⟨fun a2 => hno ?_, fun a2 => ⟨fun a3 => hno ?_, fun a3 => ⟨fun a4 => ?_, fun a4 => hno ?_⟩⟩⟩⟩
  · simp only [zi_lt, zi_le, zi_0, zi_1, zi_m1, zi_2, zi_32] at a1; omega
  · simp only [zi_lt, zi_le, zi_0, zi_1, zi_m1, zi_2, zi_32] at a1 a2; omega
  · simp only [zi_lt, zi_le, zi_0, zi_1, zi_m1, zi_2, zi_32] at a1 a2 a3; omega
  · simp only [zi_lt, zi_le, zi_0, zi_1, zi_m1, zi_2, zi_32] at a1 a2 a3 a4
    have hr : vp_in row cap := vp_in_iff.mpr (by omega)
    have hlr := hl _ (zi_nat_lt hr)
    have e1 : (row * 32).toInt = row.toInt * 32 := by rw [zi_mul (by rw [zi_32]; omega) (by rw [zi_32]; omega), zi_32]
    refine ⟨hr, ?_⟩
    have := loop 40 (row * 32) (fl row.toNatClampNeg) fb (by omega) hlr.1 hlr.2 (by omega) (by omega) (by omega) (by omega) e1
    rwa [z_up_same h3] at this
  · simp only [zi_lt, zi_le, zi_0, zi_1, zi_m1, zi_2, zi_32] at a1 a2 a3 a4; omega
