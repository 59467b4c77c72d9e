/-! small classes: Tally, Condition, Exit, Sums, Inputs, Keys, Line: their short methods -/
set_option maxRecDepth 100000 in
set_option maxHeartbeats 400000 in
theorem c_Tally_clear (G : zG) (w : zW) (t : Nat) (x1 x2 x3 x4 x5 : Int32) (h0 : w.2 t = some (.inr (8, [.int x1, .int x2, .int x3, .int x4, .int x5]))) :
    z_M G yX7_clear wsX7_clear zrm0 0 0 [.ref t] w (fun x w' => x = none ∧ w' = z_up w t (.inr (8, [.int 0, .int 0, .int 0, .int 0, .int 0]))) := by
  refine z_mt (nL := 1) (cc := cX7_clear) (ret := none) (by decide) rfl (Nat.le_of_ble_eq_true rfl) 0 [some (.ref t)] rfl ?_
  intro P hP Γ C E
  refine z_gn C E tkX7_clear (Nat.le_refl _) (Nat.le_refl _) [] 60 ?_
  simp only [↓z_rn_f, ↓z_rn_t, ↓z_rn_0, ↓zr_in0, ↓zr_ins, ↓zr_inn, ↓zr_bt, ↓zr_bf, ↓zr_li0, ↓zr_lis, ↓zr_la0, ↓zr_las, ↓zr_ll0, ↓zr_lls, ↓zr_1i, ↓zr_1l, ↓zr_1a, ↓zr_2i, ↓zr_2l, ↓zr_lsi, ↓zr_ia, ↓zr_aa, ↓zr_dia, ↓zr_iia, ↓zr_lia, ↓zr_d1i, ↓zr_d1r, ↓zr_e1, ↓zr_e2, ↓zr_e0, ↓zr_f0, ↓zr_fs, ↓zr_s0, ↓zr_ss, ↓zr_len, ↓zr_len0, ↓zr_ok0, ↓zr_okn, ↓zr_oki, ↓zr_okr, ↓zr_oks, ↓zr_tt, ↓zr_ar0u, ↓zr_ar0n, ↓zr_ar1u, ↓zr_ar1n, ↓zr_ar2u, ↓zr_ar2n, ↓zr_obu, ↓zr_obn, ↓Nat.reduceAdd, Nat.reduceEqDiff, Nat.add_left_cancel_iff, not_false_eq_true, z_up_up, true_and, ↓sX7_clear_0, ↓sX7_clear_1, ↓sX7_clear_2, ↓sX7_clear_5, ↓sX7_clear_6, ↓sX7_clear_7, ↓sX7_clear_10, ↓sX7_clear_11, ↓sX7_clear_12, ↓sX7_clear_15, ↓sX7_clear_16, ↓sX7_clear_17, ↓sX7_clear_20, ↓sX7_clear_21, ↓sX7_clear_22, ↓sX7_clear_25, ↓zh_ob h0]
  exact hP _ _ ⟨rfl, rfl⟩
set_option maxRecDepth 100000 in
set_option maxHeartbeats 400000 in
theorem c_Condition_tell (G : zG) (w : zW) (t : Nat) (x1 x2 x3 i op b : Int32) (h0 : w.2 t = some (.inr (1, [.int x1, .int x2, .int x3]))) :
    z_M G yX0_tell wsX0_tell zrm0 0 0 [.ref t, .int i, .int op, .int b] w (fun x w' => x = none ∧ w' = z_up w t (.inr (1, [.int i, .int op, .int b]))) := by
  refine z_mt (nL := 4) (cc := cX0_tell) (ret := none) (by decide) rfl (Nat.le_of_ble_eq_true rfl) 0 [some (.ref t), some (.int i), some (.int op), some (.int b)] rfl ?_
  intro P hP Γ C E
  refine z_gn C E tkX0_tell (Nat.le_refl _) (Nat.le_refl _) [] 60 ?_
  simp only [↓z_rn_f, ↓z_rn_t, ↓z_rn_0, ↓zr_in0, ↓zr_ins, ↓zr_inn, ↓zr_bt, ↓zr_bf, ↓zr_li0, ↓zr_lis, ↓zr_la0, ↓zr_las, ↓zr_ll0, ↓zr_lls, ↓zr_1i, ↓zr_1l, ↓zr_1a, ↓zr_2i, ↓zr_2l, ↓zr_lsi, ↓zr_ia, ↓zr_aa, ↓zr_dia, ↓zr_iia, ↓zr_lia, ↓zr_d1i, ↓zr_d1r, ↓zr_e1, ↓zr_e2, ↓zr_e0, ↓zr_f0, ↓zr_fs, ↓zr_s0, ↓zr_ss, ↓zr_len, ↓zr_len0, ↓zr_ok0, ↓zr_okn, ↓zr_oki, ↓zr_okr, ↓zr_oks, ↓zr_tt, ↓zr_ar0u, ↓zr_ar0n, ↓zr_ar1u, ↓zr_ar1n, ↓zr_ar2u, ↓zr_ar2n, ↓zr_obu, ↓zr_obn, ↓Nat.reduceAdd, Nat.reduceEqDiff, Nat.add_left_cancel_iff, not_false_eq_true, z_up_up, true_and, ↓sX0_tell_0, ↓sX0_tell_1, ↓sX0_tell_2, ↓sX0_tell_5, ↓sX0_tell_6, ↓sX0_tell_7, ↓sX0_tell_10, ↓sX0_tell_11, ↓sX0_tell_12, ↓sX0_tell_15, ↓zh_ob h0]
  exact hP _ _ ⟨rfl, rfl⟩
set_option maxRecDepth 100000 in
set_option maxHeartbeats 400000 in
theorem c_Exit_tell (G : zG) (w : zW) (t : Nat) (x1 x2 x3 a b : Int32) (h0 : w.2 t = some (.inr (2, [.int x1, .int x2, .int x3]))) :
    z_M G yX1_tell wsX1_tell zrm0 0 0 [.ref t, .int a, .int b] w (fun x w' => x = none ∧ w' = z_up w t (.inr (2, [.int a, .int b, .int x3]))) := by
  refine z_mt (nL := 3) (cc := cX1_tell) (ret := none) (by decide) rfl (Nat.le_of_ble_eq_true rfl) 0 [some (.ref t), some (.int a), some (.int b)] rfl ?_
  intro P hP Γ C E
  refine z_gn C E tkX1_tell (Nat.le_refl _) (Nat.le_refl _) [] 60 ?_
  simp only [↓z_rn_f, ↓z_rn_t, ↓z_rn_0, ↓zr_in0, ↓zr_ins, ↓zr_inn, ↓zr_bt, ↓zr_bf, ↓zr_li0, ↓zr_lis, ↓zr_la0, ↓zr_las, ↓zr_ll0, ↓zr_lls, ↓zr_1i, ↓zr_1l, ↓zr_1a, ↓zr_2i, ↓zr_2l, ↓zr_lsi, ↓zr_ia, ↓zr_aa, ↓zr_dia, ↓zr_iia, ↓zr_lia, ↓zr_d1i, ↓zr_d1r, ↓zr_e1, ↓zr_e2, ↓zr_e0, ↓zr_f0, ↓zr_fs, ↓zr_s0, ↓zr_ss, ↓zr_len, ↓zr_len0, ↓zr_ok0, ↓zr_okn, ↓zr_oki, ↓zr_okr, ↓zr_oks, ↓zr_tt, ↓zr_ar0u, ↓zr_ar0n, ↓zr_ar1u, ↓zr_ar1n, ↓zr_ar2u, ↓zr_ar2n, ↓zr_obu, ↓zr_obn, ↓Nat.reduceAdd, Nat.reduceEqDiff, Nat.add_left_cancel_iff, not_false_eq_true, z_up_up, true_and, ↓sX1_tell_0, ↓sX1_tell_1, ↓sX1_tell_2, ↓sX1_tell_5, ↓sX1_tell_6, ↓sX1_tell_7, ↓sX1_tell_10, ↓zh_ob h0]
  exact hP _ _ ⟨rfl, rfl⟩
set_option maxRecDepth 100000 in
set_option maxHeartbeats 400000 in
theorem c_Exit_restart (G : zG) (w : zW) (t : Nat) (x1 x2 x3 : Int32) (h0 : w.2 t = some (.inr (2, [.int x1, .int x2, .int x3]))) :
    z_M G yX1_restart wsX1_restart zrm0 0 0 [.ref t] w (fun x w' => x = none ∧ w' = z_up w t (.inr (2, [.int x1, .int x2, .int 0]))) := by
  refine z_mt (nL := 1) (cc := cX1_restart) (ret := none) (by decide) rfl (Nat.le_of_ble_eq_true rfl) 0 [some (.ref t)] rfl ?_
  intro P hP Γ C E
  refine z_gn C E tkX1_restart (Nat.le_refl _) (Nat.le_refl _) [] 60 ?_
  simp only [↓z_rn_f, ↓z_rn_t, ↓z_rn_0, ↓zr_in0, ↓zr_ins, ↓zr_inn, ↓zr_bt, ↓zr_bf, ↓zr_li0, ↓zr_lis, ↓zr_la0, ↓zr_las, ↓zr_ll0, ↓zr_lls, ↓zr_1i, ↓zr_1l, ↓zr_1a, ↓zr_2i, ↓zr_2l, ↓zr_lsi, ↓zr_ia, ↓zr_aa, ↓zr_dia, ↓zr_iia, ↓zr_lia, ↓zr_d1i, ↓zr_d1r, ↓zr_e1, ↓zr_e2, ↓zr_e0, ↓zr_f0, ↓zr_fs, ↓zr_s0, ↓zr_ss, ↓zr_len, ↓zr_len0, ↓zr_ok0, ↓zr_okn, ↓zr_oki, ↓zr_okr, ↓zr_oks, ↓zr_tt, ↓zr_ar0u, ↓zr_ar0n, ↓zr_ar1u, ↓zr_ar1n, ↓zr_ar2u, ↓zr_ar2n, ↓zr_obu, ↓zr_obn, ↓Nat.reduceAdd, Nat.reduceEqDiff, Nat.add_left_cancel_iff, not_false_eq_true, z_up_up, true_and, ↓sX1_restart_0, ↓sX1_restart_1, ↓sX1_restart_2, ↓sX1_restart_5, ↓zh_ob h0]
  exact hP _ _ ⟨rfl, rfl⟩
/-- Sums at b+20: froms b+21, sizes b+22, trial b+23 -/
def zSu (b : Nat) (w : zW) (told : Int32) : Prop := (∃ f1 f2 f3, w.2 (b + 20) = some (.inr (7, [.ref (b + 21), .ref (b + 22), .ref (b + 23), .int told])) ∧ w.2 (b + 21) = some (.inl (0, 4, .inl f1)) ∧ w.2 (b + 22) = some (.inl (0, 4, .inl f2)) ∧ w.2 (b + 23) = some (.inl (0, 32, .inl f3)) ∧ ∀ j, j < 4 → 0 ≤ (f1 j).toInt ∧ (f1 j).toInt ≤ 31 ∧ 0 ≤ (f2 j).toInt ∧ (f2 j).toInt ≤ 32) ∧ 0 ≤ told.toInt ∧ told.toInt ≤ 4
set_option maxRecDepth 100000 in
set_option maxHeartbeats 400000 in
theorem c_Sums_told (G : zG) (w : zW) (b : Nat) (told : Int32) (h : zSu b w told) :
    z_M G yX6_told wsX6_told zrm0 0 0 [.ref (b + 20)] w (fun x w' => x = some (.int told) ∧ w' = w) := by
  obtain ⟨⟨f1, f2, f3, h0, h1, h2, h3, hf⟩, ht⟩ := h
  refine z_mt (nL := 1) (cc := cX6_told) (ret := some .int) (by decide) rfl (Nat.le_of_ble_eq_true rfl) 0 [some (.ref (b + 20))] rfl ?_
  intro P hP Γ C E
  refine z_gn C E tkX6_told (Nat.le_refl _) (Nat.le_refl _) [] 60 ?_
  simp only [↓z_rn_f, ↓z_rn_t, ↓z_rn_0, ↓zr_in0, ↓zr_ins, ↓zr_inn, ↓zr_bt, ↓zr_bf, ↓zr_li0, ↓zr_lis, ↓zr_la0, ↓zr_las, ↓zr_ll0, ↓zr_lls, ↓zr_1i, ↓zr_1l, ↓zr_1a, ↓zr_2i, ↓zr_2l, ↓zr_lsi, ↓zr_ia, ↓zr_aa, ↓zr_dia, ↓zr_iia, ↓zr_lia, ↓zr_d1i, ↓zr_d1r, ↓zr_e1, ↓zr_e2, ↓zr_e0, ↓zr_f0, ↓zr_fs, ↓zr_s0, ↓zr_ss, ↓zr_len, ↓zr_len0, ↓zr_ok0, ↓zr_okn, ↓zr_oki, ↓zr_okr, ↓zr_oks, ↓zr_tt, ↓zr_ar0u, ↓zr_ar0n, ↓zr_ar1u, ↓zr_ar1n, ↓zr_ar2u, ↓zr_ar2n, ↓zr_obu, ↓zr_obn, ↓Nat.reduceAdd, Nat.reduceEqDiff, Nat.add_left_cancel_iff, not_false_eq_true, z_up_up, true_and, ↓sX6_told_0, ↓sX6_told_1, ↓sX6_told_4, ↓zh_ob h0]
  exact hP _ _ ⟨rfl, rfl⟩
set_option maxRecDepth 100000 in
set_option maxHeartbeats 400000 in
theorem c_Sums_tell (G : zG) (w : zW) (b : Nat) (told fr sz : Int32) (h : zSu b w told) (hfr : 0 ≤ fr.toInt ∧ fr.toInt ≤ 31) (hsz : 0 ≤ sz.toInt ∧ sz.toInt ≤ 32) :
    z_M G yX6_tell wsX6_tell zrm0 0 0 [.ref (b + 20), .int fr, .int sz] w (fun x w' => z_fr [b + 20, b + 21, b + 22] w w' ∧ ((told.toInt = 4 ∧ x = some (.int (-1)) ∧ zSu b w' told) ∨ (told.toInt < 4 ∧ x = some (.int (told + 1)) ∧ zSu b w' (told + 1)))) := by
  have hq := h
  obtain ⟨⟨f1, f2, f3, h0, h1, h2, h3, hf⟩, ht⟩ := h
  refine z_mt (nL := 3) (cc := cX6_tell) (ret := some .int) (by decide) rfl (Nat.le_of_ble_eq_true rfl) 0 [some (.ref (b + 20)), some (.int fr), some (.int sz)] rfl ?_
  intro P hP Γ C E
  refine z_gn C E tkX6_tell (Nat.le_refl _) (Nat.le_refl _) [] 60 ?_
  simp only [↓z_rn_f, ↓z_rn_t, ↓z_rn_0, ↓zr_in0, ↓zr_ins, ↓zr_inn, ↓zr_bt, ↓zr_bf, ↓zr_li0, ↓zr_lis, ↓zr_la0, ↓zr_las, ↓zr_ll0, ↓zr_lls, ↓zr_1i, ↓zr_1l, ↓zr_1a, ↓zr_2i, ↓zr_2l, ↓zr_lsi, ↓zr_ia, ↓zr_aa, ↓zr_dia, ↓zr_iia, ↓zr_lia, ↓zr_d1i, ↓zr_d1r, ↓zr_e1, ↓zr_e2, ↓zr_e0, ↓zr_f0, ↓zr_fs, ↓zr_s0, ↓zr_ss, ↓zr_len, ↓zr_len0, ↓zr_ok0, ↓zr_okn, ↓zr_oki, ↓zr_okr, ↓zr_oks, ↓zr_tt, ↓zr_ar0u, ↓zr_ar0n, ↓zr_ar1u, ↓zr_ar1n, ↓zr_ar2u, ↓zr_ar2n, ↓zr_obu, ↓zr_obn, ↓Nat.reduceAdd, Nat.reduceEqDiff, Nat.add_left_cancel_iff, not_false_eq_true, z_up_up, true_and, ↓sX6_tell_0, ↓sX6_tell_1, ↓sX6_tell_4, ↓sX6_tell_5, ↓sX6_tell_8, ↓sX6_tell_9, ↓sX6_tell_10, ↓sX6_tell_11, ↓sX6_tell_14, ↓sX6_tell_15, ↓sX6_tell_18, ↓sX6_tell_19, ↓sX6_tell_20, ↓sX6_tell_21, ↓sX6_tell_24, ↓sX6_tell_25, ↓sX6_tell_28, ↓sX6_tell_29, ↓sX6_tell_30, ↓sX6_tell_31, ↓sX6_tell_32, ↓sX6_tell_35, ↓sX6_tell_36, ↓sX6_tell_37, ↓sX6_tell_40, ↓sX6_tell_41, ↓sX6_tell_44, ↓zh_ob h0, ↓zh_ar0 h1, ↓zh_ar0 h2, ↓zh_ar0 h3, Nat.add_left_cancel_iff]
  have e4 : (4 : Int32).toInt = 4 := by decide
  refine ⟨fun a1 => ?_, fun a1 => ?_⟩ <;> simp only [zi_lt, zi_le, zi_0, zi_1, zi_m1, zi_2, zi_32, e4] at a1
  · have hv : vp_in told 4 := vp_in_iff.mpr (by omega)
    have e : (told + 1).toInt = told.toInt + 1 := by rw [zi_add (by rw [zi_1]; omega) (by rw [zi_1]; omega), zi_1]
    refine ⟨hv, hv, hP _ _ ⟨⟨rfl, fun k hk => by simp at hk; simp [z_up_2, hk]⟩, Or.inr ⟨a1, rfl, ⟨_, _, f3, by simp [z_up_2], by simp [z_up_2]; rfl, by simp [z_up_2]; rfl, by simp [z_up_2, h3], fun j hj => ?_⟩, by omega⟩⟩⟩
    have := hf j hj
    unfold upd
    by_cases q : j = told.toNatClampNeg
    · simp only [q, if_true]; omega
    · simp only [q, if_false]; exact this
  · exact hP _ _ ⟨⟨rfl, fun _ _ => rfl⟩, Or.inl ⟨by omega, rfl, hq⟩⟩
/-- Line at b+14: rows b+15, spare b+16, starts b+17, heads b+18; copies b+1, keys b+5 -/
def zLi (b : Nat) (w : zW) (held runs asc : Int32) : Prop := (∃ f1 f2 f3 f4, w.2 (b + 14) = some (.inr (5, [.ref (b + 1), .ref (b + 5), .ref (b + 15), .ref (b + 16), .ref (b + 17), .ref (b + 18), .int held, .int runs, .int asc])) ∧ w.2 (b + 15) = some (.inl (0, 1600, .inl f1)) ∧ w.2 (b + 16) = some (.inl (0, 1600, .inl f2)) ∧ w.2 (b + 17) = some (.inl (0, 1601, .inl f3)) ∧ w.2 (b + 18) = some (.inl (0, 16, .inl f4)) ∧ (∀ j, j < 1601 → 0 ≤ (f3 j).toInt ∧ (f3 j).toInt ≤ 1600) ∧ ∀ j, j < 16 → 0 ≤ (f4 j).toInt ∧ (f4 j).toInt ≤ 1600) ∧ (0 ≤ held.toInt ∧ held.toInt ≤ 1600) ∧ (0 ≤ runs.toInt ∧ runs.toInt ≤ 1600) ∧ (asc = 0 ∨ asc = 1)
set_option maxRecDepth 100000 in
set_option maxHeartbeats 400000 in
theorem c_Line_append (G : zG) (w : zW) (b : Nat) (held runs asc row : Int32) (h : zLi b w held runs asc) :
    z_M G yX4_append wsX4_append zrm0 0 0 [.ref (b + 14), .int row] w (fun x w' => x = none ∧ z_fr [b + 14, b + 15] w w' ∧ ∃ held', zLi b w' held' runs asc) := by
  have hq := h
  obtain ⟨⟨f1, f2, f3, f4, h0, h1, h2, h3, h4, hf⟩, hh, hr, ha⟩ := h
  refine z_mt (nL := 2) (cc := cX4_append) (ret := none) (by decide) rfl (Nat.le_of_ble_eq_true rfl) 0 [some (.ref (b + 14)), some (.int row)] rfl ?_
  intro P hP Γ C E
  refine z_gn C E tkX4_append (Nat.le_refl _) (Nat.le_refl _) [] 60 ?_
  simp only [↓z_rn_f, ↓z_rn_t, ↓z_rn_0, ↓zr_in0, ↓zr_ins, ↓zr_inn, ↓zr_bt, ↓zr_bf, ↓zr_li0, ↓zr_lis, ↓zr_la0, ↓zr_las, ↓zr_ll0, ↓zr_lls, ↓zr_1i, ↓zr_1l, ↓zr_1a, ↓zr_2i, ↓zr_2l, ↓zr_lsi, ↓zr_ia, ↓zr_aa, ↓zr_dia, ↓zr_iia, ↓zr_lia, ↓zr_d1i, ↓zr_d1r, ↓zr_e1, ↓zr_e2, ↓zr_e0, ↓zr_f0, ↓zr_fs, ↓zr_s0, ↓zr_ss, ↓zr_len, ↓zr_len0, ↓zr_ok0, ↓zr_okn, ↓zr_oki, ↓zr_okr, ↓zr_oks, ↓zr_tt, ↓zr_ar0u, ↓zr_ar0n, ↓zr_ar1u, ↓zr_ar1n, ↓zr_ar2u, ↓zr_ar2n, ↓zr_obu, ↓zr_obn, ↓Nat.reduceAdd, Nat.reduceEqDiff, Nat.add_left_cancel_iff, not_false_eq_true, z_up_up, true_and, ↓sX4_append_0, ↓sX4_append_1, ↓sX4_append_4, ↓sX4_append_7, ↓sX4_append_10, ↓sX4_append_11, ↓sX4_append_14, ↓sX4_append_15, ↓sX4_append_18, ↓sX4_append_19, ↓sX4_append_20, ↓sX4_append_21, ↓sX4_append_22, ↓sX4_append_25, ↓sX4_append_26, ↓sX4_append_27, ↓sX4_append_30, ↓zh_ob h0, ↓zh_ar0 h1, ↓zh_ar0 h2, ↓zh_ar0 h3, ↓zh_ar0 h4, Nat.add_left_cancel_iff]
  have e4 : (1600 : Int32).toInt = 1600 := by decide
  refine ⟨fun a1 => ?_, fun a1 => ?_⟩ <;> simp only [zi_lt, zi_le, zi_0, zi_1, zi_m1, zi_2, zi_32, e4] at a1
  · exact hP _ _ ⟨rfl, ⟨rfl, fun _ _ => rfl⟩, held, hq⟩
  · have e : (held + 1).toInt = held.toInt + 1 := by rw [zi_add (by rw [zi_1]; omega) (by rw [zi_1]; omega), zi_1]
    exact ⟨vp_in_iff.mpr (by omega), hP _ _ ⟨rfl, ⟨rfl, fun k hk => by simp at hk; simp [z_up_2, hk]⟩, held + 1, ⟨_, f2, f3, f4, by simp [z_up_2], by simp [z_up_2]; rfl, by simp [z_up_2, h2], by simp [z_up_2, h3], by simp [z_up_2, h4], hf⟩, by omega, hr, ha⟩⟩
set_option maxRecDepth 100000 in
set_option maxHeartbeats 400000 in
theorem c_Line_held (G : zG) (w : zW) (b : Nat) (held runs asc : Int32) (h : zLi b w held runs asc) :
    z_M G yX4_held wsX4_held zrm0 0 0 [.ref (b + 14)] w (fun x w' => x = some (.int held) ∧ w' = w) := by
  have hq := h
  obtain ⟨⟨f1, f2, f3, f4, h0, h1, h2, h3, h4, hf⟩, hh, hr, ha⟩ := h
  refine z_mt (nL := 1) (cc := cX4_held) (ret := some .int) (by decide) rfl (Nat.le_of_ble_eq_true rfl) 0 [some (.ref (b + 14))] rfl ?_
  intro P hP Γ C E
  refine z_gn C E tkX4_held (Nat.le_refl _) (Nat.le_refl _) [] 60 ?_
  simp only [↓z_rn_f, ↓z_rn_t, ↓z_rn_0, ↓zr_in0, ↓zr_ins, ↓zr_inn, ↓zr_bt, ↓zr_bf, ↓zr_li0, ↓zr_lis, ↓zr_la0, ↓zr_las, ↓zr_ll0, ↓zr_lls, ↓zr_1i, ↓zr_1l, ↓zr_1a, ↓zr_2i, ↓zr_2l, ↓zr_lsi, ↓zr_ia, ↓zr_aa, ↓zr_dia, ↓zr_iia, ↓zr_lia, ↓zr_d1i, ↓zr_d1r, ↓zr_e1, ↓zr_e2, ↓zr_e0, ↓zr_f0, ↓zr_fs, ↓zr_s0, ↓zr_ss, ↓zr_len, ↓zr_len0, ↓zr_ok0, ↓zr_okn, ↓zr_oki, ↓zr_okr, ↓zr_oks, ↓zr_tt, ↓zr_ar0u, ↓zr_ar0n, ↓zr_ar1u, ↓zr_ar1n, ↓zr_ar2u, ↓zr_ar2n, ↓zr_obu, ↓zr_obn, ↓Nat.reduceAdd, Nat.reduceEqDiff, Nat.add_left_cancel_iff, not_false_eq_true, z_up_up, true_and, ↓sX4_held_0, ↓sX4_held_1, ↓sX4_held_4, ↓zh_ob h0, ↓zh_ar0 h1, ↓zh_ar0 h2, ↓zh_ar0 h3, ↓zh_ar0 h4, Nat.add_left_cancel_iff]
  have e4 : (1600 : Int32).toInt = 1600 := by decide
  exact hP _ _ ⟨rfl, rfl⟩
set_option maxRecDepth 100000 in
set_option maxHeartbeats 400000 in
theorem c_Line_clear (G : zG) (w : zW) (b : Nat) (held runs asc : Int32) (h : zLi b w held runs asc) :
    z_M G yX4_clear wsX4_clear zrm0 0 0 [.ref (b + 14)] w (fun x w' => x = none ∧ z_fr [b + 14] w w' ∧ zLi b w' 0 0 asc) := by
  have hq := h
  obtain ⟨⟨f1, f2, f3, f4, h0, h1, h2, h3, h4, hf⟩, hh, hr, ha⟩ := h
  refine z_mt (nL := 1) (cc := cX4_clear) (ret := none) (by decide) rfl (Nat.le_of_ble_eq_true rfl) 0 [some (.ref (b + 14))] rfl ?_
  intro P hP Γ C E
  refine z_gn C E tkX4_clear (Nat.le_refl _) (Nat.le_refl _) [] 60 ?_
  simp only [↓z_rn_f, ↓z_rn_t, ↓z_rn_0, ↓zr_in0, ↓zr_ins, ↓zr_inn, ↓zr_bt, ↓zr_bf, ↓zr_li0, ↓zr_lis, ↓zr_la0, ↓zr_las, ↓zr_ll0, ↓zr_lls, ↓zr_1i, ↓zr_1l, ↓zr_1a, ↓zr_2i, ↓zr_2l, ↓zr_lsi, ↓zr_ia, ↓zr_aa, ↓zr_dia, ↓zr_iia, ↓zr_lia, ↓zr_d1i, ↓zr_d1r, ↓zr_e1, ↓zr_e2, ↓zr_e0, ↓zr_f0, ↓zr_fs, ↓zr_s0, ↓zr_ss, ↓zr_len, ↓zr_len0, ↓zr_ok0, ↓zr_okn, ↓zr_oki, ↓zr_okr, ↓zr_oks, ↓zr_tt, ↓zr_ar0u, ↓zr_ar0n, ↓zr_ar1u, ↓zr_ar1n, ↓zr_ar2u, ↓zr_ar2n, ↓zr_obu, ↓zr_obn, ↓Nat.reduceAdd, Nat.reduceEqDiff, Nat.add_left_cancel_iff, not_false_eq_true, z_up_up, true_and, ↓sX4_clear_0, ↓sX4_clear_1, ↓sX4_clear_2, ↓sX4_clear_5, ↓sX4_clear_6, ↓sX4_clear_7, ↓sX4_clear_10, ↓zh_ob h0, ↓zh_ar0 h1, ↓zh_ar0 h2, ↓zh_ar0 h3, ↓zh_ar0 h4, Nat.add_left_cancel_iff]
  have e4 : (1600 : Int32).toInt = 1600 := by decide
  exact hP _ _ ⟨rfl, ⟨rfl, fun k hk => by simp at hk; simp [z_up_2, hk]⟩, ⟨f1, f2, f3, f4, by simp [z_up_2], by simp [z_up_2, h1], by simp [z_up_2, h2], by simp [z_up_2, h3], by simp [z_up_2, h4], hf⟩, by rw [zi_0]; omega, by rw [zi_0]; omega, ha⟩
set_option maxRecDepth 100000 in
set_option maxHeartbeats 400000 in
theorem c_Line_at (G : zG) (w : zW) (b : Nat) (held runs asc i : Int32) (h : zLi b w held runs asc) :
    z_M G yX4_at wsX4_at zrm0 0 0 [.ref (b + 14), .int i] w (fun x w' => (∃ v, x = some (.int v)) ∧ w' = w) := by
  have hq := h
  obtain ⟨⟨f1, f2, f3, f4, h0, h1, h2, h3, h4, hf⟩, hh, hr, ha⟩ := h
  refine z_mt (nL := 2) (cc := cX4_at) (ret := some .int) (by decide) rfl (Nat.le_of_ble_eq_true rfl) 0 [some (.ref (b + 14)), some (.int i)] rfl ?_
  intro P hP Γ C E
  refine z_gn C E tkX4_at (Nat.le_refl _) (Nat.le_refl _) [] 60 ?_
  simp only [↓z_rn_f, ↓z_rn_t, ↓z_rn_0, ↓zr_in0, ↓zr_ins, ↓zr_inn, ↓zr_bt, ↓zr_bf, ↓zr_li0, ↓zr_lis, ↓zr_la0, ↓zr_las, ↓zr_ll0, ↓zr_lls, ↓zr_1i, ↓zr_1l, ↓zr_1a, ↓zr_2i, ↓zr_2l, ↓zr_lsi, ↓zr_ia, ↓zr_aa, ↓zr_dia, ↓zr_iia, ↓zr_lia, ↓zr_d1i, ↓zr_d1r, ↓zr_e1, ↓zr_e2, ↓zr_e0, ↓zr_f0, ↓zr_fs, ↓zr_s0, ↓zr_ss, ↓zr_len, ↓zr_len0, ↓zr_ok0, ↓zr_okn, ↓zr_oki, ↓zr_okr, ↓zr_oks, ↓zr_tt, ↓zr_ar0u, ↓zr_ar0n, ↓zr_ar1u, ↓zr_ar1n, ↓zr_ar2u, ↓zr_ar2n, ↓zr_obu, ↓zr_obn, ↓Nat.reduceAdd, Nat.reduceEqDiff, Nat.add_left_cancel_iff, not_false_eq_true, z_up_up, true_and, ↓sX4_at_0, ↓sX4_at_1, ↓sX4_at_4, ↓sX4_at_5, ↓sX4_at_6, ↓sX4_at_9, ↓sX4_at_12, ↓sX4_at_13, ↓sX4_at_16, ↓sX4_at_17, ↓sX4_at_20, ↓sX4_at_21, ↓sX4_at_22, ↓zh_ob h0, ↓zh_ar0 h1, ↓zh_ar0 h2, ↓zh_ar0 h3, ↓zh_ar0 h4, Nat.add_left_cancel_iff]
  have e4 : (1600 : Int32).toInt = 1600 := by decide
  refine ⟨fun _ => hP _ _ ⟨⟨_, rfl⟩, rfl⟩, fun a1 => ⟨fun a2 => ⟨?_, hP _ _ ⟨⟨_, rfl⟩, rfl⟩⟩, fun _ => hP _ _ ⟨⟨_, rfl⟩, rfl⟩⟩⟩
  simp only [zi_lt, zi_le, zi_0, zi_1, zi_m1, zi_2, zi_32] at a1 a2
  exact vp_in_iff.mpr (by omega)
set_option maxRecDepth 100000 in
set_option maxHeartbeats 400000 in
theorem c_Line_put (G : zG) (w : zW) (b : Nat) (held runs asc i row : Int32) (h : zLi b w held runs asc) :
    z_M G yX4_put wsX4_put zrm0 0 0 [.ref (b + 14), .int i, .int row] w (fun x w' => x = none ∧ z_fr [b + 15] w w' ∧ zLi b w' held runs asc) := by
  have hq := h
  obtain ⟨⟨f1, f2, f3, f4, h0, h1, h2, h3, h4, hf⟩, hh, hr, ha⟩ := h
  refine z_mt (nL := 3) (cc := cX4_put) (ret := none) (by decide) rfl (Nat.le_of_ble_eq_true rfl) 0 [some (.ref (b + 14)), some (.int i), some (.int row)] rfl ?_
  intro P hP Γ C E
  refine z_gn C E tkX4_put (Nat.le_refl _) (Nat.le_refl _) [] 60 ?_
  simp only [↓z_rn_f, ↓z_rn_t, ↓z_rn_0, ↓zr_in0, ↓zr_ins, ↓zr_inn, ↓zr_bt, ↓zr_bf, ↓zr_li0, ↓zr_lis, ↓zr_la0, ↓zr_las, ↓zr_ll0, ↓zr_lls, ↓zr_1i, ↓zr_1l, ↓zr_1a, ↓zr_2i, ↓zr_2l, ↓zr_lsi, ↓zr_ia, ↓zr_aa, ↓zr_dia, ↓zr_iia, ↓zr_lia, ↓zr_d1i, ↓zr_d1r, ↓zr_e1, ↓zr_e2, ↓zr_e0, ↓zr_f0, ↓zr_fs, ↓zr_s0, ↓zr_ss, ↓zr_len, ↓zr_len0, ↓zr_ok0, ↓zr_okn, ↓zr_oki, ↓zr_okr, ↓zr_oks, ↓zr_tt, ↓zr_ar0u, ↓zr_ar0n, ↓zr_ar1u, ↓zr_ar1n, ↓zr_ar2u, ↓zr_ar2n, ↓zr_obu, ↓zr_obn, ↓Nat.reduceAdd, Nat.reduceEqDiff, Nat.add_left_cancel_iff, not_false_eq_true, z_up_up, true_and, ↓sX4_put_0, ↓sX4_put_1, ↓sX4_put_4, ↓sX4_put_5, ↓sX4_put_6, ↓sX4_put_9, ↓sX4_put_12, ↓sX4_put_13, ↓sX4_put_16, ↓sX4_put_17, ↓sX4_put_18, ↓sX4_put_19, ↓zh_ob h0, ↓zh_ar0 h1, ↓zh_ar0 h2, ↓zh_ar0 h3, ↓zh_ar0 h4, Nat.add_left_cancel_iff]
  have e4 : (1600 : Int32).toInt = 1600 := by decide
  refine ⟨fun _ => hP _ _ ⟨rfl, ⟨rfl, fun _ _ => rfl⟩, hq⟩, fun a1 => ⟨fun _ => hP _ _ ⟨rfl, ⟨rfl, fun _ _ => rfl⟩, hq⟩, fun a2 => ?_⟩⟩
  simp only [zi_lt, zi_le, zi_0, zi_1, zi_m1, zi_2, zi_32] at a1 a2
  exact ⟨vp_in_iff.mpr (by omega), hP _ _ ⟨rfl, ⟨rfl, fun k hk => by simp at hk; simp [z_up_2, hk]⟩, ⟨_, f2, f3, f4, by simp [z_up_2, h0], by simp [z_up_2]; rfl, by simp [z_up_2, h2], by simp [z_up_2, h3], by simp [z_up_2, h4], hf⟩, hh, hr, ha⟩⟩
set_option maxRecDepth 100000 in
set_option maxHeartbeats 400000 in
theorem c_Line_orderBy (G : zG) (w : zW) (b : Nat) (held runs asc st : Int32) (h : zLi b w held runs asc) (hst : st = 0 ∨ st = 1) :
    z_M G yX4_orderBy wsX4_orderBy zrm0 0 0 [.ref (b + 14), .int st] w (fun x w' => x = none ∧ z_fr [b + 14] w w' ∧ zLi b w' held runs st) := by
  have hq := h
  obtain ⟨⟨f1, f2, f3, f4, h0, h1, h2, h3, h4, hf⟩, hh, hr, ha⟩ := h
  refine z_mt (nL := 2) (cc := cX4_orderBy) (ret := none) (by decide) rfl (Nat.le_of_ble_eq_true rfl) 0 [some (.ref (b + 14)), some (.int st)] rfl ?_
  intro P hP Γ C E
  refine z_gn C E tkX4_orderBy (Nat.le_refl _) (Nat.le_refl _) [] 60 ?_
  simp only [↓z_rn_f, ↓z_rn_t, ↓z_rn_0, ↓zr_in0, ↓zr_ins, ↓zr_inn, ↓zr_bt, ↓zr_bf, ↓zr_li0, ↓zr_lis, ↓zr_la0, ↓zr_las, ↓zr_ll0, ↓zr_lls, ↓zr_1i, ↓zr_1l, ↓zr_1a, ↓zr_2i, ↓zr_2l, ↓zr_lsi, ↓zr_ia, ↓zr_aa, ↓zr_dia, ↓zr_iia, ↓zr_lia, ↓zr_d1i, ↓zr_d1r, ↓zr_e1, ↓zr_e2, ↓zr_e0, ↓zr_f0, ↓zr_fs, ↓zr_s0, ↓zr_ss, ↓zr_len, ↓zr_len0, ↓zr_ok0, ↓zr_okn, ↓zr_oki, ↓zr_okr, ↓zr_oks, ↓zr_tt, ↓zr_ar0u, ↓zr_ar0n, ↓zr_ar1u, ↓zr_ar1n, ↓zr_ar2u, ↓zr_ar2n, ↓zr_obu, ↓zr_obn, ↓Nat.reduceAdd, Nat.reduceEqDiff, Nat.add_left_cancel_iff, not_false_eq_true, z_up_up, true_and, ↓sX4_orderBy_0, ↓sX4_orderBy_1, ↓sX4_orderBy_2, ↓sX4_orderBy_5, ↓zh_ob h0, ↓zh_ar0 h1, ↓zh_ar0 h2, ↓zh_ar0 h3, ↓zh_ar0 h4, Nat.add_left_cancel_iff]
  have e4 : (1600 : Int32).toInt = 1600 := by decide
  exact ⟨hst, hP _ _ ⟨rfl, ⟨rfl, fun k hk => by simp at hk; simp [z_up_2, hk]⟩, ⟨f1, f2, f3, f4, by simp [z_up_2], by simp [z_up_2, h1], by simp [z_up_2, h2], by simp [z_up_2, h3], by simp [z_up_2, h4], hf⟩, hh, hr, hst⟩⟩
set_option maxRecDepth 100000 in
set_option maxHeartbeats 400000 in
theorem c_Line_beginRun (G : zG) (w : zW) (b : Nat) (held runs asc : Int32) (h : zLi b w held runs asc) :
    z_M G yX4_beginRun wsX4_beginRun zrm0 0 0 [.ref (b + 14)] w (fun x w' => x = none ∧ z_fr [b + 14, b + 17] w w' ∧ ∃ runs', zLi b w' held runs' asc) := by
  have hq := h
  obtain ⟨⟨f1, f2, f3, f4, h0, h1, h2, h3, h4, hf⟩, hh, hr, ha⟩ := h
  refine z_mt (nL := 1) (cc := cX4_beginRun) (ret := none) (by decide) rfl (Nat.le_of_ble_eq_true rfl) 0 [some (.ref (b + 14))] rfl ?_
  intro P hP Γ C E
  refine z_gn C E tkX4_beginRun (Nat.le_refl _) (Nat.le_refl _) [] 60 ?_
  simp only [↓z_rn_f, ↓z_rn_t, ↓z_rn_0, ↓zr_in0, ↓zr_ins, ↓zr_inn, ↓zr_bt, ↓zr_bf, ↓zr_li0, ↓zr_lis, ↓zr_la0, ↓zr_las, ↓zr_ll0, ↓zr_lls, ↓zr_1i, ↓zr_1l, ↓zr_1a, ↓zr_2i, ↓zr_2l, ↓zr_lsi, ↓zr_ia, ↓zr_aa, ↓zr_dia, ↓zr_iia, ↓zr_lia, ↓zr_d1i, ↓zr_d1r, ↓zr_e1, ↓zr_e2, ↓zr_e0, ↓zr_f0, ↓zr_fs, ↓zr_s0, ↓zr_ss, ↓zr_len, ↓zr_len0, ↓zr_ok0, ↓zr_okn, ↓zr_oki, ↓zr_okr, ↓zr_oks, ↓zr_tt, ↓zr_ar0u, ↓zr_ar0n, ↓zr_ar1u, ↓zr_ar1n, ↓zr_ar2u, ↓zr_ar2n, ↓zr_obu, ↓zr_obn, ↓Nat.reduceAdd, Nat.reduceEqDiff, Nat.add_left_cancel_iff, not_false_eq_true, z_up_up, true_and, ↓sX4_beginRun_0, ↓sX4_beginRun_1, ↓sX4_beginRun_4, ↓sX4_beginRun_7, ↓sX4_beginRun_10, ↓sX4_beginRun_11, ↓sX4_beginRun_14, ↓sX4_beginRun_15, ↓sX4_beginRun_18, ↓sX4_beginRun_19, ↓sX4_beginRun_22, ↓sX4_beginRun_23, ↓sX4_beginRun_24, ↓sX4_beginRun_25, ↓sX4_beginRun_28, ↓sX4_beginRun_29, ↓sX4_beginRun_30, ↓sX4_beginRun_33, ↓zh_ob h0, ↓zh_ar0 h1, ↓zh_ar0 h2, ↓zh_ar0 h3, ↓zh_ar0 h4, Nat.add_left_cancel_iff]
  have e4 : (1600 : Int32).toInt = 1600 := by decide
  refine ⟨fun _ => hP _ _ ⟨rfl, ⟨rfl, fun _ _ => rfl⟩, runs, hq⟩, fun a1 => ?_⟩
  simp only [zi_lt, zi_le, zi_0, zi_1, zi_m1, zi_2, zi_32, e4] at a1
  have e : (runs + 1).toInt = runs.toInt + 1 := by rw [zi_add (by rw [zi_1]; omega) (by rw [zi_1]; omega), zi_1]
  exact ⟨vp_in_iff.mpr (by omega), hP _ _ ⟨rfl, ⟨rfl, fun k hk => by simp at hk; simp [z_up_2, hk]⟩, runs + 1, ⟨f1, f2, _, f4, by simp [z_up_2], by simp [z_up_2, h1], by simp [z_up_2, h2], by simp [z_up_2]; rfl, by simp [z_up_2, h4], fun j hj => by
      have := hf.1 j hj
      unfold upd
      by_cases q : j = runs.toNatClampNeg
      · simp only [q, if_true]; omega
      · simp only [q, if_false]; exact this, hf.2⟩, hh, by omega, ha⟩⟩
set_option maxRecDepth 100000 in
set_option maxHeartbeats 400000 in
theorem c_Line_endRuns (G : zG) (w : zW) (b : Nat) (held runs asc : Int32) (h : zLi b w held runs asc) :
    z_M G yX4_endRuns wsX4_endRuns zrm0 0 0 [.ref (b + 14)] w (fun x w' => x = none ∧ z_fr [b + 17] w w' ∧ zLi b w' held runs asc) := by
  have hq := h
  obtain ⟨⟨f1, f2, f3, f4, h0, h1, h2, h3, h4, hf⟩, hh, hr, ha⟩ := h
  refine z_mt (nL := 1) (cc := cX4_endRuns) (ret := none) (by decide) rfl (Nat.le_of_ble_eq_true rfl) 0 [some (.ref (b + 14))] rfl ?_
  intro P hP Γ C E
  refine z_gn C E tkX4_endRuns (Nat.le_refl _) (Nat.le_refl _) [] 60 ?_
  simp only [↓z_rn_f, ↓z_rn_t, ↓z_rn_0, ↓zr_in0, ↓zr_ins, ↓zr_inn, ↓zr_bt, ↓zr_bf, ↓zr_li0, ↓zr_lis, ↓zr_la0, ↓zr_las, ↓zr_ll0, ↓zr_lls, ↓zr_1i, ↓zr_1l, ↓zr_1a, ↓zr_2i, ↓zr_2l, ↓zr_lsi, ↓zr_ia, ↓zr_aa, ↓zr_dia, ↓zr_iia, ↓zr_lia, ↓zr_d1i, ↓zr_d1r, ↓zr_e1, ↓zr_e2, ↓zr_e0, ↓zr_f0, ↓zr_fs, ↓zr_s0, ↓zr_ss, ↓zr_len, ↓zr_len0, ↓zr_ok0, ↓zr_okn, ↓zr_oki, ↓zr_okr, ↓zr_oks, ↓zr_tt, ↓zr_ar0u, ↓zr_ar0n, ↓zr_ar1u, ↓zr_ar1n, ↓zr_ar2u, ↓zr_ar2n, ↓zr_obu, ↓zr_obn, ↓Nat.reduceAdd, Nat.reduceEqDiff, Nat.add_left_cancel_iff, not_false_eq_true, z_up_up, true_and, ↓sX4_endRuns_0, ↓sX4_endRuns_1, ↓sX4_endRuns_4, ↓sX4_endRuns_5, ↓sX4_endRuns_8, ↓sX4_endRuns_9, ↓sX4_endRuns_12, ↓sX4_endRuns_13, ↓zh_ob h0, ↓zh_ar0 h1, ↓zh_ar0 h2, ↓zh_ar0 h3, ↓zh_ar0 h4, Nat.add_left_cancel_iff]
  have e4 : (1600 : Int32).toInt = 1600 := by decide
  exact ⟨vp_in_iff.mpr (by omega), hP _ _ ⟨rfl, ⟨rfl, fun k hk => by simp at hk; simp [z_up_2, hk]⟩, ⟨f1, f2, _, f4, by simp [z_up_2, h0], by simp [z_up_2, h1], by simp [z_up_2, h2], by simp [z_up_2]; rfl, by simp [z_up_2, h4], fun j hj => by
      have := hf.1 j hj
      unfold upd
      by_cases q : j = runs.toNatClampNeg
      · simp only [q, if_true]; omega
      · simp only [q, if_false]; exact this, hf.2⟩, hh, hr, ha⟩⟩
set_option maxRecDepth 100000 in
set_option maxHeartbeats 400000 in
theorem c_Line_cut (G : zG) (w : zW) (b : Nat) (held runs asc len : Int32) (h : zLi b w held runs asc) :
    z_M G yX4_cut wsX4_cut zrm1 0 0 [.ref (b + 14), .int len] w (fun x w' => x = none ∧ z_fr [b + 14] w w' ∧ ∃ held', zLi b w' held' runs asc) := by
  have hq := h
  obtain ⟨⟨f1, f2, f3, f4, h0, h1, h2, h3, h4, hf⟩, hh, hr, ha⟩ := h
  refine z_mt (nL := 2) (cc := cX4_cut) (ret := none) (by decide) rfl (Nat.le_of_ble_eq_true rfl) 0 [some (.ref (b + 14)), some (.int len)] rfl ?_
  intro P hP Γ C E
  refine z_gn C E tkX4_cut (Nat.le_refl _) (Nat.le_refl _) [] 60 ?_
  simp only [↓z_rn_f, ↓z_rn_t, ↓z_rn_0, ↓zr_in0, ↓zr_ins, ↓zr_inn, ↓zr_bt, ↓zr_bf, ↓zr_li0, ↓zr_lis, ↓zr_la0, ↓zr_las, ↓zr_ll0, ↓zr_lls, ↓zr_1i, ↓zr_1l, ↓zr_1a, ↓zr_2i, ↓zr_2l, ↓zr_lsi, ↓zr_ia, ↓zr_aa, ↓zr_dia, ↓zr_iia, ↓zr_lia, ↓zr_d1i, ↓zr_d1r, ↓zr_e1, ↓zr_e2, ↓zr_e0, ↓zr_f0, ↓zr_fs, ↓zr_s0, ↓zr_ss, ↓zr_len, ↓zr_len0, ↓zr_ok0, ↓zr_okn, ↓zr_oki, ↓zr_okr, ↓zr_oks, ↓zr_tt, ↓zr_ar0u, ↓zr_ar0n, ↓zr_ar1u, ↓zr_ar1n, ↓zr_ar2u, ↓zr_ar2n, ↓zr_obu, ↓zr_obn, ↓Nat.reduceAdd, Nat.reduceEqDiff, Nat.add_left_cancel_iff, not_false_eq_true, z_up_up, true_and, ↓sX4_cut_0, ↓sX4_cut_1, ↓sX4_cut_2, ↓sX4_cut_5, ↓sX4_cut_6, ↓sX4_cut_7, ↓sX4_cut_10, ↓sX4_cut_13, ↓sX4_cut_16, ↓zh_ob h0, ↓zh_ar0 h1, ↓zh_ar0 h2, ↓zh_ar0 h3, ↓zh_ar0 h4, Nat.add_left_cancel_iff]
  have e4 : (1600 : Int32).toInt = 1600 := by decide
  refine z_mmax C E (by decide +kernel) (by decide +kernel) (by decide +kernel) (by decide +kernel) (by decide) ⟨Nat.zero_le _, Nat.zero_le _⟩ (Nat.le_of_ble_eq_true rfl) dX4_cut_7 ?_
  refine z_mmin C E (by decide +kernel) (by decide +kernel) (by decide +kernel) (by decide +kernel) (by decide) ⟨Nat.zero_le _, Nat.zero_le _⟩ (Nat.le_of_ble_eq_true rfl) dX4_cut_10 ?_
  have e5 := zi_min (x := held) (y := if len < 0 then 0 else len)
  have e6 := zi_max (x := len) (y := 0)
  refine z_gn C E tkX4_cut (Nat.le_refl _) (Nat.le_refl _) [] 60 ?_
  simp only [↓z_rn_f, ↓z_rn_t, ↓z_rn_0, ↓zr_in0, ↓zr_ins, ↓zr_inn, ↓zr_bt, ↓zr_bf, ↓zr_li0, ↓zr_lis, ↓zr_la0, ↓zr_las, ↓zr_ll0, ↓zr_lls, ↓zr_1i, ↓zr_1l, ↓zr_1a, ↓zr_2i, ↓zr_2l, ↓zr_lsi, ↓zr_ia, ↓zr_aa, ↓zr_dia, ↓zr_iia, ↓zr_lia, ↓zr_d1i, ↓zr_d1r, ↓zr_e1, ↓zr_e2, ↓zr_e0, ↓zr_f0, ↓zr_fs, ↓zr_s0, ↓zr_ss, ↓zr_len, ↓zr_len0, ↓zr_ok0, ↓zr_okn, ↓zr_oki, ↓zr_okr, ↓zr_oks, ↓zr_tt, ↓zr_ar0u, ↓zr_ar0n, ↓zr_ar1u, ↓zr_ar1n, ↓zr_ar2u, ↓zr_ar2n, ↓zr_obu, ↓zr_obn, ↓Nat.reduceAdd, Nat.reduceEqDiff, Nat.add_left_cancel_iff, not_false_eq_true, z_up_up, true_and, ↓sX4_cut_0, ↓sX4_cut_1, ↓sX4_cut_2, ↓sX4_cut_5, ↓sX4_cut_6, ↓sX4_cut_7, ↓sX4_cut_10, ↓sX4_cut_13, ↓sX4_cut_16, ↓zh_ob h0]
  rw [zi_0] at e6
  exact hP _ _ ⟨rfl, ⟨rfl, fun k hk => by simp at hk; simp [z_up_2, hk]⟩, _, ⟨f1, f2, f3, f4, by simp [z_up_2]; rfl, by simp [z_up_2, h1], by simp [z_up_2, h2], by simp [z_up_2, h3], by simp [z_up_2, h4], hf⟩, by rw [e5, e6]; omega, hr, ha⟩
