set_option maxRecDepth 100000 in
set_option maxHeartbeats 1000000 in
theorem n_compare (G : zG) (w : zW) (c : Nat) (a b : Int32) (σ : Nat → Int32) (F : Nat → Nat → Int32) (h : zMo c w σ F) :
    z_M G yX9_compare wsX9_compare zrm3 0 0 [.ref c, .int a, .int b] w (fun x w' => (∃ v, x = some (.int v)) ∧ zKm c w w' ∧ ∃ σ' F', zMo c w' σ' F' ∧ zTi σ F σ' F') := by
  obtain ⟨h0, hA, bK, bR, bS, bL, bI, bC, bA⟩ := id h
  unfold zMob at h0
  refine z_mt (nL := 3) (cc := cX9_compare) (ret := some .int) (by decide) rfl (Nat.le_of_ble_eq_true rfl) 0 [some (.ref c), some (.int a), some (.int b)] rfl ?_
  intro P hP Γ C E
  refine z_gn C E tkX9_compare (Nat.zero_le _) (Nat.zero_le _) [] 60 ?_
  simp only [↓z_rn_f, ↓z_rn_t, ↓z_rn_0, ↓zr_in0, ↓zr_ins, ↓zr_inn, ↓zr_bt, ↓zr_bf, ↓zr_li0, ↓zr_lis, ↓zr_la0, ↓zr_las, ↓zr_ll0, ↓zr_lls, ↓zr_1i, ↓zr_1l, ↓zr_1a, ↓zr_2i, ↓zr_2l, ↓zr_lsi, ↓zr_ia, ↓zr_aa, ↓zr_dia, ↓zr_iia, ↓zr_lia, ↓zr_d1i, ↓zr_d1r, ↓zr_e1, ↓zr_e2, ↓zr_e0, ↓zr_f0, ↓zr_fs, ↓zr_s0, ↓zr_ss, ↓zr_len, ↓zr_len0, ↓zr_ok0, ↓zr_okn, ↓zr_oki, ↓zr_okr, ↓zr_oks, ↓zr_tt, ↓zr_ar0u, ↓zr_ar0n, ↓zr_ar1u, ↓zr_ar1n, ↓zr_ar2u, ↓zr_ar2n, ↓zr_obu, ↓zr_obn, ↓Nat.reduceAdd, Nat.reduceEqDiff, Nat.add_left_cancel_iff, not_false_eq_true, z_up_up, true_and, ↓sX9_compare_0, ↓sX9_compare_1, ↓sX9_compare_2, ↓sX9_compare_3, ↓sX9_compare_6, ↓sX9_compare_9, ↓sX9_compare_10, ↓sX9_compare_11, ↓sX9_compare_14, ↓sX9_compare_17, ↓sX9_compare_18, ↓sX9_compare_21, ↓sX9_compare_22, ↓sX9_compare_25, ↓sX9_compare_26, ↓sX9_compare_29, ↓sX9_compare_32, ↓sX9_compare_33, ↓sX9_compare_36, ↓sX9_compare_37, ↓sX9_compare_38, ↓sX9_compare_41, ↓sX9_compare_43, ↓sX9_compare_44, ↓sX9_compare_45, ↓sX9_compare_46, ↓sX9_compare_47, ↓sX9_compare_48, ↓sX9_compare_51, ↓sX9_compare_53, ↓sX9_compare_54, ↓sX9_compare_55, ↓sX9_compare_56, ↓sX9_compare_57, ↓sX9_compare_60, ↓zh_ob h0, zn_a, zn_b, zq1, zq2, zq3, zq4, zq5, zq6, zq7, eq_self, Int32.reduceLT, Int32.reduceLE, Int32.reduceAdd, not_true_eq_false, not_false_eq_true, false_implies, true_implies, and_true, true_and, or_true, true_or]
  refine z_callV (n := 1) (As := [.int a]) (rest := [.ref c]) C E (n_isRecord G w c a σ F h) gX9_compare_X9_isRecord rfl rfl rfl (by decide +kernel) (by decide) dX9_compare_3 rfl ⟨Nat.zero_le _, Nat.zero_le _⟩ (Nat.le_of_ble_eq_true rfl) rfl h0 ?_
  rintro x w2 ⟨rfl, hw2⟩
  rw [hw2]
  clear hw2 w2
  simp only [Option.toList, List.cons_append, List.nil_append]
  have b1 := bR.1
  by_cases qa : 1 ≤ a.toInt ∧ a.toInt ≤ (σ 11).toInt
  case neg =>
    rw [if_neg qa]
    refine z_gn C E tkX9_compare (Nat.zero_le _) (Nat.zero_le _) [] 60 ?_
    simp only [↓z_rn_f, ↓z_rn_t, ↓z_rn_0, ↓zr_in0, ↓zr_ins, ↓zr_inn, ↓zr_bt, ↓zr_bf, ↓zr_li0, ↓zr_lis, ↓zr_la0, ↓zr_las, ↓zr_ll0, ↓zr_lls, ↓zr_1i, ↓zr_1l, ↓zr_1a, ↓zr_2i, ↓zr_2l, ↓zr_lsi, ↓zr_ia, ↓zr_aa, ↓zr_dia, ↓zr_iia, ↓zr_lia, ↓zr_d1i, ↓zr_d1r, ↓zr_e1, ↓zr_e2, ↓zr_e0, ↓zr_f0, ↓zr_fs, ↓zr_s0, ↓zr_ss, ↓zr_len, ↓zr_len0, ↓zr_ok0, ↓zr_okn, ↓zr_oki, ↓zr_okr, ↓zr_oks, ↓zr_tt, ↓zr_ar0u, ↓zr_ar0n, ↓zr_ar1u, ↓zr_ar1n, ↓zr_ar2u, ↓zr_ar2n, ↓zr_obu, ↓zr_obn, ↓Nat.reduceAdd, Nat.reduceEqDiff, Nat.add_left_cancel_iff, not_false_eq_true, z_up_up, true_and, ↓sX9_compare_0, ↓sX9_compare_1, ↓sX9_compare_2, ↓sX9_compare_3, ↓sX9_compare_6, ↓sX9_compare_9, ↓sX9_compare_10, ↓sX9_compare_11, ↓sX9_compare_14, ↓sX9_compare_17, ↓sX9_compare_18, ↓sX9_compare_21, ↓sX9_compare_22, ↓sX9_compare_25, ↓sX9_compare_26, ↓sX9_compare_29, ↓sX9_compare_32, ↓sX9_compare_33, ↓sX9_compare_36, ↓sX9_compare_37, ↓sX9_compare_38, ↓sX9_compare_41, ↓sX9_compare_43, ↓sX9_compare_44, ↓sX9_compare_45, ↓sX9_compare_46, ↓sX9_compare_47, ↓sX9_compare_48, ↓sX9_compare_51, ↓sX9_compare_53, ↓sX9_compare_54, ↓sX9_compare_55, ↓sX9_compare_56, ↓sX9_compare_57, ↓sX9_compare_60, ↓zh_ob h0, zn_a, zn_b, zq1, zq2, zq3, zq4, zq5, zq6, zq7, eq_self, Int32.reduceLT, Int32.reduceLE, Int32.reduceAdd, not_true_eq_false, not_false_eq_true, false_implies, true_implies, and_true, true_and, or_true, true_or]
    exact hP _ _ ⟨⟨_, rfl⟩, (zKm.rf _ _).up _ _ (Nat.le_refl _) (by omega), sU σ 0 1, F, ⟨by rw [z_up_2, if_pos rfl]; rfl, hA.up0 _, bK, bR, bS, bL, bI, bC, bA⟩, rfl, rfl, rfl, rfl⟩
  rw [if_pos qa]
  refine z_gn C E tkX9_compare (Nat.zero_le _) (Nat.zero_le _) [] 60 ?_
  simp only [↓z_rn_f, ↓z_rn_t, ↓z_rn_0, ↓zr_in0, ↓zr_ins, ↓zr_inn, ↓zr_bt, ↓zr_bf, ↓zr_li0, ↓zr_lis, ↓zr_la0, ↓zr_las, ↓zr_ll0, ↓zr_lls, ↓zr_1i, ↓zr_1l, ↓zr_1a, ↓zr_2i, ↓zr_2l, ↓zr_lsi, ↓zr_ia, ↓zr_aa, ↓zr_dia, ↓zr_iia, ↓zr_lia, ↓zr_d1i, ↓zr_d1r, ↓zr_e1, ↓zr_e2, ↓zr_e0, ↓zr_f0, ↓zr_fs, ↓zr_s0, ↓zr_ss, ↓zr_len, ↓zr_len0, ↓zr_ok0, ↓zr_okn, ↓zr_oki, ↓zr_okr, ↓zr_oks, ↓zr_tt, ↓zr_ar0u, ↓zr_ar0n, ↓zr_ar1u, ↓zr_ar1n, ↓zr_ar2u, ↓zr_ar2n, ↓zr_obu, ↓zr_obn, ↓Nat.reduceAdd, Nat.reduceEqDiff, Nat.add_left_cancel_iff, not_false_eq_true, z_up_up, true_and, ↓sX9_compare_0, ↓sX9_compare_1, ↓sX9_compare_2, ↓sX9_compare_3, ↓sX9_compare_6, ↓sX9_compare_9, ↓sX9_compare_10, ↓sX9_compare_11, ↓sX9_compare_14, ↓sX9_compare_17, ↓sX9_compare_18, ↓sX9_compare_21, ↓sX9_compare_22, ↓sX9_compare_25, ↓sX9_compare_26, ↓sX9_compare_29, ↓sX9_compare_32, ↓sX9_compare_33, ↓sX9_compare_36, ↓sX9_compare_37, ↓sX9_compare_38, ↓sX9_compare_41, ↓sX9_compare_43, ↓sX9_compare_44, ↓sX9_compare_45, ↓sX9_compare_46, ↓sX9_compare_47, ↓sX9_compare_48, ↓sX9_compare_51, ↓sX9_compare_53, ↓sX9_compare_54, ↓sX9_compare_55, ↓sX9_compare_56, ↓sX9_compare_57, ↓sX9_compare_60, zn_a, zn_b, zq1, zq2, zq3, zq4, zq5, zq6, zq7, eq_self, Int32.reduceLT, Int32.reduceLE, Int32.reduceAdd, not_true_eq_false, not_false_eq_true, false_implies, true_implies, and_true, true_and, or_true, true_or]
  refine z_callV (n := 1) (As := [.int b]) (rest := [.ref c]) C E (n_isRecord G w c b σ F h) gX9_compare_X9_isRecord rfl rfl rfl (by decide +kernel) (by decide) dX9_compare_11 rfl ⟨Nat.zero_le _, Nat.zero_le _⟩ (Nat.le_of_ble_eq_true rfl) rfl h0 ?_
  rintro x w2 ⟨rfl, hw2⟩
  rw [hw2]
  clear hw2 w2
  simp only [Option.toList, List.cons_append, List.nil_append]
  by_cases qb : 1 ≤ b.toInt ∧ b.toInt ≤ (σ 11).toInt
  case neg =>
    rw [if_neg qb]
    refine z_gn C E tkX9_compare (Nat.zero_le _) (Nat.zero_le _) [] 60 ?_
    simp only [↓z_rn_f, ↓z_rn_t, ↓z_rn_0, ↓zr_in0, ↓zr_ins, ↓zr_inn, ↓zr_bt, ↓zr_bf, ↓zr_li0, ↓zr_lis, ↓zr_la0, ↓zr_las, ↓zr_ll0, ↓zr_lls, ↓zr_1i, ↓zr_1l, ↓zr_1a, ↓zr_2i, ↓zr_2l, ↓zr_lsi, ↓zr_ia, ↓zr_aa, ↓zr_dia, ↓zr_iia, ↓zr_lia, ↓zr_d1i, ↓zr_d1r, ↓zr_e1, ↓zr_e2, ↓zr_e0, ↓zr_f0, ↓zr_fs, ↓zr_s0, ↓zr_ss, ↓zr_len, ↓zr_len0, ↓zr_ok0, ↓zr_okn, ↓zr_oki, ↓zr_okr, ↓zr_oks, ↓zr_tt, ↓zr_ar0u, ↓zr_ar0n, ↓zr_ar1u, ↓zr_ar1n, ↓zr_ar2u, ↓zr_ar2n, ↓zr_obu, ↓zr_obn, ↓Nat.reduceAdd, Nat.reduceEqDiff, Nat.add_left_cancel_iff, not_false_eq_true, z_up_up, true_and, ↓sX9_compare_0, ↓sX9_compare_1, ↓sX9_compare_2, ↓sX9_compare_3, ↓sX9_compare_6, ↓sX9_compare_9, ↓sX9_compare_10, ↓sX9_compare_11, ↓sX9_compare_14, ↓sX9_compare_17, ↓sX9_compare_18, ↓sX9_compare_21, ↓sX9_compare_22, ↓sX9_compare_25, ↓sX9_compare_26, ↓sX9_compare_29, ↓sX9_compare_32, ↓sX9_compare_33, ↓sX9_compare_36, ↓sX9_compare_37, ↓sX9_compare_38, ↓sX9_compare_41, ↓sX9_compare_43, ↓sX9_compare_44, ↓sX9_compare_45, ↓sX9_compare_46, ↓sX9_compare_47, ↓sX9_compare_48, ↓sX9_compare_51, ↓sX9_compare_53, ↓sX9_compare_54, ↓sX9_compare_55, ↓sX9_compare_56, ↓sX9_compare_57, ↓sX9_compare_60, ↓zh_ob h0, zn_a, zn_b, zq1, zq2, zq3, zq4, zq5, zq6, zq7, eq_self, Int32.reduceLT, Int32.reduceLE, Int32.reduceAdd, not_true_eq_false, not_false_eq_true, false_implies, true_implies, and_true, true_and, or_true, true_or]
    exact hP _ _ ⟨⟨_, rfl⟩, (zKm.rf _ _).up _ _ (Nat.le_refl _) (by omega), sU σ 0 1, F, ⟨by rw [z_up_2, if_pos rfl]; rfl, hA.up0 _, bK, bR, bS, bL, bI, bC, bA⟩, rfl, rfl, rfl, rfl⟩
  rw [if_pos qb]
  refine z_gn C E tkX9_compare (Nat.zero_le _) (Nat.zero_le _) [] 60 ?_
  simp only [↓z_rn_f, ↓z_rn_t, ↓z_rn_0, ↓zr_in0, ↓zr_ins, ↓zr_inn, ↓zr_bt, ↓zr_bf, ↓zr_li0, ↓zr_lis, ↓zr_la0, ↓zr_las, ↓zr_ll0, ↓zr_lls, ↓zr_1i, ↓zr_1l, ↓zr_1a, ↓zr_2i, ↓zr_2l, ↓zr_lsi, ↓zr_ia, ↓zr_aa, ↓zr_dia, ↓zr_iia, ↓zr_lia, ↓zr_d1i, ↓zr_d1r, ↓zr_e1, ↓zr_e2, ↓zr_e0, ↓zr_f0, ↓zr_fs, ↓zr_s0, ↓zr_ss, ↓zr_len, ↓zr_len0, ↓zr_ok0, ↓zr_okn, ↓zr_oki, ↓zr_okr, ↓zr_oks, ↓zr_tt, ↓zr_ar0u, ↓zr_ar0n, ↓zr_ar1u, ↓zr_ar1n, ↓zr_ar2u, ↓zr_ar2n, ↓zr_obu, ↓zr_obn, ↓Nat.reduceAdd, Nat.reduceEqDiff, Nat.add_left_cancel_iff, not_false_eq_true, z_up_up, true_and, ↓sX9_compare_0, ↓sX9_compare_1, ↓sX9_compare_2, ↓sX9_compare_3, ↓sX9_compare_6, ↓sX9_compare_9, ↓sX9_compare_10, ↓sX9_compare_11, ↓sX9_compare_14, ↓sX9_compare_17, ↓sX9_compare_18, ↓sX9_compare_21, ↓sX9_compare_22, ↓sX9_compare_25, ↓sX9_compare_26, ↓sX9_compare_29, ↓sX9_compare_32, ↓sX9_compare_33, ↓sX9_compare_36, ↓sX9_compare_37, ↓sX9_compare_38, ↓sX9_compare_41, ↓sX9_compare_43, ↓sX9_compare_44, ↓sX9_compare_45, ↓sX9_compare_46, ↓sX9_compare_47, ↓sX9_compare_48, ↓sX9_compare_51, ↓sX9_compare_53, ↓sX9_compare_54, ↓sX9_compare_55, ↓sX9_compare_56, ↓sX9_compare_57, ↓sX9_compare_60, ↓zh_ob h0, zn_a, zn_b, zq1, zq2, zq3, zq4, zq5, zq6, zq7, eq_self, Int32.reduceLT, Int32.reduceLE, Int32.reduceAdd, not_true_eq_false, not_false_eq_true, false_implies, true_implies, and_true, true_and, or_true, true_or]
  have hm : zMo c (z_up w c (zMob c (sU σ 0 0))) (sU σ 0 0) F := ⟨by rw [z_up_2, if_pos rfl], hA.up0 _, bK, bR, bS, bL, bI, bC, bA⟩
  have k1 : zKm c w (z_up w c (zMob c (sU σ 0 0))) := (zKm.rf _ _).up _ _ (Nat.le_refl _) (by omega)
  change z_J G 3 Γ (z_up w c (zMob c (sU σ 0 0))) _ _ _ _ _
  generalize z_up w c (zMob c (sU σ 0 0)) = w1 at hm k1 ⊢
  have g0 : w1.2 c = some (.inr (10, [.int 0, .int (σ 1), .int (σ 2), .int (σ 3), .ref (c + 1), .ref (c + 2), .ref (c + 3), .ref (c + 4), .int (σ 8), .ref (c + 5), .ref (c + 6), .int (σ 11), .int (σ 12), .int (σ 13), .int (σ 14), .ref (c + 7), .ref (c + 8), .ref (c + 9), .ref (c + 10), .ref (c + 11), .int (σ 20), .ref (c + 12), .int (σ 22), .ref (c + 13), .ref (c + 14), .ref (c + 15), .ref (c + 16), .ref (c + 17), .ref (c + 18), .ref (c + 19), .int (σ 30), .int (σ 31), .int (σ 32), .int (σ 33), .int (σ 34), .ref (c + 20)])) := hm.1
  have g5 : w1.2 (c + 5) = some (.inl (0, 12800, .inl (F 5))) := hm.2.1 5 (by decide) (by decide)
  have e1 := zi_s1 (x := a) (by omega) (by omega)
  have e2 : (32 * (a - 1)).toInt = 32 * (a.toInt - 1) := by rw [zi_mul (by rw [zi_32]; omega) (by rw [zi_32]; omega), zi_32, e1]
  have e3 := zi_s1 (x := b) (by omega) (by omega)
  have e4 : (32 * (b - 1)).toInt = 32 * (b.toInt - 1) := by rw [zi_mul (by rw [zi_32]; omega) (by rw [zi_32]; omega), zi_32, e3]
  refine z_callV (n := 4) (As := [.ref (c + 5), .int (32 * (a - 1)), .ref (c + 5), .int (32 * (b - 1))]) (rest := []) C E (n_ordered G w1 c (c + 5) (c + 5) 12800 12800 (32 * (a - 1)) (32 * (b - 1)) (F 5) (F 5) _ F hm g5 g5 (by omega) (by omega)) gX9_compare_X9_ordered rfl rfl rfl (by decide +kernel) (by decide) dX9_compare_57 rfl ⟨Nat.zero_le _, Nat.zero_le _⟩ (Nat.le_of_ble_eq_true rfl) rfl g0 ?_
  rintro x w2 ⟨⟨v, rfl⟩, hw2⟩
  rw [hw2]
  clear hw2 w2
  simp only [Option.toList, List.cons_append, List.nil_append]
  refine z_gn C E tkX9_compare (Nat.zero_le _) (Nat.zero_le _) [] 60 ?_
  simp only [↓z_rn_f, ↓z_rn_t, ↓z_rn_0, ↓zr_in0, ↓zr_ins, ↓zr_inn, ↓zr_bt, ↓zr_bf, ↓zr_li0, ↓zr_lis, ↓zr_la0, ↓zr_las, ↓zr_ll0, ↓zr_lls, ↓zr_1i, ↓zr_1l, ↓zr_1a, ↓zr_2i, ↓zr_2l, ↓zr_lsi, ↓zr_ia, ↓zr_aa, ↓zr_dia, ↓zr_iia, ↓zr_lia, ↓zr_d1i, ↓zr_d1r, ↓zr_e1, ↓zr_e2, ↓zr_e0, ↓zr_f0, ↓zr_fs, ↓zr_s0, ↓zr_ss, ↓zr_len, ↓zr_len0, ↓zr_ok0, ↓zr_okn, ↓zr_oki, ↓zr_okr, ↓zr_oks, ↓zr_tt, ↓zr_ar0u, ↓zr_ar0n, ↓zr_ar1u, ↓zr_ar1n, ↓zr_ar2u, ↓zr_ar2n, ↓zr_obu, ↓zr_obn, ↓Nat.reduceAdd, Nat.reduceEqDiff, Nat.add_left_cancel_iff, not_false_eq_true, z_up_up, true_and, ↓sX9_compare_0, ↓sX9_compare_1, ↓sX9_compare_2, ↓sX9_compare_3, ↓sX9_compare_6, ↓sX9_compare_9, ↓sX9_compare_10, ↓sX9_compare_11, ↓sX9_compare_14, ↓sX9_compare_17, ↓sX9_compare_18, ↓sX9_compare_21, ↓sX9_compare_22, ↓sX9_compare_25, ↓sX9_compare_26, ↓sX9_compare_29, ↓sX9_compare_32, ↓sX9_compare_33, ↓sX9_compare_36, ↓sX9_compare_37, ↓sX9_compare_38, ↓sX9_compare_41, ↓sX9_compare_43, ↓sX9_compare_44, ↓sX9_compare_45, ↓sX9_compare_46, ↓sX9_compare_47, ↓sX9_compare_48, ↓sX9_compare_51, ↓sX9_compare_53, ↓sX9_compare_54, ↓sX9_compare_55, ↓sX9_compare_56, ↓sX9_compare_57, ↓sX9_compare_60, zn_a, zn_b, zq1, zq2, zq3, zq4, zq5, zq6, zq7, eq_self, Int32.reduceLT, Int32.reduceLE, Int32.reduceAdd, not_true_eq_false, not_false_eq_true, false_implies, true_implies, and_true, true_and, or_true, true_or]
  exact hP _ _ ⟨⟨_, rfl⟩, k1, _, F, hm, rfl, rfl, rfl, rfl⟩
set_option maxRecDepth 100000 in
set_option maxHeartbeats 1000000 in
theorem n_isLet (G : zG) (w : zW) (c : Nat) (d : Int32) (σ : Nat → Int32) (F : Nat → Nat → Int32) (h : zMo c w σ F) (hd : 0 ≤ d.toInt ∧ d.toInt < 1600) :
    z_M G yX9_isLet wsX9_isLet zrm0 0 0 [.ref c, .int d] w (fun x w' => (x = some (.int 0) ∨ x = some (.int 1)) ∧ w' = w) := by
  obtain ⟨h0, hA, bK, bR, bS, bL, bI, bC, bA⟩ := id h
  unfold zMob at h0
  have h15 : w.2 (c + 15) = some (.inl (0, 51200, .inl (F 15))) := hA 15 (by decide) (by decide)
  refine z_mt (nL := 3) (cc := cX9_isLet) (ret := some .boolean) (by decide) rfl (Nat.le_of_ble_eq_true rfl) 1 [some (.ref c), some (.int d), none] rfl ?_
  intro P hP Γ C E
  have o0 : P (some (.int 0)) w := hP _ _ ⟨Or.inl rfl, rfl⟩
  have o1 : P (some (.int 1)) w := hP _ _ ⟨Or.inr rfl, rfl⟩
  have b1 := bS.1
  have e1 : (32 * d).toInt = 32 * d.toInt := by rw [zi_mul (by rw [zi_32]; omega) (by rw [zi_32]; omega), zi_32]
  have e2 : (32 * d + σ 12).toInt = 32 * d.toInt + (σ 12).toInt := by rw [zi_add (by omega) (by omega), e1]
  refine z_gn C E tkX9_isLet (Nat.zero_le _) (Nat.zero_le _) [] 60 ?_
  simp only [↓z_rn_f, ↓z_rn_t, ↓z_rn_0, ↓zr_in0, ↓zr_ins, ↓zr_inn, ↓zr_bt, ↓zr_bf, ↓zr_li0, ↓zr_lis, ↓zr_la0, ↓zr_las, ↓zr_ll0, ↓zr_lls, ↓zr_1i, ↓zr_1l, ↓zr_1a, ↓zr_2i, ↓zr_2l, ↓zr_lsi, ↓zr_ia, ↓zr_aa, ↓zr_dia, ↓zr_iia, ↓zr_lia, ↓zr_d1i, ↓zr_d1r, ↓zr_e1, ↓zr_e2, ↓zr_e0, ↓zr_f0, ↓zr_fs, ↓zr_s0, ↓zr_ss, ↓zr_len, ↓zr_len0, ↓zr_ok0, ↓zr_okn, ↓zr_oki, ↓zr_okr, ↓zr_oks, ↓zr_tt, ↓zr_ar0u, ↓zr_ar0n, ↓zr_ar1u, ↓zr_ar1n, ↓zr_ar2u, ↓zr_ar2n, ↓zr_obu, ↓zr_obn, ↓Nat.reduceAdd, Nat.reduceEqDiff, Nat.add_left_cancel_iff, not_false_eq_true, z_up_up, true_and, ↓sX9_isLet_0, ↓sX9_isLet_1, ↓sX9_isLet_4, ↓sX9_isLet_6, ↓sX9_isLet_7, ↓sX9_isLet_8, ↓sX9_isLet_9, ↓sX9_isLet_12, ↓sX9_isLet_13, ↓sX9_isLet_14, ↓sX9_isLet_15, ↓sX9_isLet_16, ↓sX9_isLet_19, ↓sX9_isLet_48, ↓sX9_isLet_49, ↓sX9_isLet_50, ↓sX9_isLet_53, ↓sX9_isLet_56, ↓sX9_isLet_57, ↓sX9_isLet_60, ↓sX9_isLet_61, ↓sX9_isLet_62, ↓sX9_isLet_63, ↓sX9_isLet_64, ↓sX9_isLet_67, ↓sX9_isLet_70, ↓sX9_isLet_71, ↓sX9_isLet_74, ↓sX9_isLet_75, ↓sX9_isLet_76, ↓sX9_isLet_77, ↓sX9_isLet_78, ↓sX9_isLet_81, ↓sX9_isLet_84, ↓sX9_isLet_85, ↓sX9_isLet_88, ↓sX9_isLet_89, ↓sX9_isLet_90, ↓sX9_isLet_91, ↓sX9_isLet_92, ↓sX9_isLet_95, ↓sX9_isLet_98, ↓sX9_isLet_99, ↓sX9_isLet_102, ↓sX9_isLet_103, ↓sX9_isLet_104, ↓sX9_isLet_105, ↓zh_ob h0, ↓zh_ar0 h15, zn_a, zn_b, zq1, zq2, zq3, zq4, zq5, zq6, zq7, eq_self, Int32.reduceLT, Int32.reduceLE, Int32.reduceAdd, not_true_eq_false, not_false_eq_true, false_implies, true_implies, and_true, true_and, or_true, true_or]
  refine ⟨vp_in_iff.mpr (by omega), ?_⟩
  generalize F 15 _ = v
  have go : ∀ pc ∈ [48, 62, 76, 90, 104], z_J G 3 Γ w 0 0 pc [some (.ref c), some (.int d), some (.int v)] [] := by
    intro pc hpc
    simp only [List.mem_cons, List.not_mem_nil, or_false] at hpc
    rcases hpc with rfl | rfl | rfl | rfl | rfl
    all_goals
      refine z_gn C E tkX9_isLet (Nat.zero_le _) (Nat.zero_le _) [] 60 ?_
      simp only [↓z_rn_f, ↓z_rn_t, ↓z_rn_0, ↓zr_in0, ↓zr_ins, ↓zr_inn, ↓zr_bt, ↓zr_bf, ↓zr_li0, ↓zr_lis, ↓zr_la0, ↓zr_las, ↓zr_ll0, ↓zr_lls, ↓zr_1i, ↓zr_1l, ↓zr_1a, ↓zr_2i, ↓zr_2l, ↓zr_lsi, ↓zr_ia, ↓zr_aa, ↓zr_dia, ↓zr_iia, ↓zr_lia, ↓zr_d1i, ↓zr_d1r, ↓zr_e1, ↓zr_e2, ↓zr_e0, ↓zr_f0, ↓zr_fs, ↓zr_s0, ↓zr_ss, ↓zr_len, ↓zr_len0, ↓zr_ok0, ↓zr_okn, ↓zr_oki, ↓zr_okr, ↓zr_oks, ↓zr_tt, ↓zr_ar0u, ↓zr_ar0n, ↓zr_ar1u, ↓zr_ar1n, ↓zr_ar2u, ↓zr_ar2n, ↓zr_obu, ↓zr_obn, ↓Nat.reduceAdd, Nat.reduceEqDiff, Nat.add_left_cancel_iff, not_false_eq_true, z_up_up, true_and, ↓sX9_isLet_0, ↓sX9_isLet_1, ↓sX9_isLet_4, ↓sX9_isLet_6, ↓sX9_isLet_7, ↓sX9_isLet_8, ↓sX9_isLet_9, ↓sX9_isLet_12, ↓sX9_isLet_13, ↓sX9_isLet_14, ↓sX9_isLet_15, ↓sX9_isLet_16, ↓sX9_isLet_19, ↓sX9_isLet_48, ↓sX9_isLet_49, ↓sX9_isLet_50, ↓sX9_isLet_53, ↓sX9_isLet_56, ↓sX9_isLet_57, ↓sX9_isLet_60, ↓sX9_isLet_61, ↓sX9_isLet_62, ↓sX9_isLet_63, ↓sX9_isLet_64, ↓sX9_isLet_67, ↓sX9_isLet_70, ↓sX9_isLet_71, ↓sX9_isLet_74, ↓sX9_isLet_75, ↓sX9_isLet_76, ↓sX9_isLet_77, ↓sX9_isLet_78, ↓sX9_isLet_81, ↓sX9_isLet_84, ↓sX9_isLet_85, ↓sX9_isLet_88, ↓sX9_isLet_89, ↓sX9_isLet_90, ↓sX9_isLet_91, ↓sX9_isLet_92, ↓sX9_isLet_95, ↓sX9_isLet_98, ↓sX9_isLet_99, ↓sX9_isLet_102, ↓sX9_isLet_103, ↓sX9_isLet_104, ↓sX9_isLet_105, ↓zh_ob h0, zn_a, zn_b, zq1, zq2, zq3, zq4, zq5, zq6, zq7, eq_self, Int32.reduceLT, Int32.reduceLE, Int32.reduceAdd, not_true_eq_false, not_false_eq_true, false_implies, true_implies, and_true, true_and, or_true, true_or]
      first | exact o1 | exact ⟨fun _ => o0, fun _ => o1⟩
  by_cases hc : 0 ≤ (σ 13).toInt ∧ (σ 13).toInt ≤ 3
  · rcases (show (σ 13).toInt = 0 ∨ (σ 13).toInt = 1 ∨ (σ 13).toInt = 2 ∨ (σ 13).toInt = 3 by omega) with e | e | e | e
    · exact z_tsIn (tgt := 48) C dX9_isLet_19 (by omega) (by omega) (by rw [e]; rfl) (by decide) (go 48 (by simp))
    · exact z_tsIn (tgt := 62) C dX9_isLet_19 (by omega) (by omega) (by rw [e]; rfl) (by decide) (go 62 (by simp))
    · exact z_tsIn (tgt := 76) C dX9_isLet_19 (by omega) (by omega) (by rw [e]; rfl) (by decide) (go 76 (by simp))
    · exact z_tsIn (tgt := 90) C dX9_isLet_19 (by omega) (by omega) (by rw [e]; rfl) (by decide) (go 90 (by simp))
  · exact z_tsOut (tgt := 104) C dX9_isLet_19 (by omega) (by decide) (go 104 (by simp))
