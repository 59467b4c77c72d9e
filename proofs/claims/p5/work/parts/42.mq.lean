theorem upd_self (f : Nat → Int32) (i : Nat) : upd f i (f i) = f := by
  funext j
  unfold upd
  split
  · rename_i q; rw [q]
  · rfl
def zLenM (f : Nat → Int32) (r i : Int32) : Int32 := if i < f (r - 1).toNatClampNeg then f (r - 1).toNatClampNeg else i + 1
set_option maxRecDepth 100000 in
set_option maxHeartbeats 1000000 in
theorem n_octet (G : zG) (w : zW) (c : Nat) (r i v : Int32) (σ : Nat → Int32) (F : Nat → Nat → Int32) (h : zMo c w σ F) :
    z_M G yX9_octet wsX9_octet zrm1 0 0 [.ref c, .int r, .int i, .int v] w (fun x w' => zKm c w w' ∧ ((¬ (1 ≤ r.toInt ∧ r.toInt ≤ (σ 11).toInt) ∧ x = some (.int (-2)) ∧ ∃ σ' F', zMo c w' σ' F' ∧ zTi σ F σ' F') ∨ ((1 ≤ r.toInt ∧ r.toInt ≤ (σ 11).toInt) ∧ ¬ (0 ≤ i.toInt ∧ i.toInt < 32) ∧ x = some (.int (-4)) ∧ ∃ σ' F', zMo c w' σ' F' ∧ zTi σ F σ' F') ∨ ((1 ≤ r.toInt ∧ r.toInt ≤ (σ 11).toInt) ∧ (0 ≤ i.toInt ∧ i.toInt < 32) ∧ x = some (.int (zLenM (F 6) r i)) ∧ ∃ σ' F', zMo c w' σ' F' ∧ σ' 2 = σ 2 ∧ σ' 11 = σ 11 ∧ σ' 20 = σ 20 ∧ F' 6 = upd (F 6) (r - 1).toNatClampNeg (zLenM (F 6) r i)))) := by
  obtain ⟨h0, hA, bK, bR, bS, bL, bI, bC, bA⟩ := id h
  unfold zMob at h0
  refine z_mt (nL := 4) (cc := cX9_octet) (ret := some .int) (by decide) rfl (Nat.le_of_ble_eq_true rfl) 0 [some (.ref c), some (.int r), some (.int i), some (.int v)] rfl ?_
  intro P hP Γ C E
  refine z_gn C E tkX9_octet (Nat.zero_le _) (Nat.zero_le _) [] 60 ?_
  simp only [↓z_rn_f, ↓z_rn_t, ↓z_rn_0, ↓zr_in0, ↓zr_ins, ↓zr_inn, ↓zr_bt, ↓zr_bf, ↓zr_li0, ↓zr_lis, ↓zr_la0, ↓zr_las, ↓zr_ll0, ↓zr_lls, ↓zr_1i, ↓zr_1l, ↓zr_1a, ↓zr_2i, ↓zr_2l, ↓zr_lsi, ↓zr_ia, ↓zr_aa, ↓zr_dia, ↓zr_iia, ↓zr_lia, ↓zr_d1i, ↓zr_d1r, ↓zr_e1, ↓zr_e2, ↓zr_e0, ↓zr_f0, ↓zr_fs, ↓zr_s0, ↓zr_ss, ↓zr_len, ↓zr_len0, ↓zr_ok0, ↓zr_okn, ↓zr_oki, ↓zr_okr, ↓zr_oks, ↓zr_tt, ↓zr_ar0u, ↓zr_ar0n, ↓zr_ar1u, ↓zr_ar1n, ↓zr_ar2u, ↓zr_ar2n, ↓zr_obu, ↓zr_obn, ↓Nat.reduceAdd, Nat.reduceEqDiff, Nat.add_left_cancel_iff, not_false_eq_true, z_up_up, true_and, ↓sX9_octet_0, ↓sX9_octet_1, ↓sX9_octet_2, ↓sX9_octet_5, ↓sX9_octet_6, ↓sX9_octet_7, ↓sX9_octet_10, ↓sX9_octet_13, ↓sX9_octet_15, ↓sX9_octet_16, ↓sX9_octet_17, ↓sX9_octet_20, ↓sX9_octet_21, ↓sX9_octet_23, ↓sX9_octet_26, ↓sX9_octet_28, ↓sX9_octet_29, ↓sX9_octet_30, ↓sX9_octet_33, ↓sX9_octet_35, ↓sX9_octet_36, ↓sX9_octet_37, ↓sX9_octet_38, ↓sX9_octet_39, ↓sX9_octet_40, ↓sX9_octet_41, ↓sX9_octet_42, ↓sX9_octet_45, ↓sX9_octet_46, ↓sX9_octet_47, ↓sX9_octet_48, ↓sX9_octet_49, ↓sX9_octet_52, ↓sX9_octet_53, ↓sX9_octet_54, ↓sX9_octet_55, ↓sX9_octet_56, ↓sX9_octet_59, ↓sX9_octet_60, ↓sX9_octet_63, ↓sX9_octet_64, ↓sX9_octet_65, ↓sX9_octet_66, ↓sX9_octet_67, ↓sX9_octet_68, ↓sX9_octet_69, ↓sX9_octet_70, ↓sX9_octet_71, ↓sX9_octet_74, ↓sX9_octet_75, ↓sX9_octet_76, ↓sX9_octet_77, ↓sX9_octet_78, ↓zh_ob h0, zn_a, zn_b, zq1, zq2, zq3, zq4, zq5, zq6, zq7, eq_self, Int32.reduceLT, Int32.reduceLE, Int32.reduceAdd, not_true_eq_false, not_false_eq_true, false_implies, true_implies, and_true, true_and, or_true, true_or]
  have hm : zMo c (z_up w c (zMob c (sU σ 0 0))) (sU σ 0 0) F := ⟨by rw [z_up_2, if_pos rfl], hA.up0 _, bK, bR, bS, bL, bI, bC, bA⟩
  have k1 : zKm c w (z_up w c (zMob c (sU σ 0 0))) := (zKm.rf _ _).up _ _ (Nat.le_refl _) (by omega)
  change z_J G 4 Γ (z_up w c (zMob c (sU σ 0 0))) _ _ _ _ _
  generalize z_up w c (zMob c (sU σ 0 0)) = w1 at hm k1 ⊢
  have g0 : w1.2 c = some (.inr (10, [.int 0, .int (σ 1), .int (σ 2), .int (σ 3), .ref (c + 1), .ref (c + 2), .ref (c + 3), .ref (c + 4), .int (σ 8), .ref (c + 5), .ref (c + 6), .int (σ 11), .int (σ 12), .int (σ 13), .int (σ 14), .ref (c + 7), .ref (c + 8), .ref (c + 9), .ref (c + 10), .ref (c + 11), .int (σ 20), .ref (c + 12), .int (σ 22), .ref (c + 13), .ref (c + 14), .ref (c + 15), .ref (c + 16), .ref (c + 17), .ref (c + 18), .ref (c + 19), .int (σ 30), .int (σ 31), .int (σ 32), .int (σ 33), .int (σ 34), .ref (c + 20)])) := hm.1
  have g5 : w1.2 (c + 5) = some (.inl (0, 12800, .inl (F 5))) := hm.2.1 5 (by decide) (by decide)
  have g6 : w1.2 (c + 6) = some (.inl (0, 400, .inl (F 6))) := hm.2.1 6 (by decide) (by decide)
  refine z_callV (n := 1) (As := [.int r]) (rest := []) C E (n_isRecord G w1 c r _ F hm) gX9_octet_X9_isRecord rfl rfl rfl (by decide +kernel) (by decide) dX9_octet_7 rfl ⟨Nat.zero_le _, Nat.zero_le _⟩ (Nat.le_of_ble_eq_true rfl) rfl g0 ?_
  rintro x w2 ⟨rfl, hw2⟩
  rw [hw2]
  clear hw2 w2
  simp only [Option.toList, List.cons_append, List.nil_append]
  by_cases hq : ¬ (1 ≤ r.toInt ∧ r.toInt ≤ (sU σ 0 0 11).toInt)
  · rw [if_neg hq]
    refine z_gn C E tkX9_octet (Nat.zero_le _) (Nat.zero_le _) [16] 60 ?_
    simp only [↓z_rn_f, ↓z_rn_t, ↓z_rn_0, ↓zr_in0, ↓zr_ins, ↓zr_inn, ↓zr_bt, ↓zr_bf, ↓zr_li0, ↓zr_lis, ↓zr_la0, ↓zr_las, ↓zr_ll0, ↓zr_lls, ↓zr_1i, ↓zr_1l, ↓zr_1a, ↓zr_2i, ↓zr_2l, ↓zr_lsi, ↓zr_ia, ↓zr_aa, ↓zr_dia, ↓zr_iia, ↓zr_lia, ↓zr_d1i, ↓zr_d1r, ↓zr_e1, ↓zr_e2, ↓zr_e0, ↓zr_f0, ↓zr_fs, ↓zr_s0, ↓zr_ss, ↓zr_len, ↓zr_len0, ↓zr_ok0, ↓zr_okn, ↓zr_oki, ↓zr_okr, ↓zr_oks, ↓zr_tt, ↓zr_ar0u, ↓zr_ar0n, ↓zr_ar1u, ↓zr_ar1n, ↓zr_ar2u, ↓zr_ar2n, ↓zr_obu, ↓zr_obn, ↓Nat.reduceAdd, Nat.reduceEqDiff, Nat.add_left_cancel_iff, not_false_eq_true, z_up_up, true_and, ↓sX9_octet_0, ↓sX9_octet_1, ↓sX9_octet_2, ↓sX9_octet_5, ↓sX9_octet_6, ↓sX9_octet_7, ↓sX9_octet_10, ↓sX9_octet_13, ↓sX9_octet_15, ↓sX9_octet_16, ↓sX9_octet_17, ↓sX9_octet_20, ↓sX9_octet_21, ↓sX9_octet_23, ↓sX9_octet_26, ↓sX9_octet_28, ↓sX9_octet_29, ↓sX9_octet_30, ↓sX9_octet_33, ↓sX9_octet_35, ↓sX9_octet_36, ↓sX9_octet_37, ↓sX9_octet_38, ↓sX9_octet_39, ↓sX9_octet_40, ↓sX9_octet_41, ↓sX9_octet_42, ↓sX9_octet_45, ↓sX9_octet_46, ↓sX9_octet_47, ↓sX9_octet_48, ↓sX9_octet_49, ↓sX9_octet_52, ↓sX9_octet_53, ↓sX9_octet_54, ↓sX9_octet_55, ↓sX9_octet_56, ↓sX9_octet_59, ↓sX9_octet_60, ↓sX9_octet_63, ↓sX9_octet_64, ↓sX9_octet_65, ↓sX9_octet_66, ↓sX9_octet_67, ↓sX9_octet_68, ↓sX9_octet_69, ↓sX9_octet_70, ↓sX9_octet_71, ↓sX9_octet_74, ↓sX9_octet_75, ↓sX9_octet_76, ↓sX9_octet_77, ↓sX9_octet_78, zn_a, zn_b, zq1, zq2, zq3, zq4, zq5, zq6, zq7, eq_self, Int32.reduceLT, Int32.reduceLE, Int32.reduceAdd, not_true_eq_false, not_false_eq_true, false_implies, true_implies, and_true, true_and, or_true, true_or]
    exact hP _ _ ⟨k1, Or.inl ⟨hq, rfl, _, F, hm, rfl, rfl, rfl, rfl⟩⟩
  replace hq := Decidable.not_not.mp hq
  rw [if_pos hq]
  have hq2 : r.toInt ≤ (σ 11).toInt := hq.2
  have b1 := bR.1
  have no : ¬ (0 ≤ i.toInt ∧ i.toInt < 32) → P (some (.int (-4))) w1 := fun q => hP _ _ ⟨k1, Or.inr (Or.inl ⟨hq, q, rfl, _, F, hm, rfl, rfl, rfl, rfl⟩)⟩
  refine z_gn C E tkX9_octet (Nat.zero_le _) (Nat.zero_le _) [] 60 ?_
  simp only [↓z_rn_f, ↓z_rn_t, ↓z_rn_0, ↓zr_in0, ↓zr_ins, ↓zr_inn, ↓zr_bt, ↓zr_bf, ↓zr_li0, ↓zr_lis, ↓zr_la0, ↓zr_las, ↓zr_ll0, ↓zr_lls, ↓zr_1i, ↓zr_1l, ↓zr_1a, ↓zr_2i, ↓zr_2l, ↓zr_lsi, ↓zr_ia, ↓zr_aa, ↓zr_dia, ↓zr_iia, ↓zr_lia, ↓zr_d1i, ↓zr_d1r, ↓zr_e1, ↓zr_e2, ↓zr_e0, ↓zr_f0, ↓zr_fs, ↓zr_s0, ↓zr_ss, ↓zr_len, ↓zr_len0, ↓zr_ok0, ↓zr_okn, ↓zr_oki, ↓zr_okr, ↓zr_oks, ↓zr_tt, ↓zr_ar0u, ↓zr_ar0n, ↓zr_ar1u, ↓zr_ar1n, ↓zr_ar2u, ↓zr_ar2n, ↓zr_obu, ↓zr_obn, ↓Nat.reduceAdd, Nat.reduceEqDiff, Nat.add_left_cancel_iff, not_false_eq_true, z_up_up, true_and, ↓sX9_octet_0, ↓sX9_octet_1, ↓sX9_octet_2, ↓sX9_octet_5, ↓sX9_octet_6, ↓sX9_octet_7, ↓sX9_octet_10, ↓sX9_octet_13, ↓sX9_octet_15, ↓sX9_octet_16, ↓sX9_octet_17, ↓sX9_octet_20, ↓sX9_octet_21, ↓sX9_octet_23, ↓sX9_octet_26, ↓sX9_octet_28, ↓sX9_octet_29, ↓sX9_octet_30, ↓sX9_octet_33, ↓sX9_octet_35, ↓sX9_octet_36, ↓sX9_octet_37, ↓sX9_octet_38, ↓sX9_octet_39, ↓sX9_octet_40, ↓sX9_octet_41, ↓sX9_octet_42, ↓sX9_octet_45, ↓sX9_octet_46, ↓sX9_octet_47, ↓sX9_octet_48, ↓sX9_octet_49, ↓sX9_octet_52, ↓sX9_octet_53, ↓sX9_octet_54, ↓sX9_octet_55, ↓sX9_octet_56, ↓sX9_octet_59, ↓sX9_octet_60, ↓sX9_octet_63, ↓sX9_octet_64, ↓sX9_octet_65, ↓sX9_octet_66, ↓sX9_octet_67, ↓sX9_octet_68, ↓sX9_octet_69, ↓sX9_octet_70, ↓sX9_octet_71, ↓sX9_octet_74, ↓sX9_octet_75, ↓sX9_octet_76, ↓sX9_octet_77, ↓sX9_octet_78, ↓zh_ob g0, ↓zh_ar0 g5, ↓zh_ar0 g6, zn_a, zn_b, zq1, zq2, zq3, zq4, zq5, zq6, zq7, eq_self, Int32.reduceLT, Int32.reduceLE, Int32.reduceAdd, not_true_eq_false, not_false_eq_true, false_implies, true_implies, and_true, true_and, or_true, true_or]
  refine ⟨fun a1 => no (by simp only [zi_lt, zi_le, zi_0, zi_1, zi_m1, zi_2, zi_32] at a1; omega), fun a1 => ⟨fun a2 => ?_, fun a2 => no (by simp only [zi_lt, zi_le, zi_0, zi_1, zi_m1, zi_2, zi_32] at a2; omega)⟩⟩
  simp only [zi_lt, zi_le, zi_0, zi_1, zi_m1, zi_2, zi_32] at a1 a2
  have e1 := zi_s1 (x := r) (by omega) (by omega)
  have e2 : (32 * (r - 1)).toInt = 32 * (r.toInt - 1) := by rw [zi_mul (by rw [zi_32]; omega) (by rw [zi_32]; omega), zi_32, e1]
  have e3 : (32 * (r - 1) + i).toInt = 32 * (r.toInt - 1) + i.toInt := by rw [zi_add (by omega) (by omega), e2]
  have e4 := zi_a1 (x := i) (by omega) (by omega)
  have j1 : vp_in (32 * (r - 1) + i) 12800 := vp_in_iff.mpr (by omega)
  have j2 : vp_in (r - 1) 400 := vp_in_iff.mpr (by omega)
  have j3 := bR.2 _ (zi_nat_lt j2)
  refine ⟨j1, j2, fun a3 => ⟨j2, ?_⟩, fun a3 => ⟨j2, j2, ?_⟩⟩
  · refine hP _ _ ⟨(k1.up _ _ (by omega) (by omega)), Or.inr (Or.inr ⟨hq, by omega, by unfold zLenM; rw [if_pos a3], sU σ 0 0, zF1 F 5 _, ⟨by rw [z_up_2, if_neg (by omega)]; exact hm.1, (hm.2.1.upk 5 _ 12800 0 rfl rfl), bK, bR, bS, bL, bI, bC, bA⟩, rfl, rfl, rfl, ?_⟩)⟩
    unfold zLenM
    rw [if_pos a3, upd_self]
    rfl
  · refine hP _ _ ⟨((k1.up _ _ (by omega) (by omega)).up _ _ (by omega) (by omega)), Or.inr (Or.inr ⟨hq, by omega, by unfold zLenM; rw [if_neg a3]; simp [upd], sU σ 0 0, zF1 (zF1 F 5 _) 6 _, ⟨by rw [z_up_2, if_neg (by omega), z_up_2, if_neg (by omega)]; exact hm.1, ((hm.2.1.upk 5 _ 12800 0 rfl rfl).upk 6 _ 400 0 rfl rfl), bK, ⟨bR.1, fun j hj => ?_⟩, bS, bL, bI, bC, bA⟩, rfl, rfl, rfl, ?_⟩)⟩
    · show 0 ≤ (upd (F 6) (r - 1).toNatClampNeg (i + 1) j).toInt ∧ (upd (F 6) (r - 1).toNatClampNeg (i + 1) j).toInt ≤ 32
      have := bR.2 j hj
      unfold upd
      by_cases q : j = (r - 1).toNatClampNeg
      · simp only [q, if_true]; omega
      · simp only [q, if_false]; exact this
    · unfold zLenM
      rw [if_neg a3]
      rfl
set_option maxRecDepth 100000 in
set_option maxHeartbeats 1000000 in
theorem n_sum (G : zG) (w : zW) (c : Nat) (fr sz : Int32) (σ : Nat → Int32) (F : Nat → Nat → Int32) (h : zMo c w σ F) :
    z_M G yX9_sum wsX9_sum zrm1 0 0 [.ref c, .int fr, .int sz] w (fun x w' => zKm c w w' ∧ ((zFld fr sz 8 = 0 ∧ x = some (.int (-4)) ∧ ∃ σ' F', zMo c w' σ' F' ∧ zTi σ F σ' F') ∨ (¬ zFld fr sz 8 = 0 ∧ (σ 20).toInt = 4 ∧ x = some (.int (-1)) ∧ ∃ σ' F', zMo c w' σ' F' ∧ zTi σ F σ' F') ∨ (¬ zFld fr sz 8 = 0 ∧ (σ 20).toInt < 4 ∧ x = some (.int (σ 20 + 1)) ∧ ∃ σ' F', zMo c w' σ' F' ∧ σ' 2 = σ 2 ∧ σ' 11 = σ 11 ∧ σ' 20 = σ 20 + 1 ∧ F' 6 = F 6))) := by
  obtain ⟨h0, hA, bK, bR, bS, bL, bI, bC, bA⟩ := id h
  unfold zMob at h0
  refine z_mt (nL := 3) (cc := cX9_sum) (ret := some .int) (by decide) rfl (Nat.le_of_ble_eq_true rfl) 0 [some (.ref c), some (.int fr), some (.int sz)] rfl ?_
  intro P hP Γ C E
  refine z_gn C E tkX9_sum (Nat.zero_le _) (Nat.zero_le _) [] 60 ?_
  simp only [↓z_rn_f, ↓z_rn_t, ↓z_rn_0, ↓zr_in0, ↓zr_ins, ↓zr_inn, ↓zr_bt, ↓zr_bf, ↓zr_li0, ↓zr_lis, ↓zr_la0, ↓zr_las, ↓zr_ll0, ↓zr_lls, ↓zr_1i, ↓zr_1l, ↓zr_1a, ↓zr_2i, ↓zr_2l, ↓zr_lsi, ↓zr_ia, ↓zr_aa, ↓zr_dia, ↓zr_iia, ↓zr_lia, ↓zr_d1i, ↓zr_d1r, ↓zr_e1, ↓zr_e2, ↓zr_e0, ↓zr_f0, ↓zr_fs, ↓zr_s0, ↓zr_ss, ↓zr_len, ↓zr_len0, ↓zr_ok0, ↓zr_okn, ↓zr_oki, ↓zr_okr, ↓zr_oks, ↓zr_tt, ↓zr_ar0u, ↓zr_ar0n, ↓zr_ar1u, ↓zr_ar1n, ↓zr_ar2u, ↓zr_ar2n, ↓zr_obu, ↓zr_obn, ↓Nat.reduceAdd, Nat.reduceEqDiff, Nat.add_left_cancel_iff, not_false_eq_true, z_up_up, true_and, ↓sX9_sum_0, ↓sX9_sum_1, ↓sX9_sum_2, ↓sX9_sum_5, ↓sX9_sum_6, ↓sX9_sum_7, ↓sX9_sum_9, ↓sX9_sum_12, ↓sX9_sum_15, ↓sX9_sum_17, ↓sX9_sum_18, ↓sX9_sum_19, ↓sX9_sum_22, ↓sX9_sum_23, ↓sX9_sum_26, ↓sX9_sum_27, ↓sX9_sum_28, ↓sX9_sum_29, ↓sX9_sum_32, ↓sX9_sum_33, ↓sX9_sum_36, ↓sX9_sum_37, ↓sX9_sum_38, ↓sX9_sum_39, ↓sX9_sum_42, ↓sX9_sum_43, ↓sX9_sum_46, ↓sX9_sum_47, ↓sX9_sum_48, ↓sX9_sum_49, ↓sX9_sum_50, ↓sX9_sum_53, ↓sX9_sum_54, ↓sX9_sum_55, ↓sX9_sum_58, ↓sX9_sum_59, ↓sX9_sum_62, ↓zh_ob h0, zn_a, zn_b, zq1, zq2, zq3, zq4, zq5, zq6, zq7, eq_self, Int32.reduceLT, Int32.reduceLE, Int32.reduceAdd, not_true_eq_false, not_false_eq_true, false_implies, true_implies, and_true, true_and, or_true, true_or]
  have hm : zMo c (z_up w c (zMob c (sU σ 0 0))) (sU σ 0 0) F := ⟨by rw [z_up_2, if_pos rfl], hA.up0 _, bK, bR, bS, bL, bI, bC, bA⟩
  have k1 : zKm c w (z_up w c (zMob c (sU σ 0 0))) := (zKm.rf _ _).up _ _ (Nat.le_refl _) (by omega)
  change z_J G 3 Γ (z_up w c (zMob c (sU σ 0 0))) _ _ _ _ _
  generalize z_up w c (zMob c (sU σ 0 0)) = w1 at hm k1 ⊢
  have g0 : w1.2 c = some (.inr (10, [.int 0, .int (σ 1), .int (σ 2), .int (σ 3), .ref (c + 1), .ref (c + 2), .ref (c + 3), .ref (c + 4), .int (σ 8), .ref (c + 5), .ref (c + 6), .int (σ 11), .int (σ 12), .int (σ 13), .int (σ 14), .ref (c + 7), .ref (c + 8), .ref (c + 9), .ref (c + 10), .ref (c + 11), .int (σ 20), .ref (c + 12), .int (σ 22), .ref (c + 13), .ref (c + 14), .ref (c + 15), .ref (c + 16), .ref (c + 17), .ref (c + 18), .ref (c + 19), .int (σ 30), .int (σ 31), .int (σ 32), .int (σ 33), .int (σ 34), .ref (c + 20)])) := hm.1
  have g7 : w1.2 (c + 7) = some (.inl (0, 4, .inl (F 7))) := hm.2.1 7 (by decide) (by decide)
  have g8 : w1.2 (c + 8) = some (.inl (0, 4, .inl (F 8))) := hm.2.1 8 (by decide) (by decide)
  refine z_callS (n := 3) (As := [.int fr, .int sz, .int 8]) (rest := []) C E (n_isPlace G w1 fr sz 8) gX9_sum_X9_isPlace rfl rfl rfl (by decide +kernel) (by decide) dX9_sum_9 rfl ⟨Nat.zero_le _, Nat.zero_le _⟩ (Nat.le_of_ble_eq_true rfl) ?_
  rintro x w2 ⟨rfl, hw2⟩
  rw [hw2]
  clear hw2 w2
  simp only [Option.toList, List.cons_append, List.nil_append]
  refine z_gn C E tkX9_sum (Nat.zero_le _) (Nat.zero_le _) [] 60 ?_
  simp only [↓z_rn_f, ↓z_rn_t, ↓z_rn_0, ↓zr_in0, ↓zr_ins, ↓zr_inn, ↓zr_bt, ↓zr_bf, ↓zr_li0, ↓zr_lis, ↓zr_la0, ↓zr_las, ↓zr_ll0, ↓zr_lls, ↓zr_1i, ↓zr_1l, ↓zr_1a, ↓zr_2i, ↓zr_2l, ↓zr_lsi, ↓zr_ia, ↓zr_aa, ↓zr_dia, ↓zr_iia, ↓zr_lia, ↓zr_d1i, ↓zr_d1r, ↓zr_e1, ↓zr_e2, ↓zr_e0, ↓zr_f0, ↓zr_fs, ↓zr_s0, ↓zr_ss, ↓zr_len, ↓zr_len0, ↓zr_ok0, ↓zr_okn, ↓zr_oki, ↓zr_okr, ↓zr_oks, ↓zr_tt, ↓zr_ar0u, ↓zr_ar0n, ↓zr_ar1u, ↓zr_ar1n, ↓zr_ar2u, ↓zr_ar2n, ↓zr_obu, ↓zr_obn, ↓Nat.reduceAdd, Nat.reduceEqDiff, Nat.add_left_cancel_iff, not_false_eq_true, z_up_up, true_and, ↓sX9_sum_0, ↓sX9_sum_1, ↓sX9_sum_2, ↓sX9_sum_5, ↓sX9_sum_6, ↓sX9_sum_7, ↓sX9_sum_9, ↓sX9_sum_12, ↓sX9_sum_15, ↓sX9_sum_17, ↓sX9_sum_18, ↓sX9_sum_19, ↓sX9_sum_22, ↓sX9_sum_23, ↓sX9_sum_26, ↓sX9_sum_27, ↓sX9_sum_28, ↓sX9_sum_29, ↓sX9_sum_32, ↓sX9_sum_33, ↓sX9_sum_36, ↓sX9_sum_37, ↓sX9_sum_38, ↓sX9_sum_39, ↓sX9_sum_42, ↓sX9_sum_43, ↓sX9_sum_46, ↓sX9_sum_47, ↓sX9_sum_48, ↓sX9_sum_49, ↓sX9_sum_50, ↓sX9_sum_53, ↓sX9_sum_54, ↓sX9_sum_55, ↓sX9_sum_58, ↓sX9_sum_59, ↓sX9_sum_62, ↓zh_ob g0, ↓zh_ar0 g7, ↓zh_ar0 g8, zn_a, zn_b, zq1, zq2, zq3, zq4, zq5, zq6, zq7, eq_self, Int32.reduceLT, Int32.reduceLE, Int32.reduceAdd, not_true_eq_false, not_false_eq_true, false_implies, true_implies, and_true, true_and, or_true, true_or]
  have b1 := bS.2.1
  have z4 : (4 : Int32).toInt = 4 := by decide
  refine ⟨fun a1 => ⟨fun a2 => ?_, fun a2 => ?_⟩, fun a1 => hP _ _ ⟨k1, Or.inl ⟨a1, rfl, _, F, hm, rfl, rfl, rfl, rfl⟩⟩⟩
  · rw [zi_eq, z4] at a2
    have e := zi_a1 (x := σ 20) (by omega) (by omega)
    have j1 : vp_in (σ 20) 4 := vp_in_iff.mpr (by omega)
    have hb := zFld_b a1
    refine ⟨j1, j1, hP _ _ ⟨((k1.up _ _ (by omega) (by omega)).up _ _ (by omega) (by omega)).up _ _ (Nat.le_refl _) (by omega), Or.inr (Or.inr ⟨a1, by omega, rfl, sU (sU σ 0 0) 20 (σ 20 + 1), zF1 (zF1 F 7 _) 8 _, ⟨by rw [z_up_2, if_pos rfl]; rfl, (((hm.2.1.upk 7 _ 4 0 rfl rfl).upk 8 _ 4 0 rfl rfl).up0 _), bK, bR, ⟨bS.1, show 0 ≤ (σ 20 + 1).toInt ∧ (σ 20 + 1).toInt ≤ 4 by omega, fun j hj => ?_⟩, bL, bI, bC, bA⟩, rfl, rfl, rfl, rfl⟩)⟩⟩
    show 0 ≤ (upd (F 7) (σ 20).toNatClampNeg fr j).toInt ∧ 0 ≤ (upd (F 8) (σ 20).toNatClampNeg sz j).toInt ∧ (upd (F 7) (σ 20).toNatClampNeg fr j).toInt + (upd (F 8) (σ 20).toNatClampNeg sz j).toInt ≤ 32
    have := bS.2.2 j hj
    unfold upd
    by_cases q : j = (σ 20).toNatClampNeg
    · simp only [q, if_true]; omega
    · simp only [q, if_false]; exact this
  · rw [zi_eq, z4] at a2
    exact hP _ _ ⟨k1, Or.inr (Or.inl ⟨a1, a2, rfl, _, F, hm, rfl, rfl, rfl, rfl⟩)⟩
set_option maxRecDepth 100000 in
set_option maxHeartbeats 1000000 in
theorem n_key (G : zG) (w : zW) (c : Nat) (fr sz us dn : Int32) (σ : Nat → Int32) (F : Nat → Nat → Int32) (h : zMo c w σ F) :
    z_M G yX9_key wsX9_key zrm1 0 0 [.ref c, .int fr, .int sz, .int us, .int dn] w (fun x w' => (∃ v, x = some (.int v)) ∧ zKm c w w' ∧ ∃ σ' F', zMo c w' σ' F' ∧ zTi σ F σ' F') := by
  obtain ⟨h0, hA, bK, bR, bS, bL, bI, bC, bA⟩ := id h
  unfold zMob at h0
  refine z_mt (nL := 5) (cc := cX9_key) (ret := some .int) (by decide) rfl (Nat.le_of_ble_eq_true rfl) 0 [some (.ref c), some (.int fr), some (.int sz), some (.int us), some (.int dn)] rfl ?_
  intro P hP Γ C E
  refine z_gn C E tkX9_key (Nat.zero_le _) (Nat.zero_le _) [37] 60 ?_
  simp only [↓z_rn_f, ↓z_rn_t, ↓z_rn_0, ↓zr_in0, ↓zr_ins, ↓zr_inn, ↓zr_bt, ↓zr_bf, ↓zr_li0, ↓zr_lis, ↓zr_la0, ↓zr_las, ↓zr_ll0, ↓zr_lls, ↓zr_1i, ↓zr_1l, ↓zr_1a, ↓zr_2i, ↓zr_2l, ↓zr_lsi, ↓zr_ia, ↓zr_aa, ↓zr_dia, ↓zr_iia, ↓zr_lia, ↓zr_d1i, ↓zr_d1r, ↓zr_e1, ↓zr_e2, ↓zr_e0, ↓zr_f0, ↓zr_fs, ↓zr_s0, ↓zr_ss, ↓zr_len, ↓zr_len0, ↓zr_ok0, ↓zr_okn, ↓zr_oki, ↓zr_okr, ↓zr_oks, ↓zr_tt, ↓zr_ar0u, ↓zr_ar0n, ↓zr_ar1u, ↓zr_ar1n, ↓zr_ar2u, ↓zr_ar2n, ↓zr_obu, ↓zr_obn, ↓Nat.reduceAdd, Nat.reduceEqDiff, Nat.add_left_cancel_iff, not_false_eq_true, z_up_up, true_and, ↓sX9_key_0, ↓sX9_key_1, ↓sX9_key_2, ↓sX9_key_5, ↓sX9_key_6, ↓sX9_key_9, ↓sX9_key_10, ↓sX9_key_11, ↓sX9_key_14, ↓sX9_key_15, ↓sX9_key_16, ↓sX9_key_17, ↓sX9_key_20, ↓sX9_key_22, ↓sX9_key_25, ↓sX9_key_26, ↓sX9_key_27, ↓sX9_key_30, ↓sX9_key_32, ↓sX9_key_35, ↓sX9_key_37, ↓sX9_key_40, ↓sX9_key_43, ↓sX9_key_45, ↓sX9_key_46, ↓sX9_key_47, ↓sX9_key_50, ↓sX9_key_53, ↓sX9_key_55, ↓sX9_key_56, ↓sX9_key_57, ↓sX9_key_60, ↓sX9_key_62, ↓sX9_key_65, ↓sX9_key_66, ↓sX9_key_67, ↓sX9_key_68, ↓sX9_key_71, ↓sX9_key_72, ↓sX9_key_75, ↓sX9_key_76, ↓sX9_key_77, ↓sX9_key_78, ↓sX9_key_81, ↓sX9_key_82, ↓sX9_key_85, ↓sX9_key_86, ↓sX9_key_87, ↓sX9_key_88, ↓sX9_key_91, ↓sX9_key_92, ↓sX9_key_95, ↓sX9_key_96, ↓sX9_key_97, ↓sX9_key_98, ↓sX9_key_101, ↓sX9_key_102, ↓sX9_key_105, ↓sX9_key_107, ↓sX9_key_108, ↓sX9_key_109, ↓sX9_key_110, ↓sX9_key_113, ↓sX9_key_114, ↓sX9_key_115, ↓sX9_key_118, ↓sX9_key_119, ↓sX9_key_122, ↓zh_ob h0, zn_a, zn_b, zq1, zq2, zq3, zq4, zq5, zq6, zq7, eq_self, Int32.reduceLT, Int32.reduceLE, Int32.reduceAdd, not_true_eq_false, not_false_eq_true, false_implies, true_implies, and_true, true_and, or_true, true_or]
  have hm : zMo c (z_up w c (zMob c (sU σ 0 0))) (sU σ 0 0) F := ⟨by rw [z_up_2, if_pos rfl], hA.up0 _, bK, bR, bS, bL, bI, bC, bA⟩
  have k1 : zKm c w (z_up w c (zMob c (sU σ 0 0))) := (zKm.rf _ _).up _ _ (Nat.le_refl _) (by omega)
  have fold : zMob c (sU σ 0 0) = .inr (10, [.int 0, .int (σ 1), .int (σ 2), .int (σ 3), .ref (c + 1), .ref (c + 2), .ref (c + 3), .ref (c + 4), .int (σ 8), .ref (c + 5), .ref (c + 6), .int (σ 11), .int (σ 12), .int (σ 13), .int (σ 14), .ref (c + 7), .ref (c + 8), .ref (c + 9), .ref (c + 10), .ref (c + 11), .int (σ 20), .ref (c + 12), .int (σ 22), .ref (c + 13), .ref (c + 14), .ref (c + 15), .ref (c + 16), .ref (c + 17), .ref (c + 18), .ref (c + 19), .int (σ 30), .int (σ 31), .int (σ 32), .int (σ 33), .int (σ 34), .ref (c + 20)]) := rfl
  rw [← fold]
  generalize z_up w c (zMob c (sU σ 0 0)) = w1 at hm k1 ⊢
  have g0 : w1.2 c = some (.inr (10, [.int 0, .int (σ 1), .int (σ 2), .int (σ 3), .ref (c + 1), .ref (c + 2), .ref (c + 3), .ref (c + 4), .int (σ 8), .ref (c + 5), .ref (c + 6), .int (σ 11), .int (σ 12), .int (σ 13), .int (σ 14), .ref (c + 7), .ref (c + 8), .ref (c + 9), .ref (c + 10), .ref (c + 11), .int (σ 20), .ref (c + 12), .int (σ 22), .ref (c + 13), .ref (c + 14), .ref (c + 15), .ref (c + 16), .ref (c + 17), .ref (c + 18), .ref (c + 19), .int (σ 30), .int (σ 31), .int (σ 32), .int (σ 33), .int (σ 34), .ref (c + 20)])) := hm.1
  have g1 : w1.2 (c + 1) = some (.inl (0, 8, .inl (F 1))) := hm.2.1 1 (by decide) (by decide)
  have g2 : w1.2 (c + 2) = some (.inl (0, 8, .inl (F 2))) := hm.2.1 2 (by decide) (by decide)
  have g3 : w1.2 (c + 3) = some (.inl (0, 8, .inl (F 3))) := hm.2.1 3 (by decide) (by decide)
  have g4 : w1.2 (c + 4) = some (.inl (1, 8, .inl (F 4))) := hm.2.1 4 (by decide) (by decide)
  have same : ∀ v : Int32, P (some (.int v)) w1 := fun v => hP _ _ ⟨⟨_, rfl⟩, k1, _, F, hm, rfl, rfl, rfl, rfl⟩
  have hgo : ∀ mx : Int32, z_J G 5 Γ w1 0 0 37 [some (.ref c), some (.int fr), some (.int sz), some (.int us), some (.int dn)] [.int mx, .int sz, .int fr] := by
    intro mx
    refine z_callS (n := 3) (As := [.int fr, .int sz, .int mx]) (rest := []) C E (n_isPlace G w1 fr sz mx) gX9_key_X9_isPlace rfl rfl rfl (by decide +kernel) (by decide) dX9_key_37 rfl ⟨Nat.zero_le _, Nat.zero_le _⟩ (Nat.le_of_ble_eq_true rfl) ?_
    rintro x w2 ⟨rfl, hw2⟩
    rw [hw2]
    clear hw2 w2
    simp only [Option.toList, List.cons_append, List.nil_append]
    refine z_gn C E tkX9_key (Nat.zero_le _) (Nat.zero_le _) [] 80 ?_
    simp only [↓z_rn_f, ↓z_rn_t, ↓z_rn_0, ↓zr_in0, ↓zr_ins, ↓zr_inn, ↓zr_bt, ↓zr_bf, ↓zr_li0, ↓zr_lis, ↓zr_la0, ↓zr_las, ↓zr_ll0, ↓zr_lls, ↓zr_1i, ↓zr_1l, ↓zr_1a, ↓zr_2i, ↓zr_2l, ↓zr_lsi, ↓zr_ia, ↓zr_aa, ↓zr_dia, ↓zr_iia, ↓zr_lia, ↓zr_d1i, ↓zr_d1r, ↓zr_e1, ↓zr_e2, ↓zr_e0, ↓zr_f0, ↓zr_fs, ↓zr_s0, ↓zr_ss, ↓zr_len, ↓zr_len0, ↓zr_ok0, ↓zr_okn, ↓zr_oki, ↓zr_okr, ↓zr_oks, ↓zr_tt, ↓zr_ar0u, ↓zr_ar0n, ↓zr_ar1u, ↓zr_ar1n, ↓zr_ar2u, ↓zr_ar2n, ↓zr_obu, ↓zr_obn, ↓Nat.reduceAdd, Nat.reduceEqDiff, Nat.add_left_cancel_iff, not_false_eq_true, z_up_up, true_and, ↓sX9_key_0, ↓sX9_key_1, ↓sX9_key_2, ↓sX9_key_5, ↓sX9_key_6, ↓sX9_key_9, ↓sX9_key_10, ↓sX9_key_11, ↓sX9_key_14, ↓sX9_key_15, ↓sX9_key_16, ↓sX9_key_17, ↓sX9_key_20, ↓sX9_key_22, ↓sX9_key_25, ↓sX9_key_26, ↓sX9_key_27, ↓sX9_key_30, ↓sX9_key_32, ↓sX9_key_35, ↓sX9_key_37, ↓sX9_key_40, ↓sX9_key_43, ↓sX9_key_45, ↓sX9_key_46, ↓sX9_key_47, ↓sX9_key_50, ↓sX9_key_53, ↓sX9_key_55, ↓sX9_key_56, ↓sX9_key_57, ↓sX9_key_60, ↓sX9_key_62, ↓sX9_key_65, ↓sX9_key_66, ↓sX9_key_67, ↓sX9_key_68, ↓sX9_key_71, ↓sX9_key_72, ↓sX9_key_75, ↓sX9_key_76, ↓sX9_key_77, ↓sX9_key_78, ↓sX9_key_81, ↓sX9_key_82, ↓sX9_key_85, ↓sX9_key_86, ↓sX9_key_87, ↓sX9_key_88, ↓sX9_key_91, ↓sX9_key_92, ↓sX9_key_95, ↓sX9_key_96, ↓sX9_key_97, ↓sX9_key_98, ↓sX9_key_101, ↓sX9_key_102, ↓sX9_key_105, ↓sX9_key_107, ↓sX9_key_108, ↓sX9_key_109, ↓sX9_key_110, ↓sX9_key_113, ↓sX9_key_114, ↓sX9_key_115, ↓sX9_key_118, ↓sX9_key_119, ↓sX9_key_122, ↓zh_ob g0, ↓zh_ar0 g1, ↓zh_ar0 g2, ↓zh_ar0 g3, ↓zh_ar1 g4, zn_a, zn_b, zq1, zq2, zq3, zq4, zq5, zq6, zq7, eq_self, Int32.reduceLT, Int32.reduceLE, Int32.reduceAdd, not_true_eq_false, not_false_eq_true, false_implies, true_implies, and_true, true_and, or_true, true_or]
    have b1 := bK.1
    have z8 : (8 : Int32).toInt = 8 := by decide
    refine ⟨fun a1 => ⟨fun _ => ⟨fun a2 => ?_, fun _ => same _⟩, fun _ => same _⟩, fun _ => same _⟩
    rw [zi_eq, z8] at a2
    have e := zi_a1 (x := σ 8) (by omega) (by omega)
    have j1 : vp_in (σ 8) 8 := vp_in_iff.mpr (by omega)
    have n1 := zi_nat (x := σ 8) (by omega)
    have hb := zFld_b a1
    refine ⟨j1, j1, j1, j1, hP _ _ ⟨⟨_, rfl⟩, ((((k1.up _ _ (by omega) (by omega)).up _ _ (by omega) (by omega)).up _ _ (by omega) (by omega)).up _ _ (by omega) (by omega)).up _ _ (Nat.le_refl _) (by omega), sU (sU σ 0 0) 8 (σ 8 + 1), zF1 (zF1 (zF1 (zF1 F 1 _) 2 _) 3 _) 4 _, ⟨by rw [z_up_2, if_pos rfl]; rfl, (((((hm.2.1.upk 1 _ 8 0 rfl rfl).upk 2 _ 8 0 rfl rfl).upk 3 _ 8 0 rfl rfl).upk 4 _ 8 1 rfl rfl).up0 _), ⟨show 0 ≤ (σ 8 + 1).toInt ∧ (σ 8 + 1).toInt ≤ 8 by omega, fun j hj => ?_⟩, bR, bS, bL, bI, bC, bA⟩, rfl, rfl, rfl, rfl⟩⟩
    have hj2 : (j : Int) < (σ 8 + 1).toInt := hj
    show 0 ≤ (upd (F 1) (σ 8).toNatClampNeg fr j).toInt ∧ 1 ≤ (upd (F 2) (σ 8).toNatClampNeg sz j).toInt ∧ (upd (F 1) (σ 8).toNatClampNeg fr j).toInt + (upd (F 2) (σ 8).toNatClampNeg sz j).toInt ≤ 32
    unfold upd
    by_cases q : j = (σ 8).toNatClampNeg
    · simp only [q, if_true]; omega
    · simp only [q, if_false]
      exact bK.2 j (by omega)
  repeat' first | refine And.intro ?_ ?_ | (show _ → _; intro _)
  all_goals first | exact hgo _ | exact same _
