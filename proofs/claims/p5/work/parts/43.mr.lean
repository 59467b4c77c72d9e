set_option maxRecDepth 100000 in
set_option maxHeartbeats 1000000 in
theorem n_next (G : zG) (w : zW) (c : Nat) (σ : Nat → Int32) (F : Nat → Nat → Int32) (h : zMo c w σ F) :
    z_M G yX9_next wsX9_next zrm0 0 0 [.ref c] w (fun x w' => (∃ v, x = some (.int v)) ∧ zKm c w w' ∧ ∃ σ' F', zMo c w' σ' F' ∧ zTi σ F σ' F') := by
  obtain ⟨h0, hA, bK, bR, bS, bL, bI, bC, bA⟩ := id h
  unfold zMob at h0
  have h17 : w.2 (c + 17) = some (.inl (0, 1600, .inl (F 17))) := hA 17 (by decide) (by decide)
  have h19 : w.2 (c + 19) = some (.inl (0, 1600, .inl (F 19))) := hA 19 (by decide) (by decide)
  refine z_mt (nL := 1) (cc := cX9_next) (ret := some .int) (by decide) rfl (Nat.le_of_ble_eq_true rfl) 0 [some (.ref c)] rfl ?_
  intro P hP Γ C E
  obtain ⟨bA1, bA2, bA3, bA4, bA5, bA6, bA7⟩ := id bA
  have zm1 : (-1 : Int32).toInt = -1 := by decide
  refine z_gn C E tkX9_next (Nat.zero_le _) (Nat.zero_le _) [] 90 ?_
  simp only [↓z_rn_f, ↓z_rn_t, ↓z_rn_0, ↓zr_in0, ↓zr_ins, ↓zr_inn, ↓zr_bt, ↓zr_bf, ↓zr_li0, ↓zr_lis, ↓zr_la0, ↓zr_las, ↓zr_ll0, ↓zr_lls, ↓zr_1i, ↓zr_1l, ↓zr_1a, ↓zr_2i, ↓zr_2l, ↓zr_lsi, ↓zr_ia, ↓zr_aa, ↓zr_dia, ↓zr_iia, ↓zr_lia, ↓zr_d1i, ↓zr_d1r, ↓zr_e1, ↓zr_e2, ↓zr_e0, ↓zr_f0, ↓zr_fs, ↓zr_s0, ↓zr_ss, ↓zr_len, ↓zr_len0, ↓zr_ok0, ↓zr_okn, ↓zr_oki, ↓zr_okr, ↓zr_oks, ↓zr_tt, ↓zr_ar0u, ↓zr_ar0n, ↓zr_ar1u, ↓zr_ar1n, ↓zr_ar2u, ↓zr_ar2n, ↓zr_obu, ↓zr_obn, ↓Nat.reduceAdd, Nat.reduceEqDiff, Nat.add_left_cancel_iff, not_false_eq_true, z_up_up, true_and, ↓sX9_next_0, ↓sX9_next_1, ↓sX9_next_2, ↓sX9_next_5, ↓sX9_next_6, ↓sX9_next_9, ↓sX9_next_10, ↓sX9_next_13, ↓sX9_next_15, ↓sX9_next_16, ↓sX9_next_17, ↓sX9_next_18, ↓sX9_next_21, ↓sX9_next_22, ↓sX9_next_25, ↓sX9_next_28, ↓sX9_next_29, ↓sX9_next_32, ↓sX9_next_33, ↓sX9_next_36, ↓sX9_next_37, ↓sX9_next_40, ↓sX9_next_41, ↓sX9_next_44, ↓sX9_next_45, ↓sX9_next_46, ↓sX9_next_49, ↓sX9_next_50, ↓sX9_next_51, ↓sX9_next_54, ↓sX9_next_55, ↓sX9_next_58, ↓sX9_next_59, ↓sX9_next_62, ↓sX9_next_63, ↓sX9_next_64, ↓sX9_next_67, ↓sX9_next_68, ↓sX9_next_71, ↓sX9_next_72, ↓sX9_next_75, ↓sX9_next_76, ↓sX9_next_79, ↓sX9_next_80, ↓sX9_next_83, ↓sX9_next_84, ↓sX9_next_87, ↓sX9_next_88, ↓zh_ob h0, ↓zh_ar0 h17, ↓zh_ar0 h19, zn_a, zn_b, zq1, zq2, zq3, zq4, zq5, zq6, zq7, eq_self, Int32.reduceLT, Int32.reduceLE, Int32.reduceAdd, not_true_eq_false, not_false_eq_true, false_implies, true_implies, and_true, true_and, or_true, true_or]
  refine ⟨fun a1 => ⟨fun a2 => ?_, fun a2 => ?_⟩, fun a1 => hP _ _ ⟨⟨_, rfl⟩, (zKm.rf _ _).up _ _ (Nat.le_refl _) (by omega), sU σ 0 0, F, ⟨by rw [z_up_2, if_pos rfl]; rfl, hA.up0 _, bK, bR, bS, bL, bI, bC, bA⟩, rfl, rfl, rfl, rfl⟩⟩
  · have e1 := bA6 a1
    have e := zi_a1 (x := σ 32) (by omega) (by omega)
    exact hP _ _ ⟨⟨_, rfl⟩, (zKm.rf _ _).up _ _ (Nat.le_refl _) (by omega), sU (sU (sU (sU σ 0 0) 33 (-1)) 32 (σ 32 + 1)) 3 0, F, ⟨by rw [z_up_2, if_pos rfl]; rfl, hA.up0 _, bK, bR, bS, bL, bI, bC, ⟨bA1, bA2, bA3, bA4, show 0 ≤ (σ 32 + 1).toInt ∧ (σ 32 + 1).toInt ≤ 1601 by omega, fun q => absurd (show (0 : Int32) = 2 from q) (by decide), Or.inl rfl⟩⟩, rfl, rfl, rfl, rfl⟩
  · simp only [zi_lt, zi_le, zi_0, zi_1, zi_m1, zi_2, zi_32] at a2
    have e := zi_a1 (x := σ 32) (by omega) (by omega)
    have j1 : vp_in (σ 32) 1600 := vp_in_iff.mpr (by omega)
    have b2 := (bC _ (zi_nat_lt j1)).2.2
    refine ⟨j1, fun a3 => ⟨fun _ => ⟨vp_in_iff.mpr (by omega), hP _ _ ⟨⟨_, rfl⟩, (zKm.rf _ _).up _ _ (Nat.le_refl _) (by omega), sU (sU (sU σ 0 0) 33 (F 19 (σ 32).toNatClampNeg)) 32 (σ 32 + 1), F, ⟨by rw [z_up_2, if_pos rfl]; rfl, hA.up0 _, bK, bR, bS, bL, bI, bC, ⟨bA1, bA2, bA3, bA4, show 0 ≤ (σ 32 + 1).toInt ∧ (σ 32 + 1).toInt ≤ 1601 by omega, fun _ => show (σ 32 + 1).toInt ≤ 1600 by omega, Or.inr b2⟩⟩, rfl, rfl, rfl, rfl⟩⟩, fun q => absurd q a3⟩, fun a3 => ?_⟩
    exfalso
    have a4 := a3
    rw [a4, zm1] at b2
    omega
set_option maxRecDepth 100000 in
set_option maxHeartbeats 1000000 in
theorem n_value_ (G : zG) (w : zW) (c : Nat) (i : Int32) (σ : Nat → Int32) (F : Nat → Nat → Int32) (h : zMo c w σ F) :
    z_M G yX9_value_ wsX9_value_ zrm0 0 0 [.ref c, .int i] w (fun x w' => (∃ v, x = some (.int v)) ∧ zKm c w w' ∧ ∃ σ' F', zMo c w' σ' F' ∧ zTi σ F σ' F') := by
  obtain ⟨h0, hA, bK, bR, bS, bL, bI, bC, bA⟩ := id h
  unfold zMob at h0
  have h15 : w.2 (c + 15) = some (.inl (0, 51200, .inl (F 15))) := hA 15 (by decide) (by decide)
  have h16 : w.2 (c + 16) = some (.inl (0, 1600, .inl (F 16))) := hA 16 (by decide) (by decide)
  refine z_mt (nL := 2) (cc := cX9_value_) (ret := some .int) (by decide) rfl (Nat.le_of_ble_eq_true rfl) 0 [some (.ref c), some (.int i)] rfl ?_
  intro P hP Γ C E
  obtain ⟨bA1, bA2, bA3, bA4, bA5, bA6, bA7⟩ := id bA
  have zm1 : (-1 : Int32).toInt = -1 := by decide
  refine z_gn C E tkX9_value_ (Nat.zero_le _) (Nat.zero_le _) [] 90 ?_
  simp only [↓z_rn_f, ↓z_rn_t, ↓z_rn_0, ↓zr_in0, ↓zr_ins, ↓zr_inn, ↓zr_bt, ↓zr_bf, ↓zr_li0, ↓zr_lis, ↓zr_la0, ↓zr_las, ↓zr_ll0, ↓zr_lls, ↓zr_1i, ↓zr_1l, ↓zr_1a, ↓zr_2i, ↓zr_2l, ↓zr_lsi, ↓zr_ia, ↓zr_aa, ↓zr_dia, ↓zr_iia, ↓zr_lia, ↓zr_d1i, ↓zr_d1r, ↓zr_e1, ↓zr_e2, ↓zr_e0, ↓zr_f0, ↓zr_fs, ↓zr_s0, ↓zr_ss, ↓zr_len, ↓zr_len0, ↓zr_ok0, ↓zr_okn, ↓zr_oki, ↓zr_okr, ↓zr_oks, ↓zr_tt, ↓zr_ar0u, ↓zr_ar0n, ↓zr_ar1u, ↓zr_ar1n, ↓zr_ar2u, ↓zr_ar2n, ↓zr_obu, ↓zr_obn, ↓Nat.reduceAdd, Nat.reduceEqDiff, Nat.add_left_cancel_iff, not_false_eq_true, z_up_up, true_and, ↓sX9_value__0, ↓sX9_value__1, ↓sX9_value__2, ↓sX9_value__5, ↓sX9_value__6, ↓sX9_value__9, ↓sX9_value__10, ↓sX9_value__13, ↓sX9_value__14, ↓sX9_value__17, ↓sX9_value__18, ↓sX9_value__19, ↓sX9_value__22, ↓sX9_value__23, ↓sX9_value__26, ↓sX9_value__27, ↓sX9_value__30, ↓sX9_value__31, ↓sX9_value__34, ↓sX9_value__35, ↓sX9_value__38, ↓sX9_value__40, ↓sX9_value__41, ↓sX9_value__44, ↓sX9_value__45, ↓sX9_value__46, ↓sX9_value__47, ↓sX9_value__48, ↓zh_ob h0, ↓zh_ar0 h15, ↓zh_ar0 h16, zn_a, zn_b, zq1, zq2, zq3, zq4, zq5, zq6, zq7, eq_self, Int32.reduceLT, Int32.reduceLE, Int32.reduceAdd, not_true_eq_false, not_false_eq_true, false_implies, true_implies, and_true, true_and, or_true, true_or]
  refine ⟨fun a1 => hP _ _ ⟨⟨_, rfl⟩, (zKm.rf _ _).up _ _ (Nat.le_refl _) (by omega), sU σ 0 0, F, ⟨by rw [z_up_2, if_pos rfl]; rfl, hA.up0 _, bK, bR, bS, bL, bI, bC, bA⟩, rfl, rfl, rfl, rfl⟩, fun a1 => ⟨fun a2 => hP _ _ ⟨⟨_, rfl⟩, (zKm.rf _ _).up _ _ (Nat.le_refl _) (by omega), sU σ 0 0, F, ⟨by rw [z_up_2, if_pos rfl]; rfl, hA.up0 _, bK, bR, bS, bL, bI, bC, bA⟩, rfl, rfl, rfl, rfl⟩, fun a2 => ?_⟩⟩
  simp only [zi_lt, zi_le, zi_0, zi_1, zi_m1, zi_2, zi_32] at a2
  have b2 := bA7.resolve_left a1
  have j1 : vp_in (σ 33) 1600 := vp_in_iff.mpr (by omega)
  have b3 := (bC _ (zi_nat_lt j1)).1
  refine ⟨j1, fun a3 => ?_, fun a3 => hP _ _ ⟨⟨_, rfl⟩, (zKm.rf _ _).up _ _ (Nat.le_refl _) (by omega), sU σ 0 0, F, ⟨by rw [z_up_2, if_pos rfl]; rfl, hA.up0 _, bK, bR, bS, bL, bI, bC, bA⟩, rfl, rfl, rfl, rfl⟩⟩
  simp only [zi_lt, zi_le, zi_0, zi_1, zi_m1, zi_2, zi_32] at a3
  have e2 : (32 * σ 33).toInt = 32 * (σ 33).toInt := by rw [zi_mul (by rw [zi_32]; omega) (by rw [zi_32]; omega), zi_32]
  have e3 : (32 * σ 33 + i).toInt = 32 * (σ 33).toInt + i.toInt := by rw [zi_add (by omega) (by omega), e2]
  exact ⟨vp_in_iff.mpr (by omega), hP _ _ ⟨⟨_, rfl⟩, (zKm.rf _ _).up _ _ (Nat.le_refl _) (by omega), sU σ 0 0, F, ⟨by rw [z_up_2, if_pos rfl]; rfl, hA.up0 _, bK, bR, bS, bL, bI, bC, bA⟩, rfl, rfl, rfl, rfl⟩⟩
set_option maxRecDepth 100000 in
set_option maxHeartbeats 1000000 in
theorem n_merge (G : zG) (w : zW) (c : Nat) (i r : Int32) (σ : Nat → Int32) (F : Nat → Nat → Int32) (h : zMo c w σ F) :
    z_M G yX9_merge wsX9_merge zrm1 0 0 [.ref c, .int i, .int r] w (fun x w' => (∃ v, x = some (.int v)) ∧ zKm c w w' ∧ ∃ σ' F', zMo c w' σ' F' ∧ zTi σ F σ' F') := by
  obtain ⟨h0, hA, bK, bR, bS, bL, bI, bC, bA⟩ := id h
  unfold zMob at h0
  refine z_mt (nL := 3) (cc := cX9_merge) (ret := some .int) (by decide) rfl (Nat.le_of_ble_eq_true rfl) 0 [some (.ref c), some (.int i), some (.int r)] rfl ?_
  intro P hP Γ C E
  refine z_gn C E tkX9_merge (Nat.zero_le _) (Nat.zero_le _) [] 60 ?_
  simp only [↓z_rn_f, ↓z_rn_t, ↓z_rn_0, ↓zr_in0, ↓zr_ins, ↓zr_inn, ↓zr_bt, ↓zr_bf, ↓zr_li0, ↓zr_lis, ↓zr_la0, ↓zr_las, ↓zr_ll0, ↓zr_lls, ↓zr_1i, ↓zr_1l, ↓zr_1a, ↓zr_2i, ↓zr_2l, ↓zr_lsi, ↓zr_ia, ↓zr_aa, ↓zr_dia, ↓zr_iia, ↓zr_lia, ↓zr_d1i, ↓zr_d1r, ↓zr_e1, ↓zr_e2, ↓zr_e0, ↓zr_f0, ↓zr_fs, ↓zr_s0, ↓zr_ss, ↓zr_len, ↓zr_len0, ↓zr_ok0, ↓zr_okn, ↓zr_oki, ↓zr_okr, ↓zr_oks, ↓zr_tt, ↓zr_ar0u, ↓zr_ar0n, ↓zr_ar1u, ↓zr_ar1n, ↓zr_ar2u, ↓zr_ar2n, ↓zr_obu, ↓zr_obn, ↓Nat.reduceAdd, Nat.reduceEqDiff, Nat.add_left_cancel_iff, not_false_eq_true, z_up_up, true_and, ↓sX9_merge_0, ↓sX9_merge_1, ↓sX9_merge_2, ↓sX9_merge_5, ↓sX9_merge_6, ↓sX9_merge_7, ↓sX9_merge_10, ↓sX9_merge_13, ↓sX9_merge_15, ↓sX9_merge_16, ↓sX9_merge_17, ↓sX9_merge_20, ↓sX9_merge_21, ↓sX9_merge_23, ↓sX9_merge_26, ↓sX9_merge_28, ↓sX9_merge_29, ↓sX9_merge_30, ↓sX9_merge_33, ↓sX9_merge_34, ↓sX9_merge_35, ↓sX9_merge_38, ↓sX9_merge_41, ↓sX9_merge_42, ↓sX9_merge_43, ↓sX9_merge_44, ↓sX9_merge_47, ↓sX9_merge_50, ↓sX9_merge_51, ↓sX9_merge_52, ↓sX9_merge_53, ↓sX9_merge_56, ↓sX9_merge_57, ↓sX9_merge_58, ↓sX9_merge_59, ↓sX9_merge_60, ↓sX9_merge_61, ↓sX9_merge_62, ↓sX9_merge_65, ↓sX9_merge_66, ↓sX9_merge_67, ↓sX9_merge_68, ↓sX9_merge_69, ↓sX9_merge_70, ↓sX9_merge_71, ↓sX9_merge_72, ↓sX9_merge_75, ↓sX9_merge_76, ↓sX9_merge_77, ↓zh_ob h0, zn_a, zn_b, zq1, zq2, zq3, zq4, zq5, zq6, zq7, eq_self, Int32.reduceLT, Int32.reduceLE, Int32.reduceAdd, not_true_eq_false, not_false_eq_true, false_implies, true_implies, and_true, true_and, or_true, true_or]
  have hm : zMo c (z_up w c (zMob c (sU σ 0 0))) (sU σ 0 0) F := ⟨by rw [z_up_2, if_pos rfl], hA.up0 _, bK, bR, bS, bL, bI, bC, bA⟩
  have k1 : zKm c w (z_up w c (zMob c (sU σ 0 0))) := (zKm.rf _ _).up _ _ (Nat.le_refl _) (by omega)
  change z_J G 3 Γ (z_up w c (zMob c (sU σ 0 0))) _ _ _ _ _
  generalize z_up w c (zMob c (sU σ 0 0)) = w1 at hm k1 ⊢
  have g0 : w1.2 c = some (.inr (10, [.int 0, .int (σ 1), .int (σ 2), .int (σ 3), .ref (c + 1), .ref (c + 2), .ref (c + 3), .ref (c + 4), .int (σ 8), .ref (c + 5), .ref (c + 6), .int (σ 11), .int (σ 12), .int (σ 13), .int (σ 14), .ref (c + 7), .ref (c + 8), .ref (c + 9), .ref (c + 10), .ref (c + 11), .int (σ 20), .ref (c + 12), .int (σ 22), .ref (c + 13), .ref (c + 14), .ref (c + 15), .ref (c + 16), .ref (c + 17), .ref (c + 18), .ref (c + 19), .int (σ 30), .int (σ 31), .int (σ 32), .int (σ 33), .int (σ 34), .ref (c + 20)])) := hm.1
  have g13 : w1.2 (c + 13) = some (.inl (0, 1600, .inl (F 13))) := hm.2.1 13 (by decide) (by decide)
  have g14 : w1.2 (c + 14) = some (.inl (0, 8, .inl (F 14))) := hm.2.1 14 (by decide) (by decide)
  refine z_callV (n := 1) (As := [.int r]) (rest := []) C E (n_isRecord G w1 c r _ F hm) gX9_merge_X9_isRecord rfl rfl rfl (by decide +kernel) (by decide) dX9_merge_7 rfl ⟨Nat.zero_le _, Nat.zero_le _⟩ (Nat.le_of_ble_eq_true rfl) rfl g0 ?_
  rintro x w2 ⟨rfl, hw2⟩
  rw [hw2]
  clear hw2 w2
  simp only [Option.toList, List.cons_append, List.nil_append]
  have same : ∀ v : Int32, P (some (.int v)) w1 := fun v => hP _ _ ⟨⟨_, rfl⟩, k1, _, F, hm, rfl, rfl, rfl, rfl⟩
  by_cases hq : ¬ (1 ≤ r.toInt ∧ r.toInt ≤ (sU σ 0 0 11).toInt)
  · rw [if_neg hq]
    refine z_gn C E tkX9_merge (Nat.zero_le _) (Nat.zero_le _) [16] 60 ?_
    simp only [↓z_rn_f, ↓z_rn_t, ↓z_rn_0, ↓zr_in0, ↓zr_ins, ↓zr_inn, ↓zr_bt, ↓zr_bf, ↓zr_li0, ↓zr_lis, ↓zr_la0, ↓zr_las, ↓zr_ll0, ↓zr_lls, ↓zr_1i, ↓zr_1l, ↓zr_1a, ↓zr_2i, ↓zr_2l, ↓zr_lsi, ↓zr_ia, ↓zr_aa, ↓zr_dia, ↓zr_iia, ↓zr_lia, ↓zr_d1i, ↓zr_d1r, ↓zr_e1, ↓zr_e2, ↓zr_e0, ↓zr_f0, ↓zr_fs, ↓zr_s0, ↓zr_ss, ↓zr_len, ↓zr_len0, ↓zr_ok0, ↓zr_okn, ↓zr_oki, ↓zr_okr, ↓zr_oks, ↓zr_tt, ↓zr_ar0u, ↓zr_ar0n, ↓zr_ar1u, ↓zr_ar1n, ↓zr_ar2u, ↓zr_ar2n, ↓zr_obu, ↓zr_obn, ↓Nat.reduceAdd, Nat.reduceEqDiff, Nat.add_left_cancel_iff, not_false_eq_true, z_up_up, true_and, ↓sX9_merge_0, ↓sX9_merge_1, ↓sX9_merge_2, ↓sX9_merge_5, ↓sX9_merge_6, ↓sX9_merge_7, ↓sX9_merge_10, ↓sX9_merge_13, ↓sX9_merge_15, ↓sX9_merge_16, ↓sX9_merge_17, ↓sX9_merge_20, ↓sX9_merge_21, ↓sX9_merge_23, ↓sX9_merge_26, ↓sX9_merge_28, ↓sX9_merge_29, ↓sX9_merge_30, ↓sX9_merge_33, ↓sX9_merge_34, ↓sX9_merge_35, ↓sX9_merge_38, ↓sX9_merge_41, ↓sX9_merge_42, ↓sX9_merge_43, ↓sX9_merge_44, ↓sX9_merge_47, ↓sX9_merge_50, ↓sX9_merge_51, ↓sX9_merge_52, ↓sX9_merge_53, ↓sX9_merge_56, ↓sX9_merge_57, ↓sX9_merge_58, ↓sX9_merge_59, ↓sX9_merge_60, ↓sX9_merge_61, ↓sX9_merge_62, ↓sX9_merge_65, ↓sX9_merge_66, ↓sX9_merge_67, ↓sX9_merge_68, ↓sX9_merge_69, ↓sX9_merge_70, ↓sX9_merge_71, ↓sX9_merge_72, ↓sX9_merge_75, ↓sX9_merge_76, ↓sX9_merge_77, zn_a, zn_b, zq1, zq2, zq3, zq4, zq5, zq6, zq7, eq_self, Int32.reduceLT, Int32.reduceLE, Int32.reduceAdd, not_true_eq_false, not_false_eq_true, false_implies, true_implies, and_true, true_and, or_true, true_or]
    exact same _
  replace hq := Decidable.not_not.mp hq
  rw [if_pos hq]
  have hq2 : r.toInt ≤ (σ 11).toInt := hq.2
  have b1 := bR.1
  have z200 : (200 : Int32).toInt = 200 := by decide
  have z8 : (8 : Int32).toInt = 8 := by decide
  refine z_gn C E tkX9_merge (Nat.zero_le _) (Nat.zero_le _) [] 80 ?_
  simp only [↓z_rn_f, ↓z_rn_t, ↓z_rn_0, ↓zr_in0, ↓zr_ins, ↓zr_inn, ↓zr_bt, ↓zr_bf, ↓zr_li0, ↓zr_lis, ↓zr_la0, ↓zr_las, ↓zr_ll0, ↓zr_lls, ↓zr_1i, ↓zr_1l, ↓zr_1a, ↓zr_2i, ↓zr_2l, ↓zr_lsi, ↓zr_ia, ↓zr_aa, ↓zr_dia, ↓zr_iia, ↓zr_lia, ↓zr_d1i, ↓zr_d1r, ↓zr_e1, ↓zr_e2, ↓zr_e0, ↓zr_f0, ↓zr_fs, ↓zr_s0, ↓zr_ss, ↓zr_len, ↓zr_len0, ↓zr_ok0, ↓zr_okn, ↓zr_oki, ↓zr_okr, ↓zr_oks, ↓zr_tt, ↓zr_ar0u, ↓zr_ar0n, ↓zr_ar1u, ↓zr_ar1n, ↓zr_ar2u, ↓zr_ar2n, ↓zr_obu, ↓zr_obn, ↓Nat.reduceAdd, Nat.reduceEqDiff, Nat.add_left_cancel_iff, not_false_eq_true, z_up_up, true_and, ↓sX9_merge_0, ↓sX9_merge_1, ↓sX9_merge_2, ↓sX9_merge_5, ↓sX9_merge_6, ↓sX9_merge_7, ↓sX9_merge_10, ↓sX9_merge_13, ↓sX9_merge_15, ↓sX9_merge_16, ↓sX9_merge_17, ↓sX9_merge_20, ↓sX9_merge_21, ↓sX9_merge_23, ↓sX9_merge_26, ↓sX9_merge_28, ↓sX9_merge_29, ↓sX9_merge_30, ↓sX9_merge_33, ↓sX9_merge_34, ↓sX9_merge_35, ↓sX9_merge_38, ↓sX9_merge_41, ↓sX9_merge_42, ↓sX9_merge_43, ↓sX9_merge_44, ↓sX9_merge_47, ↓sX9_merge_50, ↓sX9_merge_51, ↓sX9_merge_52, ↓sX9_merge_53, ↓sX9_merge_56, ↓sX9_merge_57, ↓sX9_merge_58, ↓sX9_merge_59, ↓sX9_merge_60, ↓sX9_merge_61, ↓sX9_merge_62, ↓sX9_merge_65, ↓sX9_merge_66, ↓sX9_merge_67, ↓sX9_merge_68, ↓sX9_merge_69, ↓sX9_merge_70, ↓sX9_merge_71, ↓sX9_merge_72, ↓sX9_merge_75, ↓sX9_merge_76, ↓sX9_merge_77, ↓zh_ob g0, ↓zh_ar0 g13, ↓zh_ar0 g14, zn_a, zn_b, zq1, zq2, zq3, zq4, zq5, zq6, zq7, eq_self, Int32.reduceLT, Int32.reduceLE, Int32.reduceAdd, not_true_eq_false, not_false_eq_true, false_implies, true_implies, and_true, true_and, or_true, true_or]
  refine ⟨fun _ => same _, fun a1 => ⟨fun a2 => ?_, fun _ => same _⟩⟩
  simp only [zi_lt, zi_le, zi_0, zi_1, zi_m1, zi_2, zi_32] at a1 a2
  have j1 : vp_in i 8 := vp_in_iff.mpr (by omega)
  have n1 := zi_nat (x := i) (by omega)
  have b2 := (bI _ (zi_nat_lt j1)).1
  refine ⟨j1, fun a3 => ?_, fun _ => same _⟩
  have a4 : ¬ (F 14 i.toNatClampNeg).toInt = 200 := fun q => a3 (zi_eq.mpr (by rw [z200]; exact q))
  have e1 : (200 * i).toInt = 200 * i.toInt := by rw [zi_mul (by rw [z200]; omega) (by rw [z200]; omega), z200]
  have e2 : (200 * i + F 14 i.toNatClampNeg).toInt = 200 * i.toInt + (F 14 i.toNatClampNeg).toInt := by rw [zi_add (by omega) (by omega), e1]
  have e3 := zi_a1 (x := F 14 i.toNatClampNeg) (by omega) (by omega)
  have n2 := zi_nat (x := 200 * i + F 14 i.toNatClampNeg) (by omega)
  have j2 : vp_in (200 * i + F 14 i.toNatClampNeg) 1600 := vp_in_iff.mpr (by omega)
  refine ⟨j1, j2, j1, j1, j1, hP _ _ ⟨⟨_, rfl⟩, (k1.up _ _ (by omega) (by omega)).up _ _ (by omega) (by omega), sU σ 0 0, zF1 (zF1 F 13 _) 14 _, ⟨by rw [z_up_2, if_neg (by omega), z_up_2, if_neg (by omega)]; exact hm.1, ((hm.2.1.upk 13 _ 1600 0 rfl rfl).upk 14 _ 8 0 rfl rfl), bK, bR, bS, bL, fun j hj => ?_, bC, bA⟩, rfl, rfl, rfl, rfl⟩⟩
  show (0 ≤ (upd (F 14) i.toNatClampNeg (F 14 i.toNatClampNeg + 1) j).toInt ∧ (upd (F 14) i.toNatClampNeg (F 14 i.toNatClampNeg + 1) j).toInt ≤ 200) ∧ ∀ k : Nat, (k : Int) < (upd (F 14) i.toNatClampNeg (F 14 i.toNatClampNeg + 1) j).toInt → 1 ≤ (upd (F 13) (200 * i + F 14 i.toNatClampNeg).toNatClampNeg r (200 * j + k)).toInt ∧ (upd (F 13) (200 * i + F 14 i.toNatClampNeg).toNatClampNeg r (200 * j + k)).toInt ≤ 400
  have b5 := bI j hj
  have b4 : ∀ k : Nat, 1 ≤ (F 13 (200 * j + k)).toInt ∧ (F 13 (200 * j + k)).toInt ≤ 400 ∨ 200 * j + k = (200 * i + F 14 i.toNatClampNeg).toNatClampNeg → 1 ≤ (upd (F 13) (200 * i + F 14 i.toNatClampNeg).toNatClampNeg r (200 * j + k)).toInt ∧ (upd (F 13) (200 * i + F 14 i.toNatClampNeg).toNatClampNeg r (200 * j + k)).toInt ≤ 400 := fun k hk => by
    unfold upd
    by_cases q : 200 * j + k = (200 * i + F 14 i.toNatClampNeg).toNatClampNeg
    · rw [if_pos q]; omega
    · rw [if_neg q]; exact hk.resolve_right q
  by_cases q : j = i.toNatClampNeg
  · have u : upd (F 14) i.toNatClampNeg (F 14 i.toNatClampNeg + 1) j = F 14 i.toNatClampNeg + 1 := by unfold upd; rw [if_pos q]
    rw [u]
    refine ⟨by omega, fun k hk => b4 k ?_⟩
    by_cases q2 : 200 * j + k = (200 * i + F 14 i.toNatClampNeg).toNatClampNeg
    · exact Or.inr q2
    · refine Or.inl (b5.2 k ?_)
      rw [q]
      omega
  · have u : upd (F 14) i.toNatClampNeg (F 14 i.toNatClampNeg + 1) j = F 14 j := by unfold upd; rw [if_neg q]
    rw [u]
    exact ⟨b5.1, fun k hk => b4 k (Or.inl (b5.2 k hk))⟩
