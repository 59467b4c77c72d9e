set_option maxRecDepth 100000 in
set_option maxHeartbeats 1000000 in
theorem n_duplicate (G : zG) (w : zW) (c : Nat) (r : Int32) (σ : Nat → Int32) (F : Nat → Nat → Int32) (h : zMo c w σ F) (hr : 1 ≤ r.toInt ∧ r.toInt ≤ 400) (hs : (σ 30).toInt < 1600) :
    z_M G yX9_duplicate wsX9_duplicate zrm0 0 0 [.ref c, .int r] w (fun x w' => x = none ∧ zKm c w w' ∧ ∃ F', zMo c w' (sU σ 30 (σ 30 + 1)) F' ∧ ∀ j, j ≠ 15 → j ≠ 16 → j ≠ 17 → F' j = F j) := by
  refine z_mt (nL := 3) (cc := cX9_duplicate) (ret := none) (by decide) rfl (Nat.le_of_ble_eq_true rfl) 1 [some (.ref c), some (.int r), none] rfl ?_
  intro P hP Γ C E
  have b1 := h.2.2.2.2.2.2.2.2.2.2.1
  have z32 : (32 : Int32).toInt = 32 := by decide
  have es := zi_s1 (x := r) (by omega) (by omega)
  have er : (32 * (r - 1)).toInt = 32 * (r.toInt - 1) := by rw [zi_mul (by rw [zi_32]; omega) (by rw [zi_32]; omega), zi_32, es]
  have ec : (32 * σ 30).toInt = 32 * (σ 30).toInt := by rw [zi_mul (by rw [zi_32]; omega) (by rw [zi_32]; omega), zi_32]
  have e30 := zi_a1 (x := σ 30) (by omega) (by omega)
  have tail : ∀ (i : Int32) (wv : zW) (F1 : Nat → Nat → Int32), zKm c w wv → zMo c wv σ F1 → (∀ j, j ≠ 15 → F1 j = F j) → z_J G 3 Γ wv 0 0 41 [some (.ref c), some (.int r), some (.int i)] [] := by
    intro i wv F1 k1 hm1 hF
    obtain ⟨g0, hA, bK, bR, bS, bL, bI, bC, bA⟩ := id hm1
    unfold zMob at g0
    have g6 : wv.2 (c + 6) = some (.inl (0, 400, .inl (F1 6))) := hA 6 (by decide) (by decide)
    have g16 : wv.2 (c + 16) = some (.inl (0, 1600, .inl (F1 16))) := hA 16 (by decide) (by decide)
    have g17 : wv.2 (c + 17) = some (.inl (0, 1600, .inl (F1 17))) := hA 17 (by decide) (by decide)
    have j1 : vp_in (σ 30) 1600 := vp_in_iff.mpr (by omega)
    have j2 : vp_in (r - 1) 400 := vp_in_iff.mpr (by omega)
    have j3 := bR.2 _ (zi_nat_lt j2)
    refine z_gn C E tkX9_duplicate (Nat.zero_le _) (Nat.zero_le _) [] 60 ?_
    simp only [↓z_rn_f, ↓z_rn_t, ↓z_rn_0, ↓zr_in0, ↓zr_ins, ↓zr_inn, ↓zr_bt, ↓zr_bf, ↓zr_li0, ↓zr_lis, ↓zr_la0, ↓zr_las, ↓zr_ll0, ↓zr_lls, ↓zr_1i, ↓zr_1l, ↓zr_1a, ↓zr_2i, ↓zr_2l, ↓zr_lsi, ↓zr_ia, ↓zr_aa, ↓zr_dia, ↓zr_iia, ↓zr_lia, ↓zr_d1i, ↓zr_d1r, ↓zr_e1, ↓zr_e2, ↓zr_e0, ↓zr_f0, ↓zr_fs, ↓zr_s0, ↓zr_ss, ↓zr_len, ↓zr_len0, ↓zr_ok0, ↓zr_okn, ↓zr_oki, ↓zr_okr, ↓zr_oks, ↓zr_tt, ↓zr_ar0u, ↓zr_ar0n, ↓zr_ar1u, ↓zr_ar1n, ↓zr_ar2u, ↓zr_ar2n, ↓zr_obu, ↓zr_obn, ↓Nat.reduceAdd, Nat.reduceEqDiff, Nat.add_left_cancel_iff, not_false_eq_true, z_up_up, true_and, ↓sX9_duplicate_0, ↓sX9_duplicate_1, ↓sX9_duplicate_2, ↓sX9_duplicate_3, ↓sX9_duplicate_5, ↓sX9_duplicate_8, ↓sX9_duplicate_9, ↓sX9_duplicate_12, ↓sX9_duplicate_14, ↓sX9_duplicate_15, ↓sX9_duplicate_18, ↓sX9_duplicate_19, ↓sX9_duplicate_20, ↓sX9_duplicate_21, ↓sX9_duplicate_22, ↓sX9_duplicate_25, ↓sX9_duplicate_27, ↓sX9_duplicate_28, ↓sX9_duplicate_29, ↓sX9_duplicate_30, ↓sX9_duplicate_31, ↓sX9_duplicate_32, ↓sX9_duplicate_33, ↓sX9_duplicate_34, ↓sX9_duplicate_35, ↓sX9_duplicate_38, ↓sX9_duplicate_41, ↓sX9_duplicate_42, ↓sX9_duplicate_45, ↓sX9_duplicate_46, ↓sX9_duplicate_49, ↓sX9_duplicate_50, ↓sX9_duplicate_53, ↓sX9_duplicate_54, ↓sX9_duplicate_55, ↓sX9_duplicate_56, ↓sX9_duplicate_57, ↓sX9_duplicate_58, ↓sX9_duplicate_59, ↓sX9_duplicate_62, ↓sX9_duplicate_63, ↓sX9_duplicate_66, ↓sX9_duplicate_67, ↓sX9_duplicate_68, ↓sX9_duplicate_69, ↓sX9_duplicate_70, ↓sX9_duplicate_73, ↓sX9_duplicate_74, ↓sX9_duplicate_75, ↓sX9_duplicate_78, ↓zh_ob g0, ↓zh_ar0 g6, ↓zh_ar0 g16, ↓zh_ar0 g17, zn_a, zn_b, zq1, zq2, zq3, zq4, zq5, zq6, zq7, eq_self, Int32.reduceLT, Int32.reduceLE, Int32.reduceAdd, not_true_eq_false, not_false_eq_true, false_implies, true_implies, and_true, true_and, or_true, true_or]
    refine ⟨j2, j1, j1, hP _ _ ⟨rfl, ((k1.up _ _ (by omega) (by omega)).up _ _ (by omega) (by omega)).up _ _ (Nat.le_refl _) (by omega), zF1 (zF1 F1 16 _) 17 _, ⟨by rw [z_up_2, if_pos rfl]; rfl, (((hA.upk 16 _ 1600 0 rfl rfl).upk 17 _ 1600 0 rfl rfl).up0 _), bK, bR, bS, bL, bI, fun j hj => ⟨?_, (bC j hj).2⟩, ⟨bA.1, bA.2.1, show 0 ≤ (σ 30 + 1).toInt ∧ (σ 30 + 1).toInt ≤ 1600 by omega, bA.2.2.2⟩⟩, fun j q1 q2 q3 => by unfold zF1; rw [if_neg q3, if_neg q2]; exact hF j q1⟩⟩
    show 0 ≤ (upd (F1 16) (σ 30).toNatClampNeg (F1 6 (r - 1).toNatClampNeg) j).toInt ∧ (upd (F1 16) (σ 30).toNatClampNeg (F1 6 (r - 1).toNatClampNeg) j).toInt ≤ 32
    have := (bC j hj).1
    unfold upd
    by_cases q : j = (σ 30).toNatClampNeg
    · simp only [q, if_true]; exact j3
    · simp only [q, if_false]; exact this
  have loop : ∀ (m : Nat) (i : Int32) (wv : zW) (F1 : Nat → Nat → Int32), zKm c w wv → zMo c wv σ F1 → (∀ j, j ≠ 15 → F1 j = F j) → 0 ≤ i.toInt → 32 - i.toInt < m → z_J G 3 Γ wv 0 0 2 [some (.ref c), some (.int r), some (.int i)] [] := by
    intro m
    induction m with
    | zero =>
      intro i wv F1 k1 hm1 hF hi hm
      refine z_gn C E tkX9_duplicate (Nat.zero_le _) (Nat.zero_le _) [8, 41] 60 ?_
      simp only [↓z_rn_f, ↓z_rn_t, ↓z_rn_0, ↓zr_in0, ↓zr_ins, ↓zr_inn, ↓zr_bt, ↓zr_bf, ↓zr_li0, ↓zr_lis, ↓zr_la0, ↓zr_las, ↓zr_ll0, ↓zr_lls, ↓zr_1i, ↓zr_1l, ↓zr_1a, ↓zr_2i, ↓zr_2l, ↓zr_lsi, ↓zr_ia, ↓zr_aa, ↓zr_dia, ↓zr_iia, ↓zr_lia, ↓zr_d1i, ↓zr_d1r, ↓zr_e1, ↓zr_e2, ↓zr_e0, ↓zr_f0, ↓zr_fs, ↓zr_s0, ↓zr_ss, ↓zr_len, ↓zr_len0, ↓zr_ok0, ↓zr_okn, ↓zr_oki, ↓zr_okr, ↓zr_oks, ↓zr_tt, ↓zr_ar0u, ↓zr_ar0n, ↓zr_ar1u, ↓zr_ar1n, ↓zr_ar2u, ↓zr_ar2n, ↓zr_obu, ↓zr_obn, ↓Nat.reduceAdd, Nat.reduceEqDiff, Nat.add_left_cancel_iff, not_false_eq_true, z_up_up, true_and, ↓sX9_duplicate_0, ↓sX9_duplicate_1, ↓sX9_duplicate_2, ↓sX9_duplicate_3, ↓sX9_duplicate_5, ↓sX9_duplicate_8, ↓sX9_duplicate_9, ↓sX9_duplicate_12, ↓sX9_duplicate_14, ↓sX9_duplicate_15, ↓sX9_duplicate_18, ↓sX9_duplicate_19, ↓sX9_duplicate_20, ↓sX9_duplicate_21, ↓sX9_duplicate_22, ↓sX9_duplicate_25, ↓sX9_duplicate_27, ↓sX9_duplicate_28, ↓sX9_duplicate_29, ↓sX9_duplicate_30, ↓sX9_duplicate_31, ↓sX9_duplicate_32, ↓sX9_duplicate_33, ↓sX9_duplicate_34, ↓sX9_duplicate_35, ↓sX9_duplicate_38, ↓sX9_duplicate_41, ↓sX9_duplicate_42, ↓sX9_duplicate_45, ↓sX9_duplicate_46, ↓sX9_duplicate_49, ↓sX9_duplicate_50, ↓sX9_duplicate_53, ↓sX9_duplicate_54, ↓sX9_duplicate_55, ↓sX9_duplicate_56, ↓sX9_duplicate_57, ↓sX9_duplicate_58, ↓sX9_duplicate_59, ↓sX9_duplicate_62, ↓sX9_duplicate_63, ↓sX9_duplicate_66, ↓sX9_duplicate_67, ↓sX9_duplicate_68, ↓sX9_duplicate_69, ↓sX9_duplicate_70, ↓sX9_duplicate_73, ↓sX9_duplicate_74, ↓sX9_duplicate_75, ↓sX9_duplicate_78, zn_a, zn_b, zq1, zq2, zq3, zq4, zq5, zq6, zq7, eq_self, Int32.reduceLT, Int32.reduceLE, Int32.reduceAdd, not_true_eq_false, not_false_eq_true, false_implies, true_implies, and_true, true_and, or_true, true_or]
      refine ⟨fun _ => tail _ _ _ k1 hm1 hF, fun a1 => ?_⟩
      simp only [zi_lt, zi_le, zi_0, zi_1, zi_m1, zi_2, zi_32] at a1
      omega
    | succ m ih =>
      intro i wv F1 k1 hm1 hF hi hm
      obtain ⟨g0, hA, bK, bR, bS, bL, bI, bC, bA⟩ := id hm1
      unfold zMob at g0
      have g5 : wv.2 (c + 5) = some (.inl (0, 12800, .inl (F1 5))) := hA 5 (by decide) (by decide)
      have g15 : wv.2 (c + 15) = some (.inl (0, 51200, .inl (F1 15))) := hA 15 (by decide) (by decide)
      refine z_gn C E tkX9_duplicate (Nat.zero_le _) (Nat.zero_le _) [2, 41] 60 ?_
      simp only [↓z_rn_f, ↓z_rn_t, ↓z_rn_0, ↓zr_in0, ↓zr_ins, ↓zr_inn, ↓zr_bt, ↓zr_bf, ↓zr_li0, ↓zr_lis, ↓zr_la0, ↓zr_las, ↓zr_ll0, ↓zr_lls, ↓zr_1i, ↓zr_1l, ↓zr_1a, ↓zr_2i, ↓zr_2l, ↓zr_lsi, ↓zr_ia, ↓zr_aa, ↓zr_dia, ↓zr_iia, ↓zr_lia, ↓zr_d1i, ↓zr_d1r, ↓zr_e1, ↓zr_e2, ↓zr_e0, ↓zr_f0, ↓zr_fs, ↓zr_s0, ↓zr_ss, ↓zr_len, ↓zr_len0, ↓zr_ok0, ↓zr_okn, ↓zr_oki, ↓zr_okr, ↓zr_oks, ↓zr_tt, ↓zr_ar0u, ↓zr_ar0n, ↓zr_ar1u, ↓zr_ar1n, ↓zr_ar2u, ↓zr_ar2n, ↓zr_obu, ↓zr_obn, ↓Nat.reduceAdd, Nat.reduceEqDiff, Nat.add_left_cancel_iff, not_false_eq_true, z_up_up, true_and, ↓sX9_duplicate_0, ↓sX9_duplicate_1, ↓sX9_duplicate_2, ↓sX9_duplicate_3, ↓sX9_duplicate_5, ↓sX9_duplicate_8, ↓sX9_duplicate_9, ↓sX9_duplicate_12, ↓sX9_duplicate_14, ↓sX9_duplicate_15, ↓sX9_duplicate_18, ↓sX9_duplicate_19, ↓sX9_duplicate_20, ↓sX9_duplicate_21, ↓sX9_duplicate_22, ↓sX9_duplicate_25, ↓sX9_duplicate_27, ↓sX9_duplicate_28, ↓sX9_duplicate_29, ↓sX9_duplicate_30, ↓sX9_duplicate_31, ↓sX9_duplicate_32, ↓sX9_duplicate_33, ↓sX9_duplicate_34, ↓sX9_duplicate_35, ↓sX9_duplicate_38, ↓sX9_duplicate_41, ↓sX9_duplicate_42, ↓sX9_duplicate_45, ↓sX9_duplicate_46, ↓sX9_duplicate_49, ↓sX9_duplicate_50, ↓sX9_duplicate_53, ↓sX9_duplicate_54, ↓sX9_duplicate_55, ↓sX9_duplicate_56, ↓sX9_duplicate_57, ↓sX9_duplicate_58, ↓sX9_duplicate_59, ↓sX9_duplicate_62, ↓sX9_duplicate_63, ↓sX9_duplicate_66, ↓sX9_duplicate_67, ↓sX9_duplicate_68, ↓sX9_duplicate_69, ↓sX9_duplicate_70, ↓sX9_duplicate_73, ↓sX9_duplicate_74, ↓sX9_duplicate_75, ↓sX9_duplicate_78, ↓zh_ob g0, ↓zh_ar0 g5, ↓zh_ar0 g15, zn_a, zn_b, zq1, zq2, zq3, zq4, zq5, zq6, zq7, eq_self, Int32.reduceLT, Int32.reduceLE, Int32.reduceAdd, not_true_eq_false, not_false_eq_true, false_implies, true_implies, and_true, true_and, or_true, true_or]
      refine ⟨fun _ => tail _ _ _ k1 hm1 hF, fun a1 => ?_⟩
      simp only [zi_lt, zi_le, zi_0, zi_1, zi_m1, zi_2, zi_32] at a1
      have ei := zi_a1 (x := i) (by omega) (by omega)
      have e1 : (32 * (r - 1) + i).toInt = 32 * (r.toInt - 1) + i.toInt := by rw [zi_add (by omega) (by omega), er]
      have e2 : (32 * σ 30 + i).toInt = 32 * (σ 30).toInt + i.toInt := by rw [zi_add (by omega) (by omega), ec]
      refine ⟨vp_in_iff.mpr (by omega), vp_in_iff.mpr (by omega), ih (i + 1) _ (zF1 F1 15 _) (k1.up _ _ (by omega) (by omega)) ⟨by rw [z_up_2, if_neg (by omega)]; exact hm1.1, hA.upk 15 _ 51200 0 rfl rfl, bK, bR, bS, bL, bI, bC, bA⟩ (fun j q => by unfold zF1; rw [if_neg q]; exact hF j q) (by omega) (by omega)⟩
  refine z_gn C E tkX9_duplicate (Nat.zero_le _) (Nat.zero_le _) [2] 60 ?_
  simp only [↓z_rn_f, ↓z_rn_t, ↓z_rn_0, ↓zr_in0, ↓zr_ins, ↓zr_inn, ↓zr_bt, ↓zr_bf, ↓zr_li0, ↓zr_lis, ↓zr_la0, ↓zr_las, ↓zr_ll0, ↓zr_lls, ↓zr_1i, ↓zr_1l, ↓zr_1a, ↓zr_2i, ↓zr_2l, ↓zr_lsi, ↓zr_ia, ↓zr_aa, ↓zr_dia, ↓zr_iia, ↓zr_lia, ↓zr_d1i, ↓zr_d1r, ↓zr_e1, ↓zr_e2, ↓zr_e0, ↓zr_f0, ↓zr_fs, ↓zr_s0, ↓zr_ss, ↓zr_len, ↓zr_len0, ↓zr_ok0, ↓zr_okn, ↓zr_oki, ↓zr_okr, ↓zr_oks, ↓zr_tt, ↓zr_ar0u, ↓zr_ar0n, ↓zr_ar1u, ↓zr_ar1n, ↓zr_ar2u, ↓zr_ar2n, ↓zr_obu, ↓zr_obn, ↓Nat.reduceAdd, Nat.reduceEqDiff, Nat.add_left_cancel_iff, not_false_eq_true, z_up_up, true_and, ↓sX9_duplicate_0, ↓sX9_duplicate_1, ↓sX9_duplicate_2, ↓sX9_duplicate_3, ↓sX9_duplicate_5, ↓sX9_duplicate_8, ↓sX9_duplicate_9, ↓sX9_duplicate_12, ↓sX9_duplicate_14, ↓sX9_duplicate_15, ↓sX9_duplicate_18, ↓sX9_duplicate_19, ↓sX9_duplicate_20, ↓sX9_duplicate_21, ↓sX9_duplicate_22, ↓sX9_duplicate_25, ↓sX9_duplicate_27, ↓sX9_duplicate_28, ↓sX9_duplicate_29, ↓sX9_duplicate_30, ↓sX9_duplicate_31, ↓sX9_duplicate_32, ↓sX9_duplicate_33, ↓sX9_duplicate_34, ↓sX9_duplicate_35, ↓sX9_duplicate_38, ↓sX9_duplicate_41, ↓sX9_duplicate_42, ↓sX9_duplicate_45, ↓sX9_duplicate_46, ↓sX9_duplicate_49, ↓sX9_duplicate_50, ↓sX9_duplicate_53, ↓sX9_duplicate_54, ↓sX9_duplicate_55, ↓sX9_duplicate_56, ↓sX9_duplicate_57, ↓sX9_duplicate_58, ↓sX9_duplicate_59, ↓sX9_duplicate_62, ↓sX9_duplicate_63, ↓sX9_duplicate_66, ↓sX9_duplicate_67, ↓sX9_duplicate_68, ↓sX9_duplicate_69, ↓sX9_duplicate_70, ↓sX9_duplicate_73, ↓sX9_duplicate_74, ↓sX9_duplicate_75, ↓sX9_duplicate_78, zn_a, zn_b, zq1, zq2, zq3, zq4, zq5, zq6, zq7, eq_self, Int32.reduceLT, Int32.reduceLE, Int32.reduceAdd, not_true_eq_false, not_false_eq_true, false_implies, true_implies, and_true, true_and, or_true, true_or]
  exact loop 33 0 w F (zKm.rf _ _) h (fun _ _ => rfl) (by decide) (by rw [zi_0]; omega)
