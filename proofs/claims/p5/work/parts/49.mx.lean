theorem zi_ix {d f i : Int32} (hd : 0 ≤ d.toInt ∧ d.toInt < 1600) (hf : 0 ≤ f.toInt ∧ f.toInt ≤ 32) (hi : 0 ≤ i.toInt) (hs : f.toInt + i.toInt < 32) : vp_in (32 * d + f + i) 51200 := by
  have e1 : (32 * d).toInt = 32 * d.toInt := by rw [zi_mul (by rw [zi_32]; omega) (by rw [zi_32]; omega), zi_32]
  have e2 : (32 * d + f).toInt = 32 * d.toInt + f.toInt := by rw [zi_add (by omega) (by omega), e1]
  have e3 : (32 * d + f + i).toInt = 32 * d.toInt + f.toInt + i.toInt := by rw [zi_add (by omega) (by omega), e2]
  exact vp_in_iff.mpr (by omega)
set_option maxRecDepth 100000 in
set_option maxHeartbeats 1000000 in
theorem n_has (G : zG) (w : zW) (c : Nat) (k d : Int32) (σ : Nat → Int32) (F : Nat → Nat → Int32) (h : zMo c w σ F) (hk : 0 ≤ k.toInt ∧ k.toInt < 4) (hd : 0 ≤ d.toInt ∧ d.toInt < 1600) :
    z_M G yX9_has wsX9_has zrm0 0 0 [.ref c, .int k, .int d] w (fun x w' => (x = some (.int 0) ∨ x = some (.int 1)) ∧ w' = w) := by
  obtain ⟨h0, hA, -⟩ := id h
  unfold zMob at h0
  have g7 : w.2 (c + 7) = some (.inl (0, 4, .inl (F 7))) := hA 7 (by decide) (by decide)
  have g8 : w.2 (c + 8) = some (.inl (0, 4, .inl (F 8))) := hA 8 (by decide) (by decide)
  have g16 : w.2 (c + 16) = some (.inl (0, 1600, .inl (F 16))) := hA 16 (by decide) (by decide)
  refine z_mt (nL := 3) (cc := cX9_has) (ret := some .boolean) (by decide) rfl (Nat.le_of_ble_eq_true rfl) 0 [some (.ref c), some (.int k), some (.int d)] rfl ?_
  intro P hP Γ C E
  have j1 : vp_in k 4 := vp_in_iff.mpr (by omega)
  have j2 : vp_in d 1600 := vp_in_iff.mpr (by omega)
  refine z_gn C E tkX9_has (Nat.zero_le _) (Nat.zero_le _) [] 60 ?_
  simp only [↓z_rn_f, ↓z_rn_t, ↓z_rn_0, ↓zr_in0, ↓zr_ins, ↓zr_inn, ↓zr_bt, ↓zr_bf, ↓zr_li0, ↓zr_lis, ↓zr_la0, ↓zr_las, ↓zr_ll0, ↓zr_lls, ↓zr_1i, ↓zr_1l, ↓zr_1a, ↓zr_2i, ↓zr_2l, ↓zr_lsi, ↓zr_ia, ↓zr_aa, ↓zr_dia, ↓zr_iia, ↓zr_lia, ↓zr_d1i, ↓zr_d1r, ↓zr_e1, ↓zr_e2, ↓zr_e0, ↓zr_f0, ↓zr_fs, ↓zr_s0, ↓zr_ss, ↓zr_len, ↓zr_len0, ↓zr_ok0, ↓zr_okn, ↓zr_oki, ↓zr_okr, ↓zr_oks, ↓zr_tt, ↓zr_ar0u, ↓zr_ar0n, ↓zr_ar1u, ↓zr_ar1n, ↓zr_ar2u, ↓zr_ar2n, ↓zr_obu, ↓zr_obn, ↓Nat.reduceAdd, Nat.reduceEqDiff, Nat.add_left_cancel_iff, not_false_eq_true, z_up_up, true_and, ↓sX9_has_0, ↓sX9_has_1, ↓sX9_has_4, ↓sX9_has_5, ↓sX9_has_6, ↓sX9_has_7, ↓sX9_has_10, ↓sX9_has_11, ↓sX9_has_12, ↓sX9_has_13, ↓sX9_has_16, ↓sX9_has_17, ↓sX9_has_18, ↓sX9_has_19, ↓sX9_has_22, ↓sX9_has_23, ↓sX9_has_26, ↓sX9_has_27, ↓zh_ob h0, ↓zh_ar0 g7, ↓zh_ar0 g8, ↓zh_ar0 g16, zn_a, zn_b, zq1, zq2, zq3, zq4, zq5, zq6, zq7, eq_self, Int32.reduceLT, Int32.reduceLE, Int32.reduceAdd, not_true_eq_false, not_false_eq_true, false_implies, true_implies, and_true, true_and, or_true, true_or]
  exact ⟨j2, j1, j1, fun _ => hP _ _ ⟨Or.inl rfl, rfl⟩, fun _ => hP _ _ ⟨Or.inr rfl, rfl⟩⟩
set_option maxRecDepth 100000 in
set_option maxHeartbeats 1000000 in
theorem n_overflows (G : zG) (w : zW) (c : Nat) (k d e : Int32) (σ : Nat → Int32) (F : Nat → Nat → Int32) (h : zMo c w σ F) (hk : 0 ≤ k.toInt ∧ k.toInt < 4) (hd : 0 ≤ d.toInt ∧ d.toInt < 1600) (he : 0 ≤ e.toInt ∧ e.toInt < 1600) :
    z_M G yX9_overflows wsX9_overflows zrm0 0 0 [.ref c, .int k, .int d, .int e] w (fun x w' => (x = some (.int 0) ∨ x = some (.int 1)) ∧ w' = w) := by
  obtain ⟨h0, hA, -, -, bS, -⟩ := id h
  unfold zMob at h0
  have g7 : w.2 (c + 7) = some (.inl (0, 4, .inl (F 7))) := hA 7 (by decide) (by decide)
  have g8 : w.2 (c + 8) = some (.inl (0, 4, .inl (F 8))) := hA 8 (by decide) (by decide)
  have g15 : w.2 (c + 15) = some (.inl (0, 51200, .inl (F 15))) := hA 15 (by decide) (by decide)
  refine z_mt (nL := 6) (cc := cX9_overflows) (ret := some .boolean) (by decide) rfl (Nat.le_of_ble_eq_true rfl) 2 [some (.ref c), some (.int k), some (.int d), some (.int e), none, none] rfl ?_
  intro P hP Γ C E
  have o0 : P (some (.int 0)) w := hP _ _ ⟨Or.inl rfl, rfl⟩
  have o1 : P (some (.int 1)) w := hP _ _ ⟨Or.inr rfl, rfl⟩
  have j1 : vp_in k 4 := vp_in_iff.mpr (by omega)
  have b1 := bS.2.2 _ (zi_nat_lt j1)
  obtain ⟨fr, hfr⟩ : ∃ v, v = F 7 k.toNatClampNeg := ⟨_, rfl⟩
  obtain ⟨sz, hsz⟩ : ∃ v, v = F 8 k.toNatClampNeg := ⟨_, rfl⟩
  rw [← hfr, ← hsz] at b1
  have hf : 0 ≤ fr.toInt ∧ fr.toInt ≤ 32 := by omega
  have loop : ∀ (m : Nat) (i s : Int32), -1 ≤ i.toInt → i.toInt < sz.toInt → i.toInt + 1 < m → z_J G 6 Γ w 0 0 13 [some (.ref c), some (.int k), some (.int d), some (.int e), some (.int s), some (.int i)] [] := by
    intro m
    induction m with
    | zero => intro i s hi hi2 hm; omega
    | succ m ih =>
      intro i s hi hi2 hm
      refine z_gn C E tkX9_overflows (Nat.zero_le _) (Nat.zero_le _) [13] 60 ?_
      simp only [↓z_rn_f, ↓z_rn_t, ↓z_rn_0, ↓zr_in0, ↓zr_ins, ↓zr_inn, ↓zr_bt, ↓zr_bf, ↓zr_li0, ↓zr_lis, ↓zr_la0, ↓zr_las, ↓zr_ll0, ↓zr_lls, ↓zr_1i, ↓zr_1l, ↓zr_1a, ↓zr_2i, ↓zr_2l, ↓zr_lsi, ↓zr_ia, ↓zr_aa, ↓zr_dia, ↓zr_iia, ↓zr_lia, ↓zr_d1i, ↓zr_d1r, ↓zr_e1, ↓zr_e2, ↓zr_e0, ↓zr_f0, ↓zr_fs, ↓zr_s0, ↓zr_ss, ↓zr_len, ↓zr_len0, ↓zr_ok0, ↓zr_okn, ↓zr_oki, ↓zr_okr, ↓zr_oks, ↓zr_tt, ↓zr_ar0u, ↓zr_ar0n, ↓zr_ar1u, ↓zr_ar1n, ↓zr_ar2u, ↓zr_ar2n, ↓zr_obu, ↓zr_obn, ↓Nat.reduceAdd, Nat.reduceEqDiff, Nat.add_left_cancel_iff, not_false_eq_true, z_up_up, true_and, ↓sX9_overflows_0, ↓sX9_overflows_1, ↓sX9_overflows_3, ↓sX9_overflows_4, ↓sX9_overflows_7, ↓sX9_overflows_8, ↓sX9_overflows_9, ↓sX9_overflows_10, ↓sX9_overflows_11, ↓sX9_overflows_13, ↓sX9_overflows_15, ↓sX9_overflows_18, ↓sX9_overflows_19, ↓sX9_overflows_22, ↓sX9_overflows_24, ↓sX9_overflows_25, ↓sX9_overflows_26, ↓sX9_overflows_27, ↓sX9_overflows_30, ↓sX9_overflows_31, ↓sX9_overflows_32, ↓sX9_overflows_33, ↓sX9_overflows_35, ↓sX9_overflows_36, ↓sX9_overflows_37, ↓sX9_overflows_38, ↓sX9_overflows_41, ↓sX9_overflows_43, ↓sX9_overflows_44, ↓sX9_overflows_45, ↓sX9_overflows_46, ↓sX9_overflows_49, ↓sX9_overflows_50, ↓sX9_overflows_51, ↓sX9_overflows_52, ↓sX9_overflows_54, ↓sX9_overflows_55, ↓sX9_overflows_56, ↓sX9_overflows_57, ↓sX9_overflows_59, ↓sX9_overflows_60, ↓sX9_overflows_62, ↓sX9_overflows_63, ↓sX9_overflows_65, ↓sX9_overflows_68, ↓sX9_overflows_71, ↓sX9_overflows_73, ↓sX9_overflows_76, ↓sX9_overflows_77, ↓sX9_overflows_80, ↓sX9_overflows_81, ↓zh_ob h0, ↓zh_ar0 g7, ↓zh_ar0 g15, zn_a, zn_b, zq1, zq2, zq3, zq4, zq5, zq6, zq7, eq_self, Int32.reduceLT, Int32.reduceLE, Int32.reduceAdd, not_true_eq_false, not_false_eq_true, false_implies, true_implies, and_true, true_and, or_true, true_or]
      refine ⟨fun _ => ⟨fun _ => o0, fun _ => o1⟩, fun a1 => ?_⟩
      simp only [zi_lt, zi_le, zi_0, zi_1, zi_m1, zi_2, zi_32] at a1
      rw [← hfr]
      have ei := zi_m1a (x := i) (by omega) (by omega)
      exact ⟨j1, zi_ix hd hf (by omega) (by omega), j1, zi_ix he hf (by omega) (by omega), ih _ _ (by omega) (by omega) (by omega)⟩
  refine z_gn C E tkX9_overflows (Nat.zero_le _) (Nat.zero_le _) [13] 60 ?_
  simp only [↓z_rn_f, ↓z_rn_t, ↓z_rn_0, ↓zr_in0, ↓zr_ins, ↓zr_inn, ↓zr_bt, ↓zr_bf, ↓zr_li0, ↓zr_lis, ↓zr_la0, ↓zr_las, ↓zr_ll0, ↓zr_lls, ↓zr_1i, ↓zr_1l, ↓zr_1a, ↓zr_2i, ↓zr_2l, ↓zr_lsi, ↓zr_ia, ↓zr_aa, ↓zr_dia, ↓zr_iia, ↓zr_lia, ↓zr_d1i, ↓zr_d1r, ↓zr_e1, ↓zr_e2, ↓zr_e0, ↓zr_f0, ↓zr_fs, ↓zr_s0, ↓zr_ss, ↓zr_len, ↓zr_len0, ↓zr_ok0, ↓zr_okn, ↓zr_oki, ↓zr_okr, ↓zr_oks, ↓zr_tt, ↓zr_ar0u, ↓zr_ar0n, ↓zr_ar1u, ↓zr_ar1n, ↓zr_ar2u, ↓zr_ar2n, ↓zr_obu, ↓zr_obn, ↓Nat.reduceAdd, Nat.reduceEqDiff, Nat.add_left_cancel_iff, not_false_eq_true, z_up_up, true_and, ↓sX9_overflows_0, ↓sX9_overflows_1, ↓sX9_overflows_3, ↓sX9_overflows_4, ↓sX9_overflows_7, ↓sX9_overflows_8, ↓sX9_overflows_9, ↓sX9_overflows_10, ↓sX9_overflows_11, ↓sX9_overflows_13, ↓sX9_overflows_15, ↓sX9_overflows_18, ↓sX9_overflows_19, ↓sX9_overflows_22, ↓sX9_overflows_24, ↓sX9_overflows_25, ↓sX9_overflows_26, ↓sX9_overflows_27, ↓sX9_overflows_30, ↓sX9_overflows_31, ↓sX9_overflows_32, ↓sX9_overflows_33, ↓sX9_overflows_35, ↓sX9_overflows_36, ↓sX9_overflows_37, ↓sX9_overflows_38, ↓sX9_overflows_41, ↓sX9_overflows_43, ↓sX9_overflows_44, ↓sX9_overflows_45, ↓sX9_overflows_46, ↓sX9_overflows_49, ↓sX9_overflows_50, ↓sX9_overflows_51, ↓sX9_overflows_52, ↓sX9_overflows_54, ↓sX9_overflows_55, ↓sX9_overflows_56, ↓sX9_overflows_57, ↓sX9_overflows_59, ↓sX9_overflows_60, ↓sX9_overflows_62, ↓sX9_overflows_63, ↓sX9_overflows_65, ↓sX9_overflows_68, ↓sX9_overflows_71, ↓sX9_overflows_73, ↓sX9_overflows_76, ↓sX9_overflows_77, ↓sX9_overflows_80, ↓sX9_overflows_81, ↓zh_ob h0, ↓zh_ar0 g8, zn_a, zn_b, zq1, zq2, zq3, zq4, zq5, zq6, zq7, eq_self, Int32.reduceLT, Int32.reduceLE, Int32.reduceAdd, not_true_eq_false, not_false_eq_true, false_implies, true_implies, and_true, true_and, or_true, true_or]
  rw [← hsz]
  have es := zi_s1 (x := sz) (by omega) (by omega)
  exact ⟨j1, loop 40 _ _ (by omega) (by omega) (by omega)⟩
set_option maxRecDepth 100000 in
set_option maxHeartbeats 1000000 in
theorem n_add (G : zG) (w : zW) (c : Nat) (k d e : Int32) (σ : Nat → Int32) (F : Nat → Nat → Int32) (h : zMo c w σ F) (hk : 0 ≤ k.toInt ∧ k.toInt < 4) (hd : 0 ≤ d.toInt ∧ d.toInt < 1600) (he : 0 ≤ e.toInt ∧ e.toInt < 1600) :
    z_M G yX9_add wsX9_add zrm0 0 0 [.ref c, .int k, .int d, .int e] w (fun x w' => x = none ∧ zKm c w w' ∧ ∃ F', zMo c w' σ F' ∧ ∀ j, j ≠ 15 → F' j = F j) := by
  obtain ⟨h0, hA, -, -, bS, -⟩ := id h
  unfold zMob at h0
  have g8 : w.2 (c + 8) = some (.inl (0, 4, .inl (F 8))) := hA 8 (by decide) (by decide)
  refine z_mt (nL := 8) (cc := cX9_add) (ret := none) (by decide) rfl (Nat.le_of_ble_eq_true rfl) 4 [some (.ref c), some (.int k), some (.int d), some (.int e), none, none, none, none] rfl ?_
  intro P hP Γ C E
  have j1 : vp_in k 4 := vp_in_iff.mpr (by omega)
  have b1 := bS.2.2 _ (zi_nat_lt j1)
  obtain ⟨fr, hfr⟩ : ∃ v, v = F 7 k.toNatClampNeg := ⟨_, rfl⟩
  obtain ⟨sz, hsz⟩ : ∃ v, v = F 8 k.toNatClampNeg := ⟨_, rfl⟩
  rw [← hfr, ← hsz] at b1
  have hf : 0 ≤ fr.toInt ∧ fr.toInt ≤ 32 := by omega
  have loop : ∀ (m : Nat) (i s : Int32) (l6 l7 : Option Value) (wv : zW) (F1 : Nat → Nat → Int32), zKm c w wv → zMo c wv σ F1 → (∀ j, j ≠ 15 → F1 j = F j) → -1 ≤ i.toInt → i.toInt < sz.toInt → i.toInt + 1 < m → z_J G 8 Γ wv 0 0 13 [some (.ref c), some (.int k), some (.int d), some (.int e), some (.int s), some (.int i), l6, l7] [] := by
    intro m
    induction m with
    | zero => intro i s l6 l7 wv F1 k1 hm1 hF hi hi2 hm; omega
    | succ m ih =>
      intro i s l6 l7 wv F1 k1 hm1 hF hi hi2 hm
      obtain ⟨q0, qA, bK, bR, bS, bL, bI, bC, bA⟩ := id hm1
      unfold zMob at q0
      have q7 : wv.2 (c + 7) = some (.inl (0, 4, .inl (F1 7))) := qA 7 (by decide) (by decide)
      rw [hF 7 (by decide)] at q7
      have q15 : wv.2 (c + 15) = some (.inl (0, 51200, .inl (F1 15))) := qA 15 (by decide) (by decide)
      refine z_gn C E tkX9_add (Nat.zero_le _) (Nat.zero_le _) [13] 60 ?_
      simp only [↓z_rn_f, ↓z_rn_t, ↓z_rn_0, ↓zr_in0, ↓zr_ins, ↓zr_inn, ↓zr_bt, ↓zr_bf, ↓zr_li0, ↓zr_lis, ↓zr_la0, ↓zr_las, ↓zr_ll0, ↓zr_lls, ↓zr_1i, ↓zr_1l, ↓zr_1a, ↓zr_2i, ↓zr_2l, ↓zr_lsi, ↓zr_ia, ↓zr_aa, ↓zr_dia, ↓zr_iia, ↓zr_lia, ↓zr_d1i, ↓zr_d1r, ↓zr_e1, ↓zr_e2, ↓zr_e0, ↓zr_f0, ↓zr_fs, ↓zr_s0, ↓zr_ss, ↓zr_len, ↓zr_len0, ↓zr_ok0, ↓zr_okn, ↓zr_oki, ↓zr_okr, ↓zr_oks, ↓zr_tt, ↓zr_ar0u, ↓zr_ar0n, ↓zr_ar1u, ↓zr_ar1n, ↓zr_ar2u, ↓zr_ar2n, ↓zr_obu, ↓zr_obn, ↓Nat.reduceAdd, Nat.reduceEqDiff, Nat.add_left_cancel_iff, not_false_eq_true, z_up_up, true_and, ↓sX9_add_0, ↓sX9_add_1, ↓sX9_add_3, ↓sX9_add_4, ↓sX9_add_7, ↓sX9_add_8, ↓sX9_add_9, ↓sX9_add_10, ↓sX9_add_11, ↓sX9_add_13, ↓sX9_add_15, ↓sX9_add_18, ↓sX9_add_20, ↓sX9_add_21, ↓sX9_add_22, ↓sX9_add_23, ↓sX9_add_26, ↓sX9_add_27, ↓sX9_add_28, ↓sX9_add_29, ↓sX9_add_31, ↓sX9_add_32, ↓sX9_add_34, ↓sX9_add_35, ↓sX9_add_38, ↓sX9_add_40, ↓sX9_add_41, ↓sX9_add_42, ↓sX9_add_45, ↓sX9_add_47, ↓sX9_add_48, ↓sX9_add_49, ↓sX9_add_50, ↓sX9_add_53, ↓sX9_add_54, ↓sX9_add_55, ↓sX9_add_56, ↓sX9_add_58, ↓sX9_add_59, ↓sX9_add_60, ↓sX9_add_61, ↓sX9_add_63, ↓sX9_add_64, ↓sX9_add_66, ↓sX9_add_67, ↓sX9_add_70, ↓sX9_add_72, ↓sX9_add_74, ↓sX9_add_77, ↓sX9_add_78, ↓sX9_add_79, ↓sX9_add_81, ↓sX9_add_83, ↓sX9_add_84, ↓sX9_add_86, ↓sX9_add_89, ↓sX9_add_92, ↓zh_ob q0, ↓zh_ar0 q7, ↓zh_ar0 q15, zn_a, zn_b, zq1, zq2, zq3, zq4, zq5, zq6, zq7, eq_self, Int32.reduceLT, Int32.reduceLE, Int32.reduceAdd, not_true_eq_false, not_false_eq_true, false_implies, true_implies, and_true, true_and, or_true, true_or]
      refine ⟨fun _ => hP _ _ ⟨rfl, k1, F1, hm1, hF⟩, fun a1 => ?_⟩
      simp only [zi_lt, zi_le, zi_0, zi_1, zi_m1, zi_2, zi_32] at a1
      rw [← hfr]
      have ei := zi_m1a (x := i) (by omega) (by omega)
      have jd := zi_ix (d := d) (f := fr) (i := i) hd hf (by omega) (by omega)
      exact ⟨j1, jd, j1, zi_ix he hf (by omega) (by omega), jd, ih _ _ _ _ _ (zF1 F1 15 _) (k1.up _ _ (by omega) (by omega)) ⟨by rw [z_up_2, if_neg (by omega)]; exact hm1.1, qA.upk 15 _ 51200 0 rfl rfl, bK, bR, bS, bL, bI, bC, bA⟩ (fun j q => by unfold zF1; rw [if_neg q]; exact hF j q) (by omega) (by omega) (by omega)⟩
  refine z_gn C E tkX9_add (Nat.zero_le _) (Nat.zero_le _) [13] 60 ?_
  simp only [↓z_rn_f, ↓z_rn_t, ↓z_rn_0, ↓zr_in0, ↓zr_ins, ↓zr_inn, ↓zr_bt, ↓zr_bf, ↓zr_li0, ↓zr_lis, ↓zr_la0, ↓zr_las, ↓zr_ll0, ↓zr_lls, ↓zr_1i, ↓zr_1l, ↓zr_1a, ↓zr_2i, ↓zr_2l, ↓zr_lsi, ↓zr_ia, ↓zr_aa, ↓zr_dia, ↓zr_iia, ↓zr_lia, ↓zr_d1i, ↓zr_d1r, ↓zr_e1, ↓zr_e2, ↓zr_e0, ↓zr_f0, ↓zr_fs, ↓zr_s0, ↓zr_ss, ↓zr_len, ↓zr_len0, ↓zr_ok0, ↓zr_okn, ↓zr_oki, ↓zr_okr, ↓zr_oks, ↓zr_tt, ↓zr_ar0u, ↓zr_ar0n, ↓zr_ar1u, ↓zr_ar1n, ↓zr_ar2u, ↓zr_ar2n, ↓zr_obu, ↓zr_obn, ↓Nat.reduceAdd, Nat.reduceEqDiff, Nat.add_left_cancel_iff, not_false_eq_true, z_up_up, true_and, ↓sX9_add_0, ↓sX9_add_1, ↓sX9_add_3, ↓sX9_add_4, ↓sX9_add_7, ↓sX9_add_8, ↓sX9_add_9, ↓sX9_add_10, ↓sX9_add_11, ↓sX9_add_13, ↓sX9_add_15, ↓sX9_add_18, ↓sX9_add_20, ↓sX9_add_21, ↓sX9_add_22, ↓sX9_add_23, ↓sX9_add_26, ↓sX9_add_27, ↓sX9_add_28, ↓sX9_add_29, ↓sX9_add_31, ↓sX9_add_32, ↓sX9_add_34, ↓sX9_add_35, ↓sX9_add_38, ↓sX9_add_40, ↓sX9_add_41, ↓sX9_add_42, ↓sX9_add_45, ↓sX9_add_47, ↓sX9_add_48, ↓sX9_add_49, ↓sX9_add_50, ↓sX9_add_53, ↓sX9_add_54, ↓sX9_add_55, ↓sX9_add_56, ↓sX9_add_58, ↓sX9_add_59, ↓sX9_add_60, ↓sX9_add_61, ↓sX9_add_63, ↓sX9_add_64, ↓sX9_add_66, ↓sX9_add_67, ↓sX9_add_70, ↓sX9_add_72, ↓sX9_add_74, ↓sX9_add_77, ↓sX9_add_78, ↓sX9_add_79, ↓sX9_add_81, ↓sX9_add_83, ↓sX9_add_84, ↓sX9_add_86, ↓sX9_add_89, ↓sX9_add_92, ↓zh_ob h0, ↓zh_ar0 g8, zn_a, zn_b, zq1, zq2, zq3, zq4, zq5, zq6, zq7, eq_self, Int32.reduceLT, Int32.reduceLE, Int32.reduceAdd, not_true_eq_false, not_false_eq_true, false_implies, true_implies, and_true, true_and, or_true, true_or]
  rw [← hsz]
  have es := zi_s1 (x := sz) (by omega) (by omega)
  exact ⟨j1, loop 40 _ _ _ _ _ F (zKm.rf _ _) h (fun _ _ => rfl) (by omega) (by omega) (by omega)⟩
