/-- the tie is as it was -/
def zTi (σ : Nat → Int32) (F : Nat → Nat → Int32) (σ' : Nat → Int32) (F' : Nat → Nat → Int32) : Prop := σ' 2 = σ 2 ∧ σ' 11 = σ 11 ∧ σ' 20 = σ 20 ∧ F' 6 = F 6
theorem zTi.rf (σ : Nat → Int32) (F : Nat → Nat → Int32) : zTi σ F σ F := ⟨rfl, rfl, rfl, rfl⟩
set_option maxRecDepth 100000 in
set_option maxHeartbeats 1000000 in
theorem n_isRecord (G : zG) (w : zW) (c : Nat) (r : Int32) (σ : Nat → Int32) (F : Nat → Nat → Int32) (h : zMo c w σ F) :
    z_M G yX9_isRecord wsX9_isRecord zrm0 0 0 [.ref c, .int r] w (fun x w' => x = some (.int (if 1 ≤ r.toInt ∧ r.toInt ≤ (σ 11).toInt then 1 else 0)) ∧ w' = w) := by
  obtain ⟨h0, hA, bK, bR, bS, bL, bI, bC, bA⟩ := id h
  unfold zMob at h0
  refine z_mt (nL := 2) (cc := cX9_isRecord) (ret := some .boolean) (by decide) rfl (Nat.le_of_ble_eq_true rfl) 0 [some (.ref c), some (.int r)] rfl ?_
  intro P hP Γ C E
  refine z_gn C E tkX9_isRecord (Nat.zero_le _) (Nat.zero_le _) [] 60 ?_
  simp only [↓z_rn_f, ↓z_rn_t, ↓z_rn_0, ↓zr_in0, ↓zr_ins, ↓zr_inn, ↓zr_bt, ↓zr_bf, ↓zr_li0, ↓zr_lis, ↓zr_la0, ↓zr_las, ↓zr_ll0, ↓zr_lls, ↓zr_1i, ↓zr_1l, ↓zr_1a, ↓zr_2i, ↓zr_2l, ↓zr_lsi, ↓zr_ia, ↓zr_aa, ↓zr_dia, ↓zr_iia, ↓zr_lia, ↓zr_d1i, ↓zr_d1r, ↓zr_e1, ↓zr_e2, ↓zr_e0, ↓zr_f0, ↓zr_fs, ↓zr_s0, ↓zr_ss, ↓zr_len, ↓zr_len0, ↓zr_ok0, ↓zr_okn, ↓zr_oki, ↓zr_okr, ↓zr_oks, ↓zr_tt, ↓zr_ar0u, ↓zr_ar0n, ↓zr_ar1u, ↓zr_ar1n, ↓zr_ar2u, ↓zr_ar2n, ↓zr_obu, ↓zr_obn, ↓Nat.reduceAdd, Nat.reduceEqDiff, Nat.add_left_cancel_iff, not_false_eq_true, z_up_up, true_and, ↓sX9_isRecord_0, ↓sX9_isRecord_1, ↓sX9_isRecord_2, ↓sX9_isRecord_5, ↓sX9_isRecord_6, ↓sX9_isRecord_7, ↓sX9_isRecord_10, ↓sX9_isRecord_13, ↓sX9_isRecord_14, ↓sX9_isRecord_17, ↓sX9_isRecord_18, ↓zh_ob h0, zn_a, zn_b, zq1, zq2, zq3, zq4, zq5, zq6, zq7, eq_self, Int32.reduceLT, Int32.reduceLE, Int32.reduceAdd, not_true_eq_false, not_false_eq_true, false_implies, true_implies, and_true, true_and, or_true, true_or]
  repeat' first | refine And.intro ?_ ?_ | (show _ → _; intro _)
  all_goals try simp only [zi_lt, zi_le, Int32.reduceToInt] at *
  all_goals first | (refine hP _ _ ⟨?_, rfl⟩; first | rw [if_pos (by omega)] | rw [if_neg (by omega)])
set_option maxRecDepth 100000 in
set_option maxHeartbeats 1000000 in
theorem n_isPlace (G : zG) (w : zW) (fr sz mx : Int32) :
    z_M G yX9_isPlace wsX9_isPlace zrm0 0 0 [.int fr, .int sz, .int mx] w (fun x w' => x = some (.int (zFld fr sz mx)) ∧ w' = w) := by
  refine z_mt (nL := 3) (cc := cX9_isPlace) (ret := some .boolean) (by decide) rfl (Nat.le_of_ble_eq_true rfl) 0 [some (.int fr), some (.int sz), some (.int mx)] rfl ?_
  intro P hP Γ C E
  refine z_gn C E tkX9_isPlace (Nat.zero_le _) (Nat.zero_le _) [] 60 ?_
  simp only [↓z_rn_f, ↓z_rn_t, ↓z_rn_0, ↓zr_in0, ↓zr_ins, ↓zr_inn, ↓zr_bt, ↓zr_bf, ↓zr_li0, ↓zr_lis, ↓zr_la0, ↓zr_las, ↓zr_ll0, ↓zr_lls, ↓zr_1i, ↓zr_1l, ↓zr_1a, ↓zr_2i, ↓zr_2l, ↓zr_lsi, ↓zr_ia, ↓zr_aa, ↓zr_dia, ↓zr_iia, ↓zr_lia, ↓zr_d1i, ↓zr_d1r, ↓zr_e1, ↓zr_e2, ↓zr_e0, ↓zr_f0, ↓zr_fs, ↓zr_s0, ↓zr_ss, ↓zr_len, ↓zr_len0, ↓zr_ok0, ↓zr_okn, ↓zr_oki, ↓zr_okr, ↓zr_oks, ↓zr_tt, ↓zr_ar0u, ↓zr_ar0n, ↓zr_ar1u, ↓zr_ar1n, ↓zr_ar2u, ↓zr_ar2n, ↓zr_obu, ↓zr_obn, ↓Nat.reduceAdd, Nat.reduceEqDiff, Nat.add_left_cancel_iff, not_false_eq_true, z_up_up, true_and, ↓sX9_isPlace_0, ↓sX9_isPlace_1, ↓sX9_isPlace_4, ↓sX9_isPlace_5, ↓sX9_isPlace_7, ↓sX9_isPlace_10, ↓sX9_isPlace_11, ↓sX9_isPlace_12, ↓sX9_isPlace_15, ↓sX9_isPlace_16, ↓sX9_isPlace_17, ↓sX9_isPlace_20, ↓sX9_isPlace_21, ↓sX9_isPlace_23, ↓sX9_isPlace_24, ↓sX9_isPlace_25, ↓sX9_isPlace_28, ↓sX9_isPlace_29, ↓sX9_isPlace_32, ↓sX9_isPlace_33, zn_a, zn_b, zq1, zq2, zq3, zq4, zq5, zq6, zq7, eq_self, Int32.reduceLT, Int32.reduceLE, Int32.reduceAdd, not_true_eq_false, not_false_eq_true, false_implies, true_implies, and_true, true_and, or_true, true_or]
  repeat' first | refine And.intro ?_ ?_ | (show _ → _; intro _)
  all_goals try simp only [zi_lt, zi_le, zi_eq, Int32.reduceToInt] at *
  all_goals first | (refine hP _ _ ⟨?_, rfl⟩; unfold zFld; first | rw [if_pos (by omega)] | rw [if_neg (by omega)])
theorem zFld_b {fr sz mx : Int32} (h : ¬ zFld fr sz mx = 0) : 0 ≤ fr.toInt ∧ fr.toInt < 32 ∧ 1 ≤ sz.toInt ∧ sz.toInt ≤ mx.toInt ∧ fr.toInt + sz.toInt ≤ 32 := by
  unfold zFld at h
  by_cases q : 0 ≤ fr.toInt ∧ fr.toInt < 32 ∧ 1 ≤ sz.toInt ∧ sz.toInt ≤ mx.toInt ∧ sz.toInt ≤ (32 - fr).toInt
  · have e : (32 - fr).toInt = 32 - fr.toInt := by rw [zi_sub (by rw [zi_32]; omega) (by rw [zi_32]; omega), zi_32]
    omega
  · rw [if_neg q] at h
    exact absurd rfl h
set_option maxRecDepth 100000 in
set_option maxHeartbeats 1000000 in
theorem n_record (G : zG) (w : zW) (c : Nat) (σ : Nat → Int32) (F : Nat → Nat → Int32) (h : zMo c w σ F) :
    z_M G yX9_record wsX9_record zrm0 0 0 [.ref c] w (fun x w' => zKm c w w' ∧ (((σ 11).toInt < 400 ∧ x = some (.int (σ 11 + 1)) ∧ ∃ σ', zMo c w' σ' F ∧ σ' 2 = σ 2 ∧ σ' 11 = σ 11 + 1 ∧ σ' 20 = σ 20) ∨ ((σ 11).toInt = 400 ∧ x = some (.int (-1)) ∧ ∃ σ', zMo c w' σ' F ∧ σ' 2 = σ 2 ∧ σ' 11 = σ 11 ∧ σ' 20 = σ 20))) := by
  obtain ⟨h0, hA, bK, bR, bS, bL, bI, bC, bA⟩ := id h
  unfold zMob at h0
  refine z_mt (nL := 1) (cc := cX9_record) (ret := some .int) (by decide) rfl (Nat.le_of_ble_eq_true rfl) 0 [some (.ref c)] rfl ?_
  intro P hP Γ C E
  refine z_gn C E tkX9_record (Nat.zero_le _) (Nat.zero_le _) [] 60 ?_
  simp only [↓z_rn_f, ↓z_rn_t, ↓z_rn_0, ↓zr_in0, ↓zr_ins, ↓zr_inn, ↓zr_bt, ↓zr_bf, ↓zr_li0, ↓zr_lis, ↓zr_la0, ↓zr_las, ↓zr_ll0, ↓zr_lls, ↓zr_1i, ↓zr_1l, ↓zr_1a, ↓zr_2i, ↓zr_2l, ↓zr_lsi, ↓zr_ia, ↓zr_aa, ↓zr_dia, ↓zr_iia, ↓zr_lia, ↓zr_d1i, ↓zr_d1r, ↓zr_e1, ↓zr_e2, ↓zr_e0, ↓zr_f0, ↓zr_fs, ↓zr_s0, ↓zr_ss, ↓zr_len, ↓zr_len0, ↓zr_ok0, ↓zr_okn, ↓zr_oki, ↓zr_okr, ↓zr_oks, ↓zr_tt, ↓zr_ar0u, ↓zr_ar0n, ↓zr_ar1u, ↓zr_ar1n, ↓zr_ar2u, ↓zr_ar2n, ↓zr_obu, ↓zr_obn, ↓Nat.reduceAdd, Nat.reduceEqDiff, Nat.add_left_cancel_iff, not_false_eq_true, z_up_up, true_and, ↓sX9_record_0, ↓sX9_record_1, ↓sX9_record_2, ↓sX9_record_5, ↓sX9_record_6, ↓sX9_record_9, ↓sX9_record_12, ↓sX9_record_15, ↓sX9_record_16, ↓sX9_record_17, ↓sX9_record_18, ↓sX9_record_19, ↓sX9_record_22, ↓sX9_record_23, ↓sX9_record_24, ↓sX9_record_27, ↓sX9_record_28, ↓sX9_record_31, ↓zh_ob h0, zn_a, zn_b, zq1, zq2, zq3, zq4, zq5, zq6, zq7, eq_self, Int32.reduceLT, Int32.reduceLE, Int32.reduceAdd, not_true_eq_false, not_false_eq_true, false_implies, true_implies, and_true, true_and, or_true, true_or]
  have b1 := bR.1
  have z400 : (400 : Int32).toInt = 400 := by decide
  refine ⟨fun a1 => ?_, fun a1 => ?_⟩
  · rw [zi_eq, z400] at a1
    have e := zi_a1 (x := σ 11) (by omega) (by omega)
    exact hP _ _ ⟨(zKm.rf _ _).up _ _ (Nat.le_refl _) (by omega), Or.inl ⟨by omega, rfl, sU (sU σ 0 0) 11 (σ 11 + 1), ⟨by rw [z_up_2, if_pos rfl]; rfl, hA.up0 _, bK, ⟨show 0 ≤ (σ 11 + 1).toInt ∧ (σ 11 + 1).toInt ≤ 400 by omega, bR.2⟩, bS, bL, bI, bC, bA⟩, rfl, rfl, rfl⟩⟩
  · rw [zi_eq, z400] at a1
    exact hP _ _ ⟨(zKm.rf _ _).up _ _ (Nat.le_refl _) (by omega), Or.inr ⟨a1, rfl, sU σ 0 0, ⟨by rw [z_up_2, if_pos rfl]; rfl, hA.up0 _, bK, bR, bS, bL, bI, bC, bA⟩, rfl, rfl, rfl⟩⟩
set_option maxRecDepth 100000 in
set_option maxHeartbeats 1000000 in
theorem n_include (G : zG) (w : zW) (c : Nat) (i op v : Int32) (σ : Nat → Int32) (F : Nat → Nat → Int32) (h : zMo c w σ F) :
    z_M G yX9_include wsX9_include zrm0 0 0 [.ref c, .int i, .int op, .int v] w (fun x w' => zKm c w w' ∧ x = some (.int (zA_incl i op v)) ∧ ∃ σ', zMo c w' σ' F ∧ zTi σ F σ' F) := by
  obtain ⟨h0, hA, bK, bR, bS, bL, bI, bC, bA⟩ := id h
  unfold zMob at h0
  refine z_mt (nL := 4) (cc := cX9_include) (ret := some .int) (by decide) rfl (Nat.le_of_ble_eq_true rfl) 0 [some (.ref c), some (.int i), some (.int op), some (.int v)] rfl ?_
  intro P hP Γ C E
  refine z_gn C E tkX9_include (Nat.zero_le _) (Nat.zero_le _) [] 60 ?_
  simp only [↓z_rn_f, ↓z_rn_t, ↓z_rn_0, ↓zr_in0, ↓zr_ins, ↓zr_inn, ↓zr_bt, ↓zr_bf, ↓zr_li0, ↓zr_lis, ↓zr_la0, ↓zr_las, ↓zr_ll0, ↓zr_lls, ↓zr_1i, ↓zr_1l, ↓zr_1a, ↓zr_2i, ↓zr_2l, ↓zr_lsi, ↓zr_ia, ↓zr_aa, ↓zr_dia, ↓zr_iia, ↓zr_lia, ↓zr_d1i, ↓zr_d1r, ↓zr_e1, ↓zr_e2, ↓zr_e0, ↓zr_f0, ↓zr_fs, ↓zr_s0, ↓zr_ss, ↓zr_len, ↓zr_len0, ↓zr_ok0, ↓zr_okn, ↓zr_oki, ↓zr_okr, ↓zr_oks, ↓zr_tt, ↓zr_ar0u, ↓zr_ar0n, ↓zr_ar1u, ↓zr_ar1n, ↓zr_ar2u, ↓zr_ar2n, ↓zr_obu, ↓zr_obn, ↓Nat.reduceAdd, Nat.reduceEqDiff, Nat.add_left_cancel_iff, not_false_eq_true, z_up_up, true_and, ↓sX9_include_0, ↓sX9_include_1, ↓sX9_include_2, ↓sX9_include_5, ↓sX9_include_6, ↓sX9_include_9, ↓sX9_include_10, ↓sX9_include_12, ↓sX9_include_15, ↓sX9_include_16, ↓sX9_include_19, ↓sX9_include_20, ↓sX9_include_21, ↓sX9_include_24, ↓sX9_include_25, ↓sX9_include_28, ↓sX9_include_29, ↓sX9_include_32, ↓sX9_include_35, ↓sX9_include_37, ↓sX9_include_38, ↓sX9_include_39, ↓sX9_include_40, ↓sX9_include_43, ↓sX9_include_44, ↓sX9_include_45, ↓sX9_include_48, ↓sX9_include_49, ↓sX9_include_50, ↓sX9_include_53, ↓sX9_include_54, ↓zh_ob h0, zn_a, zn_b, zq1, zq2, zq3, zq4, zq5, zq6, zq7, eq_self, Int32.reduceLT, Int32.reduceLE, Int32.reduceAdd, not_true_eq_false, not_false_eq_true, false_implies, true_implies, and_true, true_and, or_true, true_or]
  repeat' first | refine And.intro ?_ ?_ | (show _ → _; intro _)
  all_goals try simp only [zi_lt, zi_le, Int32.reduceToInt] at *
  all_goals first
    | exact hP _ _ ⟨(zKm.rf _ _).up _ _ (Nat.le_refl _) (by omega), by unfold zA_incl; rw [if_neg (by omega)], sU σ 0 0, ⟨by rw [z_up_2, if_pos rfl]; rfl, hA.up0 _, bK, bR, bS, bL, bI, bC, bA⟩, rfl, rfl, rfl, rfl⟩
    | exact hP _ _ ⟨(zKm.rf _ _).up _ _ (Nat.le_refl _) (by omega), by unfold zA_incl; rw [if_pos (by omega)], sU (sU (sU (sU σ 0 0) 12 i) 13 op) 14 v, ⟨by rw [z_up_2, if_pos rfl]; rfl, hA.up0 _, bK, bR, ⟨show 0 ≤ i.toInt ∧ i.toInt ≤ 31 by omega, bS.2⟩, bL, bI, bC, bA⟩, rfl, rfl, rfl, rfl⟩
set_option maxRecDepth 100000 in
set_option maxHeartbeats 1000000 in
theorem n_exit (G : zG) (w : zW) (c : Nat) (k d f : Int32) (σ : Nat → Int32) (F : Nat → Nat → Int32) (h : zMo c w σ F) :
    z_M G yX9_exit wsX9_exit zrm0 0 0 [.ref c, .int k, .int d, .int f] w (fun x w' => zKm c w w' ∧ x = some (.int (zA_exit k d f)) ∧ ∃ σ' F', zMo c w' σ' F' ∧ zTi σ F σ' F') := by
  obtain ⟨h0, hA, bK, bR, bS, bL, bI, bC, bA⟩ := id h
  unfold zMob at h0
  have h9 : w.2 (c + 9) = some (.inl (0, 2, .inl (F 9))) := hA 9 (by decide) (by decide)
  have h10 : w.2 (c + 10) = some (.inl (0, 2, .inl (F 10))) := hA 10 (by decide) (by decide)
  refine z_mt (nL := 4) (cc := cX9_exit) (ret := some .int) (by decide) rfl (Nat.le_of_ble_eq_true rfl) 0 [some (.ref c), some (.int k), some (.int d), some (.int f)] rfl ?_
  intro P hP Γ C E
  have no : ¬ (0 ≤ k.toInt ∧ k.toInt ≤ 1 ∧ 0 ≤ d.toInt ∧ d.toInt ≤ 3 ∧ 0 ≤ f.toInt ∧ f.toInt ≤ 1000) → P (some (.int (-4))) (z_up w c (zMob c (sU σ 0 0))) := fun q => hP _ _ ⟨(zKm.rf _ _).up _ _ (Nat.le_refl _) (by omega), by unfold zA_exit; rw [if_neg q], sU σ 0 0, F, ⟨by rw [z_up_2, if_pos rfl], hA.up0 _, bK, bR, bS, bL, bI, bC, bA⟩, rfl, rfl, rfl, rfl⟩
  have yes : (0 ≤ k.toInt ∧ k.toInt ≤ 1 ∧ 0 ≤ d.toInt ∧ d.toInt ≤ 3 ∧ 0 ≤ f.toInt ∧ f.toInt ≤ 1000) → P (some (.int 1)) (z_up (z_up (z_up w c (zMob c (sU σ 0 0))) (c + 9) (.inl (0, 2, .inl (upd (F 9) k.toNatClampNeg d)))) (c + 10) (.inl (0, 2, .inl (upd (F 10) k.toNatClampNeg f)))) := fun q => hP _ _ ⟨((((zKm.rf _ _).up _ _ (Nat.le_refl _) (by omega)).up _ _ (by omega) (by omega)).up _ _ (by omega) (by omega)), by unfold zA_exit; rw [if_pos q], sU σ 0 0, zF1 (zF1 F 9 (upd (F 9) k.toNatClampNeg d)) 10 (upd (F 10) k.toNatClampNeg f), ⟨by simp [z_up_2], (((hA.up0 _).upk 9 _ 2 0 rfl rfl).upk 10 _ 2 0 rfl rfl), bK, bR, bS, bL, bI, bC, bA⟩, rfl, rfl, rfl, rfl⟩
  unfold zMob sU at no yes
  refine z_gn C E tkX9_exit (Nat.zero_le _) (Nat.zero_le _) [] 60 ?_
  simp only [↓z_rn_f, ↓z_rn_t, ↓z_rn_0, ↓zr_in0, ↓zr_ins, ↓zr_inn, ↓zr_bt, ↓zr_bf, ↓zr_li0, ↓zr_lis, ↓zr_la0, ↓zr_las, ↓zr_ll0, ↓zr_lls, ↓zr_1i, ↓zr_1l, ↓zr_1a, ↓zr_2i, ↓zr_2l, ↓zr_lsi, ↓zr_ia, ↓zr_aa, ↓zr_dia, ↓zr_iia, ↓zr_lia, ↓zr_d1i, ↓zr_d1r, ↓zr_e1, ↓zr_e2, ↓zr_e0, ↓zr_f0, ↓zr_fs, ↓zr_s0, ↓zr_ss, ↓zr_len, ↓zr_len0, ↓zr_ok0, ↓zr_okn, ↓zr_oki, ↓zr_okr, ↓zr_oks, ↓zr_tt, ↓zr_ar0u, ↓zr_ar0n, ↓zr_ar1u, ↓zr_ar1n, ↓zr_ar2u, ↓zr_ar2n, ↓zr_obu, ↓zr_obn, ↓Nat.reduceAdd, Nat.reduceEqDiff, Nat.add_left_cancel_iff, not_false_eq_true, z_up_up, true_and, ↓sX9_exit_0, ↓sX9_exit_1, ↓sX9_exit_2, ↓sX9_exit_5, ↓sX9_exit_6, ↓sX9_exit_9, ↓sX9_exit_10, ↓sX9_exit_11, ↓sX9_exit_14, ↓sX9_exit_15, ↓sX9_exit_18, ↓sX9_exit_19, ↓sX9_exit_20, ↓sX9_exit_23, ↓sX9_exit_24, ↓sX9_exit_27, ↓sX9_exit_28, ↓sX9_exit_31, ↓sX9_exit_34, ↓sX9_exit_36, ↓sX9_exit_37, ↓sX9_exit_38, ↓sX9_exit_41, ↓sX9_exit_42, ↓sX9_exit_43, ↓sX9_exit_44, ↓sX9_exit_45, ↓sX9_exit_48, ↓sX9_exit_49, ↓sX9_exit_50, ↓sX9_exit_51, ↓sX9_exit_52, ↓zh_ob h0, ↓zh_ar0 h9, ↓zh_ar0 h10, zn_a, zn_b, zq1, zq2, zq3, zq4, zq5, zq6, zq7, eq_self, Int32.reduceLT, Int32.reduceLE, Int32.reduceAdd, not_true_eq_false, not_false_eq_true, false_implies, true_implies, and_true, true_and, or_true, true_or]
  repeat' first | refine And.intro ?_ ?_ | (show _ → _; intro _)
  all_goals try simp only [zi_lt, zi_le, Int32.reduceToInt] at *
  all_goals first
    | exact no (by omega)
    | exact yes (by omega)
    | (have e := zi_nat (x := k) (by omega); omega)
set_option maxRecDepth 100000 in
set_option maxHeartbeats 1000000 in
theorem n_begin (G : zG) (w : zW) (c : Nat) (σ : Nat → Int32) (F : Nat → Nat → Int32) (h : zMo c w σ F) :
    z_M G yX9_begin wsX9_begin zrm0 0 0 [.ref c] w (fun x w' => (∃ v, x = some (.int v)) ∧ zKm c w w' ∧ ∃ σ' F', zMo c w' σ' F' ∧ zTi σ F σ' F') := by
  obtain ⟨h0, hA, bK, bR, bS, bL, bI, bC, bA⟩ := id h
  unfold zMob at h0
  refine z_mt (nL := 1) (cc := cX9_begin) (ret := some .int) (by decide) rfl (Nat.le_of_ble_eq_true rfl) 0 [some (.ref c)] rfl ?_
  intro P hP Γ C E
  refine z_gn C E tkX9_begin (Nat.zero_le _) (Nat.zero_le _) [] 60 ?_
  simp only [↓z_rn_f, ↓z_rn_t, ↓z_rn_0, ↓zr_in0, ↓zr_ins, ↓zr_inn, ↓zr_bt, ↓zr_bf, ↓zr_li0, ↓zr_lis, ↓zr_la0, ↓zr_las, ↓zr_ll0, ↓zr_lls, ↓zr_1i, ↓zr_1l, ↓zr_1a, ↓zr_2i, ↓zr_2l, ↓zr_lsi, ↓zr_ia, ↓zr_aa, ↓zr_dia, ↓zr_iia, ↓zr_lia, ↓zr_d1i, ↓zr_d1r, ↓zr_e1, ↓zr_e2, ↓zr_e0, ↓zr_f0, ↓zr_fs, ↓zr_s0, ↓zr_ss, ↓zr_len, ↓zr_len0, ↓zr_ok0, ↓zr_okn, ↓zr_oki, ↓zr_okr, ↓zr_oks, ↓zr_tt, ↓zr_ar0u, ↓zr_ar0n, ↓zr_ar1u, ↓zr_ar1n, ↓zr_ar2u, ↓zr_ar2n, ↓zr_obu, ↓zr_obn, ↓Nat.reduceAdd, Nat.reduceEqDiff, Nat.add_left_cancel_iff, not_false_eq_true, z_up_up, true_and, ↓sX9_begin_0, ↓sX9_begin_1, ↓sX9_begin_2, ↓sX9_begin_5, ↓sX9_begin_6, ↓sX9_begin_9, ↓sX9_begin_10, ↓sX9_begin_13, ↓sX9_begin_15, ↓sX9_begin_16, ↓sX9_begin_17, ↓sX9_begin_18, ↓sX9_begin_21, ↓sX9_begin_22, ↓sX9_begin_23, ↓sX9_begin_26, ↓sX9_begin_27, ↓sX9_begin_28, ↓sX9_begin_31, ↓sX9_begin_32, ↓zh_ob h0, zn_a, zn_b, zq1, zq2, zq3, zq4, zq5, zq6, zq7, eq_self, Int32.reduceLT, Int32.reduceLE, Int32.reduceAdd, not_true_eq_false, not_false_eq_true, false_implies, true_implies, and_true, true_and, or_true, true_or]
  refine ⟨fun _ => hP _ _ ⟨⟨_, rfl⟩, (zKm.rf _ _).up _ _ (Nat.le_refl _) (by omega), sU (sU (sU (sU σ 0 0) 3 1) 22 0) 33 (-1), F, ⟨by rw [z_up_2, if_pos rfl]; rfl, hA.up0 _, bK, bR, bS, ⟨show (0 : Int) ≤ (0 : Int32).toInt ∧ (0 : Int32).toInt ≤ 1000 by decide, fun j hj => by exfalso; have q : (j : Int) < (0 : Int32).toInt := hj; rw [zi_0] at q; omega⟩, bI, bC, ⟨bA.1, bA.2.1, bA.2.2.1, bA.2.2.2.1, bA.2.2.2.2.1, fun q => absurd (show (1 : Int32) = 2 from q) (by decide), Or.inl rfl⟩⟩, rfl, rfl, rfl, rfl⟩, fun _ => hP _ _ ⟨⟨_, rfl⟩, (zKm.rf _ _).up _ _ (Nat.le_refl _) (by omega), sU σ 0 0, F, ⟨by rw [z_up_2, if_pos rfl]; rfl, hA.up0 _, bK, bR, bS, bL, bI, bC, bA⟩, rfl, rfl, rfl, rfl⟩⟩
set_option maxRecDepth 100000 in
set_option maxHeartbeats 1000000 in
theorem n_failed (G : zG) (w : zW) (c : Nat) (σ : Nat → Int32) (F : Nat → Nat → Int32) (h : zMo c w σ F) :
    z_M G yX9_failed wsX9_failed zrm0 0 0 [.ref c] w (fun x w' => (∃ v, x = some (.int v)) ∧ zKm c w w' ∧ ∃ σ' F', zMo c w' σ' F' ∧ zTi σ F σ' F') := by
  obtain ⟨h0, hA, bK, bR, bS, bL, bI, bC, bA⟩ := id h
  unfold zMob at h0
  refine z_mt (nL := 1) (cc := cX9_failed) (ret := some .int) (by decide) rfl (Nat.le_of_ble_eq_true rfl) 0 [some (.ref c)] rfl ?_
  intro P hP Γ C E
  refine z_gn C E tkX9_failed (Nat.zero_le _) (Nat.zero_le _) [] 60 ?_
  simp only [↓z_rn_f, ↓z_rn_t, ↓z_rn_0, ↓zr_in0, ↓zr_ins, ↓zr_inn, ↓zr_bt, ↓zr_bf, ↓zr_li0, ↓zr_lis, ↓zr_la0, ↓zr_las, ↓zr_ll0, ↓zr_lls, ↓zr_1i, ↓zr_1l, ↓zr_1a, ↓zr_2i, ↓zr_2l, ↓zr_lsi, ↓zr_ia, ↓zr_aa, ↓zr_dia, ↓zr_iia, ↓zr_lia, ↓zr_d1i, ↓zr_d1r, ↓zr_e1, ↓zr_e2, ↓zr_e0, ↓zr_f0, ↓zr_fs, ↓zr_s0, ↓zr_ss, ↓zr_len, ↓zr_len0, ↓zr_ok0, ↓zr_okn, ↓zr_oki, ↓zr_okr, ↓zr_oks, ↓zr_tt, ↓zr_ar0u, ↓zr_ar0n, ↓zr_ar1u, ↓zr_ar1n, ↓zr_ar2u, ↓zr_ar2n, ↓zr_obu, ↓zr_obn, ↓Nat.reduceAdd, Nat.reduceEqDiff, Nat.add_left_cancel_iff, not_false_eq_true, z_up_up, true_and, ↓sX9_failed_0, ↓sX9_failed_1, ↓sX9_failed_2, ↓sX9_failed_5, ↓sX9_failed_6, ↓sX9_failed_9, ↓zh_ob h0, zn_a, zn_b, zq1, zq2, zq3, zq4, zq5, zq6, zq7, eq_self, Int32.reduceLT, Int32.reduceLE, Int32.reduceAdd, not_true_eq_false, not_false_eq_true, false_implies, true_implies, and_true, true_and, or_true, true_or]
  exact hP _ _ ⟨⟨_, rfl⟩, (zKm.rf _ _).up _ _ (Nat.le_refl _) (by omega), sU σ 0 0, F, ⟨by rw [z_up_2, if_pos rfl]; rfl, hA.up0 _, bK, bR, bS, bL, bI, bC, bA⟩, rfl, rfl, rfl, rfl⟩
set_option maxRecDepth 100000 in
set_option maxHeartbeats 1000000 in
theorem n_comes (G : zG) (w : zW) (c : Nat) (σ : Nat → Int32) (F : Nat → Nat → Int32) (h : zMo c w σ F) :
    z_M G yX9_comes wsX9_comes zrm0 0 0 [.ref c] w (fun x w' => (∃ v, x = some (.int v)) ∧ zKm c w w' ∧ ∃ σ' F', zMo c w' σ' F' ∧ zTi σ F σ' F') := by
  obtain ⟨h0, hA, bK, bR, bS, bL, bI, bC, bA⟩ := id h
  unfold zMob at h0
  refine z_mt (nL := 1) (cc := cX9_comes) (ret := some .int) (by decide) rfl (Nat.le_of_ble_eq_true rfl) 0 [some (.ref c)] rfl ?_
  intro P hP Γ C E
  refine z_gn C E tkX9_comes (Nat.zero_le _) (Nat.zero_le _) [] 60 ?_
  simp only [↓z_rn_f, ↓z_rn_t, ↓z_rn_0, ↓zr_in0, ↓zr_ins, ↓zr_inn, ↓zr_bt, ↓zr_bf, ↓zr_li0, ↓zr_lis, ↓zr_la0, ↓zr_las, ↓zr_ll0, ↓zr_lls, ↓zr_1i, ↓zr_1l, ↓zr_1a, ↓zr_2i, ↓zr_2l, ↓zr_lsi, ↓zr_ia, ↓zr_aa, ↓zr_dia, ↓zr_iia, ↓zr_lia, ↓zr_d1i, ↓zr_d1r, ↓zr_e1, ↓zr_e2, ↓zr_e0, ↓zr_f0, ↓zr_fs, ↓zr_s0, ↓zr_ss, ↓zr_len, ↓zr_len0, ↓zr_ok0, ↓zr_okn, ↓zr_oki, ↓zr_okr, ↓zr_oks, ↓zr_tt, ↓zr_ar0u, ↓zr_ar0n, ↓zr_ar1u, ↓zr_ar1n, ↓zr_ar2u, ↓zr_ar2n, ↓zr_obu, ↓zr_obn, ↓Nat.reduceAdd, Nat.reduceEqDiff, Nat.add_left_cancel_iff, not_false_eq_true, z_up_up, true_and, ↓sX9_comes_0, ↓sX9_comes_1, ↓sX9_comes_2, ↓sX9_comes_5, ↓sX9_comes_6, ↓sX9_comes_7, ↓sX9_comes_10, ↓sX9_comes_11, ↓sX9_comes_12, ↓sX9_comes_15, ↓sX9_comes_16, ↓sX9_comes_19, ↓zh_ob h0, zn_a, zn_b, zq1, zq2, zq3, zq4, zq5, zq6, zq7, eq_self, Int32.reduceLT, Int32.reduceLE, Int32.reduceAdd, not_true_eq_false, not_false_eq_true, false_implies, true_implies, and_true, true_and, or_true, true_or]
  exact hP _ _ ⟨⟨_, rfl⟩, (zKm.rf _ _).up _ _ (Nat.le_refl _) (by omega), sU (sU (sU σ 3 2) 32 0) 33 (-1), F, ⟨by rw [z_up_2, if_pos rfl]; rfl, hA.up0 _, bK, bR, bS, bL, bI, bC, ⟨bA.1, bA.2.1, bA.2.2.1, bA.2.2.2.1, show (0 : Int) ≤ (0 : Int32).toInt ∧ (0 : Int32).toInt ≤ 1601 by decide, fun _ => show (0 : Int32).toInt ≤ 1600 by decide, Or.inl rfl⟩⟩, rfl, rfl, rfl, rfl⟩
set_option maxRecDepth 100000 in
set_option maxHeartbeats 1000000 in
theorem n_release (G : zG) (w : zW) (c : Nat) (r : Int32) (σ : Nat → Int32) (F : Nat → Nat → Int32) (h : zMo c w σ F) :
    z_M G yX9_release wsX9_release zrm1 0 0 [.ref c, .int r] w (fun x w' => (∃ v, x = some (.int v)) ∧ zKm c w w' ∧ ∃ σ' F', zMo c w' σ' F' ∧ zTi σ F σ' F') := by
  obtain ⟨h0, hA, bK, bR, bS, bL, bI, bC, bA⟩ := id h
  unfold zMob at h0
  have h12 : w.2 (c + 12) = some (.inl (0, 1000, .inl (F 12))) := hA 12 (by decide) (by decide)
  refine z_mt (nL := 2) (cc := cX9_release) (ret := some .int) (by decide) rfl (Nat.le_of_ble_eq_true rfl) 0 [some (.ref c), some (.int r)] rfl ?_
  intro P hP Γ C E
  refine z_gn C E tkX9_release (Nat.zero_le _) (Nat.zero_le _) [] 60 ?_
  simp only [↓z_rn_f, ↓z_rn_t, ↓z_rn_0, ↓zr_in0, ↓zr_ins, ↓zr_inn, ↓zr_bt, ↓zr_bf, ↓zr_li0, ↓zr_lis, ↓zr_la0, ↓zr_las, ↓zr_ll0, ↓zr_lls, ↓zr_1i, ↓zr_1l, ↓zr_1a, ↓zr_2i, ↓zr_2l, ↓zr_lsi, ↓zr_ia, ↓zr_aa, ↓zr_dia, ↓zr_iia, ↓zr_lia, ↓zr_d1i, ↓zr_d1r, ↓zr_e1, ↓zr_e2, ↓zr_e0, ↓zr_f0, ↓zr_fs, ↓zr_s0, ↓zr_ss, ↓zr_len, ↓zr_len0, ↓zr_ok0, ↓zr_okn, ↓zr_oki, ↓zr_okr, ↓zr_oks, ↓zr_tt, ↓zr_ar0u, ↓zr_ar0n, ↓zr_ar1u, ↓zr_ar1n, ↓zr_ar2u, ↓zr_ar2n, ↓zr_obu, ↓zr_obn, ↓Nat.reduceAdd, Nat.reduceEqDiff, Nat.add_left_cancel_iff, not_false_eq_true, z_up_up, true_and, ↓sX9_release_0, ↓sX9_release_1, ↓sX9_release_2, ↓sX9_release_5, ↓sX9_release_6, ↓sX9_release_7, ↓sX9_release_10, ↓sX9_release_13, ↓sX9_release_15, ↓sX9_release_16, ↓sX9_release_17, ↓sX9_release_20, ↓sX9_release_21, ↓sX9_release_24, ↓sX9_release_26, ↓sX9_release_27, ↓sX9_release_28, ↓sX9_release_31, ↓sX9_release_34, ↓sX9_release_37, ↓sX9_release_38, ↓sX9_release_39, ↓sX9_release_40, ↓sX9_release_43, ↓sX9_release_44, ↓sX9_release_47, ↓sX9_release_48, ↓sX9_release_49, ↓sX9_release_50, ↓sX9_release_51, ↓sX9_release_54, ↓sX9_release_55, ↓sX9_release_56, ↓sX9_release_59, ↓sX9_release_60, ↓sX9_release_63, ↓zh_ob h0, zn_a, zn_b, zq1, zq2, zq3, zq4, zq5, zq6, zq7, eq_self, Int32.reduceLT, Int32.reduceLE, Int32.reduceAdd, not_true_eq_false, not_false_eq_true, false_implies, true_implies, and_true, true_and, or_true, true_or]
  have hm : zMo c (z_up w c (zMob c (sU σ 0 0))) (sU σ 0 0) F := ⟨by rw [z_up_2, if_pos rfl], hA.up0 _, bK, bR, bS, bL, bI, bC, bA⟩
  have k1 : zKm c w (z_up w c (zMob c (sU σ 0 0))) := (zKm.rf _ _).up _ _ (Nat.le_refl _) (by omega)
  have g12 : (z_up w c (zMob c (sU σ 0 0))).2 (c + 12) = _ := (hA.up0 _) 12 (by decide) (by decide)
  change z_J G 2 Γ (z_up w c (zMob c (sU σ 0 0))) _ _ _ _ _
  generalize z_up w c (zMob c (sU σ 0 0)) = w1 at hm k1 g12 ⊢
  have g0 : w1.2 c = some (.inr (10, [.int 0, .int (σ 1), .int (σ 2), .int (σ 3), .ref (c + 1), .ref (c + 2), .ref (c + 3), .ref (c + 4), .int (σ 8), .ref (c + 5), .ref (c + 6), .int (σ 11), .int (σ 12), .int (σ 13), .int (σ 14), .ref (c + 7), .ref (c + 8), .ref (c + 9), .ref (c + 10), .ref (c + 11), .int (σ 20), .ref (c + 12), .int (σ 22), .ref (c + 13), .ref (c + 14), .ref (c + 15), .ref (c + 16), .ref (c + 17), .ref (c + 18), .ref (c + 19), .int (σ 30), .int (σ 31), .int (σ 32), .int (σ 33), .int (σ 34), .ref (c + 20)])) := hm.1
  refine z_callV (n := 1) (As := [.int r]) (rest := []) C E (n_isRecord G w1 c r _ F hm) gX9_release_X9_isRecord rfl rfl rfl (by decide +kernel) (by decide) dX9_release_7 rfl ⟨Nat.zero_le _, Nat.zero_le _⟩ (Nat.le_of_ble_eq_true rfl) rfl g0 ?_
  rintro x w2 ⟨rfl, hw2⟩
  rw [hw2]
  clear hw2 w2
  simp only [Option.toList, List.cons_append, List.nil_append]
  have same : ∀ v : Int32, P (some (.int v)) w1 := fun v => hP _ _ ⟨⟨_, rfl⟩, k1, _, F, hm, rfl, rfl, rfl, rfl⟩
  by_cases hq : ¬ (1 ≤ r.toInt ∧ r.toInt ≤ (sU σ 0 0 11).toInt)
  · rw [if_neg hq]
    refine z_gn C E tkX9_release (Nat.zero_le _) (Nat.zero_le _) [16] 60 ?_
    simp only [↓z_rn_f, ↓z_rn_t, ↓z_rn_0, ↓zr_in0, ↓zr_ins, ↓zr_inn, ↓zr_bt, ↓zr_bf, ↓zr_li0, ↓zr_lis, ↓zr_la0, ↓zr_las, ↓zr_ll0, ↓zr_lls, ↓zr_1i, ↓zr_1l, ↓zr_1a, ↓zr_2i, ↓zr_2l, ↓zr_lsi, ↓zr_ia, ↓zr_aa, ↓zr_dia, ↓zr_iia, ↓zr_lia, ↓zr_d1i, ↓zr_d1r, ↓zr_e1, ↓zr_e2, ↓zr_e0, ↓zr_f0, ↓zr_fs, ↓zr_s0, ↓zr_ss, ↓zr_len, ↓zr_len0, ↓zr_ok0, ↓zr_okn, ↓zr_oki, ↓zr_okr, ↓zr_oks, ↓zr_tt, ↓zr_ar0u, ↓zr_ar0n, ↓zr_ar1u, ↓zr_ar1n, ↓zr_ar2u, ↓zr_ar2n, ↓zr_obu, ↓zr_obn, ↓Nat.reduceAdd, Nat.reduceEqDiff, Nat.add_left_cancel_iff, not_false_eq_true, z_up_up, true_and, ↓sX9_release_0, ↓sX9_release_1, ↓sX9_release_2, ↓sX9_release_5, ↓sX9_release_6, ↓sX9_release_7, ↓sX9_release_10, ↓sX9_release_13, ↓sX9_release_15, ↓sX9_release_16, ↓sX9_release_17, ↓sX9_release_20, ↓sX9_release_21, ↓sX9_release_24, ↓sX9_release_26, ↓sX9_release_27, ↓sX9_release_28, ↓sX9_release_31, ↓sX9_release_34, ↓sX9_release_37, ↓sX9_release_38, ↓sX9_release_39, ↓sX9_release_40, ↓sX9_release_43, ↓sX9_release_44, ↓sX9_release_47, ↓sX9_release_48, ↓sX9_release_49, ↓sX9_release_50, ↓sX9_release_51, ↓sX9_release_54, ↓sX9_release_55, ↓sX9_release_56, ↓sX9_release_59, ↓sX9_release_60, ↓sX9_release_63, zn_a, zn_b, zq1, zq2, zq3, zq4, zq5, zq6, zq7, eq_self, Int32.reduceLT, Int32.reduceLE, Int32.reduceAdd, not_true_eq_false, not_false_eq_true, false_implies, true_implies, and_true, true_and, or_true, true_or]
    exact same _
  replace hq := Decidable.not_not.mp hq
  rw [if_pos hq]
  have hq2 : r.toInt ≤ (σ 11).toInt := hq.2
  have b1 := bR.1
  have b2 := bL.1
  have z1000 : (1000 : Int32).toInt = 1000 := by decide
  refine z_gn C E tkX9_release (Nat.zero_le _) (Nat.zero_le _) [] 60 ?_
  simp only [↓z_rn_f, ↓z_rn_t, ↓z_rn_0, ↓zr_in0, ↓zr_ins, ↓zr_inn, ↓zr_bt, ↓zr_bf, ↓zr_li0, ↓zr_lis, ↓zr_la0, ↓zr_las, ↓zr_ll0, ↓zr_lls, ↓zr_1i, ↓zr_1l, ↓zr_1a, ↓zr_2i, ↓zr_2l, ↓zr_lsi, ↓zr_ia, ↓zr_aa, ↓zr_dia, ↓zr_iia, ↓zr_lia, ↓zr_d1i, ↓zr_d1r, ↓zr_e1, ↓zr_e2, ↓zr_e0, ↓zr_f0, ↓zr_fs, ↓zr_s0, ↓zr_ss, ↓zr_len, ↓zr_len0, ↓zr_ok0, ↓zr_okn, ↓zr_oki, ↓zr_okr, ↓zr_oks, ↓zr_tt, ↓zr_ar0u, ↓zr_ar0n, ↓zr_ar1u, ↓zr_ar1n, ↓zr_ar2u, ↓zr_ar2n, ↓zr_obu, ↓zr_obn, ↓Nat.reduceAdd, Nat.reduceEqDiff, Nat.add_left_cancel_iff, not_false_eq_true, z_up_up, true_and, ↓sX9_release_0, ↓sX9_release_1, ↓sX9_release_2, ↓sX9_release_5, ↓sX9_release_6, ↓sX9_release_7, ↓sX9_release_10, ↓sX9_release_13, ↓sX9_release_15, ↓sX9_release_16, ↓sX9_release_17, ↓sX9_release_20, ↓sX9_release_21, ↓sX9_release_24, ↓sX9_release_26, ↓sX9_release_27, ↓sX9_release_28, ↓sX9_release_31, ↓sX9_release_34, ↓sX9_release_37, ↓sX9_release_38, ↓sX9_release_39, ↓sX9_release_40, ↓sX9_release_43, ↓sX9_release_44, ↓sX9_release_47, ↓sX9_release_48, ↓sX9_release_49, ↓sX9_release_50, ↓sX9_release_51, ↓sX9_release_54, ↓sX9_release_55, ↓sX9_release_56, ↓sX9_release_59, ↓sX9_release_60, ↓sX9_release_63, ↓zh_ob g0, ↓zh_ar0 g12, zn_a, zn_b, zq1, zq2, zq3, zq4, zq5, zq6, zq7, eq_self, Int32.reduceLT, Int32.reduceLE, Int32.reduceAdd, not_true_eq_false, not_false_eq_true, false_implies, true_implies, and_true, true_and, or_true, true_or]
  refine ⟨fun _ => ⟨fun a2 => ?_, fun _ => same _⟩, fun _ => same _⟩
  have a3 : ¬ (σ 22).toInt = 1000 := fun q => a2 (zi_eq.mpr (by rw [z1000]; exact q))
  have e := zi_a1 (x := σ 22) (by omega) (by omega)
  have j1 : vp_in (σ 22) 1000 := vp_in_iff.mpr (by omega)
  have n1 := zi_nat (x := σ 22) (by omega)
  refine ⟨j1, hP _ _ ⟨⟨_, rfl⟩, (k1.up _ _ (by omega) (by omega)).up _ _ (Nat.le_refl _) (by omega), sU (sU σ 0 0) 22 (σ 22 + 1), zF1 F 12 (upd (F 12) (σ 22).toNatClampNeg r), ⟨by rw [z_up_2, if_pos rfl]; rfl, ((hm.2.1.upk 12 _ 1000 0 rfl rfl).up0 _), bK, bR, bS, ⟨show 0 ≤ (σ 22 + 1).toInt ∧ (σ 22 + 1).toInt ≤ 1000 by omega, fun j hj => ?_⟩, bI, bC, bA⟩, rfl, rfl, rfl, rfl⟩⟩
  have hj2 : (j : Int) < (σ 22 + 1).toInt := hj
  show 1 ≤ (upd (F 12) (σ 22).toNatClampNeg r j).toInt ∧ (upd (F 12) (σ 22).toNatClampNeg r j).toInt ≤ 400
  unfold upd
  by_cases q : j = (σ 22).toNatClampNeg
  · simp only [q, if_true]; omega
  · simp only [q, if_false]
    exact bL.2 j (by omega)
