set_option maxRecDepth 100000 in
set_option maxHeartbeats 1000000 in
theorem k_record (G : zG) (w : zW) (b : Nat) (wy rc su : Int32) (fl : Nat → Int32) (h : zCl b w wy rc su fl) :
    z_M G yX8_record wsX8_record zrm1 0 0 [.ref b] w (fun x w' => zKc b w w' ∧ ((rc.toInt < 400 ∧ x = some (.int (rc + 1)) ∧ zCl b w' wy (rc + 1) su (upd fl rc.toNatClampNeg 0)) ∨ (rc.toInt = 400 ∧ x = some (.int (-1)) ∧ zCl b w' wy rc su fl))) := by
  obtain ⟨⟨rel, ar, st, tk, hd, fa, t1, t2, h0, hok⟩, hR⟩ := id h
  unfold zSM at h0
  have ho1 := hok.1
  have ho4 := hok.2.2.2.1
  refine z_mt (nL := 2) (cc := cX8_record) (ret := some .int) (by decide) rfl (Nat.le_of_ble_eq_true rfl) 1 [some (.ref b), none] rfl ?_
  intro P hP Γ C E
  obtain ⟨fn, fb, hr⟩ := hR.2.1
  have hrc := hr.2.2.2.1
  refine z_gn C E tkX8_record (Nat.zero_le _) (Nat.zero_le _) [] 60 ?_
  simp only [↓z_rn_f, ↓z_rn_t, ↓z_rn_0, ↓zr_in0, ↓zr_ins, ↓zr_inn, ↓zr_bt, ↓zr_bf, ↓zr_li0, ↓zr_lis, ↓zr_la0, ↓zr_las, ↓zr_ll0, ↓zr_lls, ↓zr_1i, ↓zr_1l, ↓zr_1a, ↓zr_2i, ↓zr_2l, ↓zr_lsi, ↓zr_ia, ↓zr_aa, ↓zr_dia, ↓zr_iia, ↓zr_lia, ↓zr_d1i, ↓zr_d1r, ↓zr_e1, ↓zr_e2, ↓zr_e0, ↓zr_f0, ↓zr_fs, ↓zr_s0, ↓zr_ss, ↓zr_len, ↓zr_len0, ↓zr_ok0, ↓zr_okn, ↓zr_oki, ↓zr_okr, ↓zr_oks, ↓zr_tt, ↓zr_ar0u, ↓zr_ar0n, ↓zr_ar1u, ↓zr_ar1n, ↓zr_ar2u, ↓zr_ar2n, ↓zr_obu, ↓zr_obn, ↓Nat.reduceAdd, Nat.reduceEqDiff, Nat.add_left_cancel_iff, not_false_eq_true, z_up_up, true_and, ↓sX8_record_0, ↓sX8_record_1, ↓sX8_record_4, ↓sX8_record_5, ↓sX8_record_8, ↓sX8_record_11, ↓sX8_record_12, ↓sX8_record_13, ↓sX8_record_16, ↓sX8_record_17, ↓sX8_record_18, ↓sX8_record_19, ↓sX8_record_22, ↓sX8_record_23, ↓sX8_record_26, ↓sX8_record_27, ↓sX8_record_30, ↓sX8_record_31, ↓sX8_record_34, ↓zh_ob h0, zn_a, zn_b, zq1, zq2, zq3, zq4, zq5, zq6, zq7, eq_self, Int32.reduceLT, Int32.reduceLE, Int32.reduceAdd, not_true_eq_false, not_false_eq_true, false_implies, true_implies, and_true, true_and, or_true, true_or]
  refine z_callV (n := 0) (As := []) (rest := [.ref (b + 10)]) C E (c_Rows_held G w (b + 10) (b + 11) (b + 12) (b + 13) 400 rc fn fl fb hr) gX8_record_X5_held rfl rfl rfl (by decide +kernel) (by decide) dX8_record_8 rfl ⟨Nat.zero_le _, Nat.zero_le _⟩ (Nat.le_of_ble_eq_true rfl) rfl hr.1.1 ?_
  rintro x w1 ⟨rfl, hw1⟩
  rw [hw1]
  clear hw1 w1
  simp only [Option.toList, List.cons_append, List.nil_append]
  refine z_gn C E tkX8_record (Nat.zero_le _) (Nat.zero_le _) [] 60 ?_
  simp only [↓z_rn_f, ↓z_rn_t, ↓z_rn_0, ↓zr_in0, ↓zr_ins, ↓zr_inn, ↓zr_bt, ↓zr_bf, ↓zr_li0, ↓zr_lis, ↓zr_la0, ↓zr_las, ↓zr_ll0, ↓zr_lls, ↓zr_1i, ↓zr_1l, ↓zr_1a, ↓zr_2i, ↓zr_2l, ↓zr_lsi, ↓zr_ia, ↓zr_aa, ↓zr_dia, ↓zr_iia, ↓zr_lia, ↓zr_d1i, ↓zr_d1r, ↓zr_e1, ↓zr_e2, ↓zr_e0, ↓zr_f0, ↓zr_fs, ↓zr_s0, ↓zr_ss, ↓zr_len, ↓zr_len0, ↓zr_ok0, ↓zr_okn, ↓zr_oki, ↓zr_okr, ↓zr_oks, ↓zr_tt, ↓zr_ar0u, ↓zr_ar0n, ↓zr_ar1u, ↓zr_ar1n, ↓zr_ar2u, ↓zr_ar2n, ↓zr_obu, ↓zr_obn, ↓Nat.reduceAdd, Nat.reduceEqDiff, Nat.add_left_cancel_iff, not_false_eq_true, z_up_up, true_and, ↓sX8_record_0, ↓sX8_record_1, ↓sX8_record_4, ↓sX8_record_5, ↓sX8_record_8, ↓sX8_record_11, ↓sX8_record_12, ↓sX8_record_13, ↓sX8_record_16, ↓sX8_record_17, ↓sX8_record_18, ↓sX8_record_19, ↓sX8_record_22, ↓sX8_record_23, ↓sX8_record_26, ↓sX8_record_27, ↓sX8_record_30, ↓sX8_record_31, ↓sX8_record_34, zn_a, zn_b, zq1, zq2, zq3, zq4, zq5, zq6, zq7, eq_self, Int32.reduceLT, Int32.reduceLE, Int32.reduceAdd, not_true_eq_false, not_false_eq_true, false_implies, true_implies, and_true, true_and, or_true, true_or]
  refine z_callV (n := 1) (As := [.int _]) (rest := []) C E (c_Rows_add G w (b + 10) (b + 11) (b + 12) (b + 13) 400 rc _ fn fl fb hr) gX8_record_X5_add rfl rfl rfl (by decide +kernel) (by decide) dX8_record_13 rfl ⟨Nat.zero_le _, Nat.zero_le _⟩ (Nat.le_of_ble_eq_true rfl) rfl hr.1.1 ?_
  rintro x w1 (⟨q1, rfl, hw1⟩ | ⟨q1, rfl, hf, hr1⟩)
  · rw [hw1]
    simp only [Option.toList, List.cons_append, List.nil_append]
    refine z_gn C E tkX8_record (Nat.zero_le _) (Nat.zero_le _) [26] 60 ?_
    simp only [↓z_rn_f, ↓z_rn_t, ↓z_rn_0, ↓zr_in0, ↓zr_ins, ↓zr_inn, ↓zr_bt, ↓zr_bf, ↓zr_li0, ↓zr_lis, ↓zr_la0, ↓zr_las, ↓zr_ll0, ↓zr_lls, ↓zr_1i, ↓zr_1l, ↓zr_1a, ↓zr_2i, ↓zr_2l, ↓zr_lsi, ↓zr_ia, ↓zr_aa, ↓zr_dia, ↓zr_iia, ↓zr_lia, ↓zr_d1i, ↓zr_d1r, ↓zr_e1, ↓zr_e2, ↓zr_e0, ↓zr_f0, ↓zr_fs, ↓zr_s0, ↓zr_ss, ↓zr_len, ↓zr_len0, ↓zr_ok0, ↓zr_okn, ↓zr_oki, ↓zr_okr, ↓zr_oks, ↓zr_tt, ↓zr_ar0u, ↓zr_ar0n, ↓zr_ar1u, ↓zr_ar1n, ↓zr_ar2u, ↓zr_ar2n, ↓zr_obu, ↓zr_obn, ↓Nat.reduceAdd, Nat.reduceEqDiff, Nat.add_left_cancel_iff, not_false_eq_true, z_up_up, true_and, ↓sX8_record_0, ↓sX8_record_1, ↓sX8_record_4, ↓sX8_record_5, ↓sX8_record_8, ↓sX8_record_11, ↓sX8_record_12, ↓sX8_record_13, ↓sX8_record_16, ↓sX8_record_17, ↓sX8_record_18, ↓sX8_record_19, ↓sX8_record_22, ↓sX8_record_23, ↓sX8_record_26, ↓sX8_record_27, ↓sX8_record_30, ↓sX8_record_31, ↓sX8_record_34, zn_a, zn_b, zq1, zq2, zq3, zq4, zq5, zq6, zq7, eq_self, Int32.reduceLT, Int32.reduceLE, Int32.reduceAdd, not_true_eq_false, not_false_eq_true, false_implies, true_implies, and_true, true_and, or_true, true_or]
    exact hP _ _ ⟨zKc.rf _ _, Or.inr ⟨q1, rfl, h⟩⟩
  simp only [Option.toList, List.cons_append, List.nil_append]
  have g0 := (hf.2 b (by simp)).trans h0
  refine z_gn C E tkX8_record (Nat.zero_le _) (Nat.zero_le _) [] 60 ?_
  simp only [↓z_rn_f, ↓z_rn_t, ↓z_rn_0, ↓zr_in0, ↓zr_ins, ↓zr_inn, ↓zr_bt, ↓zr_bf, ↓zr_li0, ↓zr_lis, ↓zr_la0, ↓zr_las, ↓zr_ll0, ↓zr_lls, ↓zr_1i, ↓zr_1l, ↓zr_1a, ↓zr_2i, ↓zr_2l, ↓zr_lsi, ↓zr_ia, ↓zr_aa, ↓zr_dia, ↓zr_iia, ↓zr_lia, ↓zr_d1i, ↓zr_d1r, ↓zr_e1, ↓zr_e2, ↓zr_e0, ↓zr_f0, ↓zr_fs, ↓zr_s0, ↓zr_ss, ↓zr_len, ↓zr_len0, ↓zr_ok0, ↓zr_okn, ↓zr_oki, ↓zr_okr, ↓zr_oks, ↓zr_tt, ↓zr_ar0u, ↓zr_ar0n, ↓zr_ar1u, ↓zr_ar1n, ↓zr_ar2u, ↓zr_ar2n, ↓zr_obu, ↓zr_obn, ↓Nat.reduceAdd, Nat.reduceEqDiff, Nat.add_left_cancel_iff, not_false_eq_true, z_up_up, true_and, ↓sX8_record_0, ↓sX8_record_1, ↓sX8_record_4, ↓sX8_record_5, ↓sX8_record_8, ↓sX8_record_11, ↓sX8_record_12, ↓sX8_record_13, ↓sX8_record_16, ↓sX8_record_17, ↓sX8_record_18, ↓sX8_record_19, ↓sX8_record_22, ↓sX8_record_23, ↓sX8_record_26, ↓sX8_record_27, ↓sX8_record_30, ↓sX8_record_31, ↓sX8_record_34, ↓zh_ob g0, zn_a, zn_b, zq1, zq2, zq3, zq4, zq5, zq6, zq7, eq_self, Int32.reduceLT, Int32.reduceLE, Int32.reduceAdd, not_true_eq_false, not_false_eq_true, false_implies, true_implies, and_true, true_and, or_true, true_or]
  refine ⟨fun _ => ?_, fun a => ?_⟩
  · refine z_callV (n := 1) (As := [.int rc]) (rest := []) C E (c_Rows_numberOf G w1 (b + 10) (b + 11) (b + 12) (b + 13) 400 _ rc _ _ _ hr1) gX8_record_X5_numberOf rfl rfl rfl (by decide +kernel) (by decide) dX8_record_31 rfl ⟨Nat.zero_le _, Nat.zero_le _⟩ (Nat.le_of_ble_eq_true rfl) rfl hr1.1.1 ?_
    rintro x w2 ⟨⟨v, rfl, hv⟩, hw2⟩
    rw [hw2]
    simp only [Option.toList, List.cons_append, List.nil_append]
    have e := zi_a1 (x := rc) (by omega) (by omega)
    have hv1 := hv (by omega) (by omega)
    rw [show upd fn rc.toNatClampNeg (rc + 1) rc.toNatClampNeg = rc + 1 by simp [upd]] at hv1
    subst hv1
    refine z_gn C E tkX8_record (Nat.zero_le _) (Nat.zero_le _) [] 60 ?_
    simp only [↓z_rn_f, ↓z_rn_t, ↓z_rn_0, ↓zr_in0, ↓zr_ins, ↓zr_inn, ↓zr_bt, ↓zr_bf, ↓zr_li0, ↓zr_lis, ↓zr_la0, ↓zr_las, ↓zr_ll0, ↓zr_lls, ↓zr_1i, ↓zr_1l, ↓zr_1a, ↓zr_2i, ↓zr_2l, ↓zr_lsi, ↓zr_ia, ↓zr_aa, ↓zr_dia, ↓zr_iia, ↓zr_lia, ↓zr_d1i, ↓zr_d1r, ↓zr_e1, ↓zr_e2, ↓zr_e0, ↓zr_f0, ↓zr_fs, ↓zr_s0, ↓zr_ss, ↓zr_len, ↓zr_len0, ↓zr_ok0, ↓zr_okn, ↓zr_oki, ↓zr_okr, ↓zr_oks, ↓zr_tt, ↓zr_ar0u, ↓zr_ar0n, ↓zr_ar1u, ↓zr_ar1n, ↓zr_ar2u, ↓zr_ar2n, ↓zr_obu, ↓zr_obn, ↓Nat.reduceAdd, Nat.reduceEqDiff, Nat.add_left_cancel_iff, not_false_eq_true, z_up_up, true_and, ↓sX8_record_0, ↓sX8_record_1, ↓sX8_record_4, ↓sX8_record_5, ↓sX8_record_8, ↓sX8_record_11, ↓sX8_record_12, ↓sX8_record_13, ↓sX8_record_16, ↓sX8_record_17, ↓sX8_record_18, ↓sX8_record_19, ↓sX8_record_22, ↓sX8_record_23, ↓sX8_record_26, ↓sX8_record_27, ↓sX8_record_30, ↓sX8_record_31, ↓sX8_record_34]
    obtain ⟨r1, r2, ⟨td, r3⟩, ⟨he, rn, as, r4⟩, r5, r6, r7, r8, r9, r10, r11, r12⟩ := hR
    exact hP _ _ ⟨(zKc.rf _ _).fr hf (by intro k hk; simp at hk; omega), Or.inl ⟨by omega, rfl, ⟨rel, ar, st, tk, hd, fa, t1, t2, (hf.2 b (by simp)).trans h0, hok⟩, r1.fr _ hf (by simp), ⟨_, _, hr1⟩, ⟨td, r3.fr _ hf (by intro k hk; simp at hk; omega)⟩, ⟨he, rn, as, r4.fr _ hf (by intro k hk; simp at hk; omega)⟩, r5.fr _ hf (by simp), r6.fr _ hf (by intro k hk; simp at hk; omega), r7.fr _ hf (by simp), r8.fr _ hf (by simp), r9.fr _ hf (by intro k hk; simp at hk; omega), r10.fr _ hf (by simp), r11.fr _ hf (by simp), r12.fr _ hf (by simp)⟩⟩
  · rw [zi_eq, zi_m1] at a
    omega
def zLen (fl : Nat → Int32) (r i : Int32) : Int32 := if fl (r - 1).toNatClampNeg < i + 1 then i + 1 else fl (r - 1).toNatClampNeg
set_option maxRecDepth 100000 in
set_option maxHeartbeats 1000000 in
theorem k_octet (G : zG) (w : zW) (b : Nat) (r i v : Int32) (wy rc su : Int32) (fl : Nat → Int32) (h : zCl b w wy rc su fl) :
    z_M G yX8_octet wsX8_octet zrm2 0 0 [.ref b, .int r, .int i, .int v] w (fun x w' => zKc b w w' ∧ ((¬ (1 ≤ r.toInt ∧ r.toInt ≤ rc.toInt) ∧ x = some (.int (-2)) ∧ zCl b w' wy rc su fl) ∨ ((1 ≤ r.toInt ∧ r.toInt ≤ rc.toInt) ∧ ¬ (0 ≤ i.toInt ∧ i.toInt < 32) ∧ x = some (.int (-4)) ∧ zCl b w' wy rc su fl) ∨ ((1 ≤ r.toInt ∧ r.toInt ≤ rc.toInt) ∧ (0 ≤ i.toInt ∧ i.toInt < 32) ∧ x = some (.int (zLen fl r i)) ∧ zCl b w' wy rc su (upd fl (r - 1).toNatClampNeg (zLen fl r i))))) := by
  obtain ⟨⟨rel, ar, st, tk, hd, fa, t1, t2, h0, hok⟩, hR⟩ := id h
  unfold zSM at h0
  have ho1 := hok.1
  have ho4 := hok.2.2.2.1
  refine z_mt (nL := 4) (cc := cX8_octet) (ret := some .int) (by decide) rfl (Nat.le_of_ble_eq_true rfl) 0 [some (.ref b), some (.int r), some (.int i), some (.int v)] rfl ?_
  intro P hP Γ C E
  obtain ⟨fn, fb, hr⟩ := hR.2.1
  have hrc := hr.2.2.2.1
  refine z_gn C E tkX8_octet (Nat.zero_le _) (Nat.zero_le _) [] 60 ?_
  simp only [↓z_rn_f, ↓z_rn_t, ↓z_rn_0, ↓zr_in0, ↓zr_ins, ↓zr_inn, ↓zr_bt, ↓zr_bf, ↓zr_li0, ↓zr_lis, ↓zr_la0, ↓zr_las, ↓zr_ll0, ↓zr_lls, ↓zr_1i, ↓zr_1l, ↓zr_1a, ↓zr_2i, ↓zr_2l, ↓zr_lsi, ↓zr_ia, ↓zr_aa, ↓zr_dia, ↓zr_iia, ↓zr_lia, ↓zr_d1i, ↓zr_d1r, ↓zr_e1, ↓zr_e2, ↓zr_e0, ↓zr_f0, ↓zr_fs, ↓zr_s0, ↓zr_ss, ↓zr_len, ↓zr_len0, ↓zr_ok0, ↓zr_okn, ↓zr_oki, ↓zr_okr, ↓zr_oks, ↓zr_tt, ↓zr_ar0u, ↓zr_ar0n, ↓zr_ar1u, ↓zr_ar1n, ↓zr_ar2u, ↓zr_ar2n, ↓zr_obu, ↓zr_obn, ↓Nat.reduceAdd, Nat.reduceEqDiff, Nat.add_left_cancel_iff, not_false_eq_true, z_up_up, true_and, ↓sX8_octet_0, ↓sX8_octet_1, ↓sX8_octet_2, ↓sX8_octet_5, ↓sX8_octet_8, ↓sX8_octet_10, ↓sX8_octet_11, ↓sX8_octet_12, ↓sX8_octet_15, ↓sX8_octet_16, ↓sX8_octet_18, ↓sX8_octet_21, ↓sX8_octet_23, ↓sX8_octet_24, ↓sX8_octet_25, ↓sX8_octet_28, ↓sX8_octet_29, ↓sX8_octet_30, ↓sX8_octet_31, ↓sX8_octet_32, ↓sX8_octet_33, ↓sX8_octet_36, ↓sX8_octet_37, ↓sX8_octet_40, ↓sX8_octet_41, ↓sX8_octet_44, ↓sX8_octet_45, ↓sX8_octet_46, ↓sX8_octet_47, ↓sX8_octet_50, ↓zh_ob h0, zn_a, zn_b, zq1, zq2, zq3, zq4, zq5, zq6, zq7, eq_self, Int32.reduceLT, Int32.reduceLE, Int32.reduceAdd, not_true_eq_false, not_false_eq_true, false_implies, true_implies, and_true, true_and, or_true, true_or]
  refine z_callV (n := 1) (As := [.int r]) (rest := []) C E (k_isRecord G w b r wy rc su fl h) gX8_octet_X8_isRecord rfl rfl rfl (by decide +kernel) (by decide) dX8_octet_2 rfl ⟨Nat.zero_le _, Nat.zero_le _⟩ (Nat.le_of_ble_eq_true rfl) rfl h0 ?_
  rintro x w1 ⟨rfl, hw1⟩
  rw [hw1]
  clear hw1 w1
  simp only [Option.toList, List.cons_append, List.nil_append]
  by_cases hq : ¬ (1 ≤ r.toInt ∧ r.toInt ≤ rc.toInt)
  · rw [if_neg hq]
    refine z_gn C E tkX8_octet (Nat.zero_le _) (Nat.zero_le _) [11] 60 ?_
    simp only [↓z_rn_f, ↓z_rn_t, ↓z_rn_0, ↓zr_in0, ↓zr_ins, ↓zr_inn, ↓zr_bt, ↓zr_bf, ↓zr_li0, ↓zr_lis, ↓zr_la0, ↓zr_las, ↓zr_ll0, ↓zr_lls, ↓zr_1i, ↓zr_1l, ↓zr_1a, ↓zr_2i, ↓zr_2l, ↓zr_lsi, ↓zr_ia, ↓zr_aa, ↓zr_dia, ↓zr_iia, ↓zr_lia, ↓zr_d1i, ↓zr_d1r, ↓zr_e1, ↓zr_e2, ↓zr_e0, ↓zr_f0, ↓zr_fs, ↓zr_s0, ↓zr_ss, ↓zr_len, ↓zr_len0, ↓zr_ok0, ↓zr_okn, ↓zr_oki, ↓zr_okr, ↓zr_oks, ↓zr_tt, ↓zr_ar0u, ↓zr_ar0n, ↓zr_ar1u, ↓zr_ar1n, ↓zr_ar2u, ↓zr_ar2n, ↓zr_obu, ↓zr_obn, ↓Nat.reduceAdd, Nat.reduceEqDiff, Nat.add_left_cancel_iff, not_false_eq_true, z_up_up, true_and, ↓sX8_octet_0, ↓sX8_octet_1, ↓sX8_octet_2, ↓sX8_octet_5, ↓sX8_octet_8, ↓sX8_octet_10, ↓sX8_octet_11, ↓sX8_octet_12, ↓sX8_octet_15, ↓sX8_octet_16, ↓sX8_octet_18, ↓sX8_octet_21, ↓sX8_octet_23, ↓sX8_octet_24, ↓sX8_octet_25, ↓sX8_octet_28, ↓sX8_octet_29, ↓sX8_octet_30, ↓sX8_octet_31, ↓sX8_octet_32, ↓sX8_octet_33, ↓sX8_octet_36, ↓sX8_octet_37, ↓sX8_octet_40, ↓sX8_octet_41, ↓sX8_octet_44, ↓sX8_octet_45, ↓sX8_octet_46, ↓sX8_octet_47, ↓sX8_octet_50, zn_a, zn_b, zq1, zq2, zq3, zq4, zq5, zq6, zq7, eq_self, Int32.reduceLT, Int32.reduceLE, Int32.reduceAdd, not_true_eq_false, not_false_eq_true, false_implies, true_implies, and_true, true_and, or_true, true_or]
    exact hP _ _ ⟨zKc.rf _ _, Or.inl ⟨hq, rfl, h⟩⟩
  replace hq := Decidable.not_not.mp hq
  rw [if_pos hq]
  refine z_gn C E tkX8_octet (Nat.zero_le _) (Nat.zero_le _) [] 60 ?_
  simp only [↓z_rn_f, ↓z_rn_t, ↓z_rn_0, ↓zr_in0, ↓zr_ins, ↓zr_inn, ↓zr_bt, ↓zr_bf, ↓zr_li0, ↓zr_lis, ↓zr_la0, ↓zr_las, ↓zr_ll0, ↓zr_lls, ↓zr_1i, ↓zr_1l, ↓zr_1a, ↓zr_2i, ↓zr_2l, ↓zr_lsi, ↓zr_ia, ↓zr_aa, ↓zr_dia, ↓zr_iia, ↓zr_lia, ↓zr_d1i, ↓zr_d1r, ↓zr_e1, ↓zr_e2, ↓zr_e0, ↓zr_f0, ↓zr_fs, ↓zr_s0, ↓zr_ss, ↓zr_len, ↓zr_len0, ↓zr_ok0, ↓zr_okn, ↓zr_oki, ↓zr_okr, ↓zr_oks, ↓zr_tt, ↓zr_ar0u, ↓zr_ar0n, ↓zr_ar1u, ↓zr_ar1n, ↓zr_ar2u, ↓zr_ar2n, ↓zr_obu, ↓zr_obn, ↓Nat.reduceAdd, Nat.reduceEqDiff, Nat.add_left_cancel_iff, not_false_eq_true, z_up_up, true_and, ↓sX8_octet_0, ↓sX8_octet_1, ↓sX8_octet_2, ↓sX8_octet_5, ↓sX8_octet_8, ↓sX8_octet_10, ↓sX8_octet_11, ↓sX8_octet_12, ↓sX8_octet_15, ↓sX8_octet_16, ↓sX8_octet_18, ↓sX8_octet_21, ↓sX8_octet_23, ↓sX8_octet_24, ↓sX8_octet_25, ↓sX8_octet_28, ↓sX8_octet_29, ↓sX8_octet_30, ↓sX8_octet_31, ↓sX8_octet_32, ↓sX8_octet_33, ↓sX8_octet_36, ↓sX8_octet_37, ↓sX8_octet_40, ↓sX8_octet_41, ↓sX8_octet_44, ↓sX8_octet_45, ↓sX8_octet_46, ↓sX8_octet_47, ↓sX8_octet_50, ↓zh_ob h0, zn_a, zn_b, zq1, zq2, zq3, zq4, zq5, zq6, zq7, eq_self, Int32.reduceLT, Int32.reduceLE, Int32.reduceAdd, not_true_eq_false, not_false_eq_true, false_implies, true_implies, and_true, true_and, or_true, true_or]
  have no : ¬ (0 ≤ i.toInt ∧ i.toInt < 32) → P (some (.int (-4))) w := fun q => hP _ _ ⟨zKc.rf _ _, Or.inr (Or.inl ⟨hq, q, rfl, h⟩)⟩
  refine ⟨fun a1 => no (by simp only [zi_lt, zi_le, zi_0, zi_1, zi_m1, zi_2, zi_32] at a1; omega), fun a1 => ⟨fun a2 => ?_, fun a2 => no (by simp only [zi_lt, zi_le, zi_0, zi_1, zi_m1, zi_2, zi_32] at a2; omega)⟩⟩
  simp only [zi_lt, zi_le, zi_0, zi_1, zi_m1, zi_2, zi_32] at a1 a2
  have e1 := zi_s1 (x := r) (by omega) (by omega)
  refine z_callV (n := 3) (As := [.int _, .int i, .int _]) (rest := []) C E (c_Rows_put G w (b + 10) (b + 11) (b + 12) (b + 13) 400 rc (r - 1) i _ fn fl fb hr) gX8_octet_X5_put rfl rfl rfl (by decide +kernel) (by decide) dX8_octet_37 rfl ⟨Nat.zero_le _, Nat.zero_le _⟩ (Nat.le_of_ble_eq_true rfl) rfl hr.1.1 ?_
  rintro x w1 ⟨rfl, hf, fl', fb', hr1, he1⟩
  have he2 := he1 (by omega) (by omega) (by omega) (by omega)
  subst he2
  simp only [Option.toList, List.cons_append, List.nil_append]
  have g0 := (hf.2 b (by simp)).trans h0
  refine z_gn C E tkX8_octet (Nat.zero_le _) (Nat.zero_le _) [] 60 ?_
  simp only [↓z_rn_f, ↓z_rn_t, ↓z_rn_0, ↓zr_in0, ↓zr_ins, ↓zr_inn, ↓zr_bt, ↓zr_bf, ↓zr_li0, ↓zr_lis, ↓zr_la0, ↓zr_las, ↓zr_ll0, ↓zr_lls, ↓zr_1i, ↓zr_1l, ↓zr_1a, ↓zr_2i, ↓zr_2l, ↓zr_lsi, ↓zr_ia, ↓zr_aa, ↓zr_dia, ↓zr_iia, ↓zr_lia, ↓zr_d1i, ↓zr_d1r, ↓zr_e1, ↓zr_e2, ↓zr_e0, ↓zr_f0, ↓zr_fs, ↓zr_s0, ↓zr_ss, ↓zr_len, ↓zr_len0, ↓zr_ok0, ↓zr_okn, ↓zr_oki, ↓zr_okr, ↓zr_oks, ↓zr_tt, ↓zr_ar0u, ↓zr_ar0n, ↓zr_ar1u, ↓zr_ar1n, ↓zr_ar2u, ↓zr_ar2n, ↓zr_obu, ↓zr_obn, ↓Nat.reduceAdd, Nat.reduceEqDiff, Nat.add_left_cancel_iff, not_false_eq_true, z_up_up, true_and, ↓sX8_octet_0, ↓sX8_octet_1, ↓sX8_octet_2, ↓sX8_octet_5, ↓sX8_octet_8, ↓sX8_octet_10, ↓sX8_octet_11, ↓sX8_octet_12, ↓sX8_octet_15, ↓sX8_octet_16, ↓sX8_octet_18, ↓sX8_octet_21, ↓sX8_octet_23, ↓sX8_octet_24, ↓sX8_octet_25, ↓sX8_octet_28, ↓sX8_octet_29, ↓sX8_octet_30, ↓sX8_octet_31, ↓sX8_octet_32, ↓sX8_octet_33, ↓sX8_octet_36, ↓sX8_octet_37, ↓sX8_octet_40, ↓sX8_octet_41, ↓sX8_octet_44, ↓sX8_octet_45, ↓sX8_octet_46, ↓sX8_octet_47, ↓sX8_octet_50, ↓zh_ob g0, zn_a, zn_b, zq1, zq2, zq3, zq4, zq5, zq6, zq7, eq_self, Int32.reduceLT, Int32.reduceLE, Int32.reduceAdd, not_true_eq_false, not_false_eq_true, false_implies, true_implies, and_true, true_and, or_true, true_or]
  refine z_callV (n := 1) (As := [.int _]) (rest := []) C E (c_Rows_lengthOf G w1 (b + 10) (b + 11) (b + 12) (b + 13) 400 rc (r - 1) _ _ _ hr1) gX8_octet_X5_lengthOf rfl rfl rfl (by decide +kernel) (by decide) dX8_octet_47 rfl ⟨Nat.zero_le _, Nat.zero_le _⟩ (Nat.le_of_ble_eq_true rfl) rfl hr1.1.1 ?_
  rintro x w2 ⟨⟨y, rfl, -, -, hv⟩, hw2⟩
  rw [hw2]
  simp only [Option.toList, List.cons_append, List.nil_append]
  have hv1 := hv (by omega) (by omega)
  rw [show ∀ z, upd fl (r - 1).toNatClampNeg z (r - 1).toNatClampNeg = z from fun z => by simp [upd]] at hv1
  subst hv1
  refine z_gn C E tkX8_octet (Nat.zero_le _) (Nat.zero_le _) [] 60 ?_
  simp only [↓z_rn_f, ↓z_rn_t, ↓z_rn_0, ↓zr_in0, ↓zr_ins, ↓zr_inn, ↓zr_bt, ↓zr_bf, ↓zr_li0, ↓zr_lis, ↓zr_la0, ↓zr_las, ↓zr_ll0, ↓zr_lls, ↓zr_1i, ↓zr_1l, ↓zr_1a, ↓zr_2i, ↓zr_2l, ↓zr_lsi, ↓zr_ia, ↓zr_aa, ↓zr_dia, ↓zr_iia, ↓zr_lia, ↓zr_d1i, ↓zr_d1r, ↓zr_e1, ↓zr_e2, ↓zr_e0, ↓zr_f0, ↓zr_fs, ↓zr_s0, ↓zr_ss, ↓zr_len, ↓zr_len0, ↓zr_ok0, ↓zr_okn, ↓zr_oki, ↓zr_okr, ↓zr_oks, ↓zr_tt, ↓zr_ar0u, ↓zr_ar0n, ↓zr_ar1u, ↓zr_ar1n, ↓zr_ar2u, ↓zr_ar2n, ↓zr_obu, ↓zr_obn, ↓Nat.reduceAdd, Nat.reduceEqDiff, Nat.add_left_cancel_iff, not_false_eq_true, z_up_up, true_and, ↓sX8_octet_0, ↓sX8_octet_1, ↓sX8_octet_2, ↓sX8_octet_5, ↓sX8_octet_8, ↓sX8_octet_10, ↓sX8_octet_11, ↓sX8_octet_12, ↓sX8_octet_15, ↓sX8_octet_16, ↓sX8_octet_18, ↓sX8_octet_21, ↓sX8_octet_23, ↓sX8_octet_24, ↓sX8_octet_25, ↓sX8_octet_28, ↓sX8_octet_29, ↓sX8_octet_30, ↓sX8_octet_31, ↓sX8_octet_32, ↓sX8_octet_33, ↓sX8_octet_36, ↓sX8_octet_37, ↓sX8_octet_40, ↓sX8_octet_41, ↓sX8_octet_44, ↓sX8_octet_45, ↓sX8_octet_46, ↓sX8_octet_47, ↓sX8_octet_50]
  obtain ⟨r1, r2, ⟨td, r3⟩, ⟨he, rn, as, r4⟩, r5, r6, r7, r8, r9, r10, r11, r12⟩ := hR
  exact hP _ _ ⟨(zKc.rf _ _).fr hf (by intro k hk; simp at hk; omega), Or.inr (Or.inr ⟨hq, by omega, rfl, ⟨rel, ar, st, tk, hd, fa, t1, t2, (hf.2 b (by simp)).trans h0, hok⟩, r1.fr _ hf (by simp), ⟨_, _, hr1⟩, ⟨td, r3.fr _ hf (by intro k hk; simp at hk; omega)⟩, ⟨he, rn, as, r4.fr _ hf (by intro k hk; simp at hk; omega)⟩, r5.fr _ hf (by simp), r6.fr _ hf (by intro k hk; simp at hk; omega), r7.fr _ hf (by simp), r8.fr _ hf (by simp), r9.fr _ hf (by intro k hk; simp at hk; omega), r10.fr _ hf (by simp), r11.fr _ hf (by simp), r12.fr _ hf (by simp)⟩)⟩
set_option maxRecDepth 100000 in
set_option maxHeartbeats 1000000 in
theorem k_sum (G : zG) (w : zW) (b : Nat) (fr sz : Int32) (wy rc su : Int32) (fl : Nat → Int32) (h : zCl b w wy rc su fl) :
    z_M G yX8_sum wsX8_sum zrm1 0 0 [.ref b, .int fr, .int sz] w (fun x w' => zKc b w w' ∧ ((zFld fr sz 8 = 0 ∧ x = some (.int (-4)) ∧ zCl b w' wy rc su fl) ∨ (¬ zFld fr sz 8 = 0 ∧ su.toInt = 4 ∧ x = some (.int (-1)) ∧ zCl b w' wy rc su fl) ∨ (¬ zFld fr sz 8 = 0 ∧ su.toInt < 4 ∧ x = some (.int (su + 1)) ∧ zCl b w' wy rc (su + 1) fl))) := by
  obtain ⟨⟨rel, ar, st, tk, hd, fa, t1, t2, h0, hok⟩, hR⟩ := id h
  unfold zSM at h0
  have ho1 := hok.1
  have ho4 := hok.2.2.2.1
  refine z_mt (nL := 3) (cc := cX8_sum) (ret := some .int) (by decide) rfl (Nat.le_of_ble_eq_true rfl) 0 [some (.ref b), some (.int fr), some (.int sz)] rfl ?_
  intro P hP Γ C E
  have r6 := hR.2.2.2.2.2.1
  have h20 := r6.1.choose_spec.choose_spec.choose_spec.1
  refine z_gn C E tkX8_sum (Nat.zero_le _) (Nat.zero_le _) [] 60 ?_
  simp only [↓z_rn_f, ↓z_rn_t, ↓z_rn_0, ↓zr_in0, ↓zr_ins, ↓zr_inn, ↓zr_bt, ↓zr_bf, ↓zr_li0, ↓zr_lis, ↓zr_la0, ↓zr_las, ↓zr_ll0, ↓zr_lls, ↓zr_1i, ↓zr_1l, ↓zr_1a, ↓zr_2i, ↓zr_2l, ↓zr_lsi, ↓zr_ia, ↓zr_aa, ↓zr_dia, ↓zr_iia, ↓zr_lia, ↓zr_d1i, ↓zr_d1r, ↓zr_e1, ↓zr_e2, ↓zr_e0, ↓zr_f0, ↓zr_fs, ↓zr_s0, ↓zr_ss, ↓zr_len, ↓zr_len0, ↓zr_ok0, ↓zr_okn, ↓zr_oki, ↓zr_okr, ↓zr_oks, ↓zr_tt, ↓zr_ar0u, ↓zr_ar0n, ↓zr_ar1u, ↓zr_ar1n, ↓zr_ar2u, ↓zr_ar2n, ↓zr_obu, ↓zr_obn, ↓Nat.reduceAdd, Nat.reduceEqDiff, Nat.add_left_cancel_iff, not_false_eq_true, z_up_up, true_and, ↓sX8_sum_0, ↓sX8_sum_1, ↓sX8_sum_2, ↓sX8_sum_4, ↓sX8_sum_7, ↓sX8_sum_10, ↓sX8_sum_12, ↓sX8_sum_13, ↓sX8_sum_14, ↓sX8_sum_17, ↓sX8_sum_18, ↓sX8_sum_19, ↓sX8_sum_22, ↓zh_ob h0, zn_a, zn_b, zq1, zq2, zq3, zq4, zq5, zq6, zq7, eq_self, Int32.reduceLT, Int32.reduceLE, Int32.reduceAdd, not_true_eq_false, not_false_eq_true, false_implies, true_implies, and_true, true_and, or_true, true_or]
  refine z_callS (n := 3) (As := [.int fr, .int sz, .int 8]) (rest := []) C E (c_isField G w fr sz 8) gX8_sum_X8_isField rfl rfl rfl (by decide +kernel) (by decide) dX8_sum_4 rfl ⟨Nat.zero_le _, Nat.zero_le _⟩ (Nat.le_of_ble_eq_true rfl) ?_
  rintro x w1 ⟨rfl, hw1⟩
  rw [hw1]
  clear hw1 w1
  simp only [Option.toList, List.cons_append, List.nil_append]
  refine z_gn C E tkX8_sum (Nat.zero_le _) (Nat.zero_le _) [] 60 ?_
  simp only [↓z_rn_f, ↓z_rn_t, ↓z_rn_0, ↓zr_in0, ↓zr_ins, ↓zr_inn, ↓zr_bt, ↓zr_bf, ↓zr_li0, ↓zr_lis, ↓zr_la0, ↓zr_las, ↓zr_ll0, ↓zr_lls, ↓zr_1i, ↓zr_1l, ↓zr_1a, ↓zr_2i, ↓zr_2l, ↓zr_lsi, ↓zr_ia, ↓zr_aa, ↓zr_dia, ↓zr_iia, ↓zr_lia, ↓zr_d1i, ↓zr_d1r, ↓zr_e1, ↓zr_e2, ↓zr_e0, ↓zr_f0, ↓zr_fs, ↓zr_s0, ↓zr_ss, ↓zr_len, ↓zr_len0, ↓zr_ok0, ↓zr_okn, ↓zr_oki, ↓zr_okr, ↓zr_oks, ↓zr_tt, ↓zr_ar0u, ↓zr_ar0n, ↓zr_ar1u, ↓zr_ar1n, ↓zr_ar2u, ↓zr_ar2n, ↓zr_obu, ↓zr_obn, ↓Nat.reduceAdd, Nat.reduceEqDiff, Nat.add_left_cancel_iff, not_false_eq_true, z_up_up, true_and, ↓sX8_sum_0, ↓sX8_sum_1, ↓sX8_sum_2, ↓sX8_sum_4, ↓sX8_sum_7, ↓sX8_sum_10, ↓sX8_sum_12, ↓sX8_sum_13, ↓sX8_sum_14, ↓sX8_sum_17, ↓sX8_sum_18, ↓sX8_sum_19, ↓sX8_sum_22, ↓zh_ob h0, zn_a, zn_b, zq1, zq2, zq3, zq4, zq5, zq6, zq7, eq_self, Int32.reduceLT, Int32.reduceLE, Int32.reduceAdd, not_true_eq_false, not_false_eq_true, false_implies, true_implies, and_true, true_and, or_true, true_or]
  refine ⟨fun a1 => ?_, fun a1 => hP _ _ ⟨zKc.rf _ _, Or.inl ⟨a1, rfl, h⟩⟩⟩
  have hb1 : 0 ≤ fr.toInt ∧ fr.toInt ≤ 31 ∧ 0 ≤ sz.toInt ∧ sz.toInt ≤ 32 := by
    unfold zFld at a1
    have z8 : (8 : Int32).toInt = 8 := by decide
    rw [z8] at a1
    by_cases q : 0 ≤ fr.toInt ∧ fr.toInt < 32 ∧ 1 ≤ sz.toInt ∧ sz.toInt ≤ 8 ∧ sz.toInt ≤ (32 - fr).toInt
    · omega
    · rw [if_neg q] at a1
      exact absurd rfl a1
  refine z_callV (n := 2) (As := [.int fr, .int sz]) (rest := []) C E (c_Sums_tell G w b su fr sz r6 (by omega) (by omega)) gX8_sum_X6_tell rfl rfl rfl (by decide +kernel) (by decide) dX8_sum_19 rfl ⟨Nat.zero_le _, Nat.zero_le _⟩ (Nat.le_of_ble_eq_true rfl) rfl h20 ?_
  rintro x w1 ⟨hf, hx⟩
  have hc : zKc b w w1 := (zKc.rf _ _).fr hf (by intro k hk; simp at hk; omega)
  obtain ⟨r1, r2, ⟨td, r3⟩, ⟨he, rn, as, r4⟩, r5, -, r7, r8, r9, r10, r11, r12⟩ := hR
  rcases hx with ⟨q1, rfl, q2⟩ | ⟨q1, rfl, q2⟩
  · simp only [Option.toList, List.cons_append, List.nil_append]
    refine z_gn C E tkX8_sum (Nat.zero_le _) (Nat.zero_le _) [] 60 ?_
    simp only [↓z_rn_f, ↓z_rn_t, ↓z_rn_0, ↓zr_in0, ↓zr_ins, ↓zr_inn, ↓zr_bt, ↓zr_bf, ↓zr_li0, ↓zr_lis, ↓zr_la0, ↓zr_las, ↓zr_ll0, ↓zr_lls, ↓zr_1i, ↓zr_1l, ↓zr_1a, ↓zr_2i, ↓zr_2l, ↓zr_lsi, ↓zr_ia, ↓zr_aa, ↓zr_dia, ↓zr_iia, ↓zr_lia, ↓zr_d1i, ↓zr_d1r, ↓zr_e1, ↓zr_e2, ↓zr_e0, ↓zr_f0, ↓zr_fs, ↓zr_s0, ↓zr_ss, ↓zr_len, ↓zr_len0, ↓zr_ok0, ↓zr_okn, ↓zr_oki, ↓zr_okr, ↓zr_oks, ↓zr_tt, ↓zr_ar0u, ↓zr_ar0n, ↓zr_ar1u, ↓zr_ar1n, ↓zr_ar2u, ↓zr_ar2n, ↓zr_obu, ↓zr_obn, ↓Nat.reduceAdd, Nat.reduceEqDiff, Nat.add_left_cancel_iff, not_false_eq_true, z_up_up, true_and, ↓sX8_sum_0, ↓sX8_sum_1, ↓sX8_sum_2, ↓sX8_sum_4, ↓sX8_sum_7, ↓sX8_sum_10, ↓sX8_sum_12, ↓sX8_sum_13, ↓sX8_sum_14, ↓sX8_sum_17, ↓sX8_sum_18, ↓sX8_sum_19, ↓sX8_sum_22]
    exact hP _ _ ⟨hc, Or.inr (Or.inl ⟨a1, q1, rfl, ⟨rel, ar, st, tk, hd, fa, t1, t2, (hf.2 b (by simp)).trans h0, hok⟩, r1.fr _ hf (by simp), r2.fr _ hf (by simp), ⟨td, r3.fr _ hf (by intro k hk; simp at hk; omega)⟩, ⟨he, rn, as, r4.fr _ hf (by intro k hk; simp at hk; omega)⟩, r5.fr _ hf (by simp), q2, r7.fr _ hf (by simp), r8.fr _ hf (by simp), r9.fr _ hf (by intro k hk; simp at hk; omega), r10.fr _ hf (by simp), r11.fr _ hf (by simp), r12.fr _ hf (by simp)⟩)⟩
  · simp only [Option.toList, List.cons_append, List.nil_append]
    refine z_gn C E tkX8_sum (Nat.zero_le _) (Nat.zero_le _) [] 60 ?_
    simp only [↓z_rn_f, ↓z_rn_t, ↓z_rn_0, ↓zr_in0, ↓zr_ins, ↓zr_inn, ↓zr_bt, ↓zr_bf, ↓zr_li0, ↓zr_lis, ↓zr_la0, ↓zr_las, ↓zr_ll0, ↓zr_lls, ↓zr_1i, ↓zr_1l, ↓zr_1a, ↓zr_2i, ↓zr_2l, ↓zr_lsi, ↓zr_ia, ↓zr_aa, ↓zr_dia, ↓zr_iia, ↓zr_lia, ↓zr_d1i, ↓zr_d1r, ↓zr_e1, ↓zr_e2, ↓zr_e0, ↓zr_f0, ↓zr_fs, ↓zr_s0, ↓zr_ss, ↓zr_len, ↓zr_len0, ↓zr_ok0, ↓zr_okn, ↓zr_oki, ↓zr_okr, ↓zr_oks, ↓zr_tt, ↓zr_ar0u, ↓zr_ar0n, ↓zr_ar1u, ↓zr_ar1n, ↓zr_ar2u, ↓zr_ar2n, ↓zr_obu, ↓zr_obn, ↓Nat.reduceAdd, Nat.reduceEqDiff, Nat.add_left_cancel_iff, not_false_eq_true, z_up_up, true_and, ↓sX8_sum_0, ↓sX8_sum_1, ↓sX8_sum_2, ↓sX8_sum_4, ↓sX8_sum_7, ↓sX8_sum_10, ↓sX8_sum_12, ↓sX8_sum_13, ↓sX8_sum_14, ↓sX8_sum_17, ↓sX8_sum_18, ↓sX8_sum_19, ↓sX8_sum_22]
    exact hP _ _ ⟨hc, Or.inr (Or.inr ⟨a1, q1, rfl, ⟨rel, ar, st, tk, hd, fa, t1, t2, (hf.2 b (by simp)).trans h0, hok⟩, r1.fr _ hf (by simp), r2.fr _ hf (by simp), ⟨td, r3.fr _ hf (by intro k hk; simp at hk; omega)⟩, ⟨he, rn, as, r4.fr _ hf (by intro k hk; simp at hk; omega)⟩, r5.fr _ hf (by simp), q2, r7.fr _ hf (by simp), r8.fr _ hf (by simp), r9.fr _ hf (by intro k hk; simp at hk; omega), r10.fr _ hf (by simp), r11.fr _ hf (by simp), r12.fr _ hf (by simp)⟩)⟩
