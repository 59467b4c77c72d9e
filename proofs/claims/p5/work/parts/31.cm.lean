set_option maxRecDepth 100000 in
set_option maxHeartbeats 1000000 in
theorem k_isRecord (G : zG) (w : zW) (b : Nat) (r : Int32) (wy rc su : Int32) (fl : Nat → Int32) (h : zCl b w wy rc su fl) :
    z_M G yX8_isRecord wsX8_isRecord zrm1 0 0 [.ref b, .int r] w (fun x w' => x = some (.int (if 1 ≤ r.toInt ∧ r.toInt ≤ rc.toInt then 1 else 0)) ∧ w' = w) := by
  obtain ⟨⟨rel, ar, st, tk, hd, fa, t1, t2, h0, hok⟩, hR⟩ := id h
  unfold zSM at h0
  have ho1 := hok.1
  have ho4 := hok.2.2.2.1
  refine z_mt (nL := 2) (cc := cX8_isRecord) (ret := some .boolean) (by decide) rfl (Nat.le_of_ble_eq_true rfl) 0 [some (.ref b), some (.int r)] rfl ?_
  intro P hP Γ C E
  obtain ⟨fn, fb, hr⟩ := hR.2.1
  refine z_gn C E tkX8_isRecord (Nat.zero_le _) (Nat.zero_le _) [] 60 ?_
  simp only [↓z_rn_f, ↓z_rn_t, ↓z_rn_0, ↓zr_in0, ↓zr_ins, ↓zr_inn, ↓zr_bt, ↓zr_bf, ↓zr_li0, ↓zr_lis, ↓zr_la0, ↓zr_las, ↓zr_ll0, ↓zr_lls, ↓zr_1i, ↓zr_1l, ↓zr_1a, ↓zr_2i, ↓zr_2l, ↓zr_lsi, ↓zr_ia, ↓zr_aa, ↓zr_dia, ↓zr_iia, ↓zr_lia, ↓zr_d1i, ↓zr_d1r, ↓zr_e1, ↓zr_e2, ↓zr_e0, ↓zr_f0, ↓zr_fs, ↓zr_s0, ↓zr_ss, ↓zr_len, ↓zr_len0, ↓zr_ok0, ↓zr_okn, ↓zr_oki, ↓zr_okr, ↓zr_oks, ↓zr_tt, ↓zr_ar0u, ↓zr_ar0n, ↓zr_ar1u, ↓zr_ar1n, ↓zr_ar2u, ↓zr_ar2n, ↓zr_obu, ↓zr_obn, ↓Nat.reduceAdd, Nat.reduceEqDiff, Nat.add_left_cancel_iff, not_false_eq_true, z_up_up, true_and, ↓sX8_isRecord_0, ↓sX8_isRecord_1, ↓sX8_isRecord_2, ↓sX8_isRecord_5, ↓sX8_isRecord_6, ↓sX8_isRecord_7, ↓sX8_isRecord_10, ↓sX8_isRecord_13, ↓sX8_isRecord_16, ↓sX8_isRecord_17, ↓sX8_isRecord_20, ↓sX8_isRecord_21, ↓zh_ob h0, zn_a, zn_b, zq1, zq2, zq3, zq4, zq5, zq6, zq7, eq_self, Int32.reduceLT, Int32.reduceLE, Int32.reduceAdd, not_true_eq_false, not_false_eq_true, false_implies, true_implies, and_true, true_and, or_true, true_or]
  refine ⟨fun a1 => hP _ _ ⟨?_, rfl⟩, fun a1 => ?_⟩
  · simp only [zi_lt, zi_le, zi_0, zi_1, zi_m1, zi_2, zi_32] at a1
    rw [if_neg (by omega)]
  refine z_callV (n := 0) (As := []) (rest := [.int r]) C E (c_Rows_held G w (b + 10) (b + 11) (b + 12) (b + 13) 400 rc fn fl fb hr) gX8_isRecord_X5_held rfl rfl rfl (by decide +kernel) (by decide) dX8_isRecord_10 rfl ⟨Nat.zero_le _, Nat.zero_le _⟩ (Nat.le_of_ble_eq_true rfl) rfl hr.1.1 ?_
  rintro x w1 ⟨rfl, hw1⟩
  rw [hw1]
  clear hw1 w1
  simp only [Option.toList, List.cons_append, List.nil_append]
  refine z_gn C E tkX8_isRecord (Nat.zero_le _) (Nat.zero_le _) [] 60 ?_
  simp only [↓z_rn_f, ↓z_rn_t, ↓z_rn_0, ↓zr_in0, ↓zr_ins, ↓zr_inn, ↓zr_bt, ↓zr_bf, ↓zr_li0, ↓zr_lis, ↓zr_la0, ↓zr_las, ↓zr_ll0, ↓zr_lls, ↓zr_1i, ↓zr_1l, ↓zr_1a, ↓zr_2i, ↓zr_2l, ↓zr_lsi, ↓zr_ia, ↓zr_aa, ↓zr_dia, ↓zr_iia, ↓zr_lia, ↓zr_d1i, ↓zr_d1r, ↓zr_e1, ↓zr_e2, ↓zr_e0, ↓zr_f0, ↓zr_fs, ↓zr_s0, ↓zr_ss, ↓zr_len, ↓zr_len0, ↓zr_ok0, ↓zr_okn, ↓zr_oki, ↓zr_okr, ↓zr_oks, ↓zr_tt, ↓zr_ar0u, ↓zr_ar0n, ↓zr_ar1u, ↓zr_ar1n, ↓zr_ar2u, ↓zr_ar2n, ↓zr_obu, ↓zr_obn, ↓Nat.reduceAdd, Nat.reduceEqDiff, Nat.add_left_cancel_iff, not_false_eq_true, z_up_up, true_and, ↓sX8_isRecord_0, ↓sX8_isRecord_1, ↓sX8_isRecord_2, ↓sX8_isRecord_5, ↓sX8_isRecord_6, ↓sX8_isRecord_7, ↓sX8_isRecord_10, ↓sX8_isRecord_13, ↓sX8_isRecord_16, ↓sX8_isRecord_17, ↓sX8_isRecord_20, ↓sX8_isRecord_21, zn_a, zn_b, zq1, zq2, zq3, zq4, zq5, zq6, zq7, eq_self, Int32.reduceLT, Int32.reduceLE, Int32.reduceAdd, not_true_eq_false, not_false_eq_true, false_implies, true_implies, and_true, true_and, or_true, true_or]
  simp only [zi_lt, zi_le, zi_0, zi_1, zi_m1, zi_2, zi_32] at a1
  refine ⟨fun a2 => hP _ _ ⟨?_, rfl⟩, fun a2 => hP _ _ ⟨?_, rfl⟩⟩
  · simp only [zi_lt, zi_le, zi_0, zi_1, zi_m1, zi_2, zi_32] at a2
    rw [if_neg (by omega)]
  · simp only [zi_lt, zi_le, zi_0, zi_1, zi_m1, zi_2, zi_32] at a2
    rw [if_pos (by omega)]
def zA_incl (i op v : Int32) : Int32 := if 0 ≤ i.toInt ∧ i.toInt < 32 ∧ 0 ≤ op.toInt ∧ op.toInt ≤ 4 ∧ 0 ≤ v.toInt ∧ v.toInt ≤ 255 then 1 else -4
set_option maxRecDepth 100000 in
set_option maxHeartbeats 1000000 in
theorem k_include (G : zG) (w : zW) (b : Nat) (i op v : Int32) (wy rc su : Int32) (fl : Nat → Int32) (h : zCl b w wy rc su fl) :
    z_M G yX8_include wsX8_include zrm1 0 0 [.ref b, .int i, .int op, .int v] w (fun x w' => zKc b w w' ∧ zCl b w' wy rc su fl ∧ x = some (.int (zA_incl i op v))) := by
  obtain ⟨⟨rel, ar, st, tk, hd, fa, t1, t2, h0, hok⟩, hR⟩ := id h
  unfold zSM at h0
  have ho1 := hok.1
  have ho4 := hok.2.2.2.1
  refine z_mt (nL := 4) (cc := cX8_include) (ret := some .int) (by decide) rfl (Nat.le_of_ble_eq_true rfl) 0 [some (.ref b), some (.int i), some (.int op), some (.int v)] rfl ?_
  intro P hP Γ C E
  obtain ⟨p9, o9, v9, h19⟩ := hR.2.2.2.2.1
  have hgo : (0 ≤ i.toInt ∧ i.toInt < 32 ∧ 0 ≤ op.toInt ∧ op.toInt ≤ 4 ∧ 0 ≤ v.toInt ∧ v.toInt ≤ 255) → z_J G 4 Γ w 0 0 40 [some (.ref b), some (.int i), some (.int op), some (.int v)] [.int v, .int op, .int i, .ref (b + 19)] := by
    intro hc
    refine z_callV (n := 3) (As := [.int i, .int op, .int v]) (rest := []) C E (c_Condition_tell G w (b + 19) _ _ _ i op v h19) gX8_include_X0_tell rfl rfl rfl (by decide +kernel) (by decide) dX8_include_40 rfl ⟨Nat.zero_le _, Nat.zero_le _⟩ (Nat.le_of_ble_eq_true rfl) rfl h19 ?_
    rintro x w1 ⟨rfl, rfl⟩
    simp only [Option.toList, List.cons_append, List.nil_append]
    refine z_gn C E tkX8_include (Nat.zero_le _) (Nat.zero_le _) [] 60 ?_
    simp only [↓z_rn_f, ↓z_rn_t, ↓z_rn_0, ↓zr_in0, ↓zr_ins, ↓zr_inn, ↓zr_bt, ↓zr_bf, ↓zr_li0, ↓zr_lis, ↓zr_la0, ↓zr_las, ↓zr_ll0, ↓zr_lls, ↓zr_1i, ↓zr_1l, ↓zr_1a, ↓zr_2i, ↓zr_2l, ↓zr_lsi, ↓zr_ia, ↓zr_aa, ↓zr_dia, ↓zr_iia, ↓zr_lia, ↓zr_d1i, ↓zr_d1r, ↓zr_e1, ↓zr_e2, ↓zr_e0, ↓zr_f0, ↓zr_fs, ↓zr_s0, ↓zr_ss, ↓zr_len, ↓zr_len0, ↓zr_ok0, ↓zr_okn, ↓zr_oki, ↓zr_okr, ↓zr_oks, ↓zr_tt, ↓zr_ar0u, ↓zr_ar0n, ↓zr_ar1u, ↓zr_ar1n, ↓zr_ar2u, ↓zr_ar2n, ↓zr_obu, ↓zr_obn, ↓Nat.reduceAdd, Nat.reduceEqDiff, Nat.add_left_cancel_iff, not_false_eq_true, z_up_up, true_and, ↓sX8_include_0, ↓sX8_include_1, ↓sX8_include_4, ↓sX8_include_5, ↓sX8_include_7, ↓sX8_include_10, ↓sX8_include_11, ↓sX8_include_14, ↓sX8_include_15, ↓sX8_include_16, ↓sX8_include_19, ↓sX8_include_20, ↓sX8_include_23, ↓sX8_include_24, ↓sX8_include_27, ↓sX8_include_30, ↓sX8_include_32, ↓sX8_include_33, ↓sX8_include_34, ↓sX8_include_37, ↓sX8_include_38, ↓sX8_include_39, ↓sX8_include_40, ↓sX8_include_43, ↓sX8_include_44]
    have hf : z_fr [b + 19] w (z_up w (b + 19) (.inr (1, [.int i, .int op, .int v]))) := (z_fr.rf _ _).up _ _ (by simp)
    obtain ⟨r1, r2, ⟨td, r3⟩, ⟨he, rn, as, r4⟩, r5, r6, r7, r8, r9, r10, r11, r12⟩ := hR
    exact hP _ _ ⟨(zKc.rf _ _).up _ _ (by omega), ⟨⟨rel, ar, st, tk, hd, fa, t1, t2, (hf.2 b (by simp)).trans h0, hok⟩, r1.fr _ hf (by simp), r2.fr _ hf (by simp), ⟨td, r3.fr _ hf (by intro k hk; simp at hk; omega)⟩, ⟨he, rn, as, r4.fr _ hf (by intro k hk; simp at hk; omega)⟩, ⟨i, op, v, by rw [z_up_2, if_pos rfl]⟩, r6.fr _ hf (by intro k hk; simp at hk; omega), r7.fr _ hf (by simp), r8.fr _ hf (by simp), r9.fr _ hf (by intro k hk; simp at hk; omega), r10.fr _ hf (by simp), r11.fr _ hf (by simp), r12.fr _ hf (by simp)⟩, by unfold zA_incl; rw [if_pos hc]⟩
  refine z_gn C E tkX8_include (Nat.zero_le _) (Nat.zero_le _) [] 60 ?_
  simp only [↓z_rn_f, ↓z_rn_t, ↓z_rn_0, ↓zr_in0, ↓zr_ins, ↓zr_inn, ↓zr_bt, ↓zr_bf, ↓zr_li0, ↓zr_lis, ↓zr_la0, ↓zr_las, ↓zr_ll0, ↓zr_lls, ↓zr_1i, ↓zr_1l, ↓zr_1a, ↓zr_2i, ↓zr_2l, ↓zr_lsi, ↓zr_ia, ↓zr_aa, ↓zr_dia, ↓zr_iia, ↓zr_lia, ↓zr_d1i, ↓zr_d1r, ↓zr_e1, ↓zr_e2, ↓zr_e0, ↓zr_f0, ↓zr_fs, ↓zr_s0, ↓zr_ss, ↓zr_len, ↓zr_len0, ↓zr_ok0, ↓zr_okn, ↓zr_oki, ↓zr_okr, ↓zr_oks, ↓zr_tt, ↓zr_ar0u, ↓zr_ar0n, ↓zr_ar1u, ↓zr_ar1n, ↓zr_ar2u, ↓zr_ar2n, ↓zr_obu, ↓zr_obn, ↓Nat.reduceAdd, Nat.reduceEqDiff, Nat.add_left_cancel_iff, not_false_eq_true, z_up_up, true_and, ↓sX8_include_0, ↓sX8_include_1, ↓sX8_include_4, ↓sX8_include_5, ↓sX8_include_7, ↓sX8_include_10, ↓sX8_include_11, ↓sX8_include_14, ↓sX8_include_15, ↓sX8_include_16, ↓sX8_include_19, ↓sX8_include_20, ↓sX8_include_23, ↓sX8_include_24, ↓sX8_include_27, ↓sX8_include_30, ↓sX8_include_32, ↓sX8_include_33, ↓sX8_include_34, ↓sX8_include_37, ↓sX8_include_38, ↓sX8_include_39, ↓sX8_include_40, ↓sX8_include_43, ↓sX8_include_44, ↓zh_ob h0, zn_a, zn_b, zq1, zq2, zq3, zq4, zq5, zq6, zq7, eq_self, Int32.reduceLT, Int32.reduceLE, Int32.reduceAdd, not_true_eq_false, not_false_eq_true, false_implies, true_implies, and_true, true_and, or_true, true_or]
  repeat' first | refine And.intro ?_ ?_ | (show _ → _; intro _)
  all_goals try simp only [zi_lt, zi_le, zi_eq, Int32.reduceToInt] at *
  all_goals first | exact hgo (by omega) | (refine hP _ _ ⟨zKc.rf _ _, h, ?_⟩; unfold zA_incl; rw [if_neg (by omega)])
def zA_exit (k d f : Int32) : Int32 := if 0 ≤ k.toInt ∧ k.toInt ≤ 1 ∧ 0 ≤ d.toInt ∧ d.toInt ≤ 3 ∧ 0 ≤ f.toInt ∧ f.toInt ≤ 1000 then 1 else -4
set_option maxRecDepth 100000 in
set_option maxHeartbeats 1000000 in
theorem k_exit (G : zG) (w : zW) (b : Nat) (k d f : Int32) (wy rc su : Int32) (fl : Nat → Int32) (h : zCl b w wy rc su fl) :
    z_M G yX8_exit wsX8_exit zrm1 0 0 [.ref b, .int k, .int d, .int f] w (fun x w' => zKc b w w' ∧ zCl b w' wy rc su fl ∧ x = some (.int (zA_exit k d f))) := by
  obtain ⟨⟨rel, ar, st, tk, hd, fa, t1, t2, h0, hok⟩, hR⟩ := id h
  unfold zSM at h0
  have ho1 := hok.1
  have ho4 := hok.2.2.2.1
  refine z_mt (nL := 5) (cc := cX8_exit) (ret := some .int) (by decide) rfl (Nat.le_of_ble_eq_true rfl) 1 [some (.ref b), some (.int k), some (.int d), some (.int f), none] rfl ?_
  intro P hP Γ C E
  have hgo : (0 ≤ k.toInt ∧ k.toInt ≤ 1 ∧ 0 ≤ d.toInt ∧ d.toInt ≤ 3 ∧ 0 ≤ f.toInt ∧ f.toInt ≤ 1000) → ∀ a, a = b + 24 ∨ a = b + 25 → z_J G 5 Γ w 0 0 53 [some (.ref b), some (.int k), some (.int d), some (.int f), some (.ref a)] [.int f, .int d, .ref a] := by
    intro hc a ha
    obtain ⟨r1, r2, ⟨td, r3⟩, ⟨he, rn, as, r4⟩, r5, r6, r7, r8, r9, r10, r11, r12⟩ := hR
    obtain ⟨d9, f9, c9, h9⟩ : zEx a w := by rcases ha with rfl | rfl <;> assumption
    refine z_callV (n := 2) (As := [.int d, .int f]) (rest := []) C E (c_Exit_tell G w a _ _ _ d f h9) gX8_exit_X1_tell rfl rfl rfl (by decide +kernel) (by decide) dX8_exit_53 rfl ⟨Nat.zero_le _, Nat.zero_le _⟩ (Nat.le_of_ble_eq_true rfl) rfl h9 ?_
    rintro x w1 ⟨rfl, rfl⟩
    simp only [Option.toList, List.cons_append, List.nil_append]
    refine z_gn C E tkX8_exit (Nat.zero_le _) (Nat.zero_le _) [] 60 ?_
    simp only [↓z_rn_f, ↓z_rn_t, ↓z_rn_0, ↓zr_in0, ↓zr_ins, ↓zr_inn, ↓zr_bt, ↓zr_bf, ↓zr_li0, ↓zr_lis, ↓zr_la0, ↓zr_las, ↓zr_ll0, ↓zr_lls, ↓zr_1i, ↓zr_1l, ↓zr_1a, ↓zr_2i, ↓zr_2l, ↓zr_lsi, ↓zr_ia, ↓zr_aa, ↓zr_dia, ↓zr_iia, ↓zr_lia, ↓zr_d1i, ↓zr_d1r, ↓zr_e1, ↓zr_e2, ↓zr_e0, ↓zr_f0, ↓zr_fs, ↓zr_s0, ↓zr_ss, ↓zr_len, ↓zr_len0, ↓zr_ok0, ↓zr_okn, ↓zr_oki, ↓zr_okr, ↓zr_oks, ↓zr_tt, ↓zr_ar0u, ↓zr_ar0n, ↓zr_ar1u, ↓zr_ar1n, ↓zr_ar2u, ↓zr_ar2n, ↓zr_obu, ↓zr_obn, ↓Nat.reduceAdd, Nat.reduceEqDiff, Nat.add_left_cancel_iff, not_false_eq_true, z_up_up, true_and, ↓sX8_exit_0, ↓sX8_exit_1, ↓sX8_exit_4, ↓sX8_exit_5, ↓sX8_exit_6, ↓sX8_exit_9, ↓sX8_exit_10, ↓sX8_exit_13, ↓sX8_exit_14, ↓sX8_exit_15, ↓sX8_exit_18, ↓sX8_exit_19, ↓sX8_exit_22, ↓sX8_exit_23, ↓sX8_exit_26, ↓sX8_exit_29, ↓sX8_exit_31, ↓sX8_exit_32, ↓sX8_exit_33, ↓sX8_exit_36, ↓sX8_exit_37, ↓sX8_exit_40, ↓sX8_exit_43, ↓sX8_exit_44, ↓sX8_exit_47, ↓sX8_exit_49, ↓sX8_exit_51, ↓sX8_exit_52, ↓sX8_exit_53, ↓sX8_exit_56, ↓sX8_exit_57]
    have hf : z_fr [a] w (z_up w a (.inr (2, [.int d, .int f, .int c9]))) := (z_fr.rf _ _).up _ _ (by simp)
    have hx : ∀ t, zEx t w → zEx t (z_up w a (.inr (2, [.int d, .int f, .int c9]))) := by
      intro t ⟨d1, f1, c1, ht⟩
      by_cases e : t = a
      · exact ⟨d, f, c9, by rw [z_up_2, if_pos e]⟩
      · exact ⟨d1, f1, c1, by rw [z_up_2, if_neg e]; exact ht⟩
    have ha2 : b + 23 < a ∧ a < b + 26 := by omega
    exact hP _ _ ⟨(zKc.rf _ _).up _ _ (by omega), ⟨⟨rel, ar, st, tk, hd, fa, t1, t2, (hf.2 b (by simp; omega)).trans h0, hok⟩, r1.fr _ hf (by simp; omega), r2.fr _ hf (by simp; omega), ⟨td, r3.fr _ hf (by intro k hk; simp at hk; omega)⟩, ⟨he, rn, as, r4.fr _ hf (by intro k hk; simp at hk; omega)⟩, r5.fr _ hf (by simp; omega), r6.fr _ hf (by intro k hk; simp at hk; omega), hx _ r7, hx _ r8, r9.fr _ hf (by intro k hk; simp at hk; omega), r10.fr _ hf (by simp; omega), r11.fr _ hf (by simp; omega), r12.fr _ hf (by simp; omega)⟩, by unfold zA_exit; rw [if_pos hc]⟩
  refine z_gn C E tkX8_exit (Nat.zero_le _) (Nat.zero_le _) [] 60 ?_
  simp only [↓z_rn_f, ↓z_rn_t, ↓z_rn_0, ↓zr_in0, ↓zr_ins, ↓zr_inn, ↓zr_bt, ↓zr_bf, ↓zr_li0, ↓zr_lis, ↓zr_la0, ↓zr_las, ↓zr_ll0, ↓zr_lls, ↓zr_1i, ↓zr_1l, ↓zr_1a, ↓zr_2i, ↓zr_2l, ↓zr_lsi, ↓zr_ia, ↓zr_aa, ↓zr_dia, ↓zr_iia, ↓zr_lia, ↓zr_d1i, ↓zr_d1r, ↓zr_e1, ↓zr_e2, ↓zr_e0, ↓zr_f0, ↓zr_fs, ↓zr_s0, ↓zr_ss, ↓zr_len, ↓zr_len0, ↓zr_ok0, ↓zr_okn, ↓zr_oki, ↓zr_okr, ↓zr_oks, ↓zr_tt, ↓zr_ar0u, ↓zr_ar0n, ↓zr_ar1u, ↓zr_ar1n, ↓zr_ar2u, ↓zr_ar2n, ↓zr_obu, ↓zr_obn, ↓Nat.reduceAdd, Nat.reduceEqDiff, Nat.add_left_cancel_iff, not_false_eq_true, z_up_up, true_and, ↓sX8_exit_0, ↓sX8_exit_1, ↓sX8_exit_4, ↓sX8_exit_5, ↓sX8_exit_6, ↓sX8_exit_9, ↓sX8_exit_10, ↓sX8_exit_13, ↓sX8_exit_14, ↓sX8_exit_15, ↓sX8_exit_18, ↓sX8_exit_19, ↓sX8_exit_22, ↓sX8_exit_23, ↓sX8_exit_26, ↓sX8_exit_29, ↓sX8_exit_31, ↓sX8_exit_32, ↓sX8_exit_33, ↓sX8_exit_36, ↓sX8_exit_37, ↓sX8_exit_40, ↓sX8_exit_43, ↓sX8_exit_44, ↓sX8_exit_47, ↓sX8_exit_49, ↓sX8_exit_51, ↓sX8_exit_52, ↓sX8_exit_53, ↓sX8_exit_56, ↓sX8_exit_57, ↓zh_ob h0, zn_a, zn_b, zq1, zq2, zq3, zq4, zq5, zq6, zq7, eq_self, Int32.reduceLT, Int32.reduceLE, Int32.reduceAdd, not_true_eq_false, not_false_eq_true, false_implies, true_implies, and_true, true_and, or_true, true_or]
  repeat' first | refine And.intro ?_ ?_ | (show _ → _; intro _)
  all_goals try simp only [zi_lt, zi_le, zi_eq, Int32.reduceToInt] at *
  all_goals first | exact hgo (by omega) _ (Or.inl rfl) | exact hgo (by omega) _ (Or.inr rfl) | (refine hP _ _ ⟨zKc.rf _ _, h, ?_⟩; unfold zA_exit; rw [if_neg (by omega)])
set_option maxRecDepth 100000 in
set_option maxHeartbeats 1000000 in
theorem k_begin (G : zG) (w : zW) (b : Nat) (wy rc su : Int32) (fl : Nat → Int32) (h : zCl b w wy rc su fl) :
    z_M G yX8_begin wsX8_begin zrm0 0 0 [.ref b] w (fun x w' => (∃ v, x = some (.int v)) ∧ zKc b w w' ∧ zCl b w' wy rc su fl) := by
  obtain ⟨⟨rel, ar, st, tk, hd, fa, t1, t2, h0, hok⟩, hR⟩ := id h
  unfold zSM at h0
  have ho1 := hok.1
  have ho4 := hok.2.2.2.1
  refine z_mt (nL := 1) (cc := cX8_begin) (ret := some .int) (by decide) rfl (Nat.le_of_ble_eq_true rfl) 0 [some (.ref b)] rfl ?_
  intro P hP Γ C E
  refine z_gn C E tkX8_begin (Nat.zero_le _) (Nat.zero_le _) [] 60 ?_
  simp only [↓z_rn_f, ↓z_rn_t, ↓z_rn_0, ↓zr_in0, ↓zr_ins, ↓zr_inn, ↓zr_bt, ↓zr_bf, ↓zr_li0, ↓zr_lis, ↓zr_la0, ↓zr_las, ↓zr_ll0, ↓zr_lls, ↓zr_1i, ↓zr_1l, ↓zr_1a, ↓zr_2i, ↓zr_2l, ↓zr_lsi, ↓zr_ia, ↓zr_aa, ↓zr_dia, ↓zr_iia, ↓zr_lia, ↓zr_d1i, ↓zr_d1r, ↓zr_e1, ↓zr_e2, ↓zr_e0, ↓zr_f0, ↓zr_fs, ↓zr_s0, ↓zr_ss, ↓zr_len, ↓zr_len0, ↓zr_ok0, ↓zr_okn, ↓zr_oki, ↓zr_okr, ↓zr_oks, ↓zr_tt, ↓zr_ar0u, ↓zr_ar0n, ↓zr_ar1u, ↓zr_ar1n, ↓zr_ar2u, ↓zr_ar2n, ↓zr_obu, ↓zr_obn, ↓Nat.reduceAdd, Nat.reduceEqDiff, Nat.add_left_cancel_iff, not_false_eq_true, z_up_up, true_and, ↓sX8_begin_0, ↓sX8_begin_1, ↓sX8_begin_4, ↓sX8_begin_5, ↓sX8_begin_8, ↓sX8_begin_10, ↓sX8_begin_11, ↓sX8_begin_12, ↓sX8_begin_13, ↓sX8_begin_16, ↓sX8_begin_17, ↓sX8_begin_18, ↓sX8_begin_21, ↓sX8_begin_22, ↓sX8_begin_23, ↓sX8_begin_26, ↓sX8_begin_27, ↓zh_ob h0, zn_a, zn_b, zq1, zq2, zq3, zq4, zq5, zq6, zq7, eq_self, Int32.reduceLT, Int32.reduceLE, Int32.reduceAdd, not_true_eq_false, not_false_eq_true, false_implies, true_implies, and_true, true_and, or_true, true_or]
  refine ⟨fun _ => hP _ _ ⟨⟨_, rfl⟩, (zKc.rf _ _).up _ _ (by omega), ⟨⟨0, ar, 1, tk, -1, fa, t1, t2, by rw [z_up_2, if_pos rfl]; rfl, by decide, hok.2⟩, hR.fr0 ((z_fr.rf _ _).up _ _ (by simp))⟩⟩, fun _ => hP _ _ ⟨⟨_, rfl⟩, zKc.rf _ _, h⟩⟩
set_option maxRecDepth 100000 in
set_option maxHeartbeats 1000000 in
theorem k_failed (G : zG) (w : zW) (b : Nat) (wy rc su : Int32) (fl : Nat → Int32) (h : zCl b w wy rc su fl) :
    z_M G yX8_failed wsX8_failed zrm0 0 0 [.ref b] w (fun x w' => (∃ v, x = some (.int v)) ∧ zKc b w w' ∧ zCl b w' wy rc su fl) := by
  obtain ⟨⟨rel, ar, st, tk, hd, fa, t1, t2, h0, hok⟩, hR⟩ := id h
  unfold zSM at h0
  have ho1 := hok.1
  have ho4 := hok.2.2.2.1
  refine z_mt (nL := 1) (cc := cX8_failed) (ret := some .int) (by decide) rfl (Nat.le_of_ble_eq_true rfl) 0 [some (.ref b)] rfl ?_
  intro P hP Γ C E
  refine z_gn C E tkX8_failed (Nat.zero_le _) (Nat.zero_le _) [] 60 ?_
  simp only [↓z_rn_f, ↓z_rn_t, ↓z_rn_0, ↓zr_in0, ↓zr_ins, ↓zr_inn, ↓zr_bt, ↓zr_bf, ↓zr_li0, ↓zr_lis, ↓zr_la0, ↓zr_las, ↓zr_ll0, ↓zr_lls, ↓zr_1i, ↓zr_1l, ↓zr_1a, ↓zr_2i, ↓zr_2l, ↓zr_lsi, ↓zr_ia, ↓zr_aa, ↓zr_dia, ↓zr_iia, ↓zr_lia, ↓zr_d1i, ↓zr_d1r, ↓zr_e1, ↓zr_e2, ↓zr_e0, ↓zr_f0, ↓zr_fs, ↓zr_s0, ↓zr_ss, ↓zr_len, ↓zr_len0, ↓zr_ok0, ↓zr_okn, ↓zr_oki, ↓zr_okr, ↓zr_oks, ↓zr_tt, ↓zr_ar0u, ↓zr_ar0n, ↓zr_ar1u, ↓zr_ar1n, ↓zr_ar2u, ↓zr_ar2n, ↓zr_obu, ↓zr_obn, ↓Nat.reduceAdd, Nat.reduceEqDiff, Nat.add_left_cancel_iff, not_false_eq_true, z_up_up, true_and, ↓sX8_failed_0, ↓sX8_failed_1, ↓sX8_failed_4, ↓zh_ob h0, zn_a, zn_b, zq1, zq2, zq3, zq4, zq5, zq6, zq7, eq_self, Int32.reduceLT, Int32.reduceLE, Int32.reduceAdd, not_true_eq_false, not_false_eq_true, false_implies, true_implies, and_true, true_and, or_true, true_or]
  exact hP _ _ ⟨⟨_, rfl⟩, zKc.rf _ _, h⟩
set_option maxRecDepth 100000 in
set_option maxHeartbeats 1000000 in
theorem k_release (G : zG) (w : zW) (b : Nat) (r : Int32) (wy rc su : Int32) (fl : Nat → Int32) (h : zCl b w wy rc su fl) :
    z_M G yX8_release wsX8_release zrm2 0 0 [.ref b, .int r] w (fun x w' => (∃ v, x = some (.int v)) ∧ zKc b w w' ∧ zCl b w' wy rc su fl) := by
  obtain ⟨⟨rel, ar, st, tk, hd, fa, t1, t2, h0, hok⟩, hR⟩ := id h
  unfold zSM at h0
  have ho1 := hok.1
  have ho4 := hok.2.2.2.1
  refine z_mt (nL := 2) (cc := cX8_release) (ret := some .int) (by decide) rfl (Nat.le_of_ble_eq_true rfl) 0 [some (.ref b), some (.int r)] rfl ?_
  intro P hP Γ C E
  obtain ⟨f9, h29⟩ := hR.2.2.2.2.2.2.2.2.2.1
  refine z_gn C E tkX8_release (Nat.zero_le _) (Nat.zero_le _) [] 60 ?_
  simp only [↓z_rn_f, ↓z_rn_t, ↓z_rn_0, ↓zr_in0, ↓zr_ins, ↓zr_inn, ↓zr_bt, ↓zr_bf, ↓zr_li0, ↓zr_lis, ↓zr_la0, ↓zr_las, ↓zr_ll0, ↓zr_lls, ↓zr_1i, ↓zr_1l, ↓zr_1a, ↓zr_2i, ↓zr_2l, ↓zr_lsi, ↓zr_ia, ↓zr_aa, ↓zr_dia, ↓zr_iia, ↓zr_lia, ↓zr_d1i, ↓zr_d1r, ↓zr_e1, ↓zr_e2, ↓zr_e0, ↓zr_f0, ↓zr_fs, ↓zr_s0, ↓zr_ss, ↓zr_len, ↓zr_len0, ↓zr_ok0, ↓zr_okn, ↓zr_oki, ↓zr_okr, ↓zr_oks, ↓zr_tt, ↓zr_ar0u, ↓zr_ar0n, ↓zr_ar1u, ↓zr_ar1n, ↓zr_ar2u, ↓zr_ar2n, ↓zr_obu, ↓zr_obn, ↓Nat.reduceAdd, Nat.reduceEqDiff, Nat.add_left_cancel_iff, not_false_eq_true, z_up_up, true_and, ↓sX8_release_0, ↓sX8_release_1, ↓sX8_release_2, ↓sX8_release_5, ↓sX8_release_8, ↓sX8_release_10, ↓sX8_release_11, ↓sX8_release_12, ↓sX8_release_15, ↓sX8_release_16, ↓sX8_release_19, ↓sX8_release_21, ↓sX8_release_22, ↓sX8_release_23, ↓sX8_release_26, ↓sX8_release_27, ↓sX8_release_30, ↓sX8_release_31, ↓sX8_release_34, ↓sX8_release_35, ↓sX8_release_36, ↓sX8_release_37, ↓sX8_release_40, ↓sX8_release_41, ↓sX8_release_44, ↓sX8_release_45, ↓sX8_release_46, ↓sX8_release_47, ↓sX8_release_48, ↓sX8_release_51, ↓sX8_release_52, ↓sX8_release_53, ↓sX8_release_56, ↓sX8_release_57, ↓sX8_release_60, ↓zh_ob h0, zn_a, zn_b, zq1, zq2, zq3, zq4, zq5, zq6, zq7, eq_self, Int32.reduceLT, Int32.reduceLE, Int32.reduceAdd, not_true_eq_false, not_false_eq_true, false_implies, true_implies, and_true, true_and, or_true, true_or]
  refine z_callV (n := 1) (As := [.int r]) (rest := []) C E (k_isRecord G w b r wy rc su fl h) gX8_release_X8_isRecord rfl rfl rfl (by decide +kernel) (by decide) dX8_release_2 rfl ⟨Nat.zero_le _, Nat.zero_le _⟩ (Nat.le_of_ble_eq_true rfl) rfl h0 ?_
  rintro x w1 ⟨rfl, hw1⟩
  rw [hw1]
  clear hw1 w1
  simp only [Option.toList, List.cons_append, List.nil_append]
  refine z_gn C E tkX8_release (Nat.zero_le _) (Nat.zero_le _) [] 60 ?_
  simp only [↓z_rn_f, ↓z_rn_t, ↓z_rn_0, ↓zr_in0, ↓zr_ins, ↓zr_inn, ↓zr_bt, ↓zr_bf, ↓zr_li0, ↓zr_lis, ↓zr_la0, ↓zr_las, ↓zr_ll0, ↓zr_lls, ↓zr_1i, ↓zr_1l, ↓zr_1a, ↓zr_2i, ↓zr_2l, ↓zr_lsi, ↓zr_ia, ↓zr_aa, ↓zr_dia, ↓zr_iia, ↓zr_lia, ↓zr_d1i, ↓zr_d1r, ↓zr_e1, ↓zr_e2, ↓zr_e0, ↓zr_f0, ↓zr_fs, ↓zr_s0, ↓zr_ss, ↓zr_len, ↓zr_len0, ↓zr_ok0, ↓zr_okn, ↓zr_oki, ↓zr_okr, ↓zr_oks, ↓zr_tt, ↓zr_ar0u, ↓zr_ar0n, ↓zr_ar1u, ↓zr_ar1n, ↓zr_ar2u, ↓zr_ar2n, ↓zr_obu, ↓zr_obn, ↓Nat.reduceAdd, Nat.reduceEqDiff, Nat.add_left_cancel_iff, not_false_eq_true, z_up_up, true_and, ↓sX8_release_0, ↓sX8_release_1, ↓sX8_release_2, ↓sX8_release_5, ↓sX8_release_8, ↓sX8_release_10, ↓sX8_release_11, ↓sX8_release_12, ↓sX8_release_15, ↓sX8_release_16, ↓sX8_release_19, ↓sX8_release_21, ↓sX8_release_22, ↓sX8_release_23, ↓sX8_release_26, ↓sX8_release_27, ↓sX8_release_30, ↓sX8_release_31, ↓sX8_release_34, ↓sX8_release_35, ↓sX8_release_36, ↓sX8_release_37, ↓sX8_release_40, ↓sX8_release_41, ↓sX8_release_44, ↓sX8_release_45, ↓sX8_release_46, ↓sX8_release_47, ↓sX8_release_48, ↓sX8_release_51, ↓sX8_release_52, ↓sX8_release_53, ↓sX8_release_56, ↓sX8_release_57, ↓sX8_release_60, ↓zh_ob h0, ↓zh_ar0 h29, zn_a, zn_b, zq1, zq2, zq3, zq4, zq5, zq6, zq7, eq_self, Int32.reduceLT, Int32.reduceLE, Int32.reduceAdd, not_true_eq_false, not_false_eq_true, false_implies, true_implies, and_true, true_and, or_true, true_or]
  have z1000 : (Int32.ofNat 1000).toInt = 1000 := by decide
  refine ⟨fun _ => ⟨fun _ => ⟨fun a2 => ?_, fun _ => hP _ _ ⟨⟨_, rfl⟩, zKc.rf _ _, h⟩⟩, fun _ => hP _ _ ⟨⟨_, rfl⟩, zKc.rf _ _, h⟩⟩, fun _ => hP _ _ ⟨⟨_, rfl⟩, zKc.rf _ _, h⟩⟩
  simp only [zi_lt, zi_le, zi_0, zi_1, zi_m1, zi_2, zi_32, z1000] at a2
  have e := zi_a1 (x := rel) (by omega) (by omega)
  have hf : z_fr [b, b + 29] w (z_up (z_up w (b + 29) (.inl (0, 1000, .inl (upd f9 rel.toNatClampNeg r)))) b (zSM b (rel + 1) ar wy st tk hd fa t1 t2)) := ((z_fr.rf _ _).up _ _ (by simp)).up _ _ (by simp)
  refine ⟨vp_in_iff.mpr (by omega), hP _ _ ⟨⟨_, rfl⟩, ((zKc.rf _ _).up _ _ (by omega)).up _ _ (by omega), ⟨⟨rel + 1, ar, st, tk, hd, fa, t1, t2, by rw [z_up_2, if_pos rfl]; rfl, by omega, hok.2⟩, ?_⟩⟩⟩
  obtain ⟨r1, r2, ⟨td, r3⟩, ⟨he, rn, as, r4⟩, r5, r6, r7, r8, r9, r10, r11, r12⟩ := hR
  exact ⟨r1.fr _ hf (by simp), r2.fr _ hf (by simp), ⟨td, r3.fr _ hf (by intro k hk; simp at hk; omega)⟩, ⟨he, rn, as, r4.fr _ hf (by intro k hk; simp at hk; omega)⟩, r5.fr _ hf (by simp), r6.fr _ hf (by intro k hk; simp at hk; omega), r7.fr _ hf (by simp), r8.fr _ hf (by simp), r9.fr _ hf (by intro k hk; simp at hk; omega), ⟨_, by simp [z_up_2]; rfl⟩, r11.fr _ hf (by simp), r12.fr _ hf (by simp)⟩
set_option maxRecDepth 100000 in
set_option maxHeartbeats 1000000 in
theorem k_next (G : zG) (w : zW) (b : Nat) (wy rc su : Int32) (fl : Nat → Int32) (h : zCl b w wy rc su fl) :
    z_M G yX8_next wsX8_next zrm1 0 0 [.ref b] w (fun x w' => (∃ v, x = some (.int v)) ∧ zKc b w w' ∧ zCl b w' wy rc su fl) := by
  obtain ⟨⟨rel, ar, st, tk, hd, fa, t1, t2, h0, hok⟩, hR⟩ := id h
  unfold zSM at h0
  have ho1 := hok.1
  have ho4 := hok.2.2.2.1
  refine z_mt (nL := 1) (cc := cX8_next) (ret := some .int) (by decide) rfl (Nat.le_of_ble_eq_true rfl) 0 [some (.ref b)] rfl ?_
  intro P hP Γ C E
  obtain ⟨he, rn, as, r4⟩ := hR.2.2.2.1
  obtain ⟨hc, fn, f8, fb, r1⟩ := hR.1
  have h14 := r4.1.choose_spec.choose_spec.choose_spec.choose_spec.1
  refine z_gn C E tkX8_next (Nat.zero_le _) (Nat.zero_le _) [] 60 ?_
  simp only [↓z_rn_f, ↓z_rn_t, ↓z_rn_0, ↓zr_in0, ↓zr_ins, ↓zr_inn, ↓zr_bt, ↓zr_bf, ↓zr_li0, ↓zr_lis, ↓zr_la0, ↓zr_las, ↓zr_ll0, ↓zr_lls, ↓zr_1i, ↓zr_1l, ↓zr_1a, ↓zr_2i, ↓zr_2l, ↓zr_lsi, ↓zr_ia, ↓zr_aa, ↓zr_dia, ↓zr_iia, ↓zr_lia, ↓zr_d1i, ↓zr_d1r, ↓zr_e1, ↓zr_e2, ↓zr_e0, ↓zr_f0, ↓zr_fs, ↓zr_s0, ↓zr_ss, ↓zr_len, ↓zr_len0, ↓zr_ok0, ↓zr_okn, ↓zr_oki, ↓zr_okr, ↓zr_oks, ↓zr_tt, ↓zr_ar0u, ↓zr_ar0n, ↓zr_ar1u, ↓zr_ar1n, ↓zr_ar2u, ↓zr_ar2n, ↓zr_obu, ↓zr_obn, ↓Nat.reduceAdd, Nat.reduceEqDiff, Nat.add_left_cancel_iff, not_false_eq_true, z_up_up, true_and, ↓sX8_next_0, ↓sX8_next_1, ↓sX8_next_4, ↓sX8_next_5, ↓sX8_next_8, ↓sX8_next_10, ↓sX8_next_11, ↓sX8_next_12, ↓sX8_next_15, ↓sX8_next_16, ↓sX8_next_19, ↓sX8_next_22, ↓sX8_next_25, ↓sX8_next_26, ↓sX8_next_27, ↓sX8_next_30, ↓sX8_next_31, ↓sX8_next_32, ↓sX8_next_35, ↓sX8_next_36, ↓sX8_next_37, ↓sX8_next_38, ↓sX8_next_39, ↓sX8_next_42, ↓sX8_next_43, ↓sX8_next_46, ↓sX8_next_49, ↓sX8_next_52, ↓sX8_next_53, ↓sX8_next_54, ↓sX8_next_57, ↓sX8_next_58, ↓sX8_next_59, ↓sX8_next_62, ↓sX8_next_63, ↓sX8_next_66, ↓sX8_next_67, ↓sX8_next_70, ↓sX8_next_73, ↓zh_ob h0, zn_a, zn_b, zq1, zq2, zq3, zq4, zq5, zq6, zq7, eq_self, Int32.reduceLT, Int32.reduceLE, Int32.reduceAdd, not_true_eq_false, not_false_eq_true, false_implies, true_implies, and_true, true_and, or_true, true_or]
  refine ⟨fun _ => ?_, fun _ => hP _ _ ⟨⟨_, rfl⟩, zKc.rf _ _, h⟩⟩
  refine z_callV (n := 0) (As := []) (rest := [.int tk]) C E (c_Line_held G w b he rn as r4) gX8_next_X4_held rfl rfl rfl (by decide +kernel) (by decide) dX8_next_19 rfl ⟨Nat.zero_le _, Nat.zero_le _⟩ (Nat.le_of_ble_eq_true rfl) rfl h14 ?_
  rintro x w1 ⟨rfl, hw1⟩
  rw [hw1]
  clear hw1 w1
  simp only [Option.toList, List.cons_append, List.nil_append]
  refine z_gn C E tkX8_next (Nat.zero_le _) (Nat.zero_le _) [] 60 ?_
  simp only [↓z_rn_f, ↓z_rn_t, ↓z_rn_0, ↓zr_in0, ↓zr_ins, ↓zr_inn, ↓zr_bt, ↓zr_bf, ↓zr_li0, ↓zr_lis, ↓zr_la0, ↓zr_las, ↓zr_ll0, ↓zr_lls, ↓zr_1i, ↓zr_1l, ↓zr_1a, ↓zr_2i, ↓zr_2l, ↓zr_lsi, ↓zr_ia, ↓zr_aa, ↓zr_dia, ↓zr_iia, ↓zr_lia, ↓zr_d1i, ↓zr_d1r, ↓zr_e1, ↓zr_e2, ↓zr_e0, ↓zr_f0, ↓zr_fs, ↓zr_s0, ↓zr_ss, ↓zr_len, ↓zr_len0, ↓zr_ok0, ↓zr_okn, ↓zr_oki, ↓zr_okr, ↓zr_oks, ↓zr_tt, ↓zr_ar0u, ↓zr_ar0n, ↓zr_ar1u, ↓zr_ar1n, ↓zr_ar2u, ↓zr_ar2n, ↓zr_obu, ↓zr_obn, ↓Nat.reduceAdd, Nat.reduceEqDiff, Nat.add_left_cancel_iff, not_false_eq_true, z_up_up, true_and, ↓sX8_next_0, ↓sX8_next_1, ↓sX8_next_4, ↓sX8_next_5, ↓sX8_next_8, ↓sX8_next_10, ↓sX8_next_11, ↓sX8_next_12, ↓sX8_next_15, ↓sX8_next_16, ↓sX8_next_19, ↓sX8_next_22, ↓sX8_next_25, ↓sX8_next_26, ↓sX8_next_27, ↓sX8_next_30, ↓sX8_next_31, ↓sX8_next_32, ↓sX8_next_35, ↓sX8_next_36, ↓sX8_next_37, ↓sX8_next_38, ↓sX8_next_39, ↓sX8_next_42, ↓sX8_next_43, ↓sX8_next_46, ↓sX8_next_49, ↓sX8_next_52, ↓sX8_next_53, ↓sX8_next_54, ↓sX8_next_57, ↓sX8_next_58, ↓sX8_next_59, ↓sX8_next_62, ↓sX8_next_63, ↓sX8_next_66, ↓sX8_next_67, ↓sX8_next_70, ↓sX8_next_73, ↓zh_ob h0, zn_a, zn_b, zq1, zq2, zq3, zq4, zq5, zq6, zq7, eq_self, Int32.reduceLT, Int32.reduceLE, Int32.reduceAdd, not_true_eq_false, not_false_eq_true, false_implies, true_implies, and_true, true_and, or_true, true_or]
  refine ⟨fun a1 => ?_, fun _ => hP _ _ ⟨⟨_, rfl⟩, (zKc.rf _ _).up _ _ (by omega), ⟨⟨rel, ar, 0, tk, -1, fa, t1, t2, by rw [z_up_2, if_pos rfl]; rfl, hok⟩, hR.fr0 ((z_fr.rf _ _).up _ _ (by simp))⟩⟩⟩
  simp only [zi_lt, zi_le, zi_0, zi_1, zi_m1, zi_2, zi_32] at a1
  have hh := r4.2.1
  refine z_callV (n := 1) (As := [.int tk]) (rest := [.ref b]) C E (c_Line_at G w b he rn as tk r4) gX8_next_X4_at rfl rfl rfl (by decide +kernel) (by decide) dX8_next_46 rfl ⟨Nat.zero_le _, Nat.zero_le _⟩ (Nat.le_of_ble_eq_true rfl) rfl h14 ?_
  rintro x w1 ⟨⟨y, rfl⟩, hw1⟩
  rw [hw1]
  clear hw1 w1
  simp only [Option.toList, List.cons_append, List.nil_append]
  refine z_gn C E tkX8_next (Nat.zero_le _) (Nat.zero_le _) [] 60 ?_
  simp only [↓z_rn_f, ↓z_rn_t, ↓z_rn_0, ↓zr_in0, ↓zr_ins, ↓zr_inn, ↓zr_bt, ↓zr_bf, ↓zr_li0, ↓zr_lis, ↓zr_la0, ↓zr_las, ↓zr_ll0, ↓zr_lls, ↓zr_1i, ↓zr_1l, ↓zr_1a, ↓zr_2i, ↓zr_2l, ↓zr_lsi, ↓zr_ia, ↓zr_aa, ↓zr_dia, ↓zr_iia, ↓zr_lia, ↓zr_d1i, ↓zr_d1r, ↓zr_e1, ↓zr_e2, ↓zr_e0, ↓zr_f0, ↓zr_fs, ↓zr_s0, ↓zr_ss, ↓zr_len, ↓zr_len0, ↓zr_ok0, ↓zr_okn, ↓zr_oki, ↓zr_okr, ↓zr_oks, ↓zr_tt, ↓zr_ar0u, ↓zr_ar0n, ↓zr_ar1u, ↓zr_ar1n, ↓zr_ar2u, ↓zr_ar2n, ↓zr_obu, ↓zr_obn, ↓Nat.reduceAdd, Nat.reduceEqDiff, Nat.add_left_cancel_iff, not_false_eq_true, z_up_up, true_and, ↓sX8_next_0, ↓sX8_next_1, ↓sX8_next_4, ↓sX8_next_5, ↓sX8_next_8, ↓sX8_next_10, ↓sX8_next_11, ↓sX8_next_12, ↓sX8_next_15, ↓sX8_next_16, ↓sX8_next_19, ↓sX8_next_22, ↓sX8_next_25, ↓sX8_next_26, ↓sX8_next_27, ↓sX8_next_30, ↓sX8_next_31, ↓sX8_next_32, ↓sX8_next_35, ↓sX8_next_36, ↓sX8_next_37, ↓sX8_next_38, ↓sX8_next_39, ↓sX8_next_42, ↓sX8_next_43, ↓sX8_next_46, ↓sX8_next_49, ↓sX8_next_52, ↓sX8_next_53, ↓sX8_next_54, ↓sX8_next_57, ↓sX8_next_58, ↓sX8_next_59, ↓sX8_next_62, ↓sX8_next_63, ↓sX8_next_66, ↓sX8_next_67, ↓sX8_next_70, ↓sX8_next_73, ↓zh_ob h0, zn_a, zn_b, zq1, zq2, zq3, zq4, zq5, zq6, zq7, eq_self, Int32.reduceLT, Int32.reduceLE, Int32.reduceAdd, not_true_eq_false, not_false_eq_true, false_implies, true_implies, and_true, true_and, or_true, true_or]
  have e := zi_a1 (x := tk) (by omega) (by omega)
  have hf : z_fr [b] w (z_up w b (zSM b rel ar wy st (tk + 1) y fa t1 t2)) := (z_fr.rf _ _).up _ _ (by simp)
  have r1' := r1.fr _ hf (by simp)
  refine z_callV (n := 1) (As := [.int y]) (rest := []) C E (c_Rows_numberOf G _ (b + 1) (b + 2) (b + 3) (b + 4) 1600 hc y fn f8 fb r1') gX8_next_X5_numberOf rfl rfl rfl (by decide +kernel) (by decide) dX8_next_70 rfl ⟨Nat.zero_le _, Nat.zero_le _⟩ (Nat.le_of_ble_eq_true rfl) rfl r1'.1.1 ?_
  rintro x w1 ⟨⟨y2, rfl, -⟩, hw1⟩
  rw [hw1]
  clear hw1 w1
  simp only [Option.toList, List.cons_append, List.nil_append]
  refine z_gn C E tkX8_next (Nat.zero_le _) (Nat.zero_le _) [] 60 ?_
  simp only [↓z_rn_f, ↓z_rn_t, ↓z_rn_0, ↓zr_in0, ↓zr_ins, ↓zr_inn, ↓zr_bt, ↓zr_bf, ↓zr_li0, ↓zr_lis, ↓zr_la0, ↓zr_las, ↓zr_ll0, ↓zr_lls, ↓zr_1i, ↓zr_1l, ↓zr_1a, ↓zr_2i, ↓zr_2l, ↓zr_lsi, ↓zr_ia, ↓zr_aa, ↓zr_dia, ↓zr_iia, ↓zr_lia, ↓zr_d1i, ↓zr_d1r, ↓zr_e1, ↓zr_e2, ↓zr_e0, ↓zr_f0, ↓zr_fs, ↓zr_s0, ↓zr_ss, ↓zr_len, ↓zr_len0, ↓zr_ok0, ↓zr_okn, ↓zr_oki, ↓zr_okr, ↓zr_oks, ↓zr_tt, ↓zr_ar0u, ↓zr_ar0n, ↓zr_ar1u, ↓zr_ar1n, ↓zr_ar2u, ↓zr_ar2n, ↓zr_obu, ↓zr_obn, ↓Nat.reduceAdd, Nat.reduceEqDiff, Nat.add_left_cancel_iff, not_false_eq_true, z_up_up, true_and, ↓sX8_next_0, ↓sX8_next_1, ↓sX8_next_4, ↓sX8_next_5, ↓sX8_next_8, ↓sX8_next_10, ↓sX8_next_11, ↓sX8_next_12, ↓sX8_next_15, ↓sX8_next_16, ↓sX8_next_19, ↓sX8_next_22, ↓sX8_next_25, ↓sX8_next_26, ↓sX8_next_27, ↓sX8_next_30, ↓sX8_next_31, ↓sX8_next_32, ↓sX8_next_35, ↓sX8_next_36, ↓sX8_next_37, ↓sX8_next_38, ↓sX8_next_39, ↓sX8_next_42, ↓sX8_next_43, ↓sX8_next_46, ↓sX8_next_49, ↓sX8_next_52, ↓sX8_next_53, ↓sX8_next_54, ↓sX8_next_57, ↓sX8_next_58, ↓sX8_next_59, ↓sX8_next_62, ↓sX8_next_63, ↓sX8_next_66, ↓sX8_next_67, ↓sX8_next_70, ↓sX8_next_73, zn_a, zn_b, zq1, zq2, zq3, zq4, zq5, zq6, zq7, eq_self, Int32.reduceLT, Int32.reduceLE, Int32.reduceAdd, not_true_eq_false, not_false_eq_true, false_implies, true_implies, and_true, true_and, or_true, true_or]
  exact hP _ _ ⟨⟨_, rfl⟩, (zKc.rf _ _).up _ _ (by omega), ⟨⟨rel, ar, st, tk + 1, y, fa, t1, t2, by rw [z_up_2, if_pos rfl]; rfl, hok.1, hok.2.1, hok.2.2.1, by omega, hok.2.2.2.2⟩, hR.fr0 hf⟩⟩
set_option maxRecDepth 100000 in
set_option maxHeartbeats 1000000 in
theorem k_value (G : zG) (w : zW) (b : Nat) (i : Int32) (wy rc su : Int32) (fl : Nat → Int32) (h : zCl b w wy rc su fl) :
    z_M G yX8_value wsX8_value zrm1 0 0 [.ref b, .int i] w (fun x w' => (∃ v, x = some (.int v)) ∧ zKc b w w' ∧ zCl b w' wy rc su fl) := by
  obtain ⟨⟨rel, ar, st, tk, hd, fa, t1, t2, h0, hok⟩, hR⟩ := id h
  unfold zSM at h0
  have ho1 := hok.1
  have ho4 := hok.2.2.2.1
  refine z_mt (nL := 2) (cc := cX8_value) (ret := some .int) (by decide) rfl (Nat.le_of_ble_eq_true rfl) 0 [some (.ref b), some (.int i)] rfl ?_
  intro P hP Γ C E
  obtain ⟨hc, fn, f8, fb, r1⟩ := hR.1
  refine z_gn C E tkX8_value (Nat.zero_le _) (Nat.zero_le _) [] 60 ?_
  simp only [↓z_rn_f, ↓z_rn_t, ↓z_rn_0, ↓zr_in0, ↓zr_ins, ↓zr_inn, ↓zr_bt, ↓zr_bf, ↓zr_li0, ↓zr_lis, ↓zr_la0, ↓zr_las, ↓zr_ll0, ↓zr_lls, ↓zr_1i, ↓zr_1l, ↓zr_1a, ↓zr_2i, ↓zr_2l, ↓zr_lsi, ↓zr_ia, ↓zr_aa, ↓zr_dia, ↓zr_iia, ↓zr_lia, ↓zr_d1i, ↓zr_d1r, ↓zr_e1, ↓zr_e2, ↓zr_e0, ↓zr_f0, ↓zr_fs, ↓zr_s0, ↓zr_ss, ↓zr_len, ↓zr_len0, ↓zr_ok0, ↓zr_okn, ↓zr_oki, ↓zr_okr, ↓zr_oks, ↓zr_tt, ↓zr_ar0u, ↓zr_ar0n, ↓zr_ar1u, ↓zr_ar1n, ↓zr_ar2u, ↓zr_ar2n, ↓zr_obu, ↓zr_obn, ↓Nat.reduceAdd, Nat.reduceEqDiff, Nat.add_left_cancel_iff, not_false_eq_true, z_up_up, true_and, ↓sX8_value_0, ↓sX8_value_1, ↓sX8_value_4, ↓sX8_value_5, ↓sX8_value_8, ↓sX8_value_9, ↓sX8_value_12, ↓sX8_value_13, ↓sX8_value_14, ↓sX8_value_17, ↓sX8_value_18, ↓sX8_value_21, ↓sX8_value_24, ↓sX8_value_27, ↓sX8_value_28, ↓sX8_value_29, ↓sX8_value_30, ↓sX8_value_33, ↓sX8_value_34, ↓sX8_value_37, ↓sX8_value_38, ↓sX8_value_41, ↓zh_ob h0, zn_a, zn_b, zq1, zq2, zq3, zq4, zq5, zq6, zq7, eq_self, Int32.reduceLT, Int32.reduceLE, Int32.reduceAdd, not_true_eq_false, not_false_eq_true, false_implies, true_implies, and_true, true_and, or_true, true_or]
  refine ⟨fun _ => hP _ _ ⟨⟨_, rfl⟩, zKc.rf _ _, h⟩, fun _ => ⟨fun _ => hP _ _ ⟨⟨_, rfl⟩, zKc.rf _ _, h⟩, fun _ => ?_⟩⟩
  refine z_callV (n := 1) (As := [.int hd]) (rest := [.int i]) C E (c_Rows_lengthOf G w (b + 1) (b + 2) (b + 3) (b + 4) 1600 hc hd fn f8 fb r1) gX8_value_X5_lengthOf rfl rfl rfl (by decide +kernel) (by decide) dX8_value_21 rfl ⟨Nat.zero_le _, Nat.zero_le _⟩ (Nat.le_of_ble_eq_true rfl) rfl r1.1.1 ?_
  rintro x w1 ⟨⟨y, rfl, -⟩, hw1⟩
  rw [hw1]
  clear hw1 w1
  simp only [Option.toList, List.cons_append, List.nil_append]
  refine z_gn C E tkX8_value (Nat.zero_le _) (Nat.zero_le _) [] 60 ?_
  simp only [↓z_rn_f, ↓z_rn_t, ↓z_rn_0, ↓zr_in0, ↓zr_ins, ↓zr_inn, ↓zr_bt, ↓zr_bf, ↓zr_li0, ↓zr_lis, ↓zr_la0, ↓zr_las, ↓zr_ll0, ↓zr_lls, ↓zr_1i, ↓zr_1l, ↓zr_1a, ↓zr_2i, ↓zr_2l, ↓zr_lsi, ↓zr_ia, ↓zr_aa, ↓zr_dia, ↓zr_iia, ↓zr_lia, ↓zr_d1i, ↓zr_d1r, ↓zr_e1, ↓zr_e2, ↓zr_e0, ↓zr_f0, ↓zr_fs, ↓zr_s0, ↓zr_ss, ↓zr_len, ↓zr_len0, ↓zr_ok0, ↓zr_okn, ↓zr_oki, ↓zr_okr, ↓zr_oks, ↓zr_tt, ↓zr_ar0u, ↓zr_ar0n, ↓zr_ar1u, ↓zr_ar1n, ↓zr_ar2u, ↓zr_ar2n, ↓zr_obu, ↓zr_obn, ↓Nat.reduceAdd, Nat.reduceEqDiff, Nat.add_left_cancel_iff, not_false_eq_true, z_up_up, true_and, ↓sX8_value_0, ↓sX8_value_1, ↓sX8_value_4, ↓sX8_value_5, ↓sX8_value_8, ↓sX8_value_9, ↓sX8_value_12, ↓sX8_value_13, ↓sX8_value_14, ↓sX8_value_17, ↓sX8_value_18, ↓sX8_value_21, ↓sX8_value_24, ↓sX8_value_27, ↓sX8_value_28, ↓sX8_value_29, ↓sX8_value_30, ↓sX8_value_33, ↓sX8_value_34, ↓sX8_value_37, ↓sX8_value_38, ↓sX8_value_41, ↓zh_ob h0, zn_a, zn_b, zq1, zq2, zq3, zq4, zq5, zq6, zq7, eq_self, Int32.reduceLT, Int32.reduceLE, Int32.reduceAdd, not_true_eq_false, not_false_eq_true, false_implies, true_implies, and_true, true_and, or_true, true_or]
  refine ⟨fun _ => ?_, fun _ => hP _ _ ⟨⟨_, rfl⟩, zKc.rf _ _, h⟩⟩
  refine z_callV (n := 2) (As := [.int hd, .int i]) (rest := []) C E (c_Rows_byteAt G w (b + 1) (b + 2) (b + 3) (b + 4) 1600 hc hd i fn f8 fb r1) gX8_value_X5_byteAt rfl rfl rfl (by decide +kernel) (by decide) dX8_value_38 rfl ⟨Nat.zero_le _, Nat.zero_le _⟩ (Nat.le_of_ble_eq_true rfl) rfl r1.1.1 ?_
  rintro x w1 ⟨⟨y, rfl⟩, hw1⟩
  rw [hw1]
  clear hw1 w1
  simp only [Option.toList, List.cons_append, List.nil_append]
  refine z_gn C E tkX8_value (Nat.zero_le _) (Nat.zero_le _) [] 60 ?_
  simp only [↓z_rn_f, ↓z_rn_t, ↓z_rn_0, ↓zr_in0, ↓zr_ins, ↓zr_inn, ↓zr_bt, ↓zr_bf, ↓zr_li0, ↓zr_lis, ↓zr_la0, ↓zr_las, ↓zr_ll0, ↓zr_lls, ↓zr_1i, ↓zr_1l, ↓zr_1a, ↓zr_2i, ↓zr_2l, ↓zr_lsi, ↓zr_ia, ↓zr_aa, ↓zr_dia, ↓zr_iia, ↓zr_lia, ↓zr_d1i, ↓zr_d1r, ↓zr_e1, ↓zr_e2, ↓zr_e0, ↓zr_f0, ↓zr_fs, ↓zr_s0, ↓zr_ss, ↓zr_len, ↓zr_len0, ↓zr_ok0, ↓zr_okn, ↓zr_oki, ↓zr_okr, ↓zr_oks, ↓zr_tt, ↓zr_ar0u, ↓zr_ar0n, ↓zr_ar1u, ↓zr_ar1n, ↓zr_ar2u, ↓zr_ar2n, ↓zr_obu, ↓zr_obn, ↓Nat.reduceAdd, Nat.reduceEqDiff, Nat.add_left_cancel_iff, not_false_eq_true, z_up_up, true_and, ↓sX8_value_0, ↓sX8_value_1, ↓sX8_value_4, ↓sX8_value_5, ↓sX8_value_8, ↓sX8_value_9, ↓sX8_value_12, ↓sX8_value_13, ↓sX8_value_14, ↓sX8_value_17, ↓sX8_value_18, ↓sX8_value_21, ↓sX8_value_24, ↓sX8_value_27, ↓sX8_value_28, ↓sX8_value_29, ↓sX8_value_30, ↓sX8_value_33, ↓sX8_value_34, ↓sX8_value_37, ↓sX8_value_38, ↓sX8_value_41, zn_a, zn_b, zq1, zq2, zq3, zq4, zq5, zq6, zq7, eq_self, Int32.reduceLT, Int32.reduceLE, Int32.reduceAdd, not_true_eq_false, not_false_eq_true, false_implies, true_implies, and_true, true_and, or_true, true_or]
  exact hP _ _ ⟨⟨_, rfl⟩, zKc.rf _ _, h⟩
set_option maxRecDepth 100000 in
set_option maxHeartbeats 1000000 in
theorem k_merge (G : zG) (w : zW) (b : Nat) (n r : Int32) (wy rc su : Int32) (fl : Nat → Int32) (h : zCl b w wy rc su fl) :
    z_M G yX8_merge wsX8_merge zrm2 0 0 [.ref b, .int n, .int r] w (fun x w' => (∃ v, x = some (.int v)) ∧ zKc b w w' ∧ zCl b w' wy rc su fl) := by
  obtain ⟨⟨rel, ar, st, tk, hd, fa, t1, t2, h0, hok⟩, hR⟩ := id h
  unfold zSM at h0
  have ho1 := hok.1
  have ho4 := hok.2.2.2.1
  refine z_mt (nL := 3) (cc := cX8_merge) (ret := some .int) (by decide) rfl (Nat.le_of_ble_eq_true rfl) 0 [some (.ref b), some (.int n), some (.int r)] rfl ?_
  intro P hP Γ C E
  refine z_gn C E tkX8_merge (Nat.zero_le _) (Nat.zero_le _) [] 60 ?_
  simp only [↓z_rn_f, ↓z_rn_t, ↓z_rn_0, ↓zr_in0, ↓zr_ins, ↓zr_inn, ↓zr_bt, ↓zr_bf, ↓zr_li0, ↓zr_lis, ↓zr_la0, ↓zr_las, ↓zr_ll0, ↓zr_lls, ↓zr_1i, ↓zr_1l, ↓zr_1a, ↓zr_2i, ↓zr_2l, ↓zr_lsi, ↓zr_ia, ↓zr_aa, ↓zr_dia, ↓zr_iia, ↓zr_lia, ↓zr_d1i, ↓zr_d1r, ↓zr_e1, ↓zr_e2, ↓zr_e0, ↓zr_f0, ↓zr_fs, ↓zr_s0, ↓zr_ss, ↓zr_len, ↓zr_len0, ↓zr_ok0, ↓zr_okn, ↓zr_oki, ↓zr_okr, ↓zr_oks, ↓zr_tt, ↓zr_ar0u, ↓zr_ar0n, ↓zr_ar1u, ↓zr_ar1n, ↓zr_ar2u, ↓zr_ar2n, ↓zr_obu, ↓zr_obn, ↓Nat.reduceAdd, Nat.reduceEqDiff, Nat.add_left_cancel_iff, not_false_eq_true, z_up_up, true_and, ↓sX8_merge_0, ↓sX8_merge_1, ↓sX8_merge_2, ↓sX8_merge_5, ↓sX8_merge_8, ↓sX8_merge_10, ↓sX8_merge_11, ↓sX8_merge_12, ↓sX8_merge_15, ↓sX8_merge_16, ↓sX8_merge_18, ↓sX8_merge_21, ↓sX8_merge_23, ↓sX8_merge_24, ↓sX8_merge_25, ↓sX8_merge_28, ↓sX8_merge_29, ↓sX8_merge_30, ↓sX8_merge_33, ↓zh_ob h0, zn_a, zn_b, zq1, zq2, zq3, zq4, zq5, zq6, zq7, eq_self, Int32.reduceLT, Int32.reduceLE, Int32.reduceAdd, not_true_eq_false, not_false_eq_true, false_implies, true_implies, and_true, true_and, or_true, true_or]
  refine z_callV (n := 1) (As := [.int r]) (rest := []) C E (k_isRecord G w b r wy rc su fl h) gX8_merge_X8_isRecord rfl rfl rfl (by decide +kernel) (by decide) dX8_merge_2 rfl ⟨Nat.zero_le _, Nat.zero_le _⟩ (Nat.le_of_ble_eq_true rfl) rfl h0 ?_
  rintro x w1 ⟨rfl, hw1⟩
  rw [hw1]
  clear hw1 w1
  simp only [Option.toList, List.cons_append, List.nil_append]
  refine z_gn C E tkX8_merge (Nat.zero_le _) (Nat.zero_le _) [] 60 ?_
  simp only [↓z_rn_f, ↓z_rn_t, ↓z_rn_0, ↓zr_in0, ↓zr_ins, ↓zr_inn, ↓zr_bt, ↓zr_bf, ↓zr_li0, ↓zr_lis, ↓zr_la0, ↓zr_las, ↓zr_ll0, ↓zr_lls, ↓zr_1i, ↓zr_1l, ↓zr_1a, ↓zr_2i, ↓zr_2l, ↓zr_lsi, ↓zr_ia, ↓zr_aa, ↓zr_dia, ↓zr_iia, ↓zr_lia, ↓zr_d1i, ↓zr_d1r, ↓zr_e1, ↓zr_e2, ↓zr_e0, ↓zr_f0, ↓zr_fs, ↓zr_s0, ↓zr_ss, ↓zr_len, ↓zr_len0, ↓zr_ok0, ↓zr_okn, ↓zr_oki, ↓zr_okr, ↓zr_oks, ↓zr_tt, ↓zr_ar0u, ↓zr_ar0n, ↓zr_ar1u, ↓zr_ar1n, ↓zr_ar2u, ↓zr_ar2n, ↓zr_obu, ↓zr_obn, ↓Nat.reduceAdd, Nat.reduceEqDiff, Nat.add_left_cancel_iff, not_false_eq_true, z_up_up, true_and, ↓sX8_merge_0, ↓sX8_merge_1, ↓sX8_merge_2, ↓sX8_merge_5, ↓sX8_merge_8, ↓sX8_merge_10, ↓sX8_merge_11, ↓sX8_merge_12, ↓sX8_merge_15, ↓sX8_merge_16, ↓sX8_merge_18, ↓sX8_merge_21, ↓sX8_merge_23, ↓sX8_merge_24, ↓sX8_merge_25, ↓sX8_merge_28, ↓sX8_merge_29, ↓sX8_merge_30, ↓sX8_merge_33, ↓zh_ob h0, zn_a, zn_b, zq1, zq2, zq3, zq4, zq5, zq6, zq7, eq_self, Int32.reduceLT, Int32.reduceLE, Int32.reduceAdd, not_true_eq_false, not_false_eq_true, false_implies, true_implies, and_true, true_and, or_true, true_or]
  have hI := hR.2.2.2.2.2.2.2.2.1
  have h26 := hI.choose_spec.choose_spec.choose_spec.1
  refine ⟨fun _ => ⟨fun _ => hP _ _ ⟨⟨_, rfl⟩, zKc.rf _ _, h⟩, fun _ => ⟨fun _ => ?_, fun _ => hP _ _ ⟨⟨_, rfl⟩, zKc.rf _ _, h⟩⟩⟩, fun _ => hP _ _ ⟨⟨_, rfl⟩, zKc.rf _ _, h⟩⟩
  refine z_callV (n := 2) (As := [.int n, .int r]) (rest := []) C E (c_In_add G w b n r hI) gX8_merge_X2_add rfl rfl rfl (by decide +kernel) (by decide) dX8_merge_30 rfl ⟨Nat.zero_le _, Nat.zero_le _⟩ (Nat.le_of_ble_eq_true rfl) rfl h26 ?_
  rintro x w1 ⟨⟨y, rfl⟩, hf, hI1⟩
  simp only [Option.toList, List.cons_append, List.nil_append]
  refine z_gn C E tkX8_merge (Nat.zero_le _) (Nat.zero_le _) [] 60 ?_
  simp only [↓z_rn_f, ↓z_rn_t, ↓z_rn_0, ↓zr_in0, ↓zr_ins, ↓zr_inn, ↓zr_bt, ↓zr_bf, ↓zr_li0, ↓zr_lis, ↓zr_la0, ↓zr_las, ↓zr_ll0, ↓zr_lls, ↓zr_1i, ↓zr_1l, ↓zr_1a, ↓zr_2i, ↓zr_2l, ↓zr_lsi, ↓zr_ia, ↓zr_aa, ↓zr_dia, ↓zr_iia, ↓zr_lia, ↓zr_d1i, ↓zr_d1r, ↓zr_e1, ↓zr_e2, ↓zr_e0, ↓zr_f0, ↓zr_fs, ↓zr_s0, ↓zr_ss, ↓zr_len, ↓zr_len0, ↓zr_ok0, ↓zr_okn, ↓zr_oki, ↓zr_okr, ↓zr_oks, ↓zr_tt, ↓zr_ar0u, ↓zr_ar0n, ↓zr_ar1u, ↓zr_ar1n, ↓zr_ar2u, ↓zr_ar2n, ↓zr_obu, ↓zr_obn, ↓Nat.reduceAdd, Nat.reduceEqDiff, Nat.add_left_cancel_iff, not_false_eq_true, z_up_up, true_and, ↓sX8_merge_0, ↓sX8_merge_1, ↓sX8_merge_2, ↓sX8_merge_5, ↓sX8_merge_8, ↓sX8_merge_10, ↓sX8_merge_11, ↓sX8_merge_12, ↓sX8_merge_15, ↓sX8_merge_16, ↓sX8_merge_18, ↓sX8_merge_21, ↓sX8_merge_23, ↓sX8_merge_24, ↓sX8_merge_25, ↓sX8_merge_28, ↓sX8_merge_29, ↓sX8_merge_30, ↓sX8_merge_33, zn_a, zn_b, zq1, zq2, zq3, zq4, zq5, zq6, zq7, eq_self, Int32.reduceLT, Int32.reduceLE, Int32.reduceAdd, not_true_eq_false, not_false_eq_true, false_implies, true_implies, and_true, true_and, or_true, true_or]
  obtain ⟨r1, r2, ⟨td, r3⟩, ⟨he, rn, as, r4⟩, r5, r6, r7, r8, r9, r10, r11, r12⟩ := hR
  exact hP _ _ ⟨⟨_, rfl⟩, (zKc.rf _ _).fr hf (by intro k hk; simp at hk; omega), ⟨⟨rel, ar, st, tk, hd, fa, t1, t2, (hf.2 b (by simp)).trans h0, hok⟩, r1.fr _ hf (by simp), r2.fr _ hf (by simp), ⟨td, r3.fr _ hf (by intro k hk; simp at hk; omega)⟩, ⟨he, rn, as, r4.fr _ hf (by intro k hk; simp at hk; omega)⟩, r5.fr _ hf (by simp), r6.fr _ hf (by intro k hk; simp at hk; omega), r7.fr _ hf (by simp), r8.fr _ hf (by simp), hI1, r10.fr _ hf (by simp), r11.fr _ hf (by simp), r12.fr _ hf (by simp)⟩⟩
