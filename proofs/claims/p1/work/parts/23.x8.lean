theorem zn_a (b k : Nat) : (b + (k + 1) = b) = False := by simp
theorem zn_b (b k : Nat) : (b = b + (k + 1)) = False := by simp
theorem zq1 : ((0 : Int32) = 1) = False := eq_false (by decide)
theorem zq2 : ((0 : Int32) = 2) = False := eq_false (by decide)
theorem zq3 : ((0 : Int32) = 4) = False := eq_false (by decide)
theorem zq4 : ((0 : Int32) = 8) = False := eq_false (by decide)
theorem zq5 : ((0 : Int32) = 400) = False := eq_false (by decide)
theorem zq6 : ((0 : Int32) = (-1)) = False := eq_false (by decide)
theorem zq7 : ((1 : Int32) = 0) = False := eq_false (by decide)
/-- the class as its constructor leaves it, at b -/
def zFr (b : Nat) (w : zW) : Prop := ∀ (k : Nat) (c : zC), (zX8c b)[k]? = some c → w.2 (b + k) = some c
/-- the reference as its constructor leaves it, at c -/
def zFm (c : Nat) (w : zW) : Prop := ∀ (k : Nat) (d : zC), (zX9c c)[k]? = some d → w.2 (c + k) = some d
/-- nothing but the class has changed -/
def zKp (b : Nat) (w w' : zW) : Prop := w.1 ≤ w'.1 ∧ ∀ k, b + 32 ≤ k → k < w.1 → w'.2 k = w.2 k
theorem zKp.rf (b : Nat) (w : zW) : zKp b w w := ⟨Nat.le_refl _, fun _ _ _ => rfl⟩
theorem zKp.up {b : Nat} {w w' : zW} (h : zKp b w w') (j : Nat) (c : zC) (hj : j < b + 32) : zKp b w (z_up w' j c) := ⟨h.1, fun k hk hl => by
  rw [z_up_2, if_neg (by omega)]
  exact h.2 k hk hl⟩
theorem zKp.fr {b : Nat} {w w' w2 : zW} (h : zKp b w w') {S : List Nat} (hf : z_fr S w' w2) (hS : ∀ k, k ∈ S → k < b + 32) : zKp b w w2 := ⟨by rw [hf.1]; exact h.1, fun k hk hl => by
  rw [hf.2 k (fun hm => by have := hS k hm; omega)]
  exact h.2 k hk hl⟩
theorem zKp.tr {b : Nat} {w w' w2 : zW} (h : zKp b w w') (h2 : zKp b w' w2) : zKp b w w2 := ⟨Nat.le_trans h.1 h2.1, fun k hk hl => (h2.2 k hk (Nat.lt_of_lt_of_le hl h.1)).trans (h.2 k hk hl)⟩
def zFld (fr sz mx : Int32) : Int32 := if 0 ≤ fr.toInt ∧ fr.toInt < 32 ∧ 1 ≤ sz.toInt ∧ sz.toInt ≤ mx.toInt ∧ sz.toInt ≤ (32 - fr).toInt then 1 else 0
theorem zFld_01 (fr sz mx : Int32) : zFld fr sz mx = 0 ∨ zFld fr sz mx = 1 := by
  unfold zFld
  split
  · exact Or.inr rfl
  · exact Or.inl rfl
set_option maxRecDepth 100000 in
set_option maxHeartbeats 1000000 in
theorem c_isField (G : zG) (w : zW) (fr sz mx : Int32) :
    z_M G yX8_isField wsX8_isField zrm0 0 0 [.int fr, .int sz, .int mx] w (fun x w' => x = some (.int (zFld fr sz mx)) ∧ w' = w) := by
  refine z_mt (nL := 3) (cc := cX8_isField) (ret := some .boolean) (by decide) rfl (Nat.le_of_ble_eq_true rfl) 0 [some (.int fr), some (.int sz), some (.int mx)] rfl ?_
  intro P hP Γ C E
  refine z_gn C E tkX8_isField (Nat.zero_le _) (Nat.zero_le _) [] 60 ?_
  simp only [↓z_rn_s, ↓z_rn_0, ↓zr_in0, ↓zr_ins, ↓zr_inn, ↓zr_bt, ↓zr_bf, ↓zr_li0, ↓zr_lis, ↓zr_la0, ↓zr_las, ↓zr_ll0, ↓zr_lls, ↓zr_1i, ↓zr_1l, ↓zr_1a, ↓zr_2i, ↓zr_2l, ↓zr_lsi, ↓zr_ia, ↓zr_aa, ↓zr_dia, ↓zr_iia, ↓zr_lia, ↓zr_d1i, ↓zr_d1r, ↓zr_e1, ↓zr_e2, ↓zr_e0, ↓zr_f0, ↓zr_fs, ↓zr_s0, ↓zr_ss, ↓zr_len, ↓zr_len0, ↓zr_ok0, ↓zr_okn, ↓zr_oki, ↓zr_okr, ↓zr_oks, ↓zr_tt, ↓zr_ar0u, ↓zr_ar0n, ↓zr_ar1u, ↓zr_ar1n, ↓zr_ar2u, ↓zr_ar2n, ↓zr_obu, ↓zr_obn, ↓Nat.reduceAdd, Nat.reduceEqDiff, Nat.add_left_cancel_iff, not_false_eq_true, z_up_up, true_and, ↓sX8_isField_0, ↓sX8_isField_1, ↓sX8_isField_4, ↓sX8_isField_5, ↓sX8_isField_7, ↓sX8_isField_10, ↓sX8_isField_11, ↓sX8_isField_12, ↓sX8_isField_15, ↓sX8_isField_16, ↓sX8_isField_17, ↓sX8_isField_20, ↓sX8_isField_21, ↓sX8_isField_23, ↓sX8_isField_24, ↓sX8_isField_25, ↓sX8_isField_28, ↓sX8_isField_29, ↓sX8_isField_32, ↓sX8_isField_33, zn_a, zn_b, zq1, zq2, zq3, zq4, zq5, zq6, zq7, eq_self, Int32.reduceLT, Int32.reduceLE, Int32.reduceAdd, not_true_eq_false, not_false_eq_true, false_implies, true_implies, and_true, true_and, or_true, true_or]
  repeat' first | refine And.intro ?_ ?_ | (show _ → _; intro _)
  all_goals try (first | exact Or.inl rfl | exact Or.inr rfl)
  all_goals try simp only [zi_lt, zi_le, zi_eq, Int32.reduceToInt] at *
  all_goals first | exact Or.inl rfl | exact Or.inr rfl | (refine hP _ _ ⟨?_, rfl⟩; unfold zFld; first | rw [if_pos (by omega)] | rw [if_neg (by omega)])
set_option maxRecDepth 100000 in
set_option maxHeartbeats 1000000 in
theorem c_Rows_held0 (G : zG) (w : zW) (r : Nat) (x1 x2 x3 x4 : Value) (held : Int32) (h0 : w.2 r = some (.inr (6, [x1, x2, x3, x4, .int held]))) :
    z_M G yX5_held wsX5_held zrm0 0 0 [.ref r] w (fun x w' => x = some (.int held) ∧ w' = w) := by
  refine z_mt (nL := 1) (cc := cX5_held) (ret := some .int) (by decide) rfl (Nat.le_of_ble_eq_true rfl) 0 [some (.ref r)] rfl ?_
  intro P hP Γ C E
  refine z_gn C E tkX5_held (Nat.zero_le _) (Nat.zero_le _) [] 60 ?_
  simp only [↓z_rn_s, ↓z_rn_0, ↓zr_in0, ↓zr_ins, ↓zr_inn, ↓zr_bt, ↓zr_bf, ↓zr_li0, ↓zr_lis, ↓zr_la0, ↓zr_las, ↓zr_ll0, ↓zr_lls, ↓zr_1i, ↓zr_1l, ↓zr_1a, ↓zr_2i, ↓zr_2l, ↓zr_lsi, ↓zr_ia, ↓zr_aa, ↓zr_dia, ↓zr_iia, ↓zr_lia, ↓zr_d1i, ↓zr_d1r, ↓zr_e1, ↓zr_e2, ↓zr_e0, ↓zr_f0, ↓zr_fs, ↓zr_s0, ↓zr_ss, ↓zr_len, ↓zr_len0, ↓zr_ok0, ↓zr_okn, ↓zr_oki, ↓zr_okr, ↓zr_oks, ↓zr_tt, ↓zr_ar0u, ↓zr_ar0n, ↓zr_ar1u, ↓zr_ar1n, ↓zr_ar2u, ↓zr_ar2n, ↓zr_obu, ↓zr_obn, ↓Nat.reduceAdd, Nat.reduceEqDiff, Nat.add_left_cancel_iff, not_false_eq_true, z_up_up, true_and, ↓sX5_held_0, ↓sX5_held_1, ↓sX5_held_4, ↓zh_ob h0, zn_a, zn_b, zq1, zq2, zq3, zq4, zq5, zq6, zq7, eq_self, Int32.reduceLT, Int32.reduceLE, Int32.reduceAdd, not_true_eq_false, not_false_eq_true, false_implies, true_implies, and_true, true_and, or_true, true_or]
  exact hP _ _ ⟨rfl, rfl⟩
set_option maxRecDepth 100000 in
set_option maxHeartbeats 1000000 in
theorem c_isRecord (G : zG) (w : zW) (b : Nat) (r : Int32) (h : zFr b w) :
    z_M G yX8_isRecord wsX8_isRecord zrm1 0 0 [.ref b, .int r] w (fun x w' => x = some (.int 0) ∧ w' = w) := by
  have h0 : w.2 b = some _ := h 0 _ rfl
  have h10 : w.2 (b + 10) = some _ := h 10 _ rfl
  refine z_mt (nL := 2) (cc := cX8_isRecord) (ret := some .boolean) (by decide) rfl (Nat.le_of_ble_eq_true rfl) 0 [some (.ref b), some (.int r)] rfl ?_
  intro P hP Γ C E
  refine z_gn C E tkX8_isRecord (Nat.zero_le _) (Nat.zero_le _) [] 60 ?_
  simp only [↓z_rn_s, ↓z_rn_0, ↓zr_in0, ↓zr_ins, ↓zr_inn, ↓zr_bt, ↓zr_bf, ↓zr_li0, ↓zr_lis, ↓zr_la0, ↓zr_las, ↓zr_ll0, ↓zr_lls, ↓zr_1i, ↓zr_1l, ↓zr_1a, ↓zr_2i, ↓zr_2l, ↓zr_lsi, ↓zr_ia, ↓zr_aa, ↓zr_dia, ↓zr_iia, ↓zr_lia, ↓zr_d1i, ↓zr_d1r, ↓zr_e1, ↓zr_e2, ↓zr_e0, ↓zr_f0, ↓zr_fs, ↓zr_s0, ↓zr_ss, ↓zr_len, ↓zr_len0, ↓zr_ok0, ↓zr_okn, ↓zr_oki, ↓zr_okr, ↓zr_oks, ↓zr_tt, ↓zr_ar0u, ↓zr_ar0n, ↓zr_ar1u, ↓zr_ar1n, ↓zr_ar2u, ↓zr_ar2n, ↓zr_obu, ↓zr_obn, ↓Nat.reduceAdd, Nat.reduceEqDiff, Nat.add_left_cancel_iff, not_false_eq_true, z_up_up, true_and, ↓sX8_isRecord_0, ↓sX8_isRecord_1, ↓sX8_isRecord_2, ↓sX8_isRecord_5, ↓sX8_isRecord_6, ↓sX8_isRecord_7, ↓sX8_isRecord_10, ↓sX8_isRecord_13, ↓sX8_isRecord_16, ↓sX8_isRecord_17, ↓sX8_isRecord_20, ↓sX8_isRecord_21, ↓zh_ob h0, zn_a, zn_b, zq1, zq2, zq3, zq4, zq5, zq6, zq7, eq_self, Int32.reduceLT, Int32.reduceLE, Int32.reduceAdd, not_true_eq_false, not_false_eq_true, false_implies, true_implies, and_true, true_and, or_true, true_or]
  refine ⟨fun _ => hP _ _ ⟨rfl, rfl⟩, fun a1 => ?_⟩
  refine z_callV (n := 0) (As := []) (rest := [.int r]) C E (c_Rows_held0 G w (b + 10) _ _ _ _ _ h10) gX8_isRecord_X5_held rfl rfl rfl (by decide +kernel) (by decide) dX8_isRecord_10 rfl ⟨Nat.zero_le _, Nat.zero_le _⟩ (Nat.le_of_ble_eq_true rfl) rfl h10 ?_
  rintro x w1 ⟨rfl, hw1⟩
  rw [hw1]
  clear hw1 w1
  simp only [Option.toList, List.cons_append, List.nil_append]
  refine z_gn C E tkX8_isRecord (Nat.zero_le _) (Nat.zero_le _) [] 60 ?_
  simp only [↓z_rn_s, ↓z_rn_0, ↓zr_in0, ↓zr_ins, ↓zr_inn, ↓zr_bt, ↓zr_bf, ↓zr_li0, ↓zr_lis, ↓zr_la0, ↓zr_las, ↓zr_ll0, ↓zr_lls, ↓zr_1i, ↓zr_1l, ↓zr_1a, ↓zr_2i, ↓zr_2l, ↓zr_lsi, ↓zr_ia, ↓zr_aa, ↓zr_dia, ↓zr_iia, ↓zr_lia, ↓zr_d1i, ↓zr_d1r, ↓zr_e1, ↓zr_e2, ↓zr_e0, ↓zr_f0, ↓zr_fs, ↓zr_s0, ↓zr_ss, ↓zr_len, ↓zr_len0, ↓zr_ok0, ↓zr_okn, ↓zr_oki, ↓zr_okr, ↓zr_oks, ↓zr_tt, ↓zr_ar0u, ↓zr_ar0n, ↓zr_ar1u, ↓zr_ar1n, ↓zr_ar2u, ↓zr_ar2n, ↓zr_obu, ↓zr_obn, ↓Nat.reduceAdd, Nat.reduceEqDiff, Nat.add_left_cancel_iff, not_false_eq_true, z_up_up, true_and, ↓sX8_isRecord_0, ↓sX8_isRecord_1, ↓sX8_isRecord_2, ↓sX8_isRecord_5, ↓sX8_isRecord_6, ↓sX8_isRecord_7, ↓sX8_isRecord_10, ↓sX8_isRecord_13, ↓sX8_isRecord_16, ↓sX8_isRecord_17, ↓sX8_isRecord_20, ↓sX8_isRecord_21, zn_a, zn_b, zq1, zq2, zq3, zq4, zq5, zq6, zq7, eq_self, Int32.reduceLT, Int32.reduceLE, Int32.reduceAdd, not_true_eq_false, not_false_eq_true, false_implies, true_implies, and_true, true_and, or_true, true_or]
  refine ⟨fun _ => hP _ _ ⟨rfl, rfl⟩, fun a2 => ?_⟩
  exfalso
  simp only [zi_lt] at a1 a2
  have e0 : (0 : Int32).toInt = 0 := by decide
  have e1 : (1 : Int32).toInt = 1 := by decide
  omega
set_option maxRecDepth 100000 in
set_option maxHeartbeats 1000000 in
theorem c_Keys_told0 (G : zG) (w : zW) (r : Nat) (x1 x2 x3 x4 : Value) (told : Int32) (h0 : w.2 r = some (.inr (4, [x1, x2, x3, x4, .int told]))) :
    z_M G yX3_told wsX3_told zrm0 0 0 [.ref r] w (fun x w' => x = some (.int told) ∧ w' = w) := by
  refine z_mt (nL := 1) (cc := cX3_told) (ret := some .int) (by decide) rfl (Nat.le_of_ble_eq_true rfl) 0 [some (.ref r)] rfl ?_
  intro P hP Γ C E
  refine z_gn C E tkX3_told (Nat.zero_le _) (Nat.zero_le _) [] 60 ?_
  simp only [↓z_rn_s, ↓z_rn_0, ↓zr_in0, ↓zr_ins, ↓zr_inn, ↓zr_bt, ↓zr_bf, ↓zr_li0, ↓zr_lis, ↓zr_la0, ↓zr_las, ↓zr_ll0, ↓zr_lls, ↓zr_1i, ↓zr_1l, ↓zr_1a, ↓zr_2i, ↓zr_2l, ↓zr_lsi, ↓zr_ia, ↓zr_aa, ↓zr_dia, ↓zr_iia, ↓zr_lia, ↓zr_d1i, ↓zr_d1r, ↓zr_e1, ↓zr_e2, ↓zr_e0, ↓zr_f0, ↓zr_fs, ↓zr_s0, ↓zr_ss, ↓zr_len, ↓zr_len0, ↓zr_ok0, ↓zr_okn, ↓zr_oki, ↓zr_okr, ↓zr_oks, ↓zr_tt, ↓zr_ar0u, ↓zr_ar0n, ↓zr_ar1u, ↓zr_ar1n, ↓zr_ar2u, ↓zr_ar2n, ↓zr_obu, ↓zr_obn, ↓Nat.reduceAdd, Nat.reduceEqDiff, Nat.add_left_cancel_iff, not_false_eq_true, z_up_up, true_and, ↓sX3_told_0, ↓sX3_told_1, ↓sX3_told_4, ↓zh_ob h0, zn_a, zn_b, zq1, zq2, zq3, zq4, zq5, zq6, zq7, eq_self, Int32.reduceLT, Int32.reduceLE, Int32.reduceAdd, not_true_eq_false, not_false_eq_true, false_implies, true_implies, and_true, true_and, or_true, true_or]
  exact hP _ _ ⟨rfl, rfl⟩
set_option maxRecDepth 100000 in
set_option maxHeartbeats 1000000 in
theorem c_Inputs_all0 (G : zG) (w : zW) (r : Nat) (x1 x2 : Value) (all : Int32) (h0 : w.2 r = some (.inr (3, [x1, x2, .int all]))) :
    z_M G yX2_all wsX2_all zrm0 0 0 [.ref r] w (fun x w' => x = some (.int all) ∧ w' = w) := by
  refine z_mt (nL := 1) (cc := cX2_all) (ret := some .int) (by decide) rfl (Nat.le_of_ble_eq_true rfl) 0 [some (.ref r)] rfl ?_
  intro P hP Γ C E
  refine z_gn C E tkX2_all (Nat.zero_le _) (Nat.zero_le _) [] 60 ?_
  simp only [↓z_rn_s, ↓z_rn_0, ↓zr_in0, ↓zr_ins, ↓zr_inn, ↓zr_bt, ↓zr_bf, ↓zr_li0, ↓zr_lis, ↓zr_la0, ↓zr_las, ↓zr_ll0, ↓zr_lls, ↓zr_1i, ↓zr_1l, ↓zr_1a, ↓zr_2i, ↓zr_2l, ↓zr_lsi, ↓zr_ia, ↓zr_aa, ↓zr_dia, ↓zr_iia, ↓zr_lia, ↓zr_d1i, ↓zr_d1r, ↓zr_e1, ↓zr_e2, ↓zr_e0, ↓zr_f0, ↓zr_fs, ↓zr_s0, ↓zr_ss, ↓zr_len, ↓zr_len0, ↓zr_ok0, ↓zr_okn, ↓zr_oki, ↓zr_okr, ↓zr_oks, ↓zr_tt, ↓zr_ar0u, ↓zr_ar0n, ↓zr_ar1u, ↓zr_ar1n, ↓zr_ar2u, ↓zr_ar2n, ↓zr_obu, ↓zr_obn, ↓Nat.reduceAdd, Nat.reduceEqDiff, Nat.add_left_cancel_iff, not_false_eq_true, z_up_up, true_and, ↓sX2_all_0, ↓sX2_all_1, ↓sX2_all_4, ↓zh_ob h0, zn_a, zn_b, zq1, zq2, zq3, zq4, zq5, zq6, zq7, eq_self, Int32.reduceLT, Int32.reduceLE, Int32.reduceAdd, not_true_eq_false, not_false_eq_true, false_implies, true_implies, and_true, true_and, or_true, true_or]
  exact hP _ _ ⟨rfl, rfl⟩
def zAll (fr sz us : Int32) : Int32 := if 0 ≤ us.toInt ∧ us.toInt < 4 then zFld fr sz (zMost us.toNatClampNeg) else 0
theorem zAll_01 (fr sz us : Int32) : zAll fr sz us = 0 ∨ zAll fr sz us = 1 := by
  unfold zAll
  split
  · exact zFld_01 _ _ _
  · exact Or.inl rfl
theorem dX3_allows_8 : decode cX3_allows 8 = .ok (.arraylength, 1) := by decide +kernel
theorem dX3_allows_18 : decode cX3_allows 18 = .ok (.iaload, 1) := by decide +kernel
set_option maxRecDepth 100000 in
set_option maxHeartbeats 1000000 in
theorem c_Keys_allows (G : zG) (w : zW) (fr sz us : Int32) :
    z_M G yX3_allows wsX3_allows zrm1 0 0 [.int fr, .int sz, .int us] w (fun x w' => x = some (.int (zAll fr sz us)) ∧ w' = w) := by
  refine z_mt (nL := 3) (cc := cX3_allows) (ret := some .boolean) (by decide) rfl (Nat.le_of_ble_eq_true rfl) 0 [some (.int fr), some (.int sz), some (.int us)] rfl ?_
  intro P hP Γ C E
  refine z_gn C E tkX3_allows (Nat.zero_le _) (Nat.zero_le _) [] 60 ?_
  simp only [↓z_rn_s, ↓z_rn_0, ↓zr_in0, ↓zr_ins, ↓zr_inn, ↓zr_bt, ↓zr_bf, ↓zr_li0, ↓zr_lis, ↓zr_la0, ↓zr_las, ↓zr_ll0, ↓zr_lls, ↓zr_1i, ↓zr_1l, ↓zr_1a, ↓zr_2i, ↓zr_2l, ↓zr_lsi, ↓zr_ia, ↓zr_aa, ↓zr_dia, ↓zr_iia, ↓zr_lia, ↓zr_d1i, ↓zr_d1r, ↓zr_e1, ↓zr_e2, ↓zr_e0, ↓zr_f0, ↓zr_fs, ↓zr_s0, ↓zr_ss, ↓zr_len, ↓zr_len0, ↓zr_ok0, ↓zr_okn, ↓zr_oki, ↓zr_okr, ↓zr_oks, ↓zr_tt, ↓zr_ar0u, ↓zr_ar0n, ↓zr_ar1u, ↓zr_ar1n, ↓zr_ar2u, ↓zr_ar2n, ↓zr_obu, ↓zr_obn, ↓Nat.reduceAdd, Nat.reduceEqDiff, Nat.add_left_cancel_iff, not_false_eq_true, z_up_up, true_and, ↓sX3_allows_0, ↓sX3_allows_1, ↓sX3_allows_4, ↓sX3_allows_5, ↓sX3_allows_8, ↓sX3_allows_9, ↓sX3_allows_12, ↓sX3_allows_13, ↓sX3_allows_14, ↓sX3_allows_17, ↓sX3_allows_18, ↓sX3_allows_19, ↓sX3_allows_22, ↓sX3_allows_25, ↓sX3_allows_26, ↓sX3_allows_29, ↓sX3_allows_30, zn_a, zn_b, zq1, zq2, zq3, zq4, zq5, zq6, zq7, eq_self, Int32.reduceLT, Int32.reduceLE, Int32.reduceAdd, not_true_eq_false, not_false_eq_true, false_implies, true_implies, and_true, true_and, or_true, true_or]
  refine ⟨fun a1 => hP _ _ ⟨?_, rfl⟩, fun a1 => ?_⟩
  · simp only [zi_lt] at a1
    have e0 : (0 : Int32).toInt = 0 := by decide
    unfold zAll
    rw [if_neg (by omega)]
  refine z_most C (by decide +kernel) dX3_allows_5 fun t ht => ?_
  refine z_mlen C ht dX3_allows_8 ?_
  refine z_gn C E tkX3_allows (Nat.zero_le _) (Nat.zero_le _) [] 60 ?_
  simp only [↓z_rn_s, ↓z_rn_0, ↓zr_in0, ↓zr_ins, ↓zr_inn, ↓zr_bt, ↓zr_bf, ↓zr_li0, ↓zr_lis, ↓zr_la0, ↓zr_las, ↓zr_ll0, ↓zr_lls, ↓zr_1i, ↓zr_1l, ↓zr_1a, ↓zr_2i, ↓zr_2l, ↓zr_lsi, ↓zr_ia, ↓zr_aa, ↓zr_dia, ↓zr_iia, ↓zr_lia, ↓zr_d1i, ↓zr_d1r, ↓zr_e1, ↓zr_e2, ↓zr_e0, ↓zr_f0, ↓zr_fs, ↓zr_s0, ↓zr_ss, ↓zr_len, ↓zr_len0, ↓zr_ok0, ↓zr_okn, ↓zr_oki, ↓zr_okr, ↓zr_oks, ↓zr_tt, ↓zr_ar0u, ↓zr_ar0n, ↓zr_ar1u, ↓zr_ar1n, ↓zr_ar2u, ↓zr_ar2n, ↓zr_obu, ↓zr_obn, ↓Nat.reduceAdd, Nat.reduceEqDiff, Nat.add_left_cancel_iff, not_false_eq_true, z_up_up, true_and, ↓sX3_allows_0, ↓sX3_allows_1, ↓sX3_allows_4, ↓sX3_allows_5, ↓sX3_allows_8, ↓sX3_allows_9, ↓sX3_allows_12, ↓sX3_allows_13, ↓sX3_allows_14, ↓sX3_allows_17, ↓sX3_allows_18, ↓sX3_allows_19, ↓sX3_allows_22, ↓sX3_allows_25, ↓sX3_allows_26, ↓sX3_allows_29, ↓sX3_allows_30, zn_a, zn_b, zq1, zq2, zq3, zq4, zq5, zq6, zq7, eq_self, Int32.reduceLT, Int32.reduceLE, Int32.reduceAdd, not_true_eq_false, not_false_eq_true, false_implies, true_implies, and_true, true_and, or_true, true_or]
  refine ⟨fun a2 => hP _ _ ⟨?_, rfl⟩, fun a2 => ?_⟩
  · simp only [zi_le] at a2
    have e0 : (4 : Int32).toInt = 4 := by decide
    unfold zAll
    rw [if_neg (by omega)]
  refine z_most C (by decide +kernel) dX3_allows_14 fun t2 ht2 => ?_
  refine z_gn C E tkX3_allows (Nat.zero_le _) (Nat.zero_le _) [18] 60 ?_
  simp only [↓z_rn_s, ↓z_rn_0, ↓zr_in0, ↓zr_ins, ↓zr_inn, ↓zr_bt, ↓zr_bf, ↓zr_li0, ↓zr_lis, ↓zr_la0, ↓zr_las, ↓zr_ll0, ↓zr_lls, ↓zr_1i, ↓zr_1l, ↓zr_1a, ↓zr_2i, ↓zr_2l, ↓zr_lsi, ↓zr_ia, ↓zr_aa, ↓zr_dia, ↓zr_iia, ↓zr_lia, ↓zr_d1i, ↓zr_d1r, ↓zr_e1, ↓zr_e2, ↓zr_e0, ↓zr_f0, ↓zr_fs, ↓zr_s0, ↓zr_ss, ↓zr_len, ↓zr_len0, ↓zr_ok0, ↓zr_okn, ↓zr_oki, ↓zr_okr, ↓zr_oks, ↓zr_tt, ↓zr_ar0u, ↓zr_ar0n, ↓zr_ar1u, ↓zr_ar1n, ↓zr_ar2u, ↓zr_ar2n, ↓zr_obu, ↓zr_obn, ↓Nat.reduceAdd, Nat.reduceEqDiff, Nat.add_left_cancel_iff, not_false_eq_true, z_up_up, true_and, ↓sX3_allows_0, ↓sX3_allows_1, ↓sX3_allows_4, ↓sX3_allows_5, ↓sX3_allows_8, ↓sX3_allows_9, ↓sX3_allows_12, ↓sX3_allows_13, ↓sX3_allows_14, ↓sX3_allows_17, ↓sX3_allows_18, ↓sX3_allows_19, ↓sX3_allows_22, ↓sX3_allows_25, ↓sX3_allows_26, ↓sX3_allows_29, ↓sX3_allows_30, zn_a, zn_b, zq1, zq2, zq3, zq4, zq5, zq6, zq7, eq_self, Int32.reduceLT, Int32.reduceLE, Int32.reduceAdd, not_true_eq_false, not_false_eq_true, false_implies, true_implies, and_true, true_and, or_true, true_or]
  simp only [zi_le, zi_lt] at a1 a2
  have e0 : (0 : Int32).toInt = 0 := by decide
  have e4 : (4 : Int32).toInt = 4 := by decide
  have hz : zAll fr sz us = zFld fr sz (zMost us.toNatClampNeg) := by
    unfold zAll
    rw [if_pos (by omega)]
  refine z_mld C ht2 (vp_in_iff.mpr (by omega)) dX3_allows_18 ?_
  refine z_callSN (n := 3) (As := [.int _, .int _, .int _]) (rest := []) C E (c_isField G w fr sz _) ggX3_allows_X8_isField rfl rfl rfl (by decide +kernel) (by decide +kernel) (by decide +kernel) (by decide +kernel) (by decide) dX3_allows_19 rfl ⟨Nat.zero_le _, Nat.zero_le _⟩ (Nat.le_of_ble_eq_true rfl) ?_
  rintro x w1 ⟨rfl, hw1⟩
  rw [hw1]
  clear hw1 w1
  simp only [Option.toList, List.cons_append, List.nil_append]
  refine z_gn C E tkX3_allows (Nat.zero_le _) (Nat.zero_le _) [] 60 ?_
  simp only [↓z_rn_s, ↓z_rn_0, ↓zr_in0, ↓zr_ins, ↓zr_inn, ↓zr_bt, ↓zr_bf, ↓zr_li0, ↓zr_lis, ↓zr_la0, ↓zr_las, ↓zr_ll0, ↓zr_lls, ↓zr_1i, ↓zr_1l, ↓zr_1a, ↓zr_2i, ↓zr_2l, ↓zr_lsi, ↓zr_ia, ↓zr_aa, ↓zr_dia, ↓zr_iia, ↓zr_lia, ↓zr_d1i, ↓zr_d1r, ↓zr_e1, ↓zr_e2, ↓zr_e0, ↓zr_f0, ↓zr_fs, ↓zr_s0, ↓zr_ss, ↓zr_len, ↓zr_len0, ↓zr_ok0, ↓zr_okn, ↓zr_oki, ↓zr_okr, ↓zr_oks, ↓zr_tt, ↓zr_ar0u, ↓zr_ar0n, ↓zr_ar1u, ↓zr_ar1n, ↓zr_ar2u, ↓zr_ar2n, ↓zr_obu, ↓zr_obn, ↓Nat.reduceAdd, Nat.reduceEqDiff, Nat.add_left_cancel_iff, not_false_eq_true, z_up_up, true_and, ↓sX3_allows_0, ↓sX3_allows_1, ↓sX3_allows_4, ↓sX3_allows_5, ↓sX3_allows_8, ↓sX3_allows_9, ↓sX3_allows_12, ↓sX3_allows_13, ↓sX3_allows_14, ↓sX3_allows_17, ↓sX3_allows_18, ↓sX3_allows_19, ↓sX3_allows_22, ↓sX3_allows_25, ↓sX3_allows_26, ↓sX3_allows_29, ↓sX3_allows_30, zn_a, zn_b, zq1, zq2, zq3, zq4, zq5, zq6, zq7, eq_self, Int32.reduceLT, Int32.reduceLE, Int32.reduceAdd, not_true_eq_false, not_false_eq_true, false_implies, true_implies, and_true, true_and, or_true, true_or]
  have h01 := zFld_01 fr sz (zMost us.toNatClampNeg)
  refine ⟨fun a3 => hP _ _ ⟨by rw [hz, a3], rfl⟩, fun a3 => hP _ _ ⟨by rw [hz]; rcases h01 with h | h; exact absurd h a3; rw [h], rfl⟩⟩
set_option maxRecDepth 100000 in
set_option maxHeartbeats 1000000 in
theorem c_Keys_tell0 (G : zG) (w : zW) (b : Nat) (fr sz us dn : Int32) (h : zFr b w) :
    z_M G yX3_tell wsX3_tell zrm0 0 0 [.ref (b + 5), .int fr, .int sz, .int us, .int dn] w (fun x w' => x = some (.int 1) ∧ zKp b w w') := by
  have h5 : w.2 (b + 5) = some _ := h 5 _ rfl
  have h6 : w.2 (b + 6) = some _ := h 6 _ rfl
  have h7 : w.2 (b + 7) = some _ := h 7 _ rfl
  have h8 : w.2 (b + 8) = some _ := h 8 _ rfl
  have h9 : w.2 (b + 9) = some _ := h 9 _ rfl
  refine z_mt (nL := 5) (cc := cX3_tell) (ret := some .int) (by decide) rfl (Nat.le_of_ble_eq_true rfl) 0 [some (.ref (b + 5)), some (.int fr), some (.int sz), some (.int us), some (.int dn)] rfl ?_
  intro P hP Γ C E
  refine z_gn C E tkX3_tell (Nat.zero_le _) (Nat.zero_le _) [] 60 ?_
  simp only [↓z_rn_s, ↓z_rn_0, ↓zr_in0, ↓zr_ins, ↓zr_inn, ↓zr_bt, ↓zr_bf, ↓zr_li0, ↓zr_lis, ↓zr_la0, ↓zr_las, ↓zr_ll0, ↓zr_lls, ↓zr_1i, ↓zr_1l, ↓zr_1a, ↓zr_2i, ↓zr_2l, ↓zr_lsi, ↓zr_ia, ↓zr_aa, ↓zr_dia, ↓zr_iia, ↓zr_lia, ↓zr_d1i, ↓zr_d1r, ↓zr_e1, ↓zr_e2, ↓zr_e0, ↓zr_f0, ↓zr_fs, ↓zr_s0, ↓zr_ss, ↓zr_len, ↓zr_len0, ↓zr_ok0, ↓zr_okn, ↓zr_oki, ↓zr_okr, ↓zr_oks, ↓zr_tt, ↓zr_ar0u, ↓zr_ar0n, ↓zr_ar1u, ↓zr_ar1n, ↓zr_ar2u, ↓zr_ar2n, ↓zr_obu, ↓zr_obn, ↓Nat.reduceAdd, Nat.reduceEqDiff, Nat.add_left_cancel_iff, not_false_eq_true, z_up_up, true_and, ↓sX3_tell_0, ↓sX3_tell_1, ↓sX3_tell_4, ↓sX3_tell_6, ↓sX3_tell_9, ↓sX3_tell_10, ↓sX3_tell_11, ↓sX3_tell_12, ↓sX3_tell_15, ↓sX3_tell_16, ↓sX3_tell_19, ↓sX3_tell_20, ↓sX3_tell_21, ↓sX3_tell_22, ↓sX3_tell_25, ↓sX3_tell_26, ↓sX3_tell_29, ↓sX3_tell_30, ↓sX3_tell_31, ↓sX3_tell_32, ↓sX3_tell_35, ↓sX3_tell_36, ↓sX3_tell_39, ↓sX3_tell_40, ↓sX3_tell_41, ↓sX3_tell_42, ↓sX3_tell_45, ↓sX3_tell_46, ↓sX3_tell_49, ↓sX3_tell_51, ↓sX3_tell_52, ↓sX3_tell_53, ↓sX3_tell_54, ↓sX3_tell_57, ↓sX3_tell_58, ↓sX3_tell_59, ↓sX3_tell_62, ↓sX3_tell_63, ↓sX3_tell_66, ↓zh_ob h5, ↓zh_ar0 h6, ↓zh_ar0 h7, ↓zh_ar0 h8, ↓zh_ar1 h9, zn_a, zn_b, zq1, zq2, zq3, zq4, zq5, zq6, zq7, eq_self, Int32.reduceLT, Int32.reduceLE, Int32.reduceAdd, not_true_eq_false, not_false_eq_true, false_implies, true_implies, and_true, true_and, or_true, true_or]
  refine ⟨vp_in_iff.mpr (by decide), vp_in_iff.mpr (by decide), vp_in_iff.mpr (by decide), vp_in_iff.mpr (by decide), hP _ _ ⟨rfl, ?_⟩⟩
  repeat' refine zKp.up ?_ _ _ (by omega)
  exact zKp.rf b w
def zA_key (fr sz us : Int32) : Int32 := if zAll fr sz us = 0 then -4 else 1
set_option maxRecDepth 100000 in
set_option maxHeartbeats 1000000 in
theorem c_key (G : zG) (w : zW) (b : Nat) (fr sz us dn : Int32) (h : zFr b w) :
    z_M G yX8_key wsX8_key zrm2 0 0 [.ref b, .int fr, .int sz, .int us, .int dn] w (fun x w' => x = some (.int (zA_key fr sz us)) ∧ zKp b w w') := by
  have h0 : w.2 b = some _ := h 0 _ rfl
  have h5 : w.2 (b + 5) = some _ := h 5 _ rfl
  refine z_mt (nL := 5) (cc := cX8_key) (ret := some .int) (by decide) rfl (Nat.le_of_ble_eq_true rfl) 0 [some (.ref b), some (.int fr), some (.int sz), some (.int us), some (.int dn)] rfl ?_
  intro P hP Γ C E
  refine z_gn C E tkX8_key (Nat.zero_le _) (Nat.zero_le _) [] 60 ?_
  simp only [↓z_rn_s, ↓z_rn_0, ↓zr_in0, ↓zr_ins, ↓zr_inn, ↓zr_bt, ↓zr_bf, ↓zr_li0, ↓zr_lis, ↓zr_la0, ↓zr_las, ↓zr_ll0, ↓zr_lls, ↓zr_1i, ↓zr_1l, ↓zr_1a, ↓zr_2i, ↓zr_2l, ↓zr_lsi, ↓zr_ia, ↓zr_aa, ↓zr_dia, ↓zr_iia, ↓zr_lia, ↓zr_d1i, ↓zr_d1r, ↓zr_e1, ↓zr_e2, ↓zr_e0, ↓zr_f0, ↓zr_fs, ↓zr_s0, ↓zr_ss, ↓zr_len, ↓zr_len0, ↓zr_ok0, ↓zr_okn, ↓zr_oki, ↓zr_okr, ↓zr_oks, ↓zr_tt, ↓zr_ar0u, ↓zr_ar0n, ↓zr_ar1u, ↓zr_ar1n, ↓zr_ar2u, ↓zr_ar2n, ↓zr_obu, ↓zr_obn, ↓Nat.reduceAdd, Nat.reduceEqDiff, Nat.add_left_cancel_iff, not_false_eq_true, z_up_up, true_and, ↓sX8_key_0, ↓sX8_key_1, ↓sX8_key_2, ↓sX8_key_3, ↓sX8_key_6, ↓sX8_key_9, ↓sX8_key_11, ↓sX8_key_12, ↓sX8_key_13, ↓sX8_key_16, ↓sX8_key_19, ↓sX8_key_21, ↓sX8_key_22, ↓sX8_key_23, ↓sX8_key_26, ↓sX8_key_27, ↓sX8_key_28, ↓sX8_key_29, ↓sX8_key_31, ↓sX8_key_34, ↓zh_ob h0, zn_a, zn_b, zq1, zq2, zq3, zq4, zq5, zq6, zq7, eq_self, Int32.reduceLT, Int32.reduceLE, Int32.reduceAdd, not_true_eq_false, not_false_eq_true, false_implies, true_implies, and_true, true_and, or_true, true_or]
  refine z_callS (n := 3) (As := [.int fr, .int sz, .int us]) (rest := []) C E (c_Keys_allows G w fr sz us) gX8_key_X3_allows rfl rfl rfl (by decide +kernel) (by decide) dX8_key_3 rfl ⟨Nat.zero_le _, Nat.zero_le _⟩ (Nat.le_of_ble_eq_true rfl) ?_
  rintro x w1 ⟨rfl, hw1⟩
  rw [hw1]
  clear hw1 w1
  simp only [Option.toList, List.cons_append, List.nil_append]
  refine z_gn C E tkX8_key (Nat.zero_le _) (Nat.zero_le _) [] 60 ?_
  simp only [↓z_rn_s, ↓z_rn_0, ↓zr_in0, ↓zr_ins, ↓zr_inn, ↓zr_bt, ↓zr_bf, ↓zr_li0, ↓zr_lis, ↓zr_la0, ↓zr_las, ↓zr_ll0, ↓zr_lls, ↓zr_1i, ↓zr_1l, ↓zr_1a, ↓zr_2i, ↓zr_2l, ↓zr_lsi, ↓zr_ia, ↓zr_aa, ↓zr_dia, ↓zr_iia, ↓zr_lia, ↓zr_d1i, ↓zr_d1r, ↓zr_e1, ↓zr_e2, ↓zr_e0, ↓zr_f0, ↓zr_fs, ↓zr_s0, ↓zr_ss, ↓zr_len, ↓zr_len0, ↓zr_ok0, ↓zr_okn, ↓zr_oki, ↓zr_okr, ↓zr_oks, ↓zr_tt, ↓zr_ar0u, ↓zr_ar0n, ↓zr_ar1u, ↓zr_ar1n, ↓zr_ar2u, ↓zr_ar2n, ↓zr_obu, ↓zr_obn, ↓Nat.reduceAdd, Nat.reduceEqDiff, Nat.add_left_cancel_iff, not_false_eq_true, z_up_up, true_and, ↓sX8_key_0, ↓sX8_key_1, ↓sX8_key_2, ↓sX8_key_3, ↓sX8_key_6, ↓sX8_key_9, ↓sX8_key_11, ↓sX8_key_12, ↓sX8_key_13, ↓sX8_key_16, ↓sX8_key_19, ↓sX8_key_21, ↓sX8_key_22, ↓sX8_key_23, ↓sX8_key_26, ↓sX8_key_27, ↓sX8_key_28, ↓sX8_key_29, ↓sX8_key_31, ↓sX8_key_34, ↓zh_ob h0, zn_a, zn_b, zq1, zq2, zq3, zq4, zq5, zq6, zq7, eq_self, Int32.reduceLT, Int32.reduceLE, Int32.reduceAdd, not_true_eq_false, not_false_eq_true, false_implies, true_implies, and_true, true_and, or_true, true_or]
  refine ⟨fun a1 => ?_, fun a1 => ?_⟩
  · skip
    refine z_callV (n := 4) (As := [.int fr, .int sz, .int us, .int dn]) (rest := []) C E (c_Keys_tell0 G w b fr sz us dn h) gX8_key_X3_tell rfl rfl rfl (by decide +kernel) (by decide) dX8_key_31 rfl ⟨Nat.zero_le _, Nat.zero_le _⟩ (Nat.le_of_ble_eq_true rfl) rfl h5 ?_
    rintro x w1 ⟨rfl, hk⟩
    simp only [Option.toList, List.cons_append, List.nil_append]
    refine z_gn C E tkX8_key (Nat.zero_le _) (Nat.zero_le _) [] 60 ?_
    simp only [↓z_rn_s, ↓z_rn_0, ↓zr_in0, ↓zr_ins, ↓zr_inn, ↓zr_bt, ↓zr_bf, ↓zr_li0, ↓zr_lis, ↓zr_la0, ↓zr_las, ↓zr_ll0, ↓zr_lls, ↓zr_1i, ↓zr_1l, ↓zr_1a, ↓zr_2i, ↓zr_2l, ↓zr_lsi, ↓zr_ia, ↓zr_aa, ↓zr_dia, ↓zr_iia, ↓zr_lia, ↓zr_d1i, ↓zr_d1r, ↓zr_e1, ↓zr_e2, ↓zr_e0, ↓zr_f0, ↓zr_fs, ↓zr_s0, ↓zr_ss, ↓zr_len, ↓zr_len0, ↓zr_ok0, ↓zr_okn, ↓zr_oki, ↓zr_okr, ↓zr_oks, ↓zr_tt, ↓zr_ar0u, ↓zr_ar0n, ↓zr_ar1u, ↓zr_ar1n, ↓zr_ar2u, ↓zr_ar2n, ↓zr_obu, ↓zr_obn, ↓Nat.reduceAdd, Nat.reduceEqDiff, Nat.add_left_cancel_iff, not_false_eq_true, z_up_up, true_and, ↓sX8_key_0, ↓sX8_key_1, ↓sX8_key_2, ↓sX8_key_3, ↓sX8_key_6, ↓sX8_key_9, ↓sX8_key_11, ↓sX8_key_12, ↓sX8_key_13, ↓sX8_key_16, ↓sX8_key_19, ↓sX8_key_21, ↓sX8_key_22, ↓sX8_key_23, ↓sX8_key_26, ↓sX8_key_27, ↓sX8_key_28, ↓sX8_key_29, ↓sX8_key_31, ↓sX8_key_34, zn_a, zn_b, zq1, zq2, zq3, zq4, zq5, zq6, zq7, eq_self, Int32.reduceLT, Int32.reduceLE, Int32.reduceAdd, not_true_eq_false, not_false_eq_true, false_implies, true_implies, and_true, true_and, or_true, true_or]
    exact hP _ _ ⟨by unfold zA_key; rw [if_neg a1], hk⟩
  · exact hP _ _ ⟨by unfold zA_key; rw [if_pos a1], zKp.rf b w⟩
def zA_ways (n : Int32) : Int32 := if 2 ≤ n.toInt ∧ n.toInt ≤ 16 then 2 else -4
set_option maxRecDepth 100000 in
set_option maxHeartbeats 1000000 in
theorem c_ways (G : zG) (w : zW) (b : Nat) (n : Int32) (h : zFr b w) :
    z_M G yX8_ways wsX8_ways zrm0 0 0 [.ref b, .int n] w (fun x w' => x = some (.int (zA_ways n)) ∧ zKp b w w') := by
  have h0 : w.2 b = some _ := h 0 _ rfl
  refine z_mt (nL := 3) (cc := cX8_ways) (ret := some .int) (by decide) rfl (Nat.le_of_ble_eq_true rfl) 1 [some (.ref b), some (.int n), none] rfl ?_
  intro P hP Γ C E
  refine z_gn C E tkX8_ways (Nat.zero_le _) (Nat.zero_le _) [] 60 ?_
  simp only [↓z_rn_s, ↓z_rn_0, ↓zr_in0, ↓zr_ins, ↓zr_inn, ↓zr_bt, ↓zr_bf, ↓zr_li0, ↓zr_lis, ↓zr_la0, ↓zr_las, ↓zr_ll0, ↓zr_lls, ↓zr_1i, ↓zr_1l, ↓zr_1a, ↓zr_2i, ↓zr_2l, ↓zr_lsi, ↓zr_ia, ↓zr_aa, ↓zr_dia, ↓zr_iia, ↓zr_lia, ↓zr_d1i, ↓zr_d1r, ↓zr_e1, ↓zr_e2, ↓zr_e0, ↓zr_f0, ↓zr_fs, ↓zr_s0, ↓zr_ss, ↓zr_len, ↓zr_len0, ↓zr_ok0, ↓zr_okn, ↓zr_oki, ↓zr_okr, ↓zr_oks, ↓zr_tt, ↓zr_ar0u, ↓zr_ar0n, ↓zr_ar1u, ↓zr_ar1n, ↓zr_ar2u, ↓zr_ar2n, ↓zr_obu, ↓zr_obn, ↓Nat.reduceAdd, Nat.reduceEqDiff, Nat.add_left_cancel_iff, not_false_eq_true, z_up_up, true_and, ↓sX8_ways_0, ↓sX8_ways_1, ↓sX8_ways_2, ↓sX8_ways_5, ↓sX8_ways_6, ↓sX8_ways_8, ↓sX8_ways_11, ↓sX8_ways_13, ↓sX8_ways_14, ↓sX8_ways_15, ↓sX8_ways_18, ↓sX8_ways_19, ↓sX8_ways_20, ↓sX8_ways_21, ↓sX8_ways_24, ↓sX8_ways_25, ↓zh_ob h0, zn_a, zn_b, zq1, zq2, zq3, zq4, zq5, zq6, zq7, eq_self, Int32.reduceLT, Int32.reduceLE, Int32.reduceAdd, not_true_eq_false, not_false_eq_true, false_implies, true_implies, and_true, true_and, or_true, true_or]
  repeat' first | refine And.intro ?_ ?_ | (show _ → _; intro _)
  all_goals try (first | exact Or.inl rfl | exact Or.inr rfl)
  all_goals try simp only [zi_lt, zi_le, zi_eq, Int32.reduceToInt] at *
  all_goals first | exact Or.inl rfl | exact Or.inr rfl | (refine hP _ _ ⟨?_, ?_⟩ <;> first | exact zKp.rf b w | exact zKp.up (zKp.rf b w) _ _ (by omega) | (unfold zA_ways; first | rw [if_pos (by omega)] | rw [if_neg (by omega)]))
def zA_incl (i op v : Int32) : Int32 := if 0 ≤ i.toInt ∧ i.toInt < 32 ∧ 0 ≤ op.toInt ∧ op.toInt ≤ 4 ∧ 0 ≤ v.toInt ∧ v.toInt ≤ 255 then 1 else -4
set_option maxRecDepth 100000 in
set_option maxHeartbeats 1000000 in
theorem c_include (G : zG) (w : zW) (b : Nat) (i op v : Int32) (h : zFr b w) :
    z_M G yX8_include wsX8_include zrm1 0 0 [.ref b, .int i, .int op, .int v] w (fun x w' => x = some (.int (zA_incl i op v)) ∧ zKp b w w') := by
  have h0 : w.2 b = some _ := h 0 _ rfl
  have h19 : w.2 (b + 19) = some _ := h 19 _ rfl
  refine z_mt (nL := 4) (cc := cX8_include) (ret := some .int) (by decide) rfl (Nat.le_of_ble_eq_true rfl) 0 [some (.ref b), some (.int i), some (.int op), some (.int v)] rfl ?_
  intro P hP Γ C E
  have hgo : (0 ≤ i.toInt ∧ i.toInt < 32 ∧ 0 ≤ op.toInt ∧ op.toInt ≤ 4 ∧ 0 ≤ v.toInt ∧ v.toInt ≤ 255) → z_J G 4 Γ w 0 0 40 [some (.ref b), some (.int i), some (.int op), some (.int v)] [.int v, .int op, .int i, .ref (b + 19)] := by
    intro hc
    refine z_callV (n := 3) (As := [.int i, .int op, .int v]) (rest := []) C E (c_Condition_tell G w (b + 19) _ _ _ i op v h19) gX8_include_X0_tell rfl rfl rfl (by decide +kernel) (by decide) dX8_include_40 rfl ⟨Nat.zero_le _, Nat.zero_le _⟩ (Nat.le_of_ble_eq_true rfl) rfl h19 ?_
    rintro x w1 ⟨rfl, rfl⟩
    simp only [Option.toList, List.cons_append, List.nil_append]
    refine z_gn C E tkX8_include (Nat.zero_le _) (Nat.zero_le _) [] 60 ?_
    simp only [↓z_rn_s, ↓z_rn_0, ↓zr_in0, ↓zr_ins, ↓zr_inn, ↓zr_bt, ↓zr_bf, ↓zr_li0, ↓zr_lis, ↓zr_la0, ↓zr_las, ↓zr_ll0, ↓zr_lls, ↓zr_1i, ↓zr_1l, ↓zr_1a, ↓zr_2i, ↓zr_2l, ↓zr_lsi, ↓zr_ia, ↓zr_aa, ↓zr_dia, ↓zr_iia, ↓zr_lia, ↓zr_d1i, ↓zr_d1r, ↓zr_e1, ↓zr_e2, ↓zr_e0, ↓zr_f0, ↓zr_fs, ↓zr_s0, ↓zr_ss, ↓zr_len, ↓zr_len0, ↓zr_ok0, ↓zr_okn, ↓zr_oki, ↓zr_okr, ↓zr_oks, ↓zr_tt, ↓zr_ar0u, ↓zr_ar0n, ↓zr_ar1u, ↓zr_ar1n, ↓zr_ar2u, ↓zr_ar2n, ↓zr_obu, ↓zr_obn, ↓Nat.reduceAdd, Nat.reduceEqDiff, Nat.add_left_cancel_iff, not_false_eq_true, z_up_up, true_and, ↓sX8_include_0, ↓sX8_include_1, ↓sX8_include_4, ↓sX8_include_5, ↓sX8_include_7, ↓sX8_include_10, ↓sX8_include_11, ↓sX8_include_14, ↓sX8_include_15, ↓sX8_include_16, ↓sX8_include_19, ↓sX8_include_20, ↓sX8_include_23, ↓sX8_include_24, ↓sX8_include_27, ↓sX8_include_30, ↓sX8_include_32, ↓sX8_include_33, ↓sX8_include_34, ↓sX8_include_37, ↓sX8_include_38, ↓sX8_include_39, ↓sX8_include_40, ↓sX8_include_43, ↓sX8_include_44]
    exact hP _ _ ⟨by unfold zA_incl; rw [if_pos hc], zKp.up (zKp.rf b w) _ _ (by omega)⟩
  refine z_gn C E tkX8_include (Nat.zero_le _) (Nat.zero_le _) [] 60 ?_
  simp only [↓z_rn_s, ↓z_rn_0, ↓zr_in0, ↓zr_ins, ↓zr_inn, ↓zr_bt, ↓zr_bf, ↓zr_li0, ↓zr_lis, ↓zr_la0, ↓zr_las, ↓zr_ll0, ↓zr_lls, ↓zr_1i, ↓zr_1l, ↓zr_1a, ↓zr_2i, ↓zr_2l, ↓zr_lsi, ↓zr_ia, ↓zr_aa, ↓zr_dia, ↓zr_iia, ↓zr_lia, ↓zr_d1i, ↓zr_d1r, ↓zr_e1, ↓zr_e2, ↓zr_e0, ↓zr_f0, ↓zr_fs, ↓zr_s0, ↓zr_ss, ↓zr_len, ↓zr_len0, ↓zr_ok0, ↓zr_okn, ↓zr_oki, ↓zr_okr, ↓zr_oks, ↓zr_tt, ↓zr_ar0u, ↓zr_ar0n, ↓zr_ar1u, ↓zr_ar1n, ↓zr_ar2u, ↓zr_ar2n, ↓zr_obu, ↓zr_obn, ↓Nat.reduceAdd, Nat.reduceEqDiff, Nat.add_left_cancel_iff, not_false_eq_true, z_up_up, true_and, ↓sX8_include_0, ↓sX8_include_1, ↓sX8_include_4, ↓sX8_include_5, ↓sX8_include_7, ↓sX8_include_10, ↓sX8_include_11, ↓sX8_include_14, ↓sX8_include_15, ↓sX8_include_16, ↓sX8_include_19, ↓sX8_include_20, ↓sX8_include_23, ↓sX8_include_24, ↓sX8_include_27, ↓sX8_include_30, ↓sX8_include_32, ↓sX8_include_33, ↓sX8_include_34, ↓sX8_include_37, ↓sX8_include_38, ↓sX8_include_39, ↓sX8_include_40, ↓sX8_include_43, ↓sX8_include_44, ↓zh_ob h0, zn_a, zn_b, zq1, zq2, zq3, zq4, zq5, zq6, zq7, eq_self, Int32.reduceLT, Int32.reduceLE, Int32.reduceAdd, not_true_eq_false, not_false_eq_true, false_implies, true_implies, and_true, true_and, or_true, true_or]
  repeat' first | refine And.intro ?_ ?_ | (show _ → _; intro _)
  all_goals try (first | exact Or.inl rfl | exact Or.inr rfl)
  all_goals try simp only [zi_lt, zi_le, zi_eq, Int32.reduceToInt] at *
  all_goals first | exact hgo (by omega) | (refine hP _ _ ⟨?_, zKp.rf b w⟩; unfold zA_incl; rw [if_neg (by omega)])
def zA_sum (fr sz : Int32) : Int32 := if zFld fr sz 8 = 0 then -4 else 1
set_option maxRecDepth 100000 in
set_option maxHeartbeats 1000000 in
theorem c_Sums_tell0 (G : zG) (w : zW) (b : Nat) (fr sz : Int32) (h : zFr b w) :
    z_M G yX6_tell wsX6_tell zrm0 0 0 [.ref (b + 20), .int fr, .int sz] w (fun x w' => x = some (.int 1) ∧ zKp b w w') := by
  have h5 : w.2 (b + 20) = some _ := h 20 _ rfl
  have h6 : w.2 (b + 21) = some _ := h 21 _ rfl
  have h7 : w.2 (b + 22) = some _ := h 22 _ rfl
  refine z_mt (nL := 3) (cc := cX6_tell) (ret := some .int) (by decide) rfl (Nat.le_of_ble_eq_true rfl) 0 [some (.ref (b + 20)), some (.int fr), some (.int sz)] rfl ?_
  intro P hP Γ C E
  refine z_gn C E tkX6_tell (Nat.zero_le _) (Nat.zero_le _) [] 60 ?_
  simp only [↓z_rn_s, ↓z_rn_0, ↓zr_in0, ↓zr_ins, ↓zr_inn, ↓zr_bt, ↓zr_bf, ↓zr_li0, ↓zr_lis, ↓zr_la0, ↓zr_las, ↓zr_ll0, ↓zr_lls, ↓zr_1i, ↓zr_1l, ↓zr_1a, ↓zr_2i, ↓zr_2l, ↓zr_lsi, ↓zr_ia, ↓zr_aa, ↓zr_dia, ↓zr_iia, ↓zr_lia, ↓zr_d1i, ↓zr_d1r, ↓zr_e1, ↓zr_e2, ↓zr_e0, ↓zr_f0, ↓zr_fs, ↓zr_s0, ↓zr_ss, ↓zr_len, ↓zr_len0, ↓zr_ok0, ↓zr_okn, ↓zr_oki, ↓zr_okr, ↓zr_oks, ↓zr_tt, ↓zr_ar0u, ↓zr_ar0n, ↓zr_ar1u, ↓zr_ar1n, ↓zr_ar2u, ↓zr_ar2n, ↓zr_obu, ↓zr_obn, ↓Nat.reduceAdd, Nat.reduceEqDiff, Nat.add_left_cancel_iff, not_false_eq_true, z_up_up, true_and, ↓sX6_tell_0, ↓sX6_tell_1, ↓sX6_tell_4, ↓sX6_tell_5, ↓sX6_tell_8, ↓sX6_tell_9, ↓sX6_tell_10, ↓sX6_tell_11, ↓sX6_tell_14, ↓sX6_tell_15, ↓sX6_tell_18, ↓sX6_tell_19, ↓sX6_tell_20, ↓sX6_tell_21, ↓sX6_tell_24, ↓sX6_tell_25, ↓sX6_tell_28, ↓sX6_tell_29, ↓sX6_tell_30, ↓sX6_tell_31, ↓sX6_tell_32, ↓sX6_tell_35, ↓sX6_tell_36, ↓sX6_tell_37, ↓sX6_tell_40, ↓sX6_tell_41, ↓sX6_tell_44, ↓zh_ob h5, ↓zh_ar0 h6, ↓zh_ar0 h7, zn_a, zn_b, zq1, zq2, zq3, zq4, zq5, zq6, zq7, eq_self, Int32.reduceLT, Int32.reduceLE, Int32.reduceAdd, not_true_eq_false, not_false_eq_true, false_implies, true_implies, and_true, true_and, or_true, true_or]
  refine ⟨vp_in_iff.mpr (by decide), vp_in_iff.mpr (by decide), hP _ _ ⟨rfl, ?_⟩⟩
  repeat' refine zKp.up ?_ _ _ (by omega)
  exact zKp.rf b w
set_option maxRecDepth 100000 in
set_option maxHeartbeats 1000000 in
theorem c_sum (G : zG) (w : zW) (b : Nat) (fr sz : Int32) (h : zFr b w) :
    z_M G yX8_sum wsX8_sum zrm1 0 0 [.ref b, .int fr, .int sz] w (fun x w' => x = some (.int (zA_sum fr sz)) ∧ zKp b w w') := by
  have h0 : w.2 b = some _ := h 0 _ rfl
  have h20 : w.2 (b + 20) = some _ := h 20 _ rfl
  refine z_mt (nL := 3) (cc := cX8_sum) (ret := some .int) (by decide) rfl (Nat.le_of_ble_eq_true rfl) 0 [some (.ref b), some (.int fr), some (.int sz)] rfl ?_
  intro P hP Γ C E
  refine z_gn C E tkX8_sum (Nat.zero_le _) (Nat.zero_le _) [] 60 ?_
  simp only [↓z_rn_s, ↓z_rn_0, ↓zr_in0, ↓zr_ins, ↓zr_inn, ↓zr_bt, ↓zr_bf, ↓zr_li0, ↓zr_lis, ↓zr_la0, ↓zr_las, ↓zr_ll0, ↓zr_lls, ↓zr_1i, ↓zr_1l, ↓zr_1a, ↓zr_2i, ↓zr_2l, ↓zr_lsi, ↓zr_ia, ↓zr_aa, ↓zr_dia, ↓zr_iia, ↓zr_lia, ↓zr_d1i, ↓zr_d1r, ↓zr_e1, ↓zr_e2, ↓zr_e0, ↓zr_f0, ↓zr_fs, ↓zr_s0, ↓zr_ss, ↓zr_len, ↓zr_len0, ↓zr_ok0, ↓zr_okn, ↓zr_oki, ↓zr_okr, ↓zr_oks, ↓zr_tt, ↓zr_ar0u, ↓zr_ar0n, ↓zr_ar1u, ↓zr_ar1n, ↓zr_ar2u, ↓zr_ar2n, ↓zr_obu, ↓zr_obn, ↓Nat.reduceAdd, Nat.reduceEqDiff, Nat.add_left_cancel_iff, not_false_eq_true, z_up_up, true_and, ↓sX8_sum_0, ↓sX8_sum_1, ↓sX8_sum_2, ↓sX8_sum_4, ↓sX8_sum_7, ↓sX8_sum_10, ↓sX8_sum_12, ↓sX8_sum_13, ↓sX8_sum_14, ↓sX8_sum_17, ↓sX8_sum_18, ↓sX8_sum_19, ↓sX8_sum_22, ↓zh_ob h0, zn_a, zn_b, zq1, zq2, zq3, zq4, zq5, zq6, zq7, eq_self, Int32.reduceLT, Int32.reduceLE, Int32.reduceAdd, not_true_eq_false, not_false_eq_true, false_implies, true_implies, and_true, true_and, or_true, true_or]
  refine z_callS (n := 3) (As := [.int fr, .int sz, .int 8]) (rest := []) C E (c_isField G w fr sz 8) gX8_sum_X8_isField rfl rfl rfl (by decide +kernel) (by decide) dX8_sum_4 rfl ⟨Nat.zero_le _, Nat.zero_le _⟩ (Nat.le_of_ble_eq_true rfl) ?_
  rintro x w1 ⟨rfl, hw1⟩
  rw [hw1]
  clear hw1 w1
  simp only [Option.toList, List.cons_append, List.nil_append]
  refine z_gn C E tkX8_sum (Nat.zero_le _) (Nat.zero_le _) [] 60 ?_
  simp only [↓z_rn_s, ↓z_rn_0, ↓zr_in0, ↓zr_ins, ↓zr_inn, ↓zr_bt, ↓zr_bf, ↓zr_li0, ↓zr_lis, ↓zr_la0, ↓zr_las, ↓zr_ll0, ↓zr_lls, ↓zr_1i, ↓zr_1l, ↓zr_1a, ↓zr_2i, ↓zr_2l, ↓zr_lsi, ↓zr_ia, ↓zr_aa, ↓zr_dia, ↓zr_iia, ↓zr_lia, ↓zr_d1i, ↓zr_d1r, ↓zr_e1, ↓zr_e2, ↓zr_e0, ↓zr_f0, ↓zr_fs, ↓zr_s0, ↓zr_ss, ↓zr_len, ↓zr_len0, ↓zr_ok0, ↓zr_okn, ↓zr_oki, ↓zr_okr, ↓zr_oks, ↓zr_tt, ↓zr_ar0u, ↓zr_ar0n, ↓zr_ar1u, ↓zr_ar1n, ↓zr_ar2u, ↓zr_ar2n, ↓zr_obu, ↓zr_obn, ↓Nat.reduceAdd, Nat.reduceEqDiff, Nat.add_left_cancel_iff, not_false_eq_true, z_up_up, true_and, ↓sX8_sum_0, ↓sX8_sum_1, ↓sX8_sum_2, ↓sX8_sum_4, ↓sX8_sum_7, ↓sX8_sum_10, ↓sX8_sum_12, ↓sX8_sum_13, ↓sX8_sum_14, ↓sX8_sum_17, ↓sX8_sum_18, ↓sX8_sum_19, ↓sX8_sum_22, ↓zh_ob h0, zn_a, zn_b, zq1, zq2, zq3, zq4, zq5, zq6, zq7, eq_self, Int32.reduceLT, Int32.reduceLE, Int32.reduceAdd, not_true_eq_false, not_false_eq_true, false_implies, true_implies, and_true, true_and, or_true, true_or]
  refine ⟨fun a1 => ?_, fun a1 => ?_⟩
  · skip
    refine z_callV (n := 2) (As := [.int fr, .int sz]) (rest := []) C E (c_Sums_tell0 G w b fr sz h) gX8_sum_X6_tell rfl rfl rfl (by decide +kernel) (by decide) dX8_sum_19 rfl ⟨Nat.zero_le _, Nat.zero_le _⟩ (Nat.le_of_ble_eq_true rfl) rfl h20 ?_
    rintro x w1 ⟨rfl, hk⟩
    simp only [Option.toList, List.cons_append, List.nil_append]
    refine z_gn C E tkX8_sum (Nat.zero_le _) (Nat.zero_le _) [] 60 ?_
    simp only [↓z_rn_s, ↓z_rn_0, ↓zr_in0, ↓zr_ins, ↓zr_inn, ↓zr_bt, ↓zr_bf, ↓zr_li0, ↓zr_lis, ↓zr_la0, ↓zr_las, ↓zr_ll0, ↓zr_lls, ↓zr_1i, ↓zr_1l, ↓zr_1a, ↓zr_2i, ↓zr_2l, ↓zr_lsi, ↓zr_ia, ↓zr_aa, ↓zr_dia, ↓zr_iia, ↓zr_lia, ↓zr_d1i, ↓zr_d1r, ↓zr_e1, ↓zr_e2, ↓zr_e0, ↓zr_f0, ↓zr_fs, ↓zr_s0, ↓zr_ss, ↓zr_len, ↓zr_len0, ↓zr_ok0, ↓zr_okn, ↓zr_oki, ↓zr_okr, ↓zr_oks, ↓zr_tt, ↓zr_ar0u, ↓zr_ar0n, ↓zr_ar1u, ↓zr_ar1n, ↓zr_ar2u, ↓zr_ar2n, ↓zr_obu, ↓zr_obn, ↓Nat.reduceAdd, Nat.reduceEqDiff, Nat.add_left_cancel_iff, not_false_eq_true, z_up_up, true_and, ↓sX8_sum_0, ↓sX8_sum_1, ↓sX8_sum_2, ↓sX8_sum_4, ↓sX8_sum_7, ↓sX8_sum_10, ↓sX8_sum_12, ↓sX8_sum_13, ↓sX8_sum_14, ↓sX8_sum_17, ↓sX8_sum_18, ↓sX8_sum_19, ↓sX8_sum_22]
    exact hP _ _ ⟨by unfold zA_sum; rw [if_neg a1], hk⟩
  · exact hP _ _ ⟨by unfold zA_sum; rw [if_pos a1], zKp.rf b w⟩
def zA_exit (k d f : Int32) : Int32 := if 0 ≤ k.toInt ∧ k.toInt ≤ 1 ∧ 0 ≤ d.toInt ∧ d.toInt ≤ 3 ∧ 0 ≤ f.toInt ∧ f.toInt ≤ 1000 then 1 else -4
set_option maxRecDepth 100000 in
set_option maxHeartbeats 1000000 in
theorem c_exit (G : zG) (w : zW) (b : Nat) (k d f : Int32) (h : zFr b w) :
    z_M G yX8_exit wsX8_exit zrm1 0 0 [.ref b, .int k, .int d, .int f] w (fun x w' => x = some (.int (zA_exit k d f)) ∧ zKp b w w') := by
  have h0 : w.2 b = some _ := h 0 _ rfl
  have h24 : w.2 (b + 24) = some _ := h 24 _ rfl
  have h25 : w.2 (b + 25) = some _ := h 25 _ rfl
  refine z_mt (nL := 5) (cc := cX8_exit) (ret := some .int) (by decide) rfl (Nat.le_of_ble_eq_true rfl) 1 [some (.ref b), some (.int k), some (.int d), some (.int f), none] rfl ?_
  intro P hP Γ C E
  have hgo : (0 ≤ k.toInt ∧ k.toInt ≤ 1 ∧ 0 ≤ d.toInt ∧ d.toInt ≤ 3 ∧ 0 ≤ f.toInt ∧ f.toInt ≤ 1000) → ∀ a, a < b + 32 → w.2 a = some (.inr (2, [.int 0, .int 0, .int 0])) → z_J G 5 Γ w 0 0 53 [some (.ref b), some (.int k), some (.int d), some (.int f), some (.ref a)] [.int f, .int d, .ref a] := by
    intro hc a ha h1
    refine z_callV (n := 2) (As := [.int d, .int f]) (rest := []) C E (c_Exit_tell G w a _ _ _ d f h1) gX8_exit_X1_tell rfl rfl rfl (by decide +kernel) (by decide) dX8_exit_53 rfl ⟨Nat.zero_le _, Nat.zero_le _⟩ (Nat.le_of_ble_eq_true rfl) rfl h1 ?_
    rintro x w1 ⟨rfl, rfl⟩
    simp only [Option.toList, List.cons_append, List.nil_append]
    refine z_gn C E tkX8_exit (Nat.zero_le _) (Nat.zero_le _) [] 60 ?_
    simp only [↓z_rn_s, ↓z_rn_0, ↓zr_in0, ↓zr_ins, ↓zr_inn, ↓zr_bt, ↓zr_bf, ↓zr_li0, ↓zr_lis, ↓zr_la0, ↓zr_las, ↓zr_ll0, ↓zr_lls, ↓zr_1i, ↓zr_1l, ↓zr_1a, ↓zr_2i, ↓zr_2l, ↓zr_lsi, ↓zr_ia, ↓zr_aa, ↓zr_dia, ↓zr_iia, ↓zr_lia, ↓zr_d1i, ↓zr_d1r, ↓zr_e1, ↓zr_e2, ↓zr_e0, ↓zr_f0, ↓zr_fs, ↓zr_s0, ↓zr_ss, ↓zr_len, ↓zr_len0, ↓zr_ok0, ↓zr_okn, ↓zr_oki, ↓zr_okr, ↓zr_oks, ↓zr_tt, ↓zr_ar0u, ↓zr_ar0n, ↓zr_ar1u, ↓zr_ar1n, ↓zr_ar2u, ↓zr_ar2n, ↓zr_obu, ↓zr_obn, ↓Nat.reduceAdd, Nat.reduceEqDiff, Nat.add_left_cancel_iff, not_false_eq_true, z_up_up, true_and, ↓sX8_exit_0, ↓sX8_exit_1, ↓sX8_exit_4, ↓sX8_exit_5, ↓sX8_exit_6, ↓sX8_exit_9, ↓sX8_exit_10, ↓sX8_exit_13, ↓sX8_exit_14, ↓sX8_exit_15, ↓sX8_exit_18, ↓sX8_exit_19, ↓sX8_exit_22, ↓sX8_exit_23, ↓sX8_exit_26, ↓sX8_exit_29, ↓sX8_exit_31, ↓sX8_exit_32, ↓sX8_exit_33, ↓sX8_exit_36, ↓sX8_exit_37, ↓sX8_exit_40, ↓sX8_exit_43, ↓sX8_exit_44, ↓sX8_exit_47, ↓sX8_exit_49, ↓sX8_exit_51, ↓sX8_exit_52, ↓sX8_exit_53, ↓sX8_exit_56, ↓sX8_exit_57]
    exact hP _ _ ⟨by unfold zA_exit; rw [if_pos hc], zKp.up (zKp.rf b w) _ _ ha⟩
  refine z_gn C E tkX8_exit (Nat.zero_le _) (Nat.zero_le _) [] 60 ?_
  simp only [↓z_rn_s, ↓z_rn_0, ↓zr_in0, ↓zr_ins, ↓zr_inn, ↓zr_bt, ↓zr_bf, ↓zr_li0, ↓zr_lis, ↓zr_la0, ↓zr_las, ↓zr_ll0, ↓zr_lls, ↓zr_1i, ↓zr_1l, ↓zr_1a, ↓zr_2i, ↓zr_2l, ↓zr_lsi, ↓zr_ia, ↓zr_aa, ↓zr_dia, ↓zr_iia, ↓zr_lia, ↓zr_d1i, ↓zr_d1r, ↓zr_e1, ↓zr_e2, ↓zr_e0, ↓zr_f0, ↓zr_fs, ↓zr_s0, ↓zr_ss, ↓zr_len, ↓zr_len0, ↓zr_ok0, ↓zr_okn, ↓zr_oki, ↓zr_okr, ↓zr_oks, ↓zr_tt, ↓zr_ar0u, ↓zr_ar0n, ↓zr_ar1u, ↓zr_ar1n, ↓zr_ar2u, ↓zr_ar2n, ↓zr_obu, ↓zr_obn, ↓Nat.reduceAdd, Nat.reduceEqDiff, Nat.add_left_cancel_iff, not_false_eq_true, z_up_up, true_and, ↓sX8_exit_0, ↓sX8_exit_1, ↓sX8_exit_4, ↓sX8_exit_5, ↓sX8_exit_6, ↓sX8_exit_9, ↓sX8_exit_10, ↓sX8_exit_13, ↓sX8_exit_14, ↓sX8_exit_15, ↓sX8_exit_18, ↓sX8_exit_19, ↓sX8_exit_22, ↓sX8_exit_23, ↓sX8_exit_26, ↓sX8_exit_29, ↓sX8_exit_31, ↓sX8_exit_32, ↓sX8_exit_33, ↓sX8_exit_36, ↓sX8_exit_37, ↓sX8_exit_40, ↓sX8_exit_43, ↓sX8_exit_44, ↓sX8_exit_47, ↓sX8_exit_49, ↓sX8_exit_51, ↓sX8_exit_52, ↓sX8_exit_53, ↓sX8_exit_56, ↓sX8_exit_57, ↓zh_ob h0, zn_a, zn_b, zq1, zq2, zq3, zq4, zq5, zq6, zq7, eq_self, Int32.reduceLT, Int32.reduceLE, Int32.reduceAdd, not_true_eq_false, not_false_eq_true, false_implies, true_implies, and_true, true_and, or_true, true_or]
  repeat' first | refine And.intro ?_ ?_ | (show _ → _; intro _)
  all_goals try (first | exact Or.inl rfl | exact Or.inr rfl)
  all_goals try simp only [zi_lt, zi_le, zi_eq, Int32.reduceToInt] at *
  all_goals first | exact hgo (by omega) _ (by omega) h24 | exact hgo (by omega) _ (by omega) h25 | (refine hP _ _ ⟨?_, zKp.rf b w⟩; unfold zA_exit; rw [if_neg (by omega)])
set_option maxRecDepth 100000 in
set_option maxHeartbeats 1000000 in
theorem c_begin (G : zG) (w : zW) (b : Nat) (h : zFr b w) :
    z_M G yX8_begin wsX8_begin zrm0 0 0 [.ref b] w (fun x w' => x = some (.int 1) ∧ zKp b w w') := by
  have h0 : w.2 b = some _ := h 0 _ rfl
  refine z_mt (nL := 1) (cc := cX8_begin) (ret := some .int) (by decide) rfl (Nat.le_of_ble_eq_true rfl) 0 [some (.ref b)] rfl ?_
  intro P hP Γ C E
  refine z_gn C E tkX8_begin (Nat.zero_le _) (Nat.zero_le _) [] 60 ?_
  simp only [↓z_rn_s, ↓z_rn_0, ↓zr_in0, ↓zr_ins, ↓zr_inn, ↓zr_bt, ↓zr_bf, ↓zr_li0, ↓zr_lis, ↓zr_la0, ↓zr_las, ↓zr_ll0, ↓zr_lls, ↓zr_1i, ↓zr_1l, ↓zr_1a, ↓zr_2i, ↓zr_2l, ↓zr_lsi, ↓zr_ia, ↓zr_aa, ↓zr_dia, ↓zr_iia, ↓zr_lia, ↓zr_d1i, ↓zr_d1r, ↓zr_e1, ↓zr_e2, ↓zr_e0, ↓zr_f0, ↓zr_fs, ↓zr_s0, ↓zr_ss, ↓zr_len, ↓zr_len0, ↓zr_ok0, ↓zr_okn, ↓zr_oki, ↓zr_okr, ↓zr_oks, ↓zr_tt, ↓zr_ar0u, ↓zr_ar0n, ↓zr_ar1u, ↓zr_ar1n, ↓zr_ar2u, ↓zr_ar2n, ↓zr_obu, ↓zr_obn, ↓Nat.reduceAdd, Nat.reduceEqDiff, Nat.add_left_cancel_iff, not_false_eq_true, z_up_up, true_and, ↓sX8_begin_0, ↓sX8_begin_1, ↓sX8_begin_4, ↓sX8_begin_5, ↓sX8_begin_8, ↓sX8_begin_10, ↓sX8_begin_11, ↓sX8_begin_12, ↓sX8_begin_13, ↓sX8_begin_16, ↓sX8_begin_17, ↓sX8_begin_18, ↓sX8_begin_21, ↓sX8_begin_22, ↓sX8_begin_23, ↓sX8_begin_26, ↓sX8_begin_27, ↓zh_ob h0, zn_a, zn_b, zq1, zq2, zq3, zq4, zq5, zq6, zq7, eq_self, Int32.reduceLT, Int32.reduceLE, Int32.reduceAdd, not_true_eq_false, not_false_eq_true, false_implies, true_implies, and_true, true_and, or_true, true_or]
  repeat' first | refine And.intro ?_ ?_ | (show _ → _; intro _)
  all_goals first | exact hP _ _ ⟨rfl, zKp.rf b w⟩ | exact hP _ _ ⟨rfl, zKp.up (zKp.rf b w) _ _ (by omega)⟩ | (exfalso; simp_all; done)
set_option maxRecDepth 100000 in
set_option maxHeartbeats 1000000 in
theorem c_next (G : zG) (w : zW) (b : Nat) (h : zFr b w) :
    z_M G yX8_next wsX8_next zrm0 0 0 [.ref b] w (fun x w' => x = some (.int (-5)) ∧ zKp b w w') := by
  have h0 : w.2 b = some _ := h 0 _ rfl
  refine z_mt (nL := 1) (cc := cX8_next) (ret := some .int) (by decide) rfl (Nat.le_of_ble_eq_true rfl) 0 [some (.ref b)] rfl ?_
  intro P hP Γ C E
  refine z_gn C E tkX8_next (Nat.zero_le _) (Nat.zero_le _) [] 60 ?_
  simp only [↓z_rn_s, ↓z_rn_0, ↓zr_in0, ↓zr_ins, ↓zr_inn, ↓zr_bt, ↓zr_bf, ↓zr_li0, ↓zr_lis, ↓zr_la0, ↓zr_las, ↓zr_ll0, ↓zr_lls, ↓zr_1i, ↓zr_1l, ↓zr_1a, ↓zr_2i, ↓zr_2l, ↓zr_lsi, ↓zr_ia, ↓zr_aa, ↓zr_dia, ↓zr_iia, ↓zr_lia, ↓zr_d1i, ↓zr_d1r, ↓zr_e1, ↓zr_e2, ↓zr_e0, ↓zr_f0, ↓zr_fs, ↓zr_s0, ↓zr_ss, ↓zr_len, ↓zr_len0, ↓zr_ok0, ↓zr_okn, ↓zr_oki, ↓zr_okr, ↓zr_oks, ↓zr_tt, ↓zr_ar0u, ↓zr_ar0n, ↓zr_ar1u, ↓zr_ar1n, ↓zr_ar2u, ↓zr_ar2n, ↓zr_obu, ↓zr_obn, ↓Nat.reduceAdd, Nat.reduceEqDiff, Nat.add_left_cancel_iff, not_false_eq_true, z_up_up, true_and, ↓sX8_next_0, ↓sX8_next_1, ↓sX8_next_4, ↓sX8_next_5, ↓sX8_next_8, ↓sX8_next_10, ↓sX8_next_11, ↓sX8_next_12, ↓sX8_next_15, ↓sX8_next_16, ↓sX8_next_19, ↓sX8_next_22, ↓sX8_next_25, ↓sX8_next_26, ↓sX8_next_27, ↓sX8_next_30, ↓sX8_next_31, ↓sX8_next_32, ↓sX8_next_35, ↓sX8_next_36, ↓sX8_next_37, ↓sX8_next_38, ↓sX8_next_39, ↓sX8_next_42, ↓sX8_next_43, ↓sX8_next_46, ↓sX8_next_49, ↓sX8_next_52, ↓sX8_next_53, ↓sX8_next_54, ↓sX8_next_57, ↓sX8_next_58, ↓sX8_next_59, ↓sX8_next_62, ↓sX8_next_63, ↓sX8_next_66, ↓sX8_next_67, ↓sX8_next_70, ↓sX8_next_73, ↓zh_ob h0, zn_a, zn_b, zq1, zq2, zq3, zq4, zq5, zq6, zq7, eq_self, Int32.reduceLT, Int32.reduceLE, Int32.reduceAdd, not_true_eq_false, not_false_eq_true, false_implies, true_implies, and_true, true_and, or_true, true_or]
  repeat' first | refine And.intro ?_ ?_ | (show _ → _; intro _)
  all_goals first | exact hP _ _ ⟨rfl, zKp.rf b w⟩ | exact hP _ _ ⟨rfl, zKp.up (zKp.rf b w) _ _ (by omega)⟩ | (exfalso; simp_all; done)
set_option maxRecDepth 100000 in
set_option maxHeartbeats 1000000 in
theorem c_sort (G : zG) (w : zW) (b : Nat) (st : Int32) (h : zFr b w) :
    z_M G yX8_sort wsX8_sort zrm0 0 0 [.ref b, .int st] w (fun x w' => x = some (.int (-5)) ∧ zKp b w w') := by
  have h0 : w.2 b = some _ := h 0 _ rfl
  refine z_mt (nL := 4) (cc := cX8_sort) (ret := some .int) (by decide) rfl (Nat.le_of_ble_eq_true rfl) 2 [some (.ref b), some (.int st), none, none] rfl ?_
  intro P hP Γ C E
  refine z_gn C E tkX8_sort (Nat.zero_le _) (Nat.zero_le _) [] 12 ?_
  simp only [↓z_rn_s, ↓z_rn_0, ↓zr_in0, ↓zr_ins, ↓zr_inn, ↓zr_bt, ↓zr_bf, ↓zr_li0, ↓zr_lis, ↓zr_la0, ↓zr_las, ↓zr_ll0, ↓zr_lls, ↓zr_1i, ↓zr_1l, ↓zr_1a, ↓zr_2i, ↓zr_2l, ↓zr_lsi, ↓zr_ia, ↓zr_aa, ↓zr_dia, ↓zr_iia, ↓zr_lia, ↓zr_d1i, ↓zr_d1r, ↓zr_e1, ↓zr_e2, ↓zr_e0, ↓zr_f0, ↓zr_fs, ↓zr_s0, ↓zr_ss, ↓zr_len, ↓zr_len0, ↓zr_ok0, ↓zr_okn, ↓zr_oki, ↓zr_okr, ↓zr_oks, ↓zr_tt, ↓zr_ar0u, ↓zr_ar0n, ↓zr_ar1u, ↓zr_ar1n, ↓zr_ar2u, ↓zr_ar2n, ↓zr_obu, ↓zr_obn, ↓Nat.reduceAdd, Nat.reduceEqDiff, Nat.add_left_cancel_iff, not_false_eq_true, z_up_up, true_and, ↓sX8_sort_0, ↓sX8_sort_1, ↓sX8_sort_4, ↓sX8_sort_5, ↓sX8_sort_8, ↓sX8_sort_10, ↓sX8_sort_11, ↓sX8_sort_12, ↓sX8_sort_15, ↓sX8_sort_18, ↓sX8_sort_19, ↓sX8_sort_22, ↓sX8_sort_23, ↓sX8_sort_24, ↓sX8_sort_25, ↓sX8_sort_28, ↓sX8_sort_29, ↓sX8_sort_32, ↓sX8_sort_33, ↓sX8_sort_36, ↓sX8_sort_37, ↓sX8_sort_40, ↓sX8_sort_41, ↓sX8_sort_44, ↓sX8_sort_45, ↓sX8_sort_48, ↓sX8_sort_51, ↓sX8_sort_54, ↓sX8_sort_55, ↓sX8_sort_58, ↓sX8_sort_59, ↓sX8_sort_62, ↓sX8_sort_63, ↓sX8_sort_66, ↓sX8_sort_69, ↓sX8_sort_72, ↓sX8_sort_73, ↓sX8_sort_76, ↓sX8_sort_77, ↓sX8_sort_80, ↓sX8_sort_81, ↓sX8_sort_82, ↓sX8_sort_83, ↓sX8_sort_86, ↓sX8_sort_87, ↓sX8_sort_88, ↓sX8_sort_91, ↓sX8_sort_94, ↓sX8_sort_95, ↓sX8_sort_97, ↓sX8_sort_100, ↓sX8_sort_101, ↓sX8_sort_102, ↓sX8_sort_105, ↓sX8_sort_106, ↓sX8_sort_107, ↓sX8_sort_108, ↓sX8_sort_111, ↓sX8_sort_114, ↓sX8_sort_115, ↓sX8_sort_116, ↓sX8_sort_119, ↓sX8_sort_120, ↓sX8_sort_121, ↓sX8_sort_124, ↓sX8_sort_125, ↓sX8_sort_128, ↓zh_ob h0, zn_a, zn_b, zq1, zq2, zq3, zq4, zq5, zq6, zq7, eq_self, Int32.reduceLT, Int32.reduceLE, Int32.reduceAdd, not_true_eq_false, not_false_eq_true, false_implies, true_implies, and_true, true_and, or_true, true_or]
  repeat' first | refine And.intro ?_ ?_ | (show _ → _; intro _)
  all_goals first | exact hP _ _ ⟨rfl, zKp.rf b w⟩ | exact hP _ _ ⟨rfl, zKp.up (zKp.rf b w) _ _ (by omega)⟩ | (exfalso; simp_all; done)
set_option maxRecDepth 100000 in
set_option maxHeartbeats 1000000 in
theorem c_value (G : zG) (w : zW) (b : Nat) (i : Int32) (h : zFr b w) :
    z_M G yX8_value wsX8_value zrm0 0 0 [.ref b, .int i] w (fun x w' => x = some (.int (-1)) ∧ zKp b w w') := by
  have h0 : w.2 b = some _ := h 0 _ rfl
  refine z_mt (nL := 2) (cc := cX8_value) (ret := some .int) (by decide) rfl (Nat.le_of_ble_eq_true rfl) 0 [some (.ref b), some (.int i)] rfl ?_
  intro P hP Γ C E
  refine z_gn C E tkX8_value (Nat.zero_le _) (Nat.zero_le _) [] 60 ?_
  simp only [↓z_rn_s, ↓z_rn_0, ↓zr_in0, ↓zr_ins, ↓zr_inn, ↓zr_bt, ↓zr_bf, ↓zr_li0, ↓zr_lis, ↓zr_la0, ↓zr_las, ↓zr_ll0, ↓zr_lls, ↓zr_1i, ↓zr_1l, ↓zr_1a, ↓zr_2i, ↓zr_2l, ↓zr_lsi, ↓zr_ia, ↓zr_aa, ↓zr_dia, ↓zr_iia, ↓zr_lia, ↓zr_d1i, ↓zr_d1r, ↓zr_e1, ↓zr_e2, ↓zr_e0, ↓zr_f0, ↓zr_fs, ↓zr_s0, ↓zr_ss, ↓zr_len, ↓zr_len0, ↓zr_ok0, ↓zr_okn, ↓zr_oki, ↓zr_okr, ↓zr_oks, ↓zr_tt, ↓zr_ar0u, ↓zr_ar0n, ↓zr_ar1u, ↓zr_ar1n, ↓zr_ar2u, ↓zr_ar2n, ↓zr_obu, ↓zr_obn, ↓Nat.reduceAdd, Nat.reduceEqDiff, Nat.add_left_cancel_iff, not_false_eq_true, z_up_up, true_and, ↓sX8_value_0, ↓sX8_value_1, ↓sX8_value_4, ↓sX8_value_5, ↓sX8_value_8, ↓sX8_value_9, ↓sX8_value_12, ↓sX8_value_13, ↓sX8_value_14, ↓sX8_value_17, ↓sX8_value_18, ↓sX8_value_21, ↓sX8_value_24, ↓sX8_value_27, ↓sX8_value_28, ↓sX8_value_29, ↓sX8_value_30, ↓sX8_value_33, ↓sX8_value_34, ↓sX8_value_37, ↓sX8_value_38, ↓sX8_value_41, ↓zh_ob h0, zn_a, zn_b, zq1, zq2, zq3, zq4, zq5, zq6, zq7, eq_self, Int32.reduceLT, Int32.reduceLE, Int32.reduceAdd, not_true_eq_false, not_false_eq_true, false_implies, true_implies, and_true, true_and, or_true, true_or]
  repeat' first | refine And.intro ?_ ?_ | (show _ → _; intro _)
  all_goals first | exact hP _ _ ⟨rfl, zKp.rf b w⟩ | exact hP _ _ ⟨rfl, zKp.up (zKp.rf b w) _ _ (by omega)⟩ | (exfalso; simp_all; done)
set_option maxRecDepth 100000 in
set_option maxHeartbeats 1000000 in
theorem c_failed (G : zG) (w : zW) (b : Nat) (h : zFr b w) :
    z_M G yX8_failed wsX8_failed zrm0 0 0 [.ref b] w (fun x w' => x = some (.int 0) ∧ zKp b w w') := by
  have h0 : w.2 b = some _ := h 0 _ rfl
  refine z_mt (nL := 1) (cc := cX8_failed) (ret := some .int) (by decide) rfl (Nat.le_of_ble_eq_true rfl) 0 [some (.ref b)] rfl ?_
  intro P hP Γ C E
  refine z_gn C E tkX8_failed (Nat.zero_le _) (Nat.zero_le _) [] 60 ?_
  simp only [↓z_rn_s, ↓z_rn_0, ↓zr_in0, ↓zr_ins, ↓zr_inn, ↓zr_bt, ↓zr_bf, ↓zr_li0, ↓zr_lis, ↓zr_la0, ↓zr_las, ↓zr_ll0, ↓zr_lls, ↓zr_1i, ↓zr_1l, ↓zr_1a, ↓zr_2i, ↓zr_2l, ↓zr_lsi, ↓zr_ia, ↓zr_aa, ↓zr_dia, ↓zr_iia, ↓zr_lia, ↓zr_d1i, ↓zr_d1r, ↓zr_e1, ↓zr_e2, ↓zr_e0, ↓zr_f0, ↓zr_fs, ↓zr_s0, ↓zr_ss, ↓zr_len, ↓zr_len0, ↓zr_ok0, ↓zr_okn, ↓zr_oki, ↓zr_okr, ↓zr_oks, ↓zr_tt, ↓zr_ar0u, ↓zr_ar0n, ↓zr_ar1u, ↓zr_ar1n, ↓zr_ar2u, ↓zr_ar2n, ↓zr_obu, ↓zr_obn, ↓Nat.reduceAdd, Nat.reduceEqDiff, Nat.add_left_cancel_iff, not_false_eq_true, z_up_up, true_and, ↓sX8_failed_0, ↓sX8_failed_1, ↓sX8_failed_4, ↓zh_ob h0, zn_a, zn_b, zq1, zq2, zq3, zq4, zq5, zq6, zq7, eq_self, Int32.reduceLT, Int32.reduceLE, Int32.reduceAdd, not_true_eq_false, not_false_eq_true, false_implies, true_implies, and_true, true_and, or_true, true_or]
  repeat' first | refine And.intro ?_ ?_ | (show _ → _; intro _)
  all_goals first | exact hP _ _ ⟨rfl, zKp.rf b w⟩ | exact hP _ _ ⟨rfl, zKp.up (zKp.rf b w) _ _ (by omega)⟩ | (exfalso; simp_all; done)
set_option maxRecDepth 100000 in
set_option maxHeartbeats 1000000 in
theorem c_octet (G : zG) (w : zW) (b : Nat) (r i v : Int32) (h : zFr b w) :
    z_M G yX8_octet wsX8_octet zrm2 0 0 [.ref b, .int r, .int i, .int v] w (fun x w' => x = some (.int (-2)) ∧ zKp b w w') := by
  have h0 : w.2 b = some _ := h 0 _ rfl
  refine z_mt (nL := 4) (cc := cX8_octet) (ret := some .int) (by decide) rfl (Nat.le_of_ble_eq_true rfl) 0 [some (.ref b), some (.int r), some (.int i), some (.int v)] rfl ?_
  intro P hP Γ C E
  refine z_gn C E tkX8_octet (Nat.zero_le _) (Nat.zero_le _) [] 60 ?_
  simp only [↓z_rn_s, ↓z_rn_0, ↓zr_in0, ↓zr_ins, ↓zr_inn, ↓zr_bt, ↓zr_bf, ↓zr_li0, ↓zr_lis, ↓zr_la0, ↓zr_las, ↓zr_ll0, ↓zr_lls, ↓zr_1i, ↓zr_1l, ↓zr_1a, ↓zr_2i, ↓zr_2l, ↓zr_lsi, ↓zr_ia, ↓zr_aa, ↓zr_dia, ↓zr_iia, ↓zr_lia, ↓zr_d1i, ↓zr_d1r, ↓zr_e1, ↓zr_e2, ↓zr_e0, ↓zr_f0, ↓zr_fs, ↓zr_s0, ↓zr_ss, ↓zr_len, ↓zr_len0, ↓zr_ok0, ↓zr_okn, ↓zr_oki, ↓zr_okr, ↓zr_oks, ↓zr_tt, ↓zr_ar0u, ↓zr_ar0n, ↓zr_ar1u, ↓zr_ar1n, ↓zr_ar2u, ↓zr_ar2n, ↓zr_obu, ↓zr_obn, ↓Nat.reduceAdd, Nat.reduceEqDiff, Nat.add_left_cancel_iff, not_false_eq_true, z_up_up, true_and, ↓sX8_octet_0, ↓sX8_octet_1, ↓sX8_octet_2, ↓sX8_octet_5, ↓sX8_octet_8, ↓sX8_octet_10, ↓sX8_octet_11, ↓sX8_octet_12, ↓sX8_octet_15, ↓sX8_octet_16, ↓sX8_octet_18, ↓sX8_octet_21, ↓sX8_octet_23, ↓sX8_octet_24, ↓sX8_octet_25, ↓sX8_octet_28, ↓sX8_octet_29, ↓sX8_octet_30, ↓sX8_octet_31, ↓sX8_octet_32, ↓sX8_octet_33, ↓sX8_octet_36, ↓sX8_octet_37, ↓sX8_octet_40, ↓sX8_octet_41, ↓sX8_octet_44, ↓sX8_octet_45, ↓sX8_octet_46, ↓sX8_octet_47, ↓sX8_octet_50, ↓zh_ob h0, zn_a, zn_b, zq1, zq2, zq3, zq4, zq5, zq6, zq7, eq_self, Int32.reduceLT, Int32.reduceLE, Int32.reduceAdd, not_true_eq_false, not_false_eq_true, false_implies, true_implies, and_true, true_and, or_true, true_or]
  refine z_callV (n := 1) (As := [.int r]) (rest := []) C E (c_isRecord G w b r h) gX8_octet_X8_isRecord rfl rfl rfl (by decide +kernel) (by decide) dX8_octet_2 rfl ⟨Nat.zero_le _, Nat.zero_le _⟩ (Nat.le_of_ble_eq_true rfl) rfl h0 ?_
  rintro x w1 ⟨rfl, hw1⟩
  rw [hw1]
  clear hw1 w1
  simp only [Option.toList, List.cons_append, List.nil_append]
  refine z_gn C E tkX8_octet (Nat.zero_le _) (Nat.zero_le _) [11] 60 ?_
  simp only [↓z_rn_s, ↓z_rn_0, ↓zr_in0, ↓zr_ins, ↓zr_inn, ↓zr_bt, ↓zr_bf, ↓zr_li0, ↓zr_lis, ↓zr_la0, ↓zr_las, ↓zr_ll0, ↓zr_lls, ↓zr_1i, ↓zr_1l, ↓zr_1a, ↓zr_2i, ↓zr_2l, ↓zr_lsi, ↓zr_ia, ↓zr_aa, ↓zr_dia, ↓zr_iia, ↓zr_lia, ↓zr_d1i, ↓zr_d1r, ↓zr_e1, ↓zr_e2, ↓zr_e0, ↓zr_f0, ↓zr_fs, ↓zr_s0, ↓zr_ss, ↓zr_len, ↓zr_len0, ↓zr_ok0, ↓zr_okn, ↓zr_oki, ↓zr_okr, ↓zr_oks, ↓zr_tt, ↓zr_ar0u, ↓zr_ar0n, ↓zr_ar1u, ↓zr_ar1n, ↓zr_ar2u, ↓zr_ar2n, ↓zr_obu, ↓zr_obn, ↓Nat.reduceAdd, Nat.reduceEqDiff, Nat.add_left_cancel_iff, not_false_eq_true, z_up_up, true_and, ↓sX8_octet_0, ↓sX8_octet_1, ↓sX8_octet_2, ↓sX8_octet_5, ↓sX8_octet_8, ↓sX8_octet_10, ↓sX8_octet_11, ↓sX8_octet_12, ↓sX8_octet_15, ↓sX8_octet_16, ↓sX8_octet_18, ↓sX8_octet_21, ↓sX8_octet_23, ↓sX8_octet_24, ↓sX8_octet_25, ↓sX8_octet_28, ↓sX8_octet_29, ↓sX8_octet_30, ↓sX8_octet_31, ↓sX8_octet_32, ↓sX8_octet_33, ↓sX8_octet_36, ↓sX8_octet_37, ↓sX8_octet_40, ↓sX8_octet_41, ↓sX8_octet_44, ↓sX8_octet_45, ↓sX8_octet_46, ↓sX8_octet_47, ↓sX8_octet_50, ↓zh_ob h0, zn_a, zn_b, zq1, zq2, zq3, zq4, zq5, zq6, zq7, eq_self, Int32.reduceLT, Int32.reduceLE, Int32.reduceAdd, not_true_eq_false, not_false_eq_true, false_implies, true_implies, and_true, true_and, or_true, true_or]
  exact hP _ _ ⟨rfl, zKp.rf b w⟩
set_option maxRecDepth 100000 in
set_option maxHeartbeats 1000000 in
theorem c_release (G : zG) (w : zW) (b : Nat) (r : Int32) (h : zFr b w) :
    z_M G yX8_release wsX8_release zrm2 0 0 [.ref b, .int r] w (fun x w' => x = some (.int (-2)) ∧ zKp b w w') := by
  have h0 : w.2 b = some _ := h 0 _ rfl
  refine z_mt (nL := 2) (cc := cX8_release) (ret := some .int) (by decide) rfl (Nat.le_of_ble_eq_true rfl) 0 [some (.ref b), some (.int r)] rfl ?_
  intro P hP Γ C E
  refine z_gn C E tkX8_release (Nat.zero_le _) (Nat.zero_le _) [] 60 ?_
  simp only [↓z_rn_s, ↓z_rn_0, ↓zr_in0, ↓zr_ins, ↓zr_inn, ↓zr_bt, ↓zr_bf, ↓zr_li0, ↓zr_lis, ↓zr_la0, ↓zr_las, ↓zr_ll0, ↓zr_lls, ↓zr_1i, ↓zr_1l, ↓zr_1a, ↓zr_2i, ↓zr_2l, ↓zr_lsi, ↓zr_ia, ↓zr_aa, ↓zr_dia, ↓zr_iia, ↓zr_lia, ↓zr_d1i, ↓zr_d1r, ↓zr_e1, ↓zr_e2, ↓zr_e0, ↓zr_f0, ↓zr_fs, ↓zr_s0, ↓zr_ss, ↓zr_len, ↓zr_len0, ↓zr_ok0, ↓zr_okn, ↓zr_oki, ↓zr_okr, ↓zr_oks, ↓zr_tt, ↓zr_ar0u, ↓zr_ar0n, ↓zr_ar1u, ↓zr_ar1n, ↓zr_ar2u, ↓zr_ar2n, ↓zr_obu, ↓zr_obn, ↓Nat.reduceAdd, Nat.reduceEqDiff, Nat.add_left_cancel_iff, not_false_eq_true, z_up_up, true_and, ↓sX8_release_0, ↓sX8_release_1, ↓sX8_release_2, ↓sX8_release_5, ↓sX8_release_8, ↓sX8_release_10, ↓sX8_release_11, ↓sX8_release_12, ↓sX8_release_15, ↓sX8_release_16, ↓sX8_release_19, ↓sX8_release_21, ↓sX8_release_22, ↓sX8_release_23, ↓sX8_release_26, ↓sX8_release_27, ↓sX8_release_30, ↓sX8_release_31, ↓sX8_release_34, ↓sX8_release_35, ↓sX8_release_36, ↓sX8_release_37, ↓sX8_release_40, ↓sX8_release_41, ↓sX8_release_44, ↓sX8_release_45, ↓sX8_release_46, ↓sX8_release_47, ↓sX8_release_48, ↓sX8_release_51, ↓sX8_release_52, ↓sX8_release_53, ↓sX8_release_56, ↓sX8_release_57, ↓sX8_release_60, ↓zh_ob h0, zn_a, zn_b, zq1, zq2, zq3, zq4, zq5, zq6, zq7, eq_self, Int32.reduceLT, Int32.reduceLE, Int32.reduceAdd, not_true_eq_false, not_false_eq_true, false_implies, true_implies, and_true, true_and, or_true, true_or]
  refine z_callV (n := 1) (As := [.int r]) (rest := []) C E (c_isRecord G w b r h) gX8_release_X8_isRecord rfl rfl rfl (by decide +kernel) (by decide) dX8_release_2 rfl ⟨Nat.zero_le _, Nat.zero_le _⟩ (Nat.le_of_ble_eq_true rfl) rfl h0 ?_
  rintro x w1 ⟨rfl, hw1⟩
  rw [hw1]
  clear hw1 w1
  simp only [Option.toList, List.cons_append, List.nil_append]
  refine z_gn C E tkX8_release (Nat.zero_le _) (Nat.zero_le _) [11] 60 ?_
  simp only [↓z_rn_s, ↓z_rn_0, ↓zr_in0, ↓zr_ins, ↓zr_inn, ↓zr_bt, ↓zr_bf, ↓zr_li0, ↓zr_lis, ↓zr_la0, ↓zr_las, ↓zr_ll0, ↓zr_lls, ↓zr_1i, ↓zr_1l, ↓zr_1a, ↓zr_2i, ↓zr_2l, ↓zr_lsi, ↓zr_ia, ↓zr_aa, ↓zr_dia, ↓zr_iia, ↓zr_lia, ↓zr_d1i, ↓zr_d1r, ↓zr_e1, ↓zr_e2, ↓zr_e0, ↓zr_f0, ↓zr_fs, ↓zr_s0, ↓zr_ss, ↓zr_len, ↓zr_len0, ↓zr_ok0, ↓zr_okn, ↓zr_oki, ↓zr_okr, ↓zr_oks, ↓zr_tt, ↓zr_ar0u, ↓zr_ar0n, ↓zr_ar1u, ↓zr_ar1n, ↓zr_ar2u, ↓zr_ar2n, ↓zr_obu, ↓zr_obn, ↓Nat.reduceAdd, Nat.reduceEqDiff, Nat.add_left_cancel_iff, not_false_eq_true, z_up_up, true_and, ↓sX8_release_0, ↓sX8_release_1, ↓sX8_release_2, ↓sX8_release_5, ↓sX8_release_8, ↓sX8_release_10, ↓sX8_release_11, ↓sX8_release_12, ↓sX8_release_15, ↓sX8_release_16, ↓sX8_release_19, ↓sX8_release_21, ↓sX8_release_22, ↓sX8_release_23, ↓sX8_release_26, ↓sX8_release_27, ↓sX8_release_30, ↓sX8_release_31, ↓sX8_release_34, ↓sX8_release_35, ↓sX8_release_36, ↓sX8_release_37, ↓sX8_release_40, ↓sX8_release_41, ↓sX8_release_44, ↓sX8_release_45, ↓sX8_release_46, ↓sX8_release_47, ↓sX8_release_48, ↓sX8_release_51, ↓sX8_release_52, ↓sX8_release_53, ↓sX8_release_56, ↓sX8_release_57, ↓sX8_release_60, ↓zh_ob h0, zn_a, zn_b, zq1, zq2, zq3, zq4, zq5, zq6, zq7, eq_self, Int32.reduceLT, Int32.reduceLE, Int32.reduceAdd, not_true_eq_false, not_false_eq_true, false_implies, true_implies, and_true, true_and, or_true, true_or]
  exact hP _ _ ⟨rfl, zKp.rf b w⟩
set_option maxRecDepth 100000 in
set_option maxHeartbeats 1000000 in
theorem c_merge (G : zG) (w : zW) (b : Nat) (i r : Int32) (h : zFr b w) :
    z_M G yX8_merge wsX8_merge zrm2 0 0 [.ref b, .int i, .int r] w (fun x w' => x = some (.int (-2)) ∧ zKp b w w') := by
  have h0 : w.2 b = some _ := h 0 _ rfl
  refine z_mt (nL := 3) (cc := cX8_merge) (ret := some .int) (by decide) rfl (Nat.le_of_ble_eq_true rfl) 0 [some (.ref b), some (.int i), some (.int r)] rfl ?_
  intro P hP Γ C E
  refine z_gn C E tkX8_merge (Nat.zero_le _) (Nat.zero_le _) [] 60 ?_
  simp only [↓z_rn_s, ↓z_rn_0, ↓zr_in0, ↓zr_ins, ↓zr_inn, ↓zr_bt, ↓zr_bf, ↓zr_li0, ↓zr_lis, ↓zr_la0, ↓zr_las, ↓zr_ll0, ↓zr_lls, ↓zr_1i, ↓zr_1l, ↓zr_1a, ↓zr_2i, ↓zr_2l, ↓zr_lsi, ↓zr_ia, ↓zr_aa, ↓zr_dia, ↓zr_iia, ↓zr_lia, ↓zr_d1i, ↓zr_d1r, ↓zr_e1, ↓zr_e2, ↓zr_e0, ↓zr_f0, ↓zr_fs, ↓zr_s0, ↓zr_ss, ↓zr_len, ↓zr_len0, ↓zr_ok0, ↓zr_okn, ↓zr_oki, ↓zr_okr, ↓zr_oks, ↓zr_tt, ↓zr_ar0u, ↓zr_ar0n, ↓zr_ar1u, ↓zr_ar1n, ↓zr_ar2u, ↓zr_ar2n, ↓zr_obu, ↓zr_obn, ↓Nat.reduceAdd, Nat.reduceEqDiff, Nat.add_left_cancel_iff, not_false_eq_true, z_up_up, true_and, ↓sX8_merge_0, ↓sX8_merge_1, ↓sX8_merge_2, ↓sX8_merge_5, ↓sX8_merge_8, ↓sX8_merge_10, ↓sX8_merge_11, ↓sX8_merge_12, ↓sX8_merge_15, ↓sX8_merge_16, ↓sX8_merge_18, ↓sX8_merge_21, ↓sX8_merge_23, ↓sX8_merge_24, ↓sX8_merge_25, ↓sX8_merge_28, ↓sX8_merge_29, ↓sX8_merge_30, ↓sX8_merge_33, ↓zh_ob h0, zn_a, zn_b, zq1, zq2, zq3, zq4, zq5, zq6, zq7, eq_self, Int32.reduceLT, Int32.reduceLE, Int32.reduceAdd, not_true_eq_false, not_false_eq_true, false_implies, true_implies, and_true, true_and, or_true, true_or]
  refine z_callV (n := 1) (As := [.int r]) (rest := []) C E (c_isRecord G w b r h) gX8_merge_X8_isRecord rfl rfl rfl (by decide +kernel) (by decide) dX8_merge_2 rfl ⟨Nat.zero_le _, Nat.zero_le _⟩ (Nat.le_of_ble_eq_true rfl) rfl h0 ?_
  rintro x w1 ⟨rfl, hw1⟩
  rw [hw1]
  clear hw1 w1
  simp only [Option.toList, List.cons_append, List.nil_append]
  refine z_gn C E tkX8_merge (Nat.zero_le _) (Nat.zero_le _) [11] 60 ?_
  simp only [↓z_rn_s, ↓z_rn_0, ↓zr_in0, ↓zr_ins, ↓zr_inn, ↓zr_bt, ↓zr_bf, ↓zr_li0, ↓zr_lis, ↓zr_la0, ↓zr_las, ↓zr_ll0, ↓zr_lls, ↓zr_1i, ↓zr_1l, ↓zr_1a, ↓zr_2i, ↓zr_2l, ↓zr_lsi, ↓zr_ia, ↓zr_aa, ↓zr_dia, ↓zr_iia, ↓zr_lia, ↓zr_d1i, ↓zr_d1r, ↓zr_e1, ↓zr_e2, ↓zr_e0, ↓zr_f0, ↓zr_fs, ↓zr_s0, ↓zr_ss, ↓zr_len, ↓zr_len0, ↓zr_ok0, ↓zr_okn, ↓zr_oki, ↓zr_okr, ↓zr_oks, ↓zr_tt, ↓zr_ar0u, ↓zr_ar0n, ↓zr_ar1u, ↓zr_ar1n, ↓zr_ar2u, ↓zr_ar2n, ↓zr_obu, ↓zr_obn, ↓Nat.reduceAdd, Nat.reduceEqDiff, Nat.add_left_cancel_iff, not_false_eq_true, z_up_up, true_and, ↓sX8_merge_0, ↓sX8_merge_1, ↓sX8_merge_2, ↓sX8_merge_5, ↓sX8_merge_8, ↓sX8_merge_10, ↓sX8_merge_11, ↓sX8_merge_12, ↓sX8_merge_15, ↓sX8_merge_16, ↓sX8_merge_18, ↓sX8_merge_21, ↓sX8_merge_23, ↓sX8_merge_24, ↓sX8_merge_25, ↓sX8_merge_28, ↓sX8_merge_29, ↓sX8_merge_30, ↓sX8_merge_33, ↓zh_ob h0, zn_a, zn_b, zq1, zq2, zq3, zq4, zq5, zq6, zq7, eq_self, Int32.reduceLT, Int32.reduceLE, Int32.reduceAdd, not_true_eq_false, not_false_eq_true, false_implies, true_implies, and_true, true_and, or_true, true_or]
  exact hP _ _ ⟨rfl, zKp.rf b w⟩
set_option maxRecDepth 100000 in
set_option maxHeartbeats 1000000 in
theorem c_record (G : zG) (w : zW) (b : Nat) (h : zFr b w) :
    z_M G yX8_record wsX8_record zrm1 0 0 [.ref b] w (fun x w' => x = some (.int 1) ∧ zKp b w w') := by
  have h0 : w.2 b = some _ := h 0 _ rfl
  have h10 : w.2 (b + 10) = some _ := h 10 _ rfl
  have hR : zRo w (b + 10) (b + 11) (b + 12) (b + 13) 400 0 (fun _ => 0) (fun _ => 0) (fun _ => 0) := ⟨⟨h 10 _ rfl, h 11 _ rfl, h 12 _ rfl, h 13 _ rfl⟩, by omega, by omega, by decide, fun _ _ => show (0 : Int) ≤ (0 : Int32).toInt ∧ (0 : Int32).toInt ≤ 32 by decide⟩
  refine z_mt (nL := 2) (cc := cX8_record) (ret := some .int) (by decide) rfl (Nat.le_of_ble_eq_true rfl) 1 [some (.ref b), none] rfl ?_
  intro P hP Γ C E
  refine z_gn C E tkX8_record (Nat.zero_le _) (Nat.zero_le _) [] 60 ?_
  simp only [↓z_rn_s, ↓z_rn_0, ↓zr_in0, ↓zr_ins, ↓zr_inn, ↓zr_bt, ↓zr_bf, ↓zr_li0, ↓zr_lis, ↓zr_la0, ↓zr_las, ↓zr_ll0, ↓zr_lls, ↓zr_1i, ↓zr_1l, ↓zr_1a, ↓zr_2i, ↓zr_2l, ↓zr_lsi, ↓zr_ia, ↓zr_aa, ↓zr_dia, ↓zr_iia, ↓zr_lia, ↓zr_d1i, ↓zr_d1r, ↓zr_e1, ↓zr_e2, ↓zr_e0, ↓zr_f0, ↓zr_fs, ↓zr_s0, ↓zr_ss, ↓zr_len, ↓zr_len0, ↓zr_ok0, ↓zr_okn, ↓zr_oki, ↓zr_okr, ↓zr_oks, ↓zr_tt, ↓zr_ar0u, ↓zr_ar0n, ↓zr_ar1u, ↓zr_ar1n, ↓zr_ar2u, ↓zr_ar2n, ↓zr_obu, ↓zr_obn, ↓Nat.reduceAdd, Nat.reduceEqDiff, Nat.add_left_cancel_iff, not_false_eq_true, z_up_up, true_and, ↓sX8_record_0, ↓sX8_record_1, ↓sX8_record_4, ↓sX8_record_5, ↓sX8_record_8, ↓sX8_record_11, ↓sX8_record_12, ↓sX8_record_13, ↓sX8_record_16, ↓sX8_record_17, ↓sX8_record_18, ↓sX8_record_19, ↓sX8_record_22, ↓sX8_record_23, ↓sX8_record_26, ↓sX8_record_27, ↓sX8_record_30, ↓sX8_record_31, ↓sX8_record_34, ↓zh_ob h0, zn_a, zn_b, zq1, zq2, zq3, zq4, zq5, zq6, zq7, eq_self, Int32.reduceLT, Int32.reduceLE, Int32.reduceAdd, not_true_eq_false, not_false_eq_true, false_implies, true_implies, and_true, true_and, or_true, true_or]
  refine z_callV (n := 0) (As := []) (rest := [.ref (b + 10)]) C E (c_Rows_held0 G w (b + 10) _ _ _ _ _ h10) gX8_record_X5_held rfl rfl rfl (by decide +kernel) (by decide) dX8_record_8 rfl ⟨Nat.zero_le _, Nat.zero_le _⟩ (Nat.le_of_ble_eq_true rfl) rfl h10 ?_
  rintro x w1 ⟨rfl, hw1⟩
  rw [hw1]
  clear hw1 w1
  simp only [Option.toList, List.cons_append, List.nil_append]
  refine z_gn C E tkX8_record (Nat.zero_le _) (Nat.zero_le _) [] 60 ?_
  simp only [↓z_rn_s, ↓z_rn_0, ↓zr_in0, ↓zr_ins, ↓zr_inn, ↓zr_bt, ↓zr_bf, ↓zr_li0, ↓zr_lis, ↓zr_la0, ↓zr_las, ↓zr_ll0, ↓zr_lls, ↓zr_1i, ↓zr_1l, ↓zr_1a, ↓zr_2i, ↓zr_2l, ↓zr_lsi, ↓zr_ia, ↓zr_aa, ↓zr_dia, ↓zr_iia, ↓zr_lia, ↓zr_d1i, ↓zr_d1r, ↓zr_e1, ↓zr_e2, ↓zr_e0, ↓zr_f0, ↓zr_fs, ↓zr_s0, ↓zr_ss, ↓zr_len, ↓zr_len0, ↓zr_ok0, ↓zr_okn, ↓zr_oki, ↓zr_okr, ↓zr_oks, ↓zr_tt, ↓zr_ar0u, ↓zr_ar0n, ↓zr_ar1u, ↓zr_ar1n, ↓zr_ar2u, ↓zr_ar2n, ↓zr_obu, ↓zr_obn, ↓Nat.reduceAdd, Nat.reduceEqDiff, Nat.add_left_cancel_iff, not_false_eq_true, z_up_up, true_and, ↓sX8_record_0, ↓sX8_record_1, ↓sX8_record_4, ↓sX8_record_5, ↓sX8_record_8, ↓sX8_record_11, ↓sX8_record_12, ↓sX8_record_13, ↓sX8_record_16, ↓sX8_record_17, ↓sX8_record_18, ↓sX8_record_19, ↓sX8_record_22, ↓sX8_record_23, ↓sX8_record_26, ↓sX8_record_27, ↓sX8_record_30, ↓sX8_record_31, ↓sX8_record_34, ↓zh_ob h0, zn_a, zn_b, zq1, zq2, zq3, zq4, zq5, zq6, zq7, eq_self, Int32.reduceLT, Int32.reduceLE, Int32.reduceAdd, not_true_eq_false, not_false_eq_true, false_implies, true_implies, and_true, true_and, or_true, true_or]
  refine z_callV (n := 1) (As := [.int _]) (rest := []) C E (c_Rows_add G w (b + 10) (b + 11) (b + 12) (b + 13) 400 0 _ _ _ _ hR) gX8_record_X5_add rfl rfl rfl (by decide +kernel) (by decide) dX8_record_13 rfl ⟨Nat.zero_le _, Nat.zero_le _⟩ (Nat.le_of_ble_eq_true rfl) rfl h10 ?_
  rintro x w1 (⟨hx, -, -⟩ | ⟨-, rfl, hf, hR1⟩)
  · exact absurd hx (by decide)
  simp only [Option.toList, List.cons_append, List.nil_append]
  have h0' : w1.2 b = some _ := (hf.2 b (by simp)).trans h0
  refine z_gn C E tkX8_record (Nat.zero_le _) (Nat.zero_le _) [] 60 ?_
  simp only [↓z_rn_s, ↓z_rn_0, ↓zr_in0, ↓zr_ins, ↓zr_inn, ↓zr_bt, ↓zr_bf, ↓zr_li0, ↓zr_lis, ↓zr_la0, ↓zr_las, ↓zr_ll0, ↓zr_lls, ↓zr_1i, ↓zr_1l, ↓zr_1a, ↓zr_2i, ↓zr_2l, ↓zr_lsi, ↓zr_ia, ↓zr_aa, ↓zr_dia, ↓zr_iia, ↓zr_lia, ↓zr_d1i, ↓zr_d1r, ↓zr_e1, ↓zr_e2, ↓zr_e0, ↓zr_f0, ↓zr_fs, ↓zr_s0, ↓zr_ss, ↓zr_len, ↓zr_len0, ↓zr_ok0, ↓zr_okn, ↓zr_oki, ↓zr_okr, ↓zr_oks, ↓zr_tt, ↓zr_ar0u, ↓zr_ar0n, ↓zr_ar1u, ↓zr_ar1n, ↓zr_ar2u, ↓zr_ar2n, ↓zr_obu, ↓zr_obn, ↓Nat.reduceAdd, Nat.reduceEqDiff, Nat.add_left_cancel_iff, not_false_eq_true, z_up_up, true_and, ↓sX8_record_0, ↓sX8_record_1, ↓sX8_record_4, ↓sX8_record_5, ↓sX8_record_8, ↓sX8_record_11, ↓sX8_record_12, ↓sX8_record_13, ↓sX8_record_16, ↓sX8_record_17, ↓sX8_record_18, ↓sX8_record_19, ↓sX8_record_22, ↓sX8_record_23, ↓sX8_record_26, ↓sX8_record_27, ↓sX8_record_30, ↓sX8_record_31, ↓sX8_record_34, ↓zh_ob h0', zn_a, zn_b, zq1, zq2, zq3, zq4, zq5, zq6, zq7, eq_self, Int32.reduceLT, Int32.reduceLE, Int32.reduceAdd, not_true_eq_false, not_false_eq_true, false_implies, true_implies, and_true, true_and, or_true, true_or]
  obtain ⟨⟨g0, g1, g2, g3⟩, -⟩ := id hR1
  refine z_callV (n := 1) (As := [.int _]) (rest := []) C E (c_Rows_numberOf G w1 (b + 10) (b + 11) (b + 12) (b + 13) 400 _ _ _ _ _ hR1) gX8_record_X5_numberOf rfl rfl rfl (by decide +kernel) (by decide) dX8_record_31 rfl ⟨Nat.zero_le _, Nat.zero_le _⟩ (Nat.le_of_ble_eq_true rfl) rfl g0 ?_
  rintro x w2 ⟨⟨v, rfl, hv⟩, rfl⟩
  simp only [Option.toList, List.cons_append, List.nil_append]
  have hv1 := hv (by decide) (by decide)
  subst hv1
  refine z_gn C E tkX8_record (Nat.zero_le _) (Nat.zero_le _) [] 60 ?_
  simp only [↓z_rn_s, ↓z_rn_0, ↓zr_in0, ↓zr_ins, ↓zr_inn, ↓zr_bt, ↓zr_bf, ↓zr_li0, ↓zr_lis, ↓zr_la0, ↓zr_las, ↓zr_ll0, ↓zr_lls, ↓zr_1i, ↓zr_1l, ↓zr_1a, ↓zr_2i, ↓zr_2l, ↓zr_lsi, ↓zr_ia, ↓zr_aa, ↓zr_dia, ↓zr_iia, ↓zr_lia, ↓zr_d1i, ↓zr_d1r, ↓zr_e1, ↓zr_e2, ↓zr_e0, ↓zr_f0, ↓zr_fs, ↓zr_s0, ↓zr_ss, ↓zr_len, ↓zr_len0, ↓zr_ok0, ↓zr_okn, ↓zr_oki, ↓zr_okr, ↓zr_oks, ↓zr_tt, ↓zr_ar0u, ↓zr_ar0n, ↓zr_ar1u, ↓zr_ar1n, ↓zr_ar2u, ↓zr_ar2n, ↓zr_obu, ↓zr_obn, ↓Nat.reduceAdd, Nat.reduceEqDiff, Nat.add_left_cancel_iff, not_false_eq_true, z_up_up, true_and, ↓sX8_record_0, ↓sX8_record_1, ↓sX8_record_4, ↓sX8_record_5, ↓sX8_record_8, ↓sX8_record_11, ↓sX8_record_12, ↓sX8_record_13, ↓sX8_record_16, ↓sX8_record_17, ↓sX8_record_18, ↓sX8_record_19, ↓sX8_record_22, ↓sX8_record_23, ↓sX8_record_26, ↓sX8_record_27, ↓sX8_record_30, ↓sX8_record_31, ↓sX8_record_34, zn_a, zn_b, zq1, zq2, zq3, zq4, zq5, zq6, zq7, eq_self, Int32.reduceLT, Int32.reduceLE, Int32.reduceAdd, not_true_eq_false, not_false_eq_true, false_implies, true_implies, and_true, true_and, or_true, true_or]
  exact hP _ _ ⟨rfl, zKp.fr (zKp.rf b w) hf (fun k hk => by simp at hk; omega)⟩
def zA_count (n : Int32) : Int32 := if 0 ≤ n.toInt ∧ n.toInt ≤ 9 then 0 else -1
set_option maxRecDepth 100000 in
set_option maxHeartbeats 1000000 in
theorem c_count (G : zG) (w : zW) (b : Nat) (n : Int32) (h : zFr b w) :
    z_M G yX8_count wsX8_count zrm1 0 0 [.ref b, .int n] w (fun x w' => x = some (.int (zA_count n)) ∧ zKp b w w') := by
  have h0 : w.2 b = some _ := h 0 _ rfl
  have h5 : w.2 (b + 5) = some _ := h 5 _ rfl
  have h10 : w.2 (b + 10) = some _ := h 10 _ rfl
  have h26 : w.2 (b + 26) = some _ := h 26 _ rfl
  have h30 : w.2 (b + 30) = some _ := h 30 _ rfl
  refine z_mt (nL := 2) (cc := cX8_count) (ret := some .int) (by decide) rfl (Nat.le_of_ble_eq_true rfl) 0 [some (.ref b), some (.int n)] rfl ?_
  intro P hP Γ C E
  refine z_gn C E tkX8_count (Nat.zero_le _) (Nat.zero_le _) [] 60 ?_
  simp only [↓z_rn_s, ↓z_rn_0, ↓zr_in0, ↓zr_ins, ↓zr_inn, ↓zr_bt, ↓zr_bf, ↓zr_li0, ↓zr_lis, ↓zr_la0, ↓zr_las, ↓zr_ll0, ↓zr_lls, ↓zr_1i, ↓zr_1l, ↓zr_1a, ↓zr_2i, ↓zr_2l, ↓zr_lsi, ↓zr_ia, ↓zr_aa, ↓zr_dia, ↓zr_iia, ↓zr_lia, ↓zr_d1i, ↓zr_d1r, ↓zr_e1, ↓zr_e2, ↓zr_e0, ↓zr_f0, ↓zr_fs, ↓zr_s0, ↓zr_ss, ↓zr_len, ↓zr_len0, ↓zr_ok0, ↓zr_okn, ↓zr_oki, ↓zr_okr, ↓zr_oks, ↓zr_tt, ↓zr_ar0u, ↓zr_ar0n, ↓zr_ar1u, ↓zr_ar1n, ↓zr_ar2u, ↓zr_ar2n, ↓zr_obu, ↓zr_obn, ↓Nat.reduceAdd, Nat.reduceEqDiff, Nat.add_left_cancel_iff, not_false_eq_true, z_up_up, true_and, ↓sX8_count_0, ↓sX8_count_1, ↓sX8_count_56, ↓sX8_count_57, ↓sX8_count_60, ↓sX8_count_63, ↓sX8_count_64, ↓sX8_count_65, ↓sX8_count_68, ↓sX8_count_71, ↓sX8_count_72, ↓sX8_count_73, ↓sX8_count_76, ↓sX8_count_77, ↓sX8_count_78, ↓sX8_count_81, ↓sX8_count_82, ↓sX8_count_83, ↓sX8_count_86, ↓sX8_count_89, ↓sX8_count_90, ↓sX8_count_91, ↓sX8_count_94, ↓sX8_count_97, ↓sX8_count_98, ↓sX8_count_99, ↓sX8_count_102, ↓sX8_count_105, ↓sX8_count_106, ↓sX8_count_107, ↓sX8_count_110, ↓sX8_count_113, ↓sX8_count_114, ↓sX8_count_115, ↓sX8_count_118, ↓sX8_count_121, ↓sX8_count_122, ↓sX8_count_123, ↓sX8_count_126, ↓sX8_count_129, ↓sX8_count_130, ↓sX8_count_131, zn_a, zn_b, zq1, zq2, zq3, zq4, zq5, zq6, zq7, eq_self, Int32.reduceLT, Int32.reduceLE, Int32.reduceAdd, not_true_eq_false, not_false_eq_true, false_implies, true_implies, and_true, true_and, or_true, true_or]
  by_cases hc : 0 ≤ n.toInt ∧ n.toInt ≤ 9
  · have hz : zA_count n = 0 := by unfold zA_count; rw [if_pos hc]
    rcases (show n.toInt = 0 ∨ n.toInt = 1 ∨ n.toInt = 2 ∨ n.toInt = 3 ∨ n.toInt = 4 ∨ n.toInt = 5 ∨ n.toInt = 6 ∨ n.toInt = 7 ∨ n.toInt = 8 ∨ n.toInt = 9 by omega) with e | e | e | e | e | e | e | e | e | e
    · refine z_tsIn (tgt := 56) C dX8_count_1 (by omega) (by omega) (by rw [e]; rfl) (by decide) ?_
      refine z_gn C E tkX8_count (Nat.zero_le _) (Nat.zero_le _) [] 60 ?_
      simp only [↓z_rn_s, ↓z_rn_0, ↓zr_in0, ↓zr_ins, ↓zr_inn, ↓zr_bt, ↓zr_bf, ↓zr_li0, ↓zr_lis, ↓zr_la0, ↓zr_las, ↓zr_ll0, ↓zr_lls, ↓zr_1i, ↓zr_1l, ↓zr_1a, ↓zr_2i, ↓zr_2l, ↓zr_lsi, ↓zr_ia, ↓zr_aa, ↓zr_dia, ↓zr_iia, ↓zr_lia, ↓zr_d1i, ↓zr_d1r, ↓zr_e1, ↓zr_e2, ↓zr_e0, ↓zr_f0, ↓zr_fs, ↓zr_s0, ↓zr_ss, ↓zr_len, ↓zr_len0, ↓zr_ok0, ↓zr_okn, ↓zr_oki, ↓zr_okr, ↓zr_oks, ↓zr_tt, ↓zr_ar0u, ↓zr_ar0n, ↓zr_ar1u, ↓zr_ar1n, ↓zr_ar2u, ↓zr_ar2n, ↓zr_obu, ↓zr_obn, ↓Nat.reduceAdd, Nat.reduceEqDiff, Nat.add_left_cancel_iff, not_false_eq_true, z_up_up, true_and, ↓sX8_count_0, ↓sX8_count_1, ↓sX8_count_56, ↓sX8_count_57, ↓sX8_count_60, ↓sX8_count_63, ↓sX8_count_64, ↓sX8_count_65, ↓sX8_count_68, ↓sX8_count_71, ↓sX8_count_72, ↓sX8_count_73, ↓sX8_count_76, ↓sX8_count_77, ↓sX8_count_78, ↓sX8_count_81, ↓sX8_count_82, ↓sX8_count_83, ↓sX8_count_86, ↓sX8_count_89, ↓sX8_count_90, ↓sX8_count_91, ↓sX8_count_94, ↓sX8_count_97, ↓sX8_count_98, ↓sX8_count_99, ↓sX8_count_102, ↓sX8_count_105, ↓sX8_count_106, ↓sX8_count_107, ↓sX8_count_110, ↓sX8_count_113, ↓sX8_count_114, ↓sX8_count_115, ↓sX8_count_118, ↓sX8_count_121, ↓sX8_count_122, ↓sX8_count_123, ↓sX8_count_126, ↓sX8_count_129, ↓sX8_count_130, ↓sX8_count_131, ↓zh_ob h0, ↓zh_ob h30]
      refine z_callV (n := 0) (As := []) (rest := []) C E (c_Keys_told0 G w (b + 5) _ _ _ _ _ h5) gX8_count_X3_told rfl rfl rfl (by decide +kernel) (by decide) dX8_count_60 rfl ⟨Nat.zero_le _, Nat.zero_le _⟩ (Nat.le_of_ble_eq_true rfl) rfl h5 ?_
      rintro x w1 ⟨rfl, rfl⟩
      simp only [Option.toList, List.cons_append, List.nil_append]
      refine z_gn C E tkX8_count (Nat.zero_le _) (Nat.zero_le _) [] 60 ?_
      simp only [↓z_rn_s, ↓z_rn_0, ↓zr_in0, ↓zr_ins, ↓zr_inn, ↓zr_bt, ↓zr_bf, ↓zr_li0, ↓zr_lis, ↓zr_la0, ↓zr_las, ↓zr_ll0, ↓zr_lls, ↓zr_1i, ↓zr_1l, ↓zr_1a, ↓zr_2i, ↓zr_2l, ↓zr_lsi, ↓zr_ia, ↓zr_aa, ↓zr_dia, ↓zr_iia, ↓zr_lia, ↓zr_d1i, ↓zr_d1r, ↓zr_e1, ↓zr_e2, ↓zr_e0, ↓zr_f0, ↓zr_fs, ↓zr_s0, ↓zr_ss, ↓zr_len, ↓zr_len0, ↓zr_ok0, ↓zr_okn, ↓zr_oki, ↓zr_okr, ↓zr_oks, ↓zr_tt, ↓zr_ar0u, ↓zr_ar0n, ↓zr_ar1u, ↓zr_ar1n, ↓zr_ar2u, ↓zr_ar2n, ↓zr_obu, ↓zr_obn, ↓Nat.reduceAdd, Nat.reduceEqDiff, Nat.add_left_cancel_iff, not_false_eq_true, z_up_up, true_and, ↓sX8_count_0, ↓sX8_count_1, ↓sX8_count_56, ↓sX8_count_57, ↓sX8_count_60, ↓sX8_count_63, ↓sX8_count_64, ↓sX8_count_65, ↓sX8_count_68, ↓sX8_count_71, ↓sX8_count_72, ↓sX8_count_73, ↓sX8_count_76, ↓sX8_count_77, ↓sX8_count_78, ↓sX8_count_81, ↓sX8_count_82, ↓sX8_count_83, ↓sX8_count_86, ↓sX8_count_89, ↓sX8_count_90, ↓sX8_count_91, ↓sX8_count_94, ↓sX8_count_97, ↓sX8_count_98, ↓sX8_count_99, ↓sX8_count_102, ↓sX8_count_105, ↓sX8_count_106, ↓sX8_count_107, ↓sX8_count_110, ↓sX8_count_113, ↓sX8_count_114, ↓sX8_count_115, ↓sX8_count_118, ↓sX8_count_121, ↓sX8_count_122, ↓sX8_count_123, ↓sX8_count_126, ↓sX8_count_129, ↓sX8_count_130, ↓sX8_count_131]
      exact hP _ _ ⟨by rw [hz], zKp.rf b _⟩
    · refine z_tsIn (tgt := 64) C dX8_count_1 (by omega) (by omega) (by rw [e]; rfl) (by decide) ?_
      refine z_gn C E tkX8_count (Nat.zero_le _) (Nat.zero_le _) [] 60 ?_
      simp only [↓z_rn_s, ↓z_rn_0, ↓zr_in0, ↓zr_ins, ↓zr_inn, ↓zr_bt, ↓zr_bf, ↓zr_li0, ↓zr_lis, ↓zr_la0, ↓zr_las, ↓zr_ll0, ↓zr_lls, ↓zr_1i, ↓zr_1l, ↓zr_1a, ↓zr_2i, ↓zr_2l, ↓zr_lsi, ↓zr_ia, ↓zr_aa, ↓zr_dia, ↓zr_iia, ↓zr_lia, ↓zr_d1i, ↓zr_d1r, ↓zr_e1, ↓zr_e2, ↓zr_e0, ↓zr_f0, ↓zr_fs, ↓zr_s0, ↓zr_ss, ↓zr_len, ↓zr_len0, ↓zr_ok0, ↓zr_okn, ↓zr_oki, ↓zr_okr, ↓zr_oks, ↓zr_tt, ↓zr_ar0u, ↓zr_ar0n, ↓zr_ar1u, ↓zr_ar1n, ↓zr_ar2u, ↓zr_ar2n, ↓zr_obu, ↓zr_obn, ↓Nat.reduceAdd, Nat.reduceEqDiff, Nat.add_left_cancel_iff, not_false_eq_true, z_up_up, true_and, ↓sX8_count_0, ↓sX8_count_1, ↓sX8_count_56, ↓sX8_count_57, ↓sX8_count_60, ↓sX8_count_63, ↓sX8_count_64, ↓sX8_count_65, ↓sX8_count_68, ↓sX8_count_71, ↓sX8_count_72, ↓sX8_count_73, ↓sX8_count_76, ↓sX8_count_77, ↓sX8_count_78, ↓sX8_count_81, ↓sX8_count_82, ↓sX8_count_83, ↓sX8_count_86, ↓sX8_count_89, ↓sX8_count_90, ↓sX8_count_91, ↓sX8_count_94, ↓sX8_count_97, ↓sX8_count_98, ↓sX8_count_99, ↓sX8_count_102, ↓sX8_count_105, ↓sX8_count_106, ↓sX8_count_107, ↓sX8_count_110, ↓sX8_count_113, ↓sX8_count_114, ↓sX8_count_115, ↓sX8_count_118, ↓sX8_count_121, ↓sX8_count_122, ↓sX8_count_123, ↓sX8_count_126, ↓sX8_count_129, ↓sX8_count_130, ↓sX8_count_131, ↓zh_ob h0, ↓zh_ob h30]
      refine z_callV (n := 0) (As := []) (rest := []) C E (c_Rows_held0 G w (b + 10) _ _ _ _ _ h10) gX8_count_X5_held rfl rfl rfl (by decide +kernel) (by decide) dX8_count_68 rfl ⟨Nat.zero_le _, Nat.zero_le _⟩ (Nat.le_of_ble_eq_true rfl) rfl h10 ?_
      rintro x w1 ⟨rfl, rfl⟩
      simp only [Option.toList, List.cons_append, List.nil_append]
      refine z_gn C E tkX8_count (Nat.zero_le _) (Nat.zero_le _) [] 60 ?_
      simp only [↓z_rn_s, ↓z_rn_0, ↓zr_in0, ↓zr_ins, ↓zr_inn, ↓zr_bt, ↓zr_bf, ↓zr_li0, ↓zr_lis, ↓zr_la0, ↓zr_las, ↓zr_ll0, ↓zr_lls, ↓zr_1i, ↓zr_1l, ↓zr_1a, ↓zr_2i, ↓zr_2l, ↓zr_lsi, ↓zr_ia, ↓zr_aa, ↓zr_dia, ↓zr_iia, ↓zr_lia, ↓zr_d1i, ↓zr_d1r, ↓zr_e1, ↓zr_e2, ↓zr_e0, ↓zr_f0, ↓zr_fs, ↓zr_s0, ↓zr_ss, ↓zr_len, ↓zr_len0, ↓zr_ok0, ↓zr_okn, ↓zr_oki, ↓zr_okr, ↓zr_oks, ↓zr_tt, ↓zr_ar0u, ↓zr_ar0n, ↓zr_ar1u, ↓zr_ar1n, ↓zr_ar2u, ↓zr_ar2n, ↓zr_obu, ↓zr_obn, ↓Nat.reduceAdd, Nat.reduceEqDiff, Nat.add_left_cancel_iff, not_false_eq_true, z_up_up, true_and, ↓sX8_count_0, ↓sX8_count_1, ↓sX8_count_56, ↓sX8_count_57, ↓sX8_count_60, ↓sX8_count_63, ↓sX8_count_64, ↓sX8_count_65, ↓sX8_count_68, ↓sX8_count_71, ↓sX8_count_72, ↓sX8_count_73, ↓sX8_count_76, ↓sX8_count_77, ↓sX8_count_78, ↓sX8_count_81, ↓sX8_count_82, ↓sX8_count_83, ↓sX8_count_86, ↓sX8_count_89, ↓sX8_count_90, ↓sX8_count_91, ↓sX8_count_94, ↓sX8_count_97, ↓sX8_count_98, ↓sX8_count_99, ↓sX8_count_102, ↓sX8_count_105, ↓sX8_count_106, ↓sX8_count_107, ↓sX8_count_110, ↓sX8_count_113, ↓sX8_count_114, ↓sX8_count_115, ↓sX8_count_118, ↓sX8_count_121, ↓sX8_count_122, ↓sX8_count_123, ↓sX8_count_126, ↓sX8_count_129, ↓sX8_count_130, ↓sX8_count_131]
      exact hP _ _ ⟨by rw [hz], zKp.rf b _⟩
    · refine z_tsIn (tgt := 72) C dX8_count_1 (by omega) (by omega) (by rw [e]; rfl) (by decide) ?_
      refine z_gn C E tkX8_count (Nat.zero_le _) (Nat.zero_le _) [] 60 ?_
      simp only [↓z_rn_s, ↓z_rn_0, ↓zr_in0, ↓zr_ins, ↓zr_inn, ↓zr_bt, ↓zr_bf, ↓zr_li0, ↓zr_lis, ↓zr_la0, ↓zr_las, ↓zr_ll0, ↓zr_lls, ↓zr_1i, ↓zr_1l, ↓zr_1a, ↓zr_2i, ↓zr_2l, ↓zr_lsi, ↓zr_ia, ↓zr_aa, ↓zr_dia, ↓zr_iia, ↓zr_lia, ↓zr_d1i, ↓zr_d1r, ↓zr_e1, ↓zr_e2, ↓zr_e0, ↓zr_f0, ↓zr_fs, ↓zr_s0, ↓zr_ss, ↓zr_len, ↓zr_len0, ↓zr_ok0, ↓zr_okn, ↓zr_oki, ↓zr_okr, ↓zr_oks, ↓zr_tt, ↓zr_ar0u, ↓zr_ar0n, ↓zr_ar1u, ↓zr_ar1n, ↓zr_ar2u, ↓zr_ar2n, ↓zr_obu, ↓zr_obn, ↓Nat.reduceAdd, Nat.reduceEqDiff, Nat.add_left_cancel_iff, not_false_eq_true, z_up_up, true_and, ↓sX8_count_0, ↓sX8_count_1, ↓sX8_count_56, ↓sX8_count_57, ↓sX8_count_60, ↓sX8_count_63, ↓sX8_count_64, ↓sX8_count_65, ↓sX8_count_68, ↓sX8_count_71, ↓sX8_count_72, ↓sX8_count_73, ↓sX8_count_76, ↓sX8_count_77, ↓sX8_count_78, ↓sX8_count_81, ↓sX8_count_82, ↓sX8_count_83, ↓sX8_count_86, ↓sX8_count_89, ↓sX8_count_90, ↓sX8_count_91, ↓sX8_count_94, ↓sX8_count_97, ↓sX8_count_98, ↓sX8_count_99, ↓sX8_count_102, ↓sX8_count_105, ↓sX8_count_106, ↓sX8_count_107, ↓sX8_count_110, ↓sX8_count_113, ↓sX8_count_114, ↓sX8_count_115, ↓sX8_count_118, ↓sX8_count_121, ↓sX8_count_122, ↓sX8_count_123, ↓sX8_count_126, ↓sX8_count_129, ↓sX8_count_130, ↓sX8_count_131, ↓zh_ob h0, ↓zh_ob h30]
      exact hP _ _ ⟨by rw [hz], zKp.rf b _⟩
    · refine z_tsIn (tgt := 77) C dX8_count_1 (by omega) (by omega) (by rw [e]; rfl) (by decide) ?_
      refine z_gn C E tkX8_count (Nat.zero_le _) (Nat.zero_le _) [] 60 ?_
      simp only [↓z_rn_s, ↓z_rn_0, ↓zr_in0, ↓zr_ins, ↓zr_inn, ↓zr_bt, ↓zr_bf, ↓zr_li0, ↓zr_lis, ↓zr_la0, ↓zr_las, ↓zr_ll0, ↓zr_lls, ↓zr_1i, ↓zr_1l, ↓zr_1a, ↓zr_2i, ↓zr_2l, ↓zr_lsi, ↓zr_ia, ↓zr_aa, ↓zr_dia, ↓zr_iia, ↓zr_lia, ↓zr_d1i, ↓zr_d1r, ↓zr_e1, ↓zr_e2, ↓zr_e0, ↓zr_f0, ↓zr_fs, ↓zr_s0, ↓zr_ss, ↓zr_len, ↓zr_len0, ↓zr_ok0, ↓zr_okn, ↓zr_oki, ↓zr_okr, ↓zr_oks, ↓zr_tt, ↓zr_ar0u, ↓zr_ar0n, ↓zr_ar1u, ↓zr_ar1n, ↓zr_ar2u, ↓zr_ar2n, ↓zr_obu, ↓zr_obn, ↓Nat.reduceAdd, Nat.reduceEqDiff, Nat.add_left_cancel_iff, not_false_eq_true, z_up_up, true_and, ↓sX8_count_0, ↓sX8_count_1, ↓sX8_count_56, ↓sX8_count_57, ↓sX8_count_60, ↓sX8_count_63, ↓sX8_count_64, ↓sX8_count_65, ↓sX8_count_68, ↓sX8_count_71, ↓sX8_count_72, ↓sX8_count_73, ↓sX8_count_76, ↓sX8_count_77, ↓sX8_count_78, ↓sX8_count_81, ↓sX8_count_82, ↓sX8_count_83, ↓sX8_count_86, ↓sX8_count_89, ↓sX8_count_90, ↓sX8_count_91, ↓sX8_count_94, ↓sX8_count_97, ↓sX8_count_98, ↓sX8_count_99, ↓sX8_count_102, ↓sX8_count_105, ↓sX8_count_106, ↓sX8_count_107, ↓sX8_count_110, ↓sX8_count_113, ↓sX8_count_114, ↓sX8_count_115, ↓sX8_count_118, ↓sX8_count_121, ↓sX8_count_122, ↓sX8_count_123, ↓sX8_count_126, ↓sX8_count_129, ↓sX8_count_130, ↓sX8_count_131, ↓zh_ob h0, ↓zh_ob h30]
      exact hP _ _ ⟨by rw [hz], zKp.rf b _⟩
    · refine z_tsIn (tgt := 82) C dX8_count_1 (by omega) (by omega) (by rw [e]; rfl) (by decide) ?_
      refine z_gn C E tkX8_count (Nat.zero_le _) (Nat.zero_le _) [] 60 ?_
      simp only [↓z_rn_s, ↓z_rn_0, ↓zr_in0, ↓zr_ins, ↓zr_inn, ↓zr_bt, ↓zr_bf, ↓zr_li0, ↓zr_lis, ↓zr_la0, ↓zr_las, ↓zr_ll0, ↓zr_lls, ↓zr_1i, ↓zr_1l, ↓zr_1a, ↓zr_2i, ↓zr_2l, ↓zr_lsi, ↓zr_ia, ↓zr_aa, ↓zr_dia, ↓zr_iia, ↓zr_lia, ↓zr_d1i, ↓zr_d1r, ↓zr_e1, ↓zr_e2, ↓zr_e0, ↓zr_f0, ↓zr_fs, ↓zr_s0, ↓zr_ss, ↓zr_len, ↓zr_len0, ↓zr_ok0, ↓zr_okn, ↓zr_oki, ↓zr_okr, ↓zr_oks, ↓zr_tt, ↓zr_ar0u, ↓zr_ar0n, ↓zr_ar1u, ↓zr_ar1n, ↓zr_ar2u, ↓zr_ar2n, ↓zr_obu, ↓zr_obn, ↓Nat.reduceAdd, Nat.reduceEqDiff, Nat.add_left_cancel_iff, not_false_eq_true, z_up_up, true_and, ↓sX8_count_0, ↓sX8_count_1, ↓sX8_count_56, ↓sX8_count_57, ↓sX8_count_60, ↓sX8_count_63, ↓sX8_count_64, ↓sX8_count_65, ↓sX8_count_68, ↓sX8_count_71, ↓sX8_count_72, ↓sX8_count_73, ↓sX8_count_76, ↓sX8_count_77, ↓sX8_count_78, ↓sX8_count_81, ↓sX8_count_82, ↓sX8_count_83, ↓sX8_count_86, ↓sX8_count_89, ↓sX8_count_90, ↓sX8_count_91, ↓sX8_count_94, ↓sX8_count_97, ↓sX8_count_98, ↓sX8_count_99, ↓sX8_count_102, ↓sX8_count_105, ↓sX8_count_106, ↓sX8_count_107, ↓sX8_count_110, ↓sX8_count_113, ↓sX8_count_114, ↓sX8_count_115, ↓sX8_count_118, ↓sX8_count_121, ↓sX8_count_122, ↓sX8_count_123, ↓sX8_count_126, ↓sX8_count_129, ↓sX8_count_130, ↓sX8_count_131, ↓zh_ob h0, ↓zh_ob h30]
      exact hP _ _ ⟨by rw [hz], zKp.rf b _⟩
    · refine z_tsIn (tgt := 90) C dX8_count_1 (by omega) (by omega) (by rw [e]; rfl) (by decide) ?_
      refine z_gn C E tkX8_count (Nat.zero_le _) (Nat.zero_le _) [] 60 ?_
      simp only [↓z_rn_s, ↓z_rn_0, ↓zr_in0, ↓zr_ins, ↓zr_inn, ↓zr_bt, ↓zr_bf, ↓zr_li0, ↓zr_lis, ↓zr_la0, ↓zr_las, ↓zr_ll0, ↓zr_lls, ↓zr_1i, ↓zr_1l, ↓zr_1a, ↓zr_2i, ↓zr_2l, ↓zr_lsi, ↓zr_ia, ↓zr_aa, ↓zr_dia, ↓zr_iia, ↓zr_lia, ↓zr_d1i, ↓zr_d1r, ↓zr_e1, ↓zr_e2, ↓zr_e0, ↓zr_f0, ↓zr_fs, ↓zr_s0, ↓zr_ss, ↓zr_len, ↓zr_len0, ↓zr_ok0, ↓zr_okn, ↓zr_oki, ↓zr_okr, ↓zr_oks, ↓zr_tt, ↓zr_ar0u, ↓zr_ar0n, ↓zr_ar1u, ↓zr_ar1n, ↓zr_ar2u, ↓zr_ar2n, ↓zr_obu, ↓zr_obn, ↓Nat.reduceAdd, Nat.reduceEqDiff, Nat.add_left_cancel_iff, not_false_eq_true, z_up_up, true_and, ↓sX8_count_0, ↓sX8_count_1, ↓sX8_count_56, ↓sX8_count_57, ↓sX8_count_60, ↓sX8_count_63, ↓sX8_count_64, ↓sX8_count_65, ↓sX8_count_68, ↓sX8_count_71, ↓sX8_count_72, ↓sX8_count_73, ↓sX8_count_76, ↓sX8_count_77, ↓sX8_count_78, ↓sX8_count_81, ↓sX8_count_82, ↓sX8_count_83, ↓sX8_count_86, ↓sX8_count_89, ↓sX8_count_90, ↓sX8_count_91, ↓sX8_count_94, ↓sX8_count_97, ↓sX8_count_98, ↓sX8_count_99, ↓sX8_count_102, ↓sX8_count_105, ↓sX8_count_106, ↓sX8_count_107, ↓sX8_count_110, ↓sX8_count_113, ↓sX8_count_114, ↓sX8_count_115, ↓sX8_count_118, ↓sX8_count_121, ↓sX8_count_122, ↓sX8_count_123, ↓sX8_count_126, ↓sX8_count_129, ↓sX8_count_130, ↓sX8_count_131, ↓zh_ob h0, ↓zh_ob h30]
      exact hP _ _ ⟨by rw [hz], zKp.rf b _⟩
    · refine z_tsIn (tgt := 98) C dX8_count_1 (by omega) (by omega) (by rw [e]; rfl) (by decide) ?_
      refine z_gn C E tkX8_count (Nat.zero_le _) (Nat.zero_le _) [] 60 ?_
      simp only [↓z_rn_s, ↓z_rn_0, ↓zr_in0, ↓zr_ins, ↓zr_inn, ↓zr_bt, ↓zr_bf, ↓zr_li0, ↓zr_lis, ↓zr_la0, ↓zr_las, ↓zr_ll0, ↓zr_lls, ↓zr_1i, ↓zr_1l, ↓zr_1a, ↓zr_2i, ↓zr_2l, ↓zr_lsi, ↓zr_ia, ↓zr_aa, ↓zr_dia, ↓zr_iia, ↓zr_lia, ↓zr_d1i, ↓zr_d1r, ↓zr_e1, ↓zr_e2, ↓zr_e0, ↓zr_f0, ↓zr_fs, ↓zr_s0, ↓zr_ss, ↓zr_len, ↓zr_len0, ↓zr_ok0, ↓zr_okn, ↓zr_oki, ↓zr_okr, ↓zr_oks, ↓zr_tt, ↓zr_ar0u, ↓zr_ar0n, ↓zr_ar1u, ↓zr_ar1n, ↓zr_ar2u, ↓zr_ar2n, ↓zr_obu, ↓zr_obn, ↓Nat.reduceAdd, Nat.reduceEqDiff, Nat.add_left_cancel_iff, not_false_eq_true, z_up_up, true_and, ↓sX8_count_0, ↓sX8_count_1, ↓sX8_count_56, ↓sX8_count_57, ↓sX8_count_60, ↓sX8_count_63, ↓sX8_count_64, ↓sX8_count_65, ↓sX8_count_68, ↓sX8_count_71, ↓sX8_count_72, ↓sX8_count_73, ↓sX8_count_76, ↓sX8_count_77, ↓sX8_count_78, ↓sX8_count_81, ↓sX8_count_82, ↓sX8_count_83, ↓sX8_count_86, ↓sX8_count_89, ↓sX8_count_90, ↓sX8_count_91, ↓sX8_count_94, ↓sX8_count_97, ↓sX8_count_98, ↓sX8_count_99, ↓sX8_count_102, ↓sX8_count_105, ↓sX8_count_106, ↓sX8_count_107, ↓sX8_count_110, ↓sX8_count_113, ↓sX8_count_114, ↓sX8_count_115, ↓sX8_count_118, ↓sX8_count_121, ↓sX8_count_122, ↓sX8_count_123, ↓sX8_count_126, ↓sX8_count_129, ↓sX8_count_130, ↓sX8_count_131, ↓zh_ob h0, ↓zh_ob h30]
      exact hP _ _ ⟨by rw [hz], zKp.rf b _⟩
    · refine z_tsIn (tgt := 106) C dX8_count_1 (by omega) (by omega) (by rw [e]; rfl) (by decide) ?_
      refine z_gn C E tkX8_count (Nat.zero_le _) (Nat.zero_le _) [] 60 ?_
      simp only [↓z_rn_s, ↓z_rn_0, ↓zr_in0, ↓zr_ins, ↓zr_inn, ↓zr_bt, ↓zr_bf, ↓zr_li0, ↓zr_lis, ↓zr_la0, ↓zr_las, ↓zr_ll0, ↓zr_lls, ↓zr_1i, ↓zr_1l, ↓zr_1a, ↓zr_2i, ↓zr_2l, ↓zr_lsi, ↓zr_ia, ↓zr_aa, ↓zr_dia, ↓zr_iia, ↓zr_lia, ↓zr_d1i, ↓zr_d1r, ↓zr_e1, ↓zr_e2, ↓zr_e0, ↓zr_f0, ↓zr_fs, ↓zr_s0, ↓zr_ss, ↓zr_len, ↓zr_len0, ↓zr_ok0, ↓zr_okn, ↓zr_oki, ↓zr_okr, ↓zr_oks, ↓zr_tt, ↓zr_ar0u, ↓zr_ar0n, ↓zr_ar1u, ↓zr_ar1n, ↓zr_ar2u, ↓zr_ar2n, ↓zr_obu, ↓zr_obn, ↓Nat.reduceAdd, Nat.reduceEqDiff, Nat.add_left_cancel_iff, not_false_eq_true, z_up_up, true_and, ↓sX8_count_0, ↓sX8_count_1, ↓sX8_count_56, ↓sX8_count_57, ↓sX8_count_60, ↓sX8_count_63, ↓sX8_count_64, ↓sX8_count_65, ↓sX8_count_68, ↓sX8_count_71, ↓sX8_count_72, ↓sX8_count_73, ↓sX8_count_76, ↓sX8_count_77, ↓sX8_count_78, ↓sX8_count_81, ↓sX8_count_82, ↓sX8_count_83, ↓sX8_count_86, ↓sX8_count_89, ↓sX8_count_90, ↓sX8_count_91, ↓sX8_count_94, ↓sX8_count_97, ↓sX8_count_98, ↓sX8_count_99, ↓sX8_count_102, ↓sX8_count_105, ↓sX8_count_106, ↓sX8_count_107, ↓sX8_count_110, ↓sX8_count_113, ↓sX8_count_114, ↓sX8_count_115, ↓sX8_count_118, ↓sX8_count_121, ↓sX8_count_122, ↓sX8_count_123, ↓sX8_count_126, ↓sX8_count_129, ↓sX8_count_130, ↓sX8_count_131, ↓zh_ob h0, ↓zh_ob h30]
      exact hP _ _ ⟨by rw [hz], zKp.rf b _⟩
    · refine z_tsIn (tgt := 114) C dX8_count_1 (by omega) (by omega) (by rw [e]; rfl) (by decide) ?_
      refine z_gn C E tkX8_count (Nat.zero_le _) (Nat.zero_le _) [] 60 ?_
      simp only [↓z_rn_s, ↓z_rn_0, ↓zr_in0, ↓zr_ins, ↓zr_inn, ↓zr_bt, ↓zr_bf, ↓zr_li0, ↓zr_lis, ↓zr_la0, ↓zr_las, ↓zr_ll0, ↓zr_lls, ↓zr_1i, ↓zr_1l, ↓zr_1a, ↓zr_2i, ↓zr_2l, ↓zr_lsi, ↓zr_ia, ↓zr_aa, ↓zr_dia, ↓zr_iia, ↓zr_lia, ↓zr_d1i, ↓zr_d1r, ↓zr_e1, ↓zr_e2, ↓zr_e0, ↓zr_f0, ↓zr_fs, ↓zr_s0, ↓zr_ss, ↓zr_len, ↓zr_len0, ↓zr_ok0, ↓zr_okn, ↓zr_oki, ↓zr_okr, ↓zr_oks, ↓zr_tt, ↓zr_ar0u, ↓zr_ar0n, ↓zr_ar1u, ↓zr_ar1n, ↓zr_ar2u, ↓zr_ar2n, ↓zr_obu, ↓zr_obn, ↓Nat.reduceAdd, Nat.reduceEqDiff, Nat.add_left_cancel_iff, not_false_eq_true, z_up_up, true_and, ↓sX8_count_0, ↓sX8_count_1, ↓sX8_count_56, ↓sX8_count_57, ↓sX8_count_60, ↓sX8_count_63, ↓sX8_count_64, ↓sX8_count_65, ↓sX8_count_68, ↓sX8_count_71, ↓sX8_count_72, ↓sX8_count_73, ↓sX8_count_76, ↓sX8_count_77, ↓sX8_count_78, ↓sX8_count_81, ↓sX8_count_82, ↓sX8_count_83, ↓sX8_count_86, ↓sX8_count_89, ↓sX8_count_90, ↓sX8_count_91, ↓sX8_count_94, ↓sX8_count_97, ↓sX8_count_98, ↓sX8_count_99, ↓sX8_count_102, ↓sX8_count_105, ↓sX8_count_106, ↓sX8_count_107, ↓sX8_count_110, ↓sX8_count_113, ↓sX8_count_114, ↓sX8_count_115, ↓sX8_count_118, ↓sX8_count_121, ↓sX8_count_122, ↓sX8_count_123, ↓sX8_count_126, ↓sX8_count_129, ↓sX8_count_130, ↓sX8_count_131, ↓zh_ob h0, ↓zh_ob h30]
      exact hP _ _ ⟨by rw [hz], zKp.rf b _⟩
    · refine z_tsIn (tgt := 122) C dX8_count_1 (by omega) (by omega) (by rw [e]; rfl) (by decide) ?_
      refine z_gn C E tkX8_count (Nat.zero_le _) (Nat.zero_le _) [] 60 ?_
      simp only [↓z_rn_s, ↓z_rn_0, ↓zr_in0, ↓zr_ins, ↓zr_inn, ↓zr_bt, ↓zr_bf, ↓zr_li0, ↓zr_lis, ↓zr_la0, ↓zr_las, ↓zr_ll0, ↓zr_lls, ↓zr_1i, ↓zr_1l, ↓zr_1a, ↓zr_2i, ↓zr_2l, ↓zr_lsi, ↓zr_ia, ↓zr_aa, ↓zr_dia, ↓zr_iia, ↓zr_lia, ↓zr_d1i, ↓zr_d1r, ↓zr_e1, ↓zr_e2, ↓zr_e0, ↓zr_f0, ↓zr_fs, ↓zr_s0, ↓zr_ss, ↓zr_len, ↓zr_len0, ↓zr_ok0, ↓zr_okn, ↓zr_oki, ↓zr_okr, ↓zr_oks, ↓zr_tt, ↓zr_ar0u, ↓zr_ar0n, ↓zr_ar1u, ↓zr_ar1n, ↓zr_ar2u, ↓zr_ar2n, ↓zr_obu, ↓zr_obn, ↓Nat.reduceAdd, Nat.reduceEqDiff, Nat.add_left_cancel_iff, not_false_eq_true, z_up_up, true_and, ↓sX8_count_0, ↓sX8_count_1, ↓sX8_count_56, ↓sX8_count_57, ↓sX8_count_60, ↓sX8_count_63, ↓sX8_count_64, ↓sX8_count_65, ↓sX8_count_68, ↓sX8_count_71, ↓sX8_count_72, ↓sX8_count_73, ↓sX8_count_76, ↓sX8_count_77, ↓sX8_count_78, ↓sX8_count_81, ↓sX8_count_82, ↓sX8_count_83, ↓sX8_count_86, ↓sX8_count_89, ↓sX8_count_90, ↓sX8_count_91, ↓sX8_count_94, ↓sX8_count_97, ↓sX8_count_98, ↓sX8_count_99, ↓sX8_count_102, ↓sX8_count_105, ↓sX8_count_106, ↓sX8_count_107, ↓sX8_count_110, ↓sX8_count_113, ↓sX8_count_114, ↓sX8_count_115, ↓sX8_count_118, ↓sX8_count_121, ↓sX8_count_122, ↓sX8_count_123, ↓sX8_count_126, ↓sX8_count_129, ↓sX8_count_130, ↓sX8_count_131, ↓zh_ob h0, ↓zh_ob h30]
      refine z_callV (n := 0) (As := []) (rest := []) C E (c_Inputs_all0 G w (b + 26) _ _ _ h26) gX8_count_X2_all rfl rfl rfl (by decide +kernel) (by decide) dX8_count_126 rfl ⟨Nat.zero_le _, Nat.zero_le _⟩ (Nat.le_of_ble_eq_true rfl) rfl h26 ?_
      rintro x w1 ⟨rfl, rfl⟩
      simp only [Option.toList, List.cons_append, List.nil_append]
      refine z_gn C E tkX8_count (Nat.zero_le _) (Nat.zero_le _) [] 60 ?_
      simp only [↓z_rn_s, ↓z_rn_0, ↓zr_in0, ↓zr_ins, ↓zr_inn, ↓zr_bt, ↓zr_bf, ↓zr_li0, ↓zr_lis, ↓zr_la0, ↓zr_las, ↓zr_ll0, ↓zr_lls, ↓zr_1i, ↓zr_1l, ↓zr_1a, ↓zr_2i, ↓zr_2l, ↓zr_lsi, ↓zr_ia, ↓zr_aa, ↓zr_dia, ↓zr_iia, ↓zr_lia, ↓zr_d1i, ↓zr_d1r, ↓zr_e1, ↓zr_e2, ↓zr_e0, ↓zr_f0, ↓zr_fs, ↓zr_s0, ↓zr_ss, ↓zr_len, ↓zr_len0, ↓zr_ok0, ↓zr_okn, ↓zr_oki, ↓zr_okr, ↓zr_oks, ↓zr_tt, ↓zr_ar0u, ↓zr_ar0n, ↓zr_ar1u, ↓zr_ar1n, ↓zr_ar2u, ↓zr_ar2n, ↓zr_obu, ↓zr_obn, ↓Nat.reduceAdd, Nat.reduceEqDiff, Nat.add_left_cancel_iff, not_false_eq_true, z_up_up, true_and, ↓sX8_count_0, ↓sX8_count_1, ↓sX8_count_56, ↓sX8_count_57, ↓sX8_count_60, ↓sX8_count_63, ↓sX8_count_64, ↓sX8_count_65, ↓sX8_count_68, ↓sX8_count_71, ↓sX8_count_72, ↓sX8_count_73, ↓sX8_count_76, ↓sX8_count_77, ↓sX8_count_78, ↓sX8_count_81, ↓sX8_count_82, ↓sX8_count_83, ↓sX8_count_86, ↓sX8_count_89, ↓sX8_count_90, ↓sX8_count_91, ↓sX8_count_94, ↓sX8_count_97, ↓sX8_count_98, ↓sX8_count_99, ↓sX8_count_102, ↓sX8_count_105, ↓sX8_count_106, ↓sX8_count_107, ↓sX8_count_110, ↓sX8_count_113, ↓sX8_count_114, ↓sX8_count_115, ↓sX8_count_118, ↓sX8_count_121, ↓sX8_count_122, ↓sX8_count_123, ↓sX8_count_126, ↓sX8_count_129, ↓sX8_count_130, ↓sX8_count_131]
      exact hP _ _ ⟨by rw [hz], zKp.rf b _⟩
  · refine z_tsOut (tgt := 130) C dX8_count_1 (by omega) (by decide) ?_
    refine z_gn C E tkX8_count (Nat.zero_le _) (Nat.zero_le _) [] 60 ?_
    simp only [↓z_rn_s, ↓z_rn_0, ↓zr_in0, ↓zr_ins, ↓zr_inn, ↓zr_bt, ↓zr_bf, ↓zr_li0, ↓zr_lis, ↓zr_la0, ↓zr_las, ↓zr_ll0, ↓zr_lls, ↓zr_1i, ↓zr_1l, ↓zr_1a, ↓zr_2i, ↓zr_2l, ↓zr_lsi, ↓zr_ia, ↓zr_aa, ↓zr_dia, ↓zr_iia, ↓zr_lia, ↓zr_d1i, ↓zr_d1r, ↓zr_e1, ↓zr_e2, ↓zr_e0, ↓zr_f0, ↓zr_fs, ↓zr_s0, ↓zr_ss, ↓zr_len, ↓zr_len0, ↓zr_ok0, ↓zr_okn, ↓zr_oki, ↓zr_okr, ↓zr_oks, ↓zr_tt, ↓zr_ar0u, ↓zr_ar0n, ↓zr_ar1u, ↓zr_ar1n, ↓zr_ar2u, ↓zr_ar2n, ↓zr_obu, ↓zr_obn, ↓Nat.reduceAdd, Nat.reduceEqDiff, Nat.add_left_cancel_iff, not_false_eq_true, z_up_up, true_and, ↓sX8_count_0, ↓sX8_count_1, ↓sX8_count_56, ↓sX8_count_57, ↓sX8_count_60, ↓sX8_count_63, ↓sX8_count_64, ↓sX8_count_65, ↓sX8_count_68, ↓sX8_count_71, ↓sX8_count_72, ↓sX8_count_73, ↓sX8_count_76, ↓sX8_count_77, ↓sX8_count_78, ↓sX8_count_81, ↓sX8_count_82, ↓sX8_count_83, ↓sX8_count_86, ↓sX8_count_89, ↓sX8_count_90, ↓sX8_count_91, ↓sX8_count_94, ↓sX8_count_97, ↓sX8_count_98, ↓sX8_count_99, ↓sX8_count_102, ↓sX8_count_105, ↓sX8_count_106, ↓sX8_count_107, ↓sX8_count_110, ↓sX8_count_113, ↓sX8_count_114, ↓sX8_count_115, ↓sX8_count_118, ↓sX8_count_121, ↓sX8_count_122, ↓sX8_count_123, ↓sX8_count_126, ↓sX8_count_129, ↓sX8_count_130, ↓sX8_count_131]
    exact hP _ _ ⟨by unfold zA_count; rw [if_neg hc], zKp.rf b w⟩
