def zrm3 : Room := { frames := 3, cells := 0, slots := 0, locals := 90 }
def zrm4 : Room := { frames := 4, cells := 0, slots := 0, locals := 120 }
def zrm5 : Room := { frames := 5, cells := 0, slots := 0, locals := 150 }
def zrm6 : Room := { frames := 6, cells := 0, slots := 0, locals := 180 }
set_option maxRecDepth 100000 in
set_option maxHeartbeats 400000 in
theorem c_Keys_sign (G : zG) (w : zW) (x y : Int64) :
    z_M G yX3_sign wsX3_sign zrm0 0 0 [.long x, .long y] w (fun r w' => (∃ v, r = some (.int v)) ∧ w' = w) := by
  refine z_mt (nL := 4) (cc := cX3_sign) (ret := some .int) (by decide) rfl (Nat.le_of_ble_eq_true rfl) 0 [some (.long x), none, some (.long y), none] rfl ?_
  intro P hP Γ C E
  refine z_gn C E tkX3_sign (Nat.le_refl _) (Nat.le_refl _) [] 60 ?_
  simp only [↓z_rn_f, ↓z_rn_t, ↓z_rn_0, ↓zr_in0, ↓zr_ins, ↓zr_inn, ↓zr_bt, ↓zr_bf, ↓zr_li0, ↓zr_lis, ↓zr_la0, ↓zr_las, ↓zr_ll0, ↓zr_lls, ↓zr_1i, ↓zr_1l, ↓zr_1a, ↓zr_2i, ↓zr_2l, ↓zr_lsi, ↓zr_ia, ↓zr_aa, ↓zr_dia, ↓zr_iia, ↓zr_lia, ↓zr_d1i, ↓zr_d1r, ↓zr_e1, ↓zr_e2, ↓zr_e0, ↓zr_f0, ↓zr_fs, ↓zr_s0, ↓zr_ss, ↓zr_len, ↓zr_len0, ↓zr_ok0, ↓zr_okn, ↓zr_oki, ↓zr_okr, ↓zr_oks, ↓zr_tt, ↓zr_ar0u, ↓zr_ar0n, ↓zr_ar1u, ↓zr_ar1n, ↓zr_ar2u, ↓zr_ar2n, ↓zr_obu, ↓zr_obn, ↓Nat.reduceAdd, Nat.reduceEqDiff, Nat.add_left_cancel_iff, not_false_eq_true, z_up_up, true_and, ↓sX3_sign_0, ↓sX3_sign_1, ↓sX3_sign_2, ↓sX3_sign_3, ↓sX3_sign_6, ↓sX3_sign_7, ↓sX3_sign_8, ↓sX3_sign_9, ↓sX3_sign_10, ↓sX3_sign_11, ↓sX3_sign_14, ↓sX3_sign_15, ↓sX3_sign_18, ↓sX3_sign_19]
  exact ⟨fun _ => ⟨fun _ => hP _ _ ⟨⟨_, rfl⟩, rfl⟩, fun _ => hP _ _ ⟨⟨_, rfl⟩, rfl⟩⟩, fun _ => hP _ _ ⟨⟨_, rfl⟩, rfl⟩⟩
set_option maxRecDepth 100000 in
set_option maxHeartbeats 400000 in
theorem c_Keys_byBytes (G : zG) (w : zW) (r an al ab cap : Nat) (held a b fr to : Int32) (fn fl fb : Nat → Int32) (h : zRo w r an al ab cap held fn fl fb) :
    z_M G yX3_byBytes wsX3_byBytes zrm1 0 0 [.ref r, .int a, .int b, .int fr, .int to] w (fun x w' => (∃ v, x = some (.int v)) ∧ w' = w) := by
  have h0 := h.1.1
  refine z_mt (nL := 7) (cc := cX3_byBytes) (ret := some .int) (by decide) rfl (Nat.le_of_ble_eq_true rfl) 2 [some (.ref r), some (.int a), some (.int b), some (.int fr), some (.int to), none, none] rfl ?_
  intro P hP Γ C E
  have ok : ∀ v, P (some (.int v)) w := fun v => hP _ _ ⟨⟨v, rfl⟩, rfl⟩
  have loop : ∀ (m : Nat) (i : Int32) (z : Option Value), to.toInt - i.toInt < m → z_J G 7 Γ w 0 0 3 [some (.ref r), some (.int a), some (.int b), some (.int fr), some (.int to), some (.int i), z] [] := by
    intro m
    induction m with
    | zero =>
      intro i z hm
      refine z_gn C E tkX3_byBytes (Nat.le_refl _) (Nat.le_refl _) [3] 60 ?_
      simp only [↓z_rn_f, ↓z_rn_t, ↓z_rn_0, ↓zr_in0, ↓zr_ins, ↓zr_inn, ↓zr_bt, ↓zr_bf, ↓zr_li0, ↓zr_lis, ↓zr_la0, ↓zr_las, ↓zr_ll0, ↓zr_lls, ↓zr_1i, ↓zr_1l, ↓zr_1a, ↓zr_2i, ↓zr_2l, ↓zr_lsi, ↓zr_ia, ↓zr_aa, ↓zr_dia, ↓zr_iia, ↓zr_lia, ↓zr_d1i, ↓zr_d1r, ↓zr_e1, ↓zr_e2, ↓zr_e0, ↓zr_f0, ↓zr_fs, ↓zr_s0, ↓zr_ss, ↓zr_len, ↓zr_len0, ↓zr_ok0, ↓zr_okn, ↓zr_oki, ↓zr_okr, ↓zr_oks, ↓zr_tt, ↓zr_ar0u, ↓zr_ar0n, ↓zr_ar1u, ↓zr_ar1n, ↓zr_ar2u, ↓zr_ar2n, ↓zr_obu, ↓zr_obn, ↓Nat.reduceAdd, Nat.reduceEqDiff, Nat.add_left_cancel_iff, not_false_eq_true, z_up_up, true_and, ↓sX3_byBytes_0, ↓sX3_byBytes_1, ↓sX3_byBytes_3, ↓sX3_byBytes_5, ↓sX3_byBytes_7, ↓sX3_byBytes_10, ↓sX3_byBytes_11, ↓sX3_byBytes_12, ↓sX3_byBytes_14, ↓sX3_byBytes_17, ↓sX3_byBytes_18, ↓sX3_byBytes_19, ↓sX3_byBytes_21, ↓sX3_byBytes_24, ↓sX3_byBytes_25, ↓sX3_byBytes_27, ↓sX3_byBytes_29, ↓sX3_byBytes_32, ↓sX3_byBytes_34, ↓sX3_byBytes_37, ↓sX3_byBytes_38, ↓sX3_byBytes_41, ↓sX3_byBytes_42, ↓sX3_byBytes_43, ↓sX3_byBytes_46, ↓sX3_byBytes_49, ↓sX3_byBytes_50]
      refine ⟨fun _ => ok _, fun a1 => ?_⟩
      simp only [zi_lt, zi_le, zi_0, zi_1, zi_m1, zi_2, zi_32] at a1
      omega
    | succ m ih =>
      intro i z hm
      refine z_gn C E tkX3_byBytes (Nat.le_refl _) (Nat.le_refl _) [3] 60 ?_
      simp only [↓z_rn_f, ↓z_rn_t, ↓z_rn_0, ↓zr_in0, ↓zr_ins, ↓zr_inn, ↓zr_bt, ↓zr_bf, ↓zr_li0, ↓zr_lis, ↓zr_la0, ↓zr_las, ↓zr_ll0, ↓zr_lls, ↓zr_1i, ↓zr_1l, ↓zr_1a, ↓zr_2i, ↓zr_2l, ↓zr_lsi, ↓zr_ia, ↓zr_aa, ↓zr_dia, ↓zr_iia, ↓zr_lia, ↓zr_d1i, ↓zr_d1r, ↓zr_e1, ↓zr_e2, ↓zr_e0, ↓zr_f0, ↓zr_fs, ↓zr_s0, ↓zr_ss, ↓zr_len, ↓zr_len0, ↓zr_ok0, ↓zr_okn, ↓zr_oki, ↓zr_okr, ↓zr_oks, ↓zr_tt, ↓zr_ar0u, ↓zr_ar0n, ↓zr_ar1u, ↓zr_ar1n, ↓zr_ar2u, ↓zr_ar2n, ↓zr_obu, ↓zr_obn, ↓Nat.reduceAdd, Nat.reduceEqDiff, Nat.add_left_cancel_iff, not_false_eq_true, z_up_up, true_and, ↓sX3_byBytes_0, ↓sX3_byBytes_1, ↓sX3_byBytes_3, ↓sX3_byBytes_5, ↓sX3_byBytes_7, ↓sX3_byBytes_10, ↓sX3_byBytes_11, ↓sX3_byBytes_12, ↓sX3_byBytes_14, ↓sX3_byBytes_17, ↓sX3_byBytes_18, ↓sX3_byBytes_19, ↓sX3_byBytes_21, ↓sX3_byBytes_24, ↓sX3_byBytes_25, ↓sX3_byBytes_27, ↓sX3_byBytes_29, ↓sX3_byBytes_32, ↓sX3_byBytes_34, ↓sX3_byBytes_37, ↓sX3_byBytes_38, ↓sX3_byBytes_41, ↓sX3_byBytes_42, ↓sX3_byBytes_43, ↓sX3_byBytes_46, ↓sX3_byBytes_49, ↓sX3_byBytes_50]
      refine ⟨fun _ => ok _, fun a1 => ?_⟩
      simp only [zi_lt, zi_le, zi_0, zi_1, zi_m1, zi_2, zi_32] at a1
      refine z_callV (n := 2) (As := [.int a, .int i]) (rest := []) C E (c_Rows_byteAt G w r an al ab cap held a i fn fl fb h) gX3_byBytes_X5_byteAt rfl rfl rfl (by decide +kernel) (by decide) dX3_byBytes_14 rfl ⟨Nat.zero_le _, Nat.zero_le _⟩ (Nat.le_of_ble_eq_true rfl) rfl h0 ?_
      rintro x w' ⟨⟨v1, rfl⟩, rfl⟩
      simp only [Option.toList, List.cons_append, List.nil_append]
      refine z_gn C E tkX3_byBytes (Nat.le_refl _) (Nat.le_refl _) [3] 60 ?_
      simp only [↓z_rn_f, ↓z_rn_t, ↓z_rn_0, ↓zr_in0, ↓zr_ins, ↓zr_inn, ↓zr_bt, ↓zr_bf, ↓zr_li0, ↓zr_lis, ↓zr_la0, ↓zr_las, ↓zr_ll0, ↓zr_lls, ↓zr_1i, ↓zr_1l, ↓zr_1a, ↓zr_2i, ↓zr_2l, ↓zr_lsi, ↓zr_ia, ↓zr_aa, ↓zr_dia, ↓zr_iia, ↓zr_lia, ↓zr_d1i, ↓zr_d1r, ↓zr_e1, ↓zr_e2, ↓zr_e0, ↓zr_f0, ↓zr_fs, ↓zr_s0, ↓zr_ss, ↓zr_len, ↓zr_len0, ↓zr_ok0, ↓zr_okn, ↓zr_oki, ↓zr_okr, ↓zr_oks, ↓zr_tt, ↓zr_ar0u, ↓zr_ar0n, ↓zr_ar1u, ↓zr_ar1n, ↓zr_ar2u, ↓zr_ar2n, ↓zr_obu, ↓zr_obn, ↓Nat.reduceAdd, Nat.reduceEqDiff, Nat.add_left_cancel_iff, not_false_eq_true, z_up_up, true_and, ↓sX3_byBytes_0, ↓sX3_byBytes_1, ↓sX3_byBytes_3, ↓sX3_byBytes_5, ↓sX3_byBytes_7, ↓sX3_byBytes_10, ↓sX3_byBytes_11, ↓sX3_byBytes_12, ↓sX3_byBytes_14, ↓sX3_byBytes_17, ↓sX3_byBytes_18, ↓sX3_byBytes_19, ↓sX3_byBytes_21, ↓sX3_byBytes_24, ↓sX3_byBytes_25, ↓sX3_byBytes_27, ↓sX3_byBytes_29, ↓sX3_byBytes_32, ↓sX3_byBytes_34, ↓sX3_byBytes_37, ↓sX3_byBytes_38, ↓sX3_byBytes_41, ↓sX3_byBytes_42, ↓sX3_byBytes_43, ↓sX3_byBytes_46, ↓sX3_byBytes_49, ↓sX3_byBytes_50]
      refine z_callV (n := 2) (As := [.int b, .int i]) (rest := [.int v1]) C E (c_Rows_byteAt G _ r an al ab cap held b i fn fl fb h) gX3_byBytes_X5_byteAt rfl rfl rfl (by decide +kernel) (by decide) dX3_byBytes_21 rfl ⟨Nat.zero_le _, Nat.zero_le _⟩ (Nat.le_of_ble_eq_true rfl) rfl h0 ?_
      rintro x w' ⟨⟨v2, rfl⟩, rfl⟩
      simp only [Option.toList, List.cons_append, List.nil_append]
      refine z_gn C E tkX3_byBytes (Nat.le_refl _) (Nat.le_refl _) [3] 60 ?_
      simp only [↓z_rn_f, ↓z_rn_t, ↓z_rn_0, ↓zr_in0, ↓zr_ins, ↓zr_inn, ↓zr_bt, ↓zr_bf, ↓zr_li0, ↓zr_lis, ↓zr_la0, ↓zr_las, ↓zr_ll0, ↓zr_lls, ↓zr_1i, ↓zr_1l, ↓zr_1a, ↓zr_2i, ↓zr_2l, ↓zr_lsi, ↓zr_ia, ↓zr_aa, ↓zr_dia, ↓zr_iia, ↓zr_lia, ↓zr_d1i, ↓zr_d1r, ↓zr_e1, ↓zr_e2, ↓zr_e0, ↓zr_f0, ↓zr_fs, ↓zr_s0, ↓zr_ss, ↓zr_len, ↓zr_len0, ↓zr_ok0, ↓zr_okn, ↓zr_oki, ↓zr_okr, ↓zr_oks, ↓zr_tt, ↓zr_ar0u, ↓zr_ar0n, ↓zr_ar1u, ↓zr_ar1n, ↓zr_ar2u, ↓zr_ar2n, ↓zr_obu, ↓zr_obn, ↓Nat.reduceAdd, Nat.reduceEqDiff, Nat.add_left_cancel_iff, not_false_eq_true, z_up_up, true_and, ↓sX3_byBytes_0, ↓sX3_byBytes_1, ↓sX3_byBytes_3, ↓sX3_byBytes_5, ↓sX3_byBytes_7, ↓sX3_byBytes_10, ↓sX3_byBytes_11, ↓sX3_byBytes_12, ↓sX3_byBytes_14, ↓sX3_byBytes_17, ↓sX3_byBytes_18, ↓sX3_byBytes_19, ↓sX3_byBytes_21, ↓sX3_byBytes_24, ↓sX3_byBytes_25, ↓sX3_byBytes_27, ↓sX3_byBytes_29, ↓sX3_byBytes_32, ↓sX3_byBytes_34, ↓sX3_byBytes_37, ↓sX3_byBytes_38, ↓sX3_byBytes_41, ↓sX3_byBytes_42, ↓sX3_byBytes_43, ↓sX3_byBytes_46, ↓sX3_byBytes_49, ↓sX3_byBytes_50]
      have e : (i + 1).toInt = i.toInt + 1 := by
        have := to.toInt_lt
        have := i.le_toInt
        rw [zi_add (by rw [zi_1]; omega) (by rw [zi_1]; omega), zi_1]
      refine ⟨fun _ => ih (i + 1) _ (by omega), fun _ => ⟨fun _ => ok _, fun _ => ok _⟩⟩
  refine z_gn C E tkX3_byBytes (Nat.le_refl _) (Nat.le_refl _) [3] 60 ?_
  simp only [↓z_rn_f, ↓z_rn_t, ↓z_rn_0, ↓zr_in0, ↓zr_ins, ↓zr_inn, ↓zr_bt, ↓zr_bf, ↓zr_li0, ↓zr_lis, ↓zr_la0, ↓zr_las, ↓zr_ll0, ↓zr_lls, ↓zr_1i, ↓zr_1l, ↓zr_1a, ↓zr_2i, ↓zr_2l, ↓zr_lsi, ↓zr_ia, ↓zr_aa, ↓zr_dia, ↓zr_iia, ↓zr_lia, ↓zr_d1i, ↓zr_d1r, ↓zr_e1, ↓zr_e2, ↓zr_e0, ↓zr_f0, ↓zr_fs, ↓zr_s0, ↓zr_ss, ↓zr_len, ↓zr_len0, ↓zr_ok0, ↓zr_okn, ↓zr_oki, ↓zr_okr, ↓zr_oks, ↓zr_tt, ↓zr_ar0u, ↓zr_ar0n, ↓zr_ar1u, ↓zr_ar1n, ↓zr_ar2u, ↓zr_ar2n, ↓zr_obu, ↓zr_obn, ↓Nat.reduceAdd, Nat.reduceEqDiff, Nat.add_left_cancel_iff, not_false_eq_true, z_up_up, true_and, ↓sX3_byBytes_0, ↓sX3_byBytes_1, ↓sX3_byBytes_3, ↓sX3_byBytes_5, ↓sX3_byBytes_7, ↓sX3_byBytes_10, ↓sX3_byBytes_11, ↓sX3_byBytes_12, ↓sX3_byBytes_14, ↓sX3_byBytes_17, ↓sX3_byBytes_18, ↓sX3_byBytes_19, ↓sX3_byBytes_21, ↓sX3_byBytes_24, ↓sX3_byBytes_25, ↓sX3_byBytes_27, ↓sX3_byBytes_29, ↓sX3_byBytes_32, ↓sX3_byBytes_34, ↓sX3_byBytes_37, ↓sX3_byBytes_38, ↓sX3_byBytes_41, ↓sX3_byBytes_42, ↓sX3_byBytes_43, ↓sX3_byBytes_46, ↓sX3_byBytes_49, ↓sX3_byBytes_50]
  exact loop ((to.toInt - fr.toInt).toNat + 1) fr none (by omega)
set_option maxRecDepth 100000 in
set_option maxHeartbeats 400000 in
theorem c_Keys_signed (G : zG) (w : zW) (r an al ab cap : Nat) (held a fr to : Int32) (fn fl fb : Nat → Int32) (h : zRo w r an al ab cap held fn fl fb) :
    z_M G yX3_signed wsX3_signed zrm1 0 0 [.ref r, .int a, .int fr, .int to] w (fun x w' => (∃ v, x = some (.long v)) ∧ w' = w) := by
  have h0 := h.1.1
  refine z_mt (nL := 7) (cc := cX3_signed) (ret := some .long) (by decide) rfl (Nat.le_of_ble_eq_true rfl) 3 [some (.ref r), some (.int a), some (.int fr), some (.int to), none, none, none] rfl ?_
  intro P hP Γ C E
  have ok : ∀ v, P (some (.long v)) w := fun v => hP _ _ ⟨⟨v, rfl⟩, rfl⟩
  have loop : ∀ (m : Nat) (i : Int32) (z : Int64), to.toInt - i.toInt < m → z_J G 7 Γ w 0 0 15 [some (.ref r), some (.int a), some (.int fr), some (.int to), some (.long z), none, some (.int i)] [] := by
    intro m
    induction m with
    | zero =>
      intro i z hm
      refine z_gn C E tkX3_signed (Nat.le_refl _) (Nat.le_refl _) [15] 60 ?_
      simp only [↓z_rn_f, ↓z_rn_t, ↓z_rn_0, ↓zr_in0, ↓zr_ins, ↓zr_inn, ↓zr_bt, ↓zr_bf, ↓zr_li0, ↓zr_lis, ↓zr_la0, ↓zr_las, ↓zr_ll0, ↓zr_lls, ↓zr_1i, ↓zr_1l, ↓zr_1a, ↓zr_2i, ↓zr_2l, ↓zr_lsi, ↓zr_ia, ↓zr_aa, ↓zr_dia, ↓zr_iia, ↓zr_lia, ↓zr_d1i, ↓zr_d1r, ↓zr_e1, ↓zr_e2, ↓zr_e0, ↓zr_f0, ↓zr_fs, ↓zr_s0, ↓zr_ss, ↓zr_len, ↓zr_len0, ↓zr_ok0, ↓zr_okn, ↓zr_oki, ↓zr_okr, ↓zr_oks, ↓zr_tt, ↓zr_ar0u, ↓zr_ar0n, ↓zr_ar1u, ↓zr_ar1n, ↓zr_ar2u, ↓zr_ar2n, ↓zr_obu, ↓zr_obn, ↓Nat.reduceAdd, Nat.reduceEqDiff, Nat.add_left_cancel_iff, not_false_eq_true, z_up_up, true_and, ↓sX3_signed_0, ↓sX3_signed_1, ↓sX3_signed_2, ↓sX3_signed_3, ↓sX3_signed_6, ↓sX3_signed_7, ↓sX3_signed_8, ↓sX3_signed_10, ↓sX3_signed_11, ↓sX3_signed_12, ↓sX3_signed_13, ↓sX3_signed_15, ↓sX3_signed_17, ↓sX3_signed_18, ↓sX3_signed_21, ↓sX3_signed_23, ↓sX3_signed_25, ↓sX3_signed_26, ↓sX3_signed_27, ↓sX3_signed_28, ↓sX3_signed_30, ↓sX3_signed_33, ↓sX3_signed_34, ↓sX3_signed_35, ↓sX3_signed_37, ↓sX3_signed_40, ↓sX3_signed_43, ↓sX3_signed_45]
      refine ⟨fun _ => ok _, fun a1 => ?_⟩
      simp only [zi_lt, zi_le, zi_0, zi_1, zi_m1, zi_2, zi_32] at a1
      omega
    | succ m ih =>
      intro i z hm
      refine z_gn C E tkX3_signed (Nat.le_refl _) (Nat.le_refl _) [15] 60 ?_
      simp only [↓z_rn_f, ↓z_rn_t, ↓z_rn_0, ↓zr_in0, ↓zr_ins, ↓zr_inn, ↓zr_bt, ↓zr_bf, ↓zr_li0, ↓zr_lis, ↓zr_la0, ↓zr_las, ↓zr_ll0, ↓zr_lls, ↓zr_1i, ↓zr_1l, ↓zr_1a, ↓zr_2i, ↓zr_2l, ↓zr_lsi, ↓zr_ia, ↓zr_aa, ↓zr_dia, ↓zr_iia, ↓zr_lia, ↓zr_d1i, ↓zr_d1r, ↓zr_e1, ↓zr_e2, ↓zr_e0, ↓zr_f0, ↓zr_fs, ↓zr_s0, ↓zr_ss, ↓zr_len, ↓zr_len0, ↓zr_ok0, ↓zr_okn, ↓zr_oki, ↓zr_okr, ↓zr_oks, ↓zr_tt, ↓zr_ar0u, ↓zr_ar0n, ↓zr_ar1u, ↓zr_ar1n, ↓zr_ar2u, ↓zr_ar2n, ↓zr_obu, ↓zr_obn, ↓Nat.reduceAdd, Nat.reduceEqDiff, Nat.add_left_cancel_iff, not_false_eq_true, z_up_up, true_and, ↓sX3_signed_0, ↓sX3_signed_1, ↓sX3_signed_2, ↓sX3_signed_3, ↓sX3_signed_6, ↓sX3_signed_7, ↓sX3_signed_8, ↓sX3_signed_10, ↓sX3_signed_11, ↓sX3_signed_12, ↓sX3_signed_13, ↓sX3_signed_15, ↓sX3_signed_17, ↓sX3_signed_18, ↓sX3_signed_21, ↓sX3_signed_23, ↓sX3_signed_25, ↓sX3_signed_26, ↓sX3_signed_27, ↓sX3_signed_28, ↓sX3_signed_30, ↓sX3_signed_33, ↓sX3_signed_34, ↓sX3_signed_35, ↓sX3_signed_37, ↓sX3_signed_40, ↓sX3_signed_43, ↓sX3_signed_45]
      refine ⟨fun _ => ok _, fun a1 => ?_⟩
      simp only [zi_lt, zi_le, zi_0, zi_1, zi_m1, zi_2, zi_32] at a1
      refine z_callV (n := 2) (As := [.int a, .int i]) (rest := [.long _]) C E (c_Rows_byteAt G w r an al ab cap held a i fn fl fb h) gX3_signed_X5_byteAt rfl rfl rfl (by decide +kernel) (by decide) dX3_signed_30 rfl ⟨Nat.zero_le _, Nat.zero_le _⟩ (Nat.le_of_ble_eq_true rfl) rfl h0 ?_
      rintro x w' ⟨⟨v1, rfl⟩, rfl⟩
      simp only [Option.toList, List.cons_append, List.nil_append]
      refine z_gn C E tkX3_signed (Nat.le_refl _) (Nat.le_refl _) [15] 60 ?_
      simp only [↓z_rn_f, ↓z_rn_t, ↓z_rn_0, ↓zr_in0, ↓zr_ins, ↓zr_inn, ↓zr_bt, ↓zr_bf, ↓zr_li0, ↓zr_lis, ↓zr_la0, ↓zr_las, ↓zr_ll0, ↓zr_lls, ↓zr_1i, ↓zr_1l, ↓zr_1a, ↓zr_2i, ↓zr_2l, ↓zr_lsi, ↓zr_ia, ↓zr_aa, ↓zr_dia, ↓zr_iia, ↓zr_lia, ↓zr_d1i, ↓zr_d1r, ↓zr_e1, ↓zr_e2, ↓zr_e0, ↓zr_f0, ↓zr_fs, ↓zr_s0, ↓zr_ss, ↓zr_len, ↓zr_len0, ↓zr_ok0, ↓zr_okn, ↓zr_oki, ↓zr_okr, ↓zr_oks, ↓zr_tt, ↓zr_ar0u, ↓zr_ar0n, ↓zr_ar1u, ↓zr_ar1n, ↓zr_ar2u, ↓zr_ar2n, ↓zr_obu, ↓zr_obn, ↓Nat.reduceAdd, Nat.reduceEqDiff, Nat.add_left_cancel_iff, not_false_eq_true, z_up_up, true_and, ↓sX3_signed_0, ↓sX3_signed_1, ↓sX3_signed_2, ↓sX3_signed_3, ↓sX3_signed_6, ↓sX3_signed_7, ↓sX3_signed_8, ↓sX3_signed_10, ↓sX3_signed_11, ↓sX3_signed_12, ↓sX3_signed_13, ↓sX3_signed_15, ↓sX3_signed_17, ↓sX3_signed_18, ↓sX3_signed_21, ↓sX3_signed_23, ↓sX3_signed_25, ↓sX3_signed_26, ↓sX3_signed_27, ↓sX3_signed_28, ↓sX3_signed_30, ↓sX3_signed_33, ↓sX3_signed_34, ↓sX3_signed_35, ↓sX3_signed_37, ↓sX3_signed_40, ↓sX3_signed_43, ↓sX3_signed_45]
      have e : (i + 1).toInt = i.toInt + 1 := by
        have := to.toInt_lt
        have := i.le_toInt
        rw [zi_add (by rw [zi_1]; omega) (by rw [zi_1]; omega), zi_1]
      exact ih (i + 1) _ (by omega)
  refine z_gn C E tkX3_signed (Nat.le_refl _) (Nat.le_refl _) [15] 60 ?_
  simp only [↓z_rn_f, ↓z_rn_t, ↓z_rn_0, ↓zr_in0, ↓zr_ins, ↓zr_inn, ↓zr_bt, ↓zr_bf, ↓zr_li0, ↓zr_lis, ↓zr_la0, ↓zr_las, ↓zr_ll0, ↓zr_lls, ↓zr_1i, ↓zr_1l, ↓zr_1a, ↓zr_2i, ↓zr_2l, ↓zr_lsi, ↓zr_ia, ↓zr_aa, ↓zr_dia, ↓zr_iia, ↓zr_lia, ↓zr_d1i, ↓zr_d1r, ↓zr_e1, ↓zr_e2, ↓zr_e0, ↓zr_f0, ↓zr_fs, ↓zr_s0, ↓zr_ss, ↓zr_len, ↓zr_len0, ↓zr_ok0, ↓zr_okn, ↓zr_oki, ↓zr_okr, ↓zr_oks, ↓zr_tt, ↓zr_ar0u, ↓zr_ar0n, ↓zr_ar1u, ↓zr_ar1n, ↓zr_ar2u, ↓zr_ar2n, ↓zr_obu, ↓zr_obn, ↓Nat.reduceAdd, Nat.reduceEqDiff, Nat.add_left_cancel_iff, not_false_eq_true, z_up_up, true_and, ↓sX3_signed_0, ↓sX3_signed_1, ↓sX3_signed_2, ↓sX3_signed_3, ↓sX3_signed_6, ↓sX3_signed_7, ↓sX3_signed_8, ↓sX3_signed_10, ↓sX3_signed_11, ↓sX3_signed_12, ↓sX3_signed_13, ↓sX3_signed_15, ↓sX3_signed_17, ↓sX3_signed_18, ↓sX3_signed_21, ↓sX3_signed_23, ↓sX3_signed_25, ↓sX3_signed_26, ↓sX3_signed_27, ↓sX3_signed_28, ↓sX3_signed_30, ↓sX3_signed_33, ↓sX3_signed_34, ↓sX3_signed_35, ↓sX3_signed_37, ↓sX3_signed_40, ↓sX3_signed_43, ↓sX3_signed_45]
  refine z_callV (n := 2) (As := [.int a, .int fr]) (rest := []) C E (c_Rows_byteAt G w r an al ab cap held a fr fn fl fb h) gX3_signed_X5_byteAt rfl rfl rfl (by decide +kernel) (by decide) dX3_signed_3 rfl ⟨Nat.zero_le _, Nat.zero_le _⟩ (Nat.le_of_ble_eq_true rfl) rfl h0 ?_
  rintro x w' ⟨⟨v1, rfl⟩, rfl⟩
  simp only [Option.toList, List.cons_append, List.nil_append]
  refine z_gn C E tkX3_signed (Nat.le_refl _) (Nat.le_refl _) [15] 60 ?_
  simp only [↓z_rn_f, ↓z_rn_t, ↓z_rn_0, ↓zr_in0, ↓zr_ins, ↓zr_inn, ↓zr_bt, ↓zr_bf, ↓zr_li0, ↓zr_lis, ↓zr_la0, ↓zr_las, ↓zr_ll0, ↓zr_lls, ↓zr_1i, ↓zr_1l, ↓zr_1a, ↓zr_2i, ↓zr_2l, ↓zr_lsi, ↓zr_ia, ↓zr_aa, ↓zr_dia, ↓zr_iia, ↓zr_lia, ↓zr_d1i, ↓zr_d1r, ↓zr_e1, ↓zr_e2, ↓zr_e0, ↓zr_f0, ↓zr_fs, ↓zr_s0, ↓zr_ss, ↓zr_len, ↓zr_len0, ↓zr_ok0, ↓zr_okn, ↓zr_oki, ↓zr_okr, ↓zr_oks, ↓zr_tt, ↓zr_ar0u, ↓zr_ar0n, ↓zr_ar1u, ↓zr_ar1n, ↓zr_ar2u, ↓zr_ar2n, ↓zr_obu, ↓zr_obn, ↓Nat.reduceAdd, Nat.reduceEqDiff, Nat.add_left_cancel_iff, not_false_eq_true, z_up_up, true_and, ↓sX3_signed_0, ↓sX3_signed_1, ↓sX3_signed_2, ↓sX3_signed_3, ↓sX3_signed_6, ↓sX3_signed_7, ↓sX3_signed_8, ↓sX3_signed_10, ↓sX3_signed_11, ↓sX3_signed_12, ↓sX3_signed_13, ↓sX3_signed_15, ↓sX3_signed_17, ↓sX3_signed_18, ↓sX3_signed_21, ↓sX3_signed_23, ↓sX3_signed_25, ↓sX3_signed_26, ↓sX3_signed_27, ↓sX3_signed_28, ↓sX3_signed_30, ↓sX3_signed_33, ↓sX3_signed_34, ↓sX3_signed_35, ↓sX3_signed_37, ↓sX3_signed_40, ↓sX3_signed_43, ↓sX3_signed_45]
  exact loop ((to.toInt - (fr + 1).toInt).toNat + 1) _ _ (by omega)
set_option maxRecDepth 100000 in
set_option maxHeartbeats 400000 in
theorem c_Keys_digits (G : zG) (w : zW) (r an al ab cap : Nat) (held a fr to : Int32) (fn fl fb : Nat → Int32) (h : zRo w r an al ab cap held fn fl fb) :
    z_M G yX3_digits wsX3_digits zrm1 0 0 [.ref r, .int a, .int fr, .int to] w (fun x w' => (∃ v, x = some (.long v)) ∧ w' = w) := by
  have h0 := h.1.1
  refine z_mt (nL := 7) (cc := cX3_digits) (ret := some .long) (by decide) rfl (Nat.le_of_ble_eq_true rfl) 3 [some (.ref r), some (.int a), some (.int fr), some (.int to), none, none, none] rfl ?_
  intro P hP Γ C E
  have ok : ∀ v, P (some (.long v)) w := fun v => hP _ _ ⟨⟨v, rfl⟩, rfl⟩
  have e10 : ¬ (10 : Int32) = 0 := by decide
  have tail : ∀ (i : Int32) (z : Int64), z_J G 7 Γ w 0 0 41 [some (.ref r), some (.int a), some (.int fr), some (.int to), some (.long z), none, some (.int i)] [] := by
    intro i z
    refine z_gn C E tkX3_digits (Nat.le_refl _) (Nat.le_refl _) [] 60 ?_
    simp only [↓z_rn_f, ↓z_rn_t, ↓z_rn_0, ↓zr_in0, ↓zr_ins, ↓zr_inn, ↓zr_bt, ↓zr_bf, ↓zr_li0, ↓zr_lis, ↓zr_la0, ↓zr_las, ↓zr_ll0, ↓zr_lls, ↓zr_1i, ↓zr_1l, ↓zr_1a, ↓zr_2i, ↓zr_2l, ↓zr_lsi, ↓zr_ia, ↓zr_aa, ↓zr_dia, ↓zr_iia, ↓zr_lia, ↓zr_d1i, ↓zr_d1r, ↓zr_e1, ↓zr_e2, ↓zr_e0, ↓zr_f0, ↓zr_fs, ↓zr_s0, ↓zr_ss, ↓zr_len, ↓zr_len0, ↓zr_ok0, ↓zr_okn, ↓zr_oki, ↓zr_okr, ↓zr_oks, ↓zr_tt, ↓zr_ar0u, ↓zr_ar0n, ↓zr_ar1u, ↓zr_ar1n, ↓zr_ar2u, ↓zr_ar2n, ↓zr_obu, ↓zr_obn, ↓Nat.reduceAdd, Nat.reduceEqDiff, Nat.add_left_cancel_iff, not_false_eq_true, z_up_up, true_and, ↓sX3_digits_0, ↓sX3_digits_1, ↓sX3_digits_3, ↓sX3_digits_4, ↓sX3_digits_6, ↓sX3_digits_8, ↓sX3_digits_9, ↓sX3_digits_12, ↓sX3_digits_14, ↓sX3_digits_17, ↓sX3_digits_18, ↓sX3_digits_19, ↓sX3_digits_20, ↓sX3_digits_22, ↓sX3_digits_25, ↓sX3_digits_27, ↓sX3_digits_28, ↓sX3_digits_30, ↓sX3_digits_31, ↓sX3_digits_32, ↓sX3_digits_33, ↓sX3_digits_35, ↓sX3_digits_38, ↓sX3_digits_41, ↓sX3_digits_42, ↓sX3_digits_43, ↓sX3_digits_44, ↓sX3_digits_45, ↓sX3_digits_46, ↓sX3_digits_49, ↓sX3_digits_51, ↓sX3_digits_52, ↓sX3_digits_55, ↓sX3_digits_57, ↓sX3_digits_58, ↓sX3_digits_61, ↓sX3_digits_63]
    refine z_callV (n := 2) (As := [.int a, .int _]) (rest := []) C E (c_Rows_byteAt G w r an al ab cap held a _ fn fl fb h) gX3_digits_X5_byteAt rfl rfl rfl (by decide +kernel) (by decide) dX3_digits_46 rfl ⟨Nat.zero_le _, Nat.zero_le _⟩ (Nat.le_of_ble_eq_true rfl) rfl h0 ?_
    rintro x w' ⟨⟨v1, rfl⟩, rfl⟩
    simp only [Option.toList, List.cons_append, List.nil_append]
    refine z_gn C E tkX3_digits (Nat.le_refl _) (Nat.le_refl _) [] 60 ?_
    simp only [↓z_rn_f, ↓z_rn_t, ↓z_rn_0, ↓zr_in0, ↓zr_ins, ↓zr_inn, ↓zr_bt, ↓zr_bf, ↓zr_li0, ↓zr_lis, ↓zr_la0, ↓zr_las, ↓zr_ll0, ↓zr_lls, ↓zr_1i, ↓zr_1l, ↓zr_1a, ↓zr_2i, ↓zr_2l, ↓zr_lsi, ↓zr_ia, ↓zr_aa, ↓zr_dia, ↓zr_iia, ↓zr_lia, ↓zr_d1i, ↓zr_d1r, ↓zr_e1, ↓zr_e2, ↓zr_e0, ↓zr_f0, ↓zr_fs, ↓zr_s0, ↓zr_ss, ↓zr_len, ↓zr_len0, ↓zr_ok0, ↓zr_okn, ↓zr_oki, ↓zr_okr, ↓zr_oks, ↓zr_tt, ↓zr_ar0u, ↓zr_ar0n, ↓zr_ar1u, ↓zr_ar1n, ↓zr_ar2u, ↓zr_ar2n, ↓zr_obu, ↓zr_obn, ↓Nat.reduceAdd, Nat.reduceEqDiff, Nat.add_left_cancel_iff, not_false_eq_true, z_up_up, true_and, ↓sX3_digits_0, ↓sX3_digits_1, ↓sX3_digits_3, ↓sX3_digits_4, ↓sX3_digits_6, ↓sX3_digits_8, ↓sX3_digits_9, ↓sX3_digits_12, ↓sX3_digits_14, ↓sX3_digits_17, ↓sX3_digits_18, ↓sX3_digits_19, ↓sX3_digits_20, ↓sX3_digits_22, ↓sX3_digits_25, ↓sX3_digits_27, ↓sX3_digits_28, ↓sX3_digits_30, ↓sX3_digits_31, ↓sX3_digits_32, ↓sX3_digits_33, ↓sX3_digits_35, ↓sX3_digits_38, ↓sX3_digits_41, ↓sX3_digits_42, ↓sX3_digits_43, ↓sX3_digits_44, ↓sX3_digits_45, ↓sX3_digits_46, ↓sX3_digits_49, ↓sX3_digits_51, ↓sX3_digits_52, ↓sX3_digits_55, ↓sX3_digits_57, ↓sX3_digits_58, ↓sX3_digits_61, ↓sX3_digits_63]
    exact ⟨fun _ => ok _, fun _ => ok _⟩
  have loop : ∀ (m : Nat) (i : Int32) (z : Int64), to.toInt - i.toInt < m → z_J G 7 Γ w 0 0 6 [some (.ref r), some (.int a), some (.int fr), some (.int to), some (.long z), none, some (.int i)] [] := by
    intro m
    induction m with
    | zero =>
      intro i z hm
      refine z_gn C E tkX3_digits (Nat.le_refl _) (Nat.le_refl _) [6, 41] 60 ?_
      simp only [↓z_rn_f, ↓z_rn_t, ↓z_rn_0, ↓zr_in0, ↓zr_ins, ↓zr_inn, ↓zr_bt, ↓zr_bf, ↓zr_li0, ↓zr_lis, ↓zr_la0, ↓zr_las, ↓zr_ll0, ↓zr_lls, ↓zr_1i, ↓zr_1l, ↓zr_1a, ↓zr_2i, ↓zr_2l, ↓zr_lsi, ↓zr_ia, ↓zr_aa, ↓zr_dia, ↓zr_iia, ↓zr_lia, ↓zr_d1i, ↓zr_d1r, ↓zr_e1, ↓zr_e2, ↓zr_e0, ↓zr_f0, ↓zr_fs, ↓zr_s0, ↓zr_ss, ↓zr_len, ↓zr_len0, ↓zr_ok0, ↓zr_okn, ↓zr_oki, ↓zr_okr, ↓zr_oks, ↓zr_tt, ↓zr_ar0u, ↓zr_ar0n, ↓zr_ar1u, ↓zr_ar1n, ↓zr_ar2u, ↓zr_ar2n, ↓zr_obu, ↓zr_obn, ↓Nat.reduceAdd, Nat.reduceEqDiff, Nat.add_left_cancel_iff, not_false_eq_true, z_up_up, true_and, ↓sX3_digits_0, ↓sX3_digits_1, ↓sX3_digits_3, ↓sX3_digits_4, ↓sX3_digits_6, ↓sX3_digits_8, ↓sX3_digits_9, ↓sX3_digits_12, ↓sX3_digits_14, ↓sX3_digits_17, ↓sX3_digits_18, ↓sX3_digits_19, ↓sX3_digits_20, ↓sX3_digits_22, ↓sX3_digits_25, ↓sX3_digits_27, ↓sX3_digits_28, ↓sX3_digits_30, ↓sX3_digits_31, ↓sX3_digits_32, ↓sX3_digits_33, ↓sX3_digits_35, ↓sX3_digits_38, ↓sX3_digits_41, ↓sX3_digits_42, ↓sX3_digits_43, ↓sX3_digits_44, ↓sX3_digits_45, ↓sX3_digits_46, ↓sX3_digits_49, ↓sX3_digits_51, ↓sX3_digits_52, ↓sX3_digits_55, ↓sX3_digits_57, ↓sX3_digits_58, ↓sX3_digits_61, ↓sX3_digits_63]
      refine ⟨fun _ => tail _ _, fun a1 => ?_⟩
      simp only [zi_lt, zi_le, zi_0, zi_1, zi_m1, zi_2, zi_32] at a1
      omega
    | succ m ih =>
      intro i z hm
      refine z_gn C E tkX3_digits (Nat.le_refl _) (Nat.le_refl _) [6, 41] 60 ?_
      simp only [↓z_rn_f, ↓z_rn_t, ↓z_rn_0, ↓zr_in0, ↓zr_ins, ↓zr_inn, ↓zr_bt, ↓zr_bf, ↓zr_li0, ↓zr_lis, ↓zr_la0, ↓zr_las, ↓zr_ll0, ↓zr_lls, ↓zr_1i, ↓zr_1l, ↓zr_1a, ↓zr_2i, ↓zr_2l, ↓zr_lsi, ↓zr_ia, ↓zr_aa, ↓zr_dia, ↓zr_iia, ↓zr_lia, ↓zr_d1i, ↓zr_d1r, ↓zr_e1, ↓zr_e2, ↓zr_e0, ↓zr_f0, ↓zr_fs, ↓zr_s0, ↓zr_ss, ↓zr_len, ↓zr_len0, ↓zr_ok0, ↓zr_okn, ↓zr_oki, ↓zr_okr, ↓zr_oks, ↓zr_tt, ↓zr_ar0u, ↓zr_ar0n, ↓zr_ar1u, ↓zr_ar1n, ↓zr_ar2u, ↓zr_ar2n, ↓zr_obu, ↓zr_obn, ↓Nat.reduceAdd, Nat.reduceEqDiff, Nat.add_left_cancel_iff, not_false_eq_true, z_up_up, true_and, ↓sX3_digits_0, ↓sX3_digits_1, ↓sX3_digits_3, ↓sX3_digits_4, ↓sX3_digits_6, ↓sX3_digits_8, ↓sX3_digits_9, ↓sX3_digits_12, ↓sX3_digits_14, ↓sX3_digits_17, ↓sX3_digits_18, ↓sX3_digits_19, ↓sX3_digits_20, ↓sX3_digits_22, ↓sX3_digits_25, ↓sX3_digits_27, ↓sX3_digits_28, ↓sX3_digits_30, ↓sX3_digits_31, ↓sX3_digits_32, ↓sX3_digits_33, ↓sX3_digits_35, ↓sX3_digits_38, ↓sX3_digits_41, ↓sX3_digits_42, ↓sX3_digits_43, ↓sX3_digits_44, ↓sX3_digits_45, ↓sX3_digits_46, ↓sX3_digits_49, ↓sX3_digits_51, ↓sX3_digits_52, ↓sX3_digits_55, ↓sX3_digits_57, ↓sX3_digits_58, ↓sX3_digits_61, ↓sX3_digits_63]
      refine ⟨fun _ => tail _ _, fun a1 => ?_⟩
      simp only [zi_lt, zi_le, zi_0, zi_1, zi_m1, zi_2, zi_32] at a1
      refine z_callV (n := 2) (As := [.int a, .int i]) (rest := [.long _]) C E (c_Rows_byteAt G w r an al ab cap held a i fn fl fb h) gX3_digits_X5_byteAt rfl rfl rfl (by decide +kernel) (by decide) dX3_digits_22 rfl ⟨Nat.zero_le _, Nat.zero_le _⟩ (Nat.le_of_ble_eq_true rfl) rfl h0 ?_
      rintro x w' ⟨⟨v1, rfl⟩, rfl⟩
      simp only [Option.toList, List.cons_append, List.nil_append]
      refine z_gn C E tkX3_digits (Nat.le_refl _) (Nat.le_refl _) [6, 41] 60 ?_
      simp only [↓z_rn_f, ↓z_rn_t, ↓z_rn_0, ↓zr_in0, ↓zr_ins, ↓zr_inn, ↓zr_bt, ↓zr_bf, ↓zr_li0, ↓zr_lis, ↓zr_la0, ↓zr_las, ↓zr_ll0, ↓zr_lls, ↓zr_1i, ↓zr_1l, ↓zr_1a, ↓zr_2i, ↓zr_2l, ↓zr_lsi, ↓zr_ia, ↓zr_aa, ↓zr_dia, ↓zr_iia, ↓zr_lia, ↓zr_d1i, ↓zr_d1r, ↓zr_e1, ↓zr_e2, ↓zr_e0, ↓zr_f0, ↓zr_fs, ↓zr_s0, ↓zr_ss, ↓zr_len, ↓zr_len0, ↓zr_ok0, ↓zr_okn, ↓zr_oki, ↓zr_okr, ↓zr_oks, ↓zr_tt, ↓zr_ar0u, ↓zr_ar0n, ↓zr_ar1u, ↓zr_ar1n, ↓zr_ar2u, ↓zr_ar2n, ↓zr_obu, ↓zr_obn, ↓Nat.reduceAdd, Nat.reduceEqDiff, Nat.add_left_cancel_iff, not_false_eq_true, z_up_up, true_and, ↓sX3_digits_0, ↓sX3_digits_1, ↓sX3_digits_3, ↓sX3_digits_4, ↓sX3_digits_6, ↓sX3_digits_8, ↓sX3_digits_9, ↓sX3_digits_12, ↓sX3_digits_14, ↓sX3_digits_17, ↓sX3_digits_18, ↓sX3_digits_19, ↓sX3_digits_20, ↓sX3_digits_22, ↓sX3_digits_25, ↓sX3_digits_27, ↓sX3_digits_28, ↓sX3_digits_30, ↓sX3_digits_31, ↓sX3_digits_32, ↓sX3_digits_33, ↓sX3_digits_35, ↓sX3_digits_38, ↓sX3_digits_41, ↓sX3_digits_42, ↓sX3_digits_43, ↓sX3_digits_44, ↓sX3_digits_45, ↓sX3_digits_46, ↓sX3_digits_49, ↓sX3_digits_51, ↓sX3_digits_52, ↓sX3_digits_55, ↓sX3_digits_57, ↓sX3_digits_58, ↓sX3_digits_61, ↓sX3_digits_63, e10]
      have e : (i + 1).toInt = i.toInt + 1 := by
        have := to.toInt_lt
        have := i.le_toInt
        rw [zi_add (by rw [zi_1]; omega) (by rw [zi_1]; omega), zi_1]
      first
        | exact ih (i + 1) _ (by omega)
        | exact ⟨fun h => h.elim, ih (i + 1) _ (by omega)⟩
        | exact ⟨id, ih (i + 1) _ (by omega)⟩
  refine z_gn C E tkX3_digits (Nat.le_refl _) (Nat.le_refl _) [6, 41] 60 ?_
  simp only [↓z_rn_f, ↓z_rn_t, ↓z_rn_0, ↓zr_in0, ↓zr_ins, ↓zr_inn, ↓zr_bt, ↓zr_bf, ↓zr_li0, ↓zr_lis, ↓zr_la0, ↓zr_las, ↓zr_ll0, ↓zr_lls, ↓zr_1i, ↓zr_1l, ↓zr_1a, ↓zr_2i, ↓zr_2l, ↓zr_lsi, ↓zr_ia, ↓zr_aa, ↓zr_dia, ↓zr_iia, ↓zr_lia, ↓zr_d1i, ↓zr_d1r, ↓zr_e1, ↓zr_e2, ↓zr_e0, ↓zr_f0, ↓zr_fs, ↓zr_s0, ↓zr_ss, ↓zr_len, ↓zr_len0, ↓zr_ok0, ↓zr_okn, ↓zr_oki, ↓zr_okr, ↓zr_oks, ↓zr_tt, ↓zr_ar0u, ↓zr_ar0n, ↓zr_ar1u, ↓zr_ar1n, ↓zr_ar2u, ↓zr_ar2n, ↓zr_obu, ↓zr_obn, ↓Nat.reduceAdd, Nat.reduceEqDiff, Nat.add_left_cancel_iff, not_false_eq_true, z_up_up, true_and, ↓sX3_digits_0, ↓sX3_digits_1, ↓sX3_digits_3, ↓sX3_digits_4, ↓sX3_digits_6, ↓sX3_digits_8, ↓sX3_digits_9, ↓sX3_digits_12, ↓sX3_digits_14, ↓sX3_digits_17, ↓sX3_digits_18, ↓sX3_digits_19, ↓sX3_digits_20, ↓sX3_digits_22, ↓sX3_digits_25, ↓sX3_digits_27, ↓sX3_digits_28, ↓sX3_digits_30, ↓sX3_digits_31, ↓sX3_digits_32, ↓sX3_digits_33, ↓sX3_digits_35, ↓sX3_digits_38, ↓sX3_digits_41, ↓sX3_digits_42, ↓sX3_digits_43, ↓sX3_digits_44, ↓sX3_digits_45, ↓sX3_digits_46, ↓sX3_digits_49, ↓sX3_digits_51, ↓sX3_digits_52, ↓sX3_digits_55, ↓sX3_digits_57, ↓sX3_digits_58, ↓sX3_digits_61, ↓sX3_digits_63]
  exact loop ((to.toInt - fr.toInt).toNat + 1) _ _ (by omega)
