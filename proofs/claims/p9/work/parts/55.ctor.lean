section ZPF
variable {G : zG} {cc : ByteArray} {own : String} {Ts : List Cond} {nL : Nat} {Γ : zΓ} {w : zW} {cells slots pc : Nat} {lv : zL} {st rest : List Value} {rm : Room} {mc ms index : Nat} {nm : String} {ret : Option FieldType} {Post : Option Value → zW → Prop}
def z_pkF (own : String) (ci k : Nat) (ok : FieldType → Bool) : Bool := match vwCl[ci]? with
  | some (_, T, N) => (T k).2.2.2 == true && decide ((T k).1 = own) && (match parseFieldDescriptor (T k).2.2.1 with
    | some ty => ok ty
    | none => false) && decide (∀ j, j < N → (parseFieldDescriptor (T j).2.2.1).isSome = true) && decide (∀ a, a < N → ∀ b, b < N → a ≠ b → (T a).2.1 ≠ (T b).2.1)
  | none => false
theorem z_pkF_ok {ci k : Nat} {ok : FieldType → Bool} (h : z_pkF own ci k ok = true) {C : String} {T : u_T} {N : Nat} (hc : vwCl[ci]? = some (C, T, N)) : ((T k).2.2.2 = true ∧ (T k).1 = own) ∧ (∃ ty, parseFieldDescriptor (T k).2.2.1 = some ty ∧ ok ty = true) ∧ (∀ j, j < N → parseFieldDescriptor (T j).2.2.1 = some ((parseFieldDescriptor (T j).2.2.1).getD .int)) ∧ ∀ a, a < N → ∀ b, b < N → a ≠ b → (T a).2.1 ≠ (T b).2.1 := by
  unfold z_pkF at h
  rw [hc] at h
  simp only [Bool.and_eq_true, decide_eq_true_eq, beq_iff_eq] at h
  obtain ⟨⟨⟨⟨h1, h0⟩, h2⟩, h3⟩, h4⟩ := h
  refine ⟨⟨h1, h0⟩, ?_, fun j hj => ?_, h4⟩
  · split at h2
    · exact ⟨_, by assumption, h2⟩
    · cases h2
  · obtain ⟨ty, hty⟩ := Option.isSome_iff_exists.mp (h3 j hj)
    rw [hty]; rfl
theorem z_pFr (C : z_X G cc own Ts nL Γ) (E : z_E G rm mc ms "<init>" ret Post Γ) {ci k a y : Nat} {fs : List Value} (hlk : z_lk own Ts index ci k = true) (hpk : z_pkF own ci k z_tr = true) (hd : decode cc pc = .ok (.putfield index, 3)) (ha : w.2 a = some (.inr (ci, fs))) (hl : k < fs.length) (kk : z_J G nL Γ (z_up w a (.inr (ci, fs.set k (.ref y)))) cells slots (pc + 3) lv st) : z_J G nL Γ w cells slots pc lv (.ref y :: .ref a :: st) := by
  obtain ⟨Cn, T, N, c1, c2, c3, c4⟩ := z_lk_ok hlk
  obtain ⟨⟨p1, p0⟩, ⟨ty, p2, p3⟩, p4, p5⟩ := z_pkF_ok hpk c1
  have e : (∃ q, ty = .object q) ∨ ∃ q, ty = .array q := by unfold z_tr at p3; split at p3 <;> first | exact Or.inl ⟨_, rfl⟩ | exact Or.inr ⟨_, rfl⟩ | cases p3
  rcases e with ⟨q, rfl⟩ | ⟨q, rfl⟩
  · exact z_putF C c4 c1 _ p4 p5 c2 c3 p1 E.2.2.2 p0 p2 hd ha hl rfl rfl kk
  · exact z_putF C c4 c1 _ p4 p5 c2 c3 p1 E.2.2.2 p0 p2 hd ha hl rfl rfl kk
theorem z_pFi (C : z_X G cc own Ts nL Γ) (E : z_E G rm mc ms "<init>" ret Post Γ) {ci k a : Nat} {y : Int32} {fs : List Value} (hlk : z_lk own Ts index ci k = true) (hpk : z_pkF own ci k z_ti = true) (hd : decode cc pc = .ok (.putfield index, 3)) (ha : w.2 a = some (.inr (ci, fs))) (hl : k < fs.length) (kk : z_J G nL Γ (z_up w a (.inr (ci, fs.set k (.int y)))) cells slots (pc + 3) lv st) : z_J G nL Γ w cells slots pc lv (.int y :: .ref a :: st) := by
  obtain ⟨Cn, T, N, c1, c2, c3, c4⟩ := z_lk_ok hlk
  obtain ⟨⟨p1, p0⟩, ⟨ty, p2, p3⟩, p4, p5⟩ := z_pkF_ok hpk c1
  have e : ty = .int := by unfold z_ti at p3; split at p3 <;> first | rfl | cases p3
  subst e
  exact z_putF C c4 c1 _ p4 p5 c2 c3 p1 E.2.2.2 p0 p2 hd ha hl rfl rfl kk
end ZPF
theorem zl_ob0 (w0 : zW) (b ci : Nat) (fs : List Value) (l : List zC) (f : List Value → Prop) : z_ob (z_ls w0 b (.inr (ci, fs) :: l)) b ci f = f fs := zh_ob zl_at0 f
theorem dfX0 : ∀ j, j < 3 → defaultValue (tyX0 j) = vp_V [.int 0, .int 0, .int 0] j := fun j hj => match j, hj with
  | 0, _ => rfl
  | 1, _ => rfl
  | 2, _ => rfl
  | n + 3, h => absurd h (by omega)
theorem dfX1 : ∀ j, j < 3 → defaultValue (tyX1 j) = vp_V [.int 0, .int 0, .int 0] j := fun j hj => match j, hj with
  | 0, _ => rfl
  | 1, _ => rfl
  | 2, _ => rfl
  | n + 3, h => absurd h (by omega)
theorem dfX2 : ∀ j, j < 3 → defaultValue (tyX2 j) = vp_V [.null, .null, .int 0] j := fun j hj => match j, hj with
  | 0, _ => rfl
  | 1, _ => rfl
  | 2, _ => rfl
  | n + 3, h => absurd h (by omega)
theorem dfX3 : ∀ j, j < 5 → defaultValue (tyX3 j) = vp_V [.null, .null, .null, .null, .int 0] j := fun j hj => match j, hj with
  | 0, _ => rfl
  | 1, _ => rfl
  | 2, _ => rfl
  | 3, _ => rfl
  | 4, _ => rfl
  | n + 5, h => absurd h (by omega)
theorem dfX4 : ∀ j, j < 9 → defaultValue (tyX4 j) = vp_V [.null, .null, .null, .null, .null, .null, .int 0, .int 0, .int 0] j := fun j hj => match j, hj with
  | 0, _ => rfl
  | 1, _ => rfl
  | 2, _ => rfl
  | 3, _ => rfl
  | 4, _ => rfl
  | 5, _ => rfl
  | 6, _ => rfl
  | 7, _ => rfl
  | 8, _ => rfl
  | n + 9, h => absurd h (by omega)
theorem dfX5 : ∀ j, j < 5 → defaultValue (tyX5 j) = vp_V [.int 0, .null, .null, .null, .int 0] j := fun j hj => match j, hj with
  | 0, _ => rfl
  | 1, _ => rfl
  | 2, _ => rfl
  | 3, _ => rfl
  | 4, _ => rfl
  | n + 5, h => absurd h (by omega)
theorem dfX6 : ∀ j, j < 4 → defaultValue (tyX6 j) = vp_V [.null, .null, .null, .int 0] j := fun j hj => match j, hj with
  | 0, _ => rfl
  | 1, _ => rfl
  | 2, _ => rfl
  | 3, _ => rfl
  | n + 4, h => absurd h (by omega)
theorem dfX7 : ∀ j, j < 5 → defaultValue (tyX7 j) = vp_V [.int 0, .int 0, .int 0, .int 0, .int 0] j := fun j hj => match j, hj with
  | 0, _ => rfl
  | 1, _ => rfl
  | 2, _ => rfl
  | 3, _ => rfl
  | 4, _ => rfl
  | n + 5, h => absurd h (by omega)
theorem dfX8 : ∀ j, j < 19 → defaultValue (tyX8 j) = vp_V [.null, .null, .null, .null, .null, .null, .null, .null, .null, .null, .int 0, .int 0, .int 0, .int 0, .int 0, .int 0, .int 0, .null, .null] j := fun j hj => match j, hj with
  | 0, _ => rfl
  | 1, _ => rfl
  | 2, _ => rfl
  | 3, _ => rfl
  | 4, _ => rfl
  | 5, _ => rfl
  | 6, _ => rfl
  | 7, _ => rfl
  | 8, _ => rfl
  | 9, _ => rfl
  | 10, _ => rfl
  | 11, _ => rfl
  | 12, _ => rfl
  | 13, _ => rfl
  | 14, _ => rfl
  | 15, _ => rfl
  | 16, _ => rfl
  | 17, _ => rfl
  | 18, _ => rfl
  | n + 19, h => absurd h (by omega)
theorem dfX9 : ∀ j, j < 36 → defaultValue (tyX9 j) = vp_V [.int 0, .int 0, .int 0, .int 0, .null, .null, .null, .null, .int 0, .null, .null, .int 0, .int 0, .int 0, .int 0, .null, .null, .null, .null, .null, .int 0, .null, .int 0, .null, .null, .null, .null, .null, .null, .null, .int 0, .int 0, .int 0, .int 0, .int 0, .null] j := fun j hj => match j, hj with
  | 0, _ => rfl
  | 1, _ => rfl
  | 2, _ => rfl
  | 3, _ => rfl
  | 4, _ => rfl
  | 5, _ => rfl
  | 6, _ => rfl
  | 7, _ => rfl
  | 8, _ => rfl
  | 9, _ => rfl
  | 10, _ => rfl
  | 11, _ => rfl
  | 12, _ => rfl
  | 13, _ => rfl
  | 14, _ => rfl
  | 15, _ => rfl
  | 16, _ => rfl
  | 17, _ => rfl
  | 18, _ => rfl
  | 19, _ => rfl
  | 20, _ => rfl
  | 21, _ => rfl
  | 22, _ => rfl
  | 23, _ => rfl
  | 24, _ => rfl
  | 25, _ => rfl
  | 26, _ => rfl
  | 27, _ => rfl
  | 28, _ => rfl
  | 29, _ => rfl
  | 30, _ => rfl
  | 31, _ => rfl
  | 32, _ => rfl
  | 33, _ => rfl
  | 34, _ => rfl
  | 35, _ => rfl
  | n + 36, h => absurd h (by omega)
set_option maxRecDepth 100000 in
set_option maxHeartbeats 1000000 in
theorem c_X0_init (G : zG) (w0 : zW) (b : Nat) (hb : G.2.2.2 ≤ b) :
    z_M G yX0_init wsX0_init (zrK 1 0 0 30) 0 0 [.ref b] (z_ls w0 b [.inr (1, [.int 0, .int 0, .int 0])]) (fun x w' => x = none ∧ w' = z_ls w0 b ([.inr (1, [.int 0, .int 4, .int 0])])) := by
  refine z_mt (nL := 1) (cc := cX0_init) (ret := none) (by decide) rfl (Nat.le_of_ble_eq_true rfl) 0 [some (.ref b)] rfl ?_
  intro P hP Γ C E
  have hb1 : ∀ n, G.2.2.2 ≤ b + n := fun n => Nat.le_trans hb (Nat.le_add_right _ _)
  refine z_gn C E tkX0_init (Nat.le_of_ble_eq_true rfl) (Nat.le_of_ble_eq_true rfl) [] 60 ?_
  simp only [↓z_rn_f, ↓z_rn_t, ↓z_rn_0, ↓zr_in0, ↓zr_ins, ↓zr_inn, ↓zr_bt, ↓zr_bf, ↓zr_li0, ↓zr_lis, ↓zr_la0, ↓zr_las, ↓zr_ll0, ↓zr_lls, ↓zr_1i, ↓zr_1l, ↓zr_1a, ↓zr_2i, ↓zr_2l, ↓zr_lsi, ↓zr_ia, ↓zr_aa, ↓zr_dia, ↓zr_iia, ↓zr_lia, ↓zr_d1i, ↓zr_d1r, ↓zr_e1, ↓zr_e2, ↓zr_e0, ↓zr_f0, ↓zr_fs, ↓zr_s0, ↓zr_ss, ↓zr_len, ↓zr_len0, ↓zr_ok0, ↓zr_okn, ↓zr_oki, ↓zr_okr, ↓zr_oks, ↓zr_tt, ↓zr_ar0u, ↓zr_ar0n, ↓zr_ar1u, ↓zr_ar1n, ↓zr_ar2u, ↓zr_ar2n, ↓zr_obu, ↓zr_obn, ↓Nat.reduceAdd, Nat.reduceEqDiff, Nat.add_left_cancel_iff, not_false_eq_true, z_up_up, true_and, ↓sX0_init_0, ↓sX0_init_1, ↓sX0_init_4, ↓sX0_init_5, ↓sX0_init_6, ↓sX0_init_9, ↓zl_ob0, zl_up0, Nat.reduceMul, Nat.reduceAdd]
  refine z_oinit C E (by decide +kernel) (by decide +kernel) (by decide +kernel) (by decide) (Nat.le_of_ble_eq_true rfl) dX0_init_1 ?_
  refine z_gn C E tkX0_init (Nat.le_of_ble_eq_true rfl) (Nat.le_of_ble_eq_true rfl) [] 60 ?_
  simp only [↓z_rn_f, ↓z_rn_t, ↓z_rn_0, ↓zr_in0, ↓zr_ins, ↓zr_inn, ↓zr_bt, ↓zr_bf, ↓zr_li0, ↓zr_lis, ↓zr_la0, ↓zr_las, ↓zr_ll0, ↓zr_lls, ↓zr_1i, ↓zr_1l, ↓zr_1a, ↓zr_2i, ↓zr_2l, ↓zr_lsi, ↓zr_ia, ↓zr_aa, ↓zr_dia, ↓zr_iia, ↓zr_lia, ↓zr_d1i, ↓zr_d1r, ↓zr_e1, ↓zr_e2, ↓zr_e0, ↓zr_f0, ↓zr_fs, ↓zr_s0, ↓zr_ss, ↓zr_len, ↓zr_len0, ↓zr_ok0, ↓zr_okn, ↓zr_oki, ↓zr_okr, ↓zr_oks, ↓zr_tt, ↓zr_ar0u, ↓zr_ar0n, ↓zr_ar1u, ↓zr_ar1n, ↓zr_ar2u, ↓zr_ar2n, ↓zr_obu, ↓zr_obn, ↓Nat.reduceAdd, Nat.reduceEqDiff, Nat.add_left_cancel_iff, not_false_eq_true, z_up_up, true_and, ↓sX0_init_0, ↓sX0_init_1, ↓sX0_init_4, ↓sX0_init_5, ↓sX0_init_6, ↓sX0_init_9, ↓zl_ob0, zl_up0, Nat.reduceMul, Nat.reduceAdd]
  exact hP _ _ ⟨rfl, rfl⟩
set_option maxRecDepth 100000 in
set_option maxHeartbeats 1000000 in
theorem c_X1_init (G : zG) (w0 : zW) (b : Nat) (hb : G.2.2.2 ≤ b) :
    z_M G yX1_init wsX1_init (zrK 1 0 0 30) 0 0 [.ref b] (z_ls w0 b [.inr (2, [.int 0, .int 0, .int 0])]) (fun x w' => x = none ∧ w' = z_ls w0 b ([.inr (2, [.int 0, .int 0, .int 0])])) := by
  refine z_mt (nL := 1) (cc := cX1_init) (ret := none) (by decide) rfl (Nat.le_of_ble_eq_true rfl) 0 [some (.ref b)] rfl ?_
  intro P hP Γ C E
  have hb1 : ∀ n, G.2.2.2 ≤ b + n := fun n => Nat.le_trans hb (Nat.le_add_right _ _)
  refine z_gn C E tkX1_init (Nat.le_of_ble_eq_true rfl) (Nat.le_of_ble_eq_true rfl) [] 60 ?_
  simp only [↓z_rn_f, ↓z_rn_t, ↓z_rn_0, ↓zr_in0, ↓zr_ins, ↓zr_inn, ↓zr_bt, ↓zr_bf, ↓zr_li0, ↓zr_lis, ↓zr_la0, ↓zr_las, ↓zr_ll0, ↓zr_lls, ↓zr_1i, ↓zr_1l, ↓zr_1a, ↓zr_2i, ↓zr_2l, ↓zr_lsi, ↓zr_ia, ↓zr_aa, ↓zr_dia, ↓zr_iia, ↓zr_lia, ↓zr_d1i, ↓zr_d1r, ↓zr_e1, ↓zr_e2, ↓zr_e0, ↓zr_f0, ↓zr_fs, ↓zr_s0, ↓zr_ss, ↓zr_len, ↓zr_len0, ↓zr_ok0, ↓zr_okn, ↓zr_oki, ↓zr_okr, ↓zr_oks, ↓zr_tt, ↓zr_ar0u, ↓zr_ar0n, ↓zr_ar1u, ↓zr_ar1n, ↓zr_ar2u, ↓zr_ar2n, ↓zr_obu, ↓zr_obn, ↓Nat.reduceAdd, Nat.reduceEqDiff, Nat.add_left_cancel_iff, not_false_eq_true, z_up_up, true_and, ↓sX1_init_0, ↓sX1_init_1, ↓sX1_init_4, ↓zl_ob0, zl_up0, Nat.reduceMul, Nat.reduceAdd]
  refine z_oinit C E (by decide +kernel) (by decide +kernel) (by decide +kernel) (by decide) (Nat.le_of_ble_eq_true rfl) dX1_init_1 ?_
  refine z_gn C E tkX1_init (Nat.le_of_ble_eq_true rfl) (Nat.le_of_ble_eq_true rfl) [] 60 ?_
  simp only [↓z_rn_f, ↓z_rn_t, ↓z_rn_0, ↓zr_in0, ↓zr_ins, ↓zr_inn, ↓zr_bt, ↓zr_bf, ↓zr_li0, ↓zr_lis, ↓zr_la0, ↓zr_las, ↓zr_ll0, ↓zr_lls, ↓zr_1i, ↓zr_1l, ↓zr_1a, ↓zr_2i, ↓zr_2l, ↓zr_lsi, ↓zr_ia, ↓zr_aa, ↓zr_dia, ↓zr_iia, ↓zr_lia, ↓zr_d1i, ↓zr_d1r, ↓zr_e1, ↓zr_e2, ↓zr_e0, ↓zr_f0, ↓zr_fs, ↓zr_s0, ↓zr_ss, ↓zr_len, ↓zr_len0, ↓zr_ok0, ↓zr_okn, ↓zr_oki, ↓zr_okr, ↓zr_oks, ↓zr_tt, ↓zr_ar0u, ↓zr_ar0n, ↓zr_ar1u, ↓zr_ar1n, ↓zr_ar2u, ↓zr_ar2n, ↓zr_obu, ↓zr_obn, ↓Nat.reduceAdd, Nat.reduceEqDiff, Nat.add_left_cancel_iff, not_false_eq_true, z_up_up, true_and, ↓sX1_init_0, ↓sX1_init_1, ↓sX1_init_4, ↓zl_ob0, zl_up0, Nat.reduceMul, Nat.reduceAdd]
  exact hP _ _ ⟨rfl, rfl⟩
set_option maxRecDepth 100000 in
set_option maxHeartbeats 1000000 in
theorem c_X2_init (G : zG) (w0 : zW) (b : Nat) (hb : G.2.2.2 ≤ b) :
    z_M G yX2_init wsX2_init (zrK 1 2 1608 30) 2 1608 [.ref b] (z_ls w0 b [.inr (3, [.null, .null, .int 0])]) (fun x w' => x = none ∧ w' = z_ls w0 b ([.inr (3, [.ref (b + 1), .ref (b + 2), .int 0]), .inl (0, 1600, .inl (fun _ => 0)), .inl (0, 8, .inl (fun _ => 0))])) := by
  refine z_mt (nL := 1) (cc := cX2_init) (ret := none) (by decide) rfl (Nat.le_of_ble_eq_true rfl) 0 [some (.ref b)] rfl ?_
  intro P hP Γ C E
  have hb1 : ∀ n, G.2.2.2 ≤ b + n := fun n => Nat.le_trans hb (Nat.le_add_right _ _)
  refine z_gn C E tkX2_init (Nat.le_of_ble_eq_true rfl) (Nat.le_of_ble_eq_true rfl) [] 60 ?_
  simp only [↓z_rn_f, ↓z_rn_t, ↓z_rn_0, ↓zr_in0, ↓zr_ins, ↓zr_inn, ↓zr_bt, ↓zr_bf, ↓zr_li0, ↓zr_lis, ↓zr_la0, ↓zr_las, ↓zr_ll0, ↓zr_lls, ↓zr_1i, ↓zr_1l, ↓zr_1a, ↓zr_2i, ↓zr_2l, ↓zr_lsi, ↓zr_ia, ↓zr_aa, ↓zr_dia, ↓zr_iia, ↓zr_lia, ↓zr_d1i, ↓zr_d1r, ↓zr_e1, ↓zr_e2, ↓zr_e0, ↓zr_f0, ↓zr_fs, ↓zr_s0, ↓zr_ss, ↓zr_len, ↓zr_len0, ↓zr_ok0, ↓zr_okn, ↓zr_oki, ↓zr_okr, ↓zr_oks, ↓zr_tt, ↓zr_ar0u, ↓zr_ar0n, ↓zr_ar1u, ↓zr_ar1n, ↓zr_ar2u, ↓zr_ar2n, ↓zr_obu, ↓zr_obn, ↓Nat.reduceAdd, Nat.reduceEqDiff, Nat.add_left_cancel_iff, not_false_eq_true, z_up_up, true_and, ↓sX2_init_0, ↓sX2_init_1, ↓sX2_init_4, ↓sX2_init_5, ↓sX2_init_8, ↓sX2_init_10, ↓sX2_init_13, ↓sX2_init_14, ↓sX2_init_16, ↓sX2_init_18, ↓sX2_init_21, ↓zl_ob0, zl_up0, Nat.reduceMul, Nat.reduceAdd]
  refine z_oinit C E (by decide +kernel) (by decide +kernel) (by decide +kernel) (by decide) (Nat.le_of_ble_eq_true rfl) dX2_init_1 ?_
  refine z_gn C E tkX2_init (Nat.le_of_ble_eq_true rfl) (Nat.le_of_ble_eq_true rfl) [] 60 ?_
  simp only [↓z_rn_f, ↓z_rn_t, ↓z_rn_0, ↓zr_in0, ↓zr_ins, ↓zr_inn, ↓zr_bt, ↓zr_bf, ↓zr_li0, ↓zr_lis, ↓zr_la0, ↓zr_las, ↓zr_ll0, ↓zr_lls, ↓zr_1i, ↓zr_1l, ↓zr_1a, ↓zr_2i, ↓zr_2l, ↓zr_lsi, ↓zr_ia, ↓zr_aa, ↓zr_dia, ↓zr_iia, ↓zr_lia, ↓zr_d1i, ↓zr_d1r, ↓zr_e1, ↓zr_e2, ↓zr_e0, ↓zr_f0, ↓zr_fs, ↓zr_s0, ↓zr_ss, ↓zr_len, ↓zr_len0, ↓zr_ok0, ↓zr_okn, ↓zr_oki, ↓zr_okr, ↓zr_oks, ↓zr_tt, ↓zr_ar0u, ↓zr_ar0n, ↓zr_ar1u, ↓zr_ar1n, ↓zr_ar2u, ↓zr_ar2n, ↓zr_obu, ↓zr_obn, ↓Nat.reduceAdd, Nat.reduceEqDiff, Nat.add_left_cancel_iff, not_false_eq_true, z_up_up, true_and, ↓sX2_init_0, ↓sX2_init_1, ↓sX2_init_4, ↓sX2_init_5, ↓sX2_init_8, ↓sX2_init_10, ↓sX2_init_13, ↓sX2_init_14, ↓sX2_init_16, ↓sX2_init_18, ↓sX2_init_21, ↓zl_ob0, zl_up0, Nat.reduceMul, Nat.reduceAdd]
  refine z_newi C E 1600 (by decide +kernel) (hb1 _) (by decide) (by decide) (by decide) ⟨Nat.le_of_ble_eq_true rfl, Nat.le_of_ble_eq_true rfl⟩ dX2_init_8 ?_
  simp only [zl_nw, zl_1, List.cons_append, List.nil_append, List.length_cons, List.length_nil, Nat.reduceAdd, Nat.zero_add]
  refine z_pFr (ci := 3) (k := 0) C E (by decide +kernel) (by decide +kernel) dX2_init_10 zl_at0 (Nat.le_of_ble_eq_true rfl) ?_
  simp only [zl_up0, zr_s0, zr_ss, Nat.reduceAdd]
  refine z_gn C E tkX2_init (Nat.le_of_ble_eq_true rfl) (Nat.le_of_ble_eq_true rfl) [] 60 ?_
  simp only [↓z_rn_f, ↓z_rn_t, ↓z_rn_0, ↓zr_in0, ↓zr_ins, ↓zr_inn, ↓zr_bt, ↓zr_bf, ↓zr_li0, ↓zr_lis, ↓zr_la0, ↓zr_las, ↓zr_ll0, ↓zr_lls, ↓zr_1i, ↓zr_1l, ↓zr_1a, ↓zr_2i, ↓zr_2l, ↓zr_lsi, ↓zr_ia, ↓zr_aa, ↓zr_dia, ↓zr_iia, ↓zr_lia, ↓zr_d1i, ↓zr_d1r, ↓zr_e1, ↓zr_e2, ↓zr_e0, ↓zr_f0, ↓zr_fs, ↓zr_s0, ↓zr_ss, ↓zr_len, ↓zr_len0, ↓zr_ok0, ↓zr_okn, ↓zr_oki, ↓zr_okr, ↓zr_oks, ↓zr_tt, ↓zr_ar0u, ↓zr_ar0n, ↓zr_ar1u, ↓zr_ar1n, ↓zr_ar2u, ↓zr_ar2n, ↓zr_obu, ↓zr_obn, ↓Nat.reduceAdd, Nat.reduceEqDiff, Nat.add_left_cancel_iff, not_false_eq_true, z_up_up, true_and, ↓sX2_init_0, ↓sX2_init_1, ↓sX2_init_4, ↓sX2_init_5, ↓sX2_init_8, ↓sX2_init_10, ↓sX2_init_13, ↓sX2_init_14, ↓sX2_init_16, ↓sX2_init_18, ↓sX2_init_21, ↓zl_ob0, zl_up0, Nat.reduceMul, Nat.reduceAdd]
  refine z_newi C E 8 (by decide +kernel) (hb1 _) (by decide) (by decide) (by decide) ⟨Nat.le_of_ble_eq_true rfl, Nat.le_of_ble_eq_true rfl⟩ dX2_init_16 ?_
  simp only [zl_nw, zl_1, List.cons_append, List.nil_append, List.length_cons, List.length_nil, Nat.reduceAdd, Nat.zero_add]
  refine z_pFr (ci := 3) (k := 1) C E (by decide +kernel) (by decide +kernel) dX2_init_18 zl_at0 (Nat.le_of_ble_eq_true rfl) ?_
  simp only [zl_up0, zr_s0, zr_ss, Nat.reduceAdd]
  refine z_gn C E tkX2_init (Nat.le_of_ble_eq_true rfl) (Nat.le_of_ble_eq_true rfl) [] 60 ?_
  simp only [↓z_rn_f, ↓z_rn_t, ↓z_rn_0, ↓zr_in0, ↓zr_ins, ↓zr_inn, ↓zr_bt, ↓zr_bf, ↓zr_li0, ↓zr_lis, ↓zr_la0, ↓zr_las, ↓zr_ll0, ↓zr_lls, ↓zr_1i, ↓zr_1l, ↓zr_1a, ↓zr_2i, ↓zr_2l, ↓zr_lsi, ↓zr_ia, ↓zr_aa, ↓zr_dia, ↓zr_iia, ↓zr_lia, ↓zr_d1i, ↓zr_d1r, ↓zr_e1, ↓zr_e2, ↓zr_e0, ↓zr_f0, ↓zr_fs, ↓zr_s0, ↓zr_ss, ↓zr_len, ↓zr_len0, ↓zr_ok0, ↓zr_okn, ↓zr_oki, ↓zr_okr, ↓zr_oks, ↓zr_tt, ↓zr_ar0u, ↓zr_ar0n, ↓zr_ar1u, ↓zr_ar1n, ↓zr_ar2u, ↓zr_ar2n, ↓zr_obu, ↓zr_obn, ↓Nat.reduceAdd, Nat.reduceEqDiff, Nat.add_left_cancel_iff, not_false_eq_true, z_up_up, true_and, ↓sX2_init_0, ↓sX2_init_1, ↓sX2_init_4, ↓sX2_init_5, ↓sX2_init_8, ↓sX2_init_10, ↓sX2_init_13, ↓sX2_init_14, ↓sX2_init_16, ↓sX2_init_18, ↓sX2_init_21, ↓zl_ob0, zl_up0, Nat.reduceMul, Nat.reduceAdd]
  exact hP _ _ ⟨rfl, rfl⟩
set_option maxRecDepth 100000 in
set_option maxHeartbeats 1000000 in
theorem c_X3_init (G : zG) (w0 : zW) (b : Nat) (hb : G.2.2.2 ≤ b) :
    z_M G yX3_init wsX3_init (zrK 1 4 32 30) 4 32 [.ref b] (z_ls w0 b [.inr (4, [.null, .null, .null, .null, .int 0])]) (fun x w' => x = none ∧ w' = z_ls w0 b ([.inr (4, [.ref (b + 1), .ref (b + 2), .ref (b + 3), .ref (b + 4), .int 0]), .inl (0, 8, .inl (fun _ => 0)), .inl (0, 8, .inl (fun _ => 0)), .inl (0, 8, .inl (fun _ => 0)), .inl (1, 8, .inl (fun _ => 0))])) := by
  refine z_mt (nL := 1) (cc := cX3_init) (ret := none) (by decide) rfl (Nat.le_of_ble_eq_true rfl) 0 [some (.ref b)] rfl ?_
  intro P hP Γ C E
  have hb1 : ∀ n, G.2.2.2 ≤ b + n := fun n => Nat.le_trans hb (Nat.le_add_right _ _)
  refine z_gn C E tkX3_init (Nat.le_of_ble_eq_true rfl) (Nat.le_of_ble_eq_true rfl) [] 60 ?_
  simp only [↓z_rn_f, ↓z_rn_t, ↓z_rn_0, ↓zr_in0, ↓zr_ins, ↓zr_inn, ↓zr_bt, ↓zr_bf, ↓zr_li0, ↓zr_lis, ↓zr_la0, ↓zr_las, ↓zr_ll0, ↓zr_lls, ↓zr_1i, ↓zr_1l, ↓zr_1a, ↓zr_2i, ↓zr_2l, ↓zr_lsi, ↓zr_ia, ↓zr_aa, ↓zr_dia, ↓zr_iia, ↓zr_lia, ↓zr_d1i, ↓zr_d1r, ↓zr_e1, ↓zr_e2, ↓zr_e0, ↓zr_f0, ↓zr_fs, ↓zr_s0, ↓zr_ss, ↓zr_len, ↓zr_len0, ↓zr_ok0, ↓zr_okn, ↓zr_oki, ↓zr_okr, ↓zr_oks, ↓zr_tt, ↓zr_ar0u, ↓zr_ar0n, ↓zr_ar1u, ↓zr_ar1n, ↓zr_ar2u, ↓zr_ar2n, ↓zr_obu, ↓zr_obn, ↓Nat.reduceAdd, Nat.reduceEqDiff, Nat.add_left_cancel_iff, not_false_eq_true, z_up_up, true_and, ↓sX3_init_0, ↓sX3_init_1, ↓sX3_init_4, ↓sX3_init_5, ↓sX3_init_7, ↓sX3_init_9, ↓sX3_init_12, ↓sX3_init_13, ↓sX3_init_15, ↓sX3_init_17, ↓sX3_init_20, ↓sX3_init_21, ↓sX3_init_23, ↓sX3_init_25, ↓sX3_init_28, ↓sX3_init_29, ↓sX3_init_31, ↓sX3_init_33, ↓sX3_init_36, ↓zl_ob0, zl_up0, Nat.reduceMul, Nat.reduceAdd]
  refine z_oinit C E (by decide +kernel) (by decide +kernel) (by decide +kernel) (by decide) (Nat.le_of_ble_eq_true rfl) dX3_init_1 ?_
  refine z_gn C E tkX3_init (Nat.le_of_ble_eq_true rfl) (Nat.le_of_ble_eq_true rfl) [] 60 ?_
  simp only [↓z_rn_f, ↓z_rn_t, ↓z_rn_0, ↓zr_in0, ↓zr_ins, ↓zr_inn, ↓zr_bt, ↓zr_bf, ↓zr_li0, ↓zr_lis, ↓zr_la0, ↓zr_las, ↓zr_ll0, ↓zr_lls, ↓zr_1i, ↓zr_1l, ↓zr_1a, ↓zr_2i, ↓zr_2l, ↓zr_lsi, ↓zr_ia, ↓zr_aa, ↓zr_dia, ↓zr_iia, ↓zr_lia, ↓zr_d1i, ↓zr_d1r, ↓zr_e1, ↓zr_e2, ↓zr_e0, ↓zr_f0, ↓zr_fs, ↓zr_s0, ↓zr_ss, ↓zr_len, ↓zr_len0, ↓zr_ok0, ↓zr_okn, ↓zr_oki, ↓zr_okr, ↓zr_oks, ↓zr_tt, ↓zr_ar0u, ↓zr_ar0n, ↓zr_ar1u, ↓zr_ar1n, ↓zr_ar2u, ↓zr_ar2n, ↓zr_obu, ↓zr_obn, ↓Nat.reduceAdd, Nat.reduceEqDiff, Nat.add_left_cancel_iff, not_false_eq_true, z_up_up, true_and, ↓sX3_init_0, ↓sX3_init_1, ↓sX3_init_4, ↓sX3_init_5, ↓sX3_init_7, ↓sX3_init_9, ↓sX3_init_12, ↓sX3_init_13, ↓sX3_init_15, ↓sX3_init_17, ↓sX3_init_20, ↓sX3_init_21, ↓sX3_init_23, ↓sX3_init_25, ↓sX3_init_28, ↓sX3_init_29, ↓sX3_init_31, ↓sX3_init_33, ↓sX3_init_36, ↓zl_ob0, zl_up0, Nat.reduceMul, Nat.reduceAdd]
  refine z_newi C E 8 (by decide +kernel) (hb1 _) (by decide) (by decide) (by decide) ⟨Nat.le_of_ble_eq_true rfl, Nat.le_of_ble_eq_true rfl⟩ dX3_init_7 ?_
  simp only [zl_nw, zl_1, List.cons_append, List.nil_append, List.length_cons, List.length_nil, Nat.reduceAdd, Nat.zero_add]
  refine z_pFr (ci := 4) (k := 0) C E (by decide +kernel) (by decide +kernel) dX3_init_9 zl_at0 (Nat.le_of_ble_eq_true rfl) ?_
  simp only [zl_up0, zr_s0, zr_ss, Nat.reduceAdd]
  refine z_gn C E tkX3_init (Nat.le_of_ble_eq_true rfl) (Nat.le_of_ble_eq_true rfl) [] 60 ?_
  simp only [↓z_rn_f, ↓z_rn_t, ↓z_rn_0, ↓zr_in0, ↓zr_ins, ↓zr_inn, ↓zr_bt, ↓zr_bf, ↓zr_li0, ↓zr_lis, ↓zr_la0, ↓zr_las, ↓zr_ll0, ↓zr_lls, ↓zr_1i, ↓zr_1l, ↓zr_1a, ↓zr_2i, ↓zr_2l, ↓zr_lsi, ↓zr_ia, ↓zr_aa, ↓zr_dia, ↓zr_iia, ↓zr_lia, ↓zr_d1i, ↓zr_d1r, ↓zr_e1, ↓zr_e2, ↓zr_e0, ↓zr_f0, ↓zr_fs, ↓zr_s0, ↓zr_ss, ↓zr_len, ↓zr_len0, ↓zr_ok0, ↓zr_okn, ↓zr_oki, ↓zr_okr, ↓zr_oks, ↓zr_tt, ↓zr_ar0u, ↓zr_ar0n, ↓zr_ar1u, ↓zr_ar1n, ↓zr_ar2u, ↓zr_ar2n, ↓zr_obu, ↓zr_obn, ↓Nat.reduceAdd, Nat.reduceEqDiff, Nat.add_left_cancel_iff, not_false_eq_true, z_up_up, true_and, ↓sX3_init_0, ↓sX3_init_1, ↓sX3_init_4, ↓sX3_init_5, ↓sX3_init_7, ↓sX3_init_9, ↓sX3_init_12, ↓sX3_init_13, ↓sX3_init_15, ↓sX3_init_17, ↓sX3_init_20, ↓sX3_init_21, ↓sX3_init_23, ↓sX3_init_25, ↓sX3_init_28, ↓sX3_init_29, ↓sX3_init_31, ↓sX3_init_33, ↓sX3_init_36, ↓zl_ob0, zl_up0, Nat.reduceMul, Nat.reduceAdd]
  refine z_newi C E 8 (by decide +kernel) (hb1 _) (by decide) (by decide) (by decide) ⟨Nat.le_of_ble_eq_true rfl, Nat.le_of_ble_eq_true rfl⟩ dX3_init_15 ?_
  simp only [zl_nw, zl_1, List.cons_append, List.nil_append, List.length_cons, List.length_nil, Nat.reduceAdd, Nat.zero_add]
  refine z_pFr (ci := 4) (k := 1) C E (by decide +kernel) (by decide +kernel) dX3_init_17 zl_at0 (Nat.le_of_ble_eq_true rfl) ?_
  simp only [zl_up0, zr_s0, zr_ss, Nat.reduceAdd]
  refine z_gn C E tkX3_init (Nat.le_of_ble_eq_true rfl) (Nat.le_of_ble_eq_true rfl) [] 60 ?_
  simp only [↓z_rn_f, ↓z_rn_t, ↓z_rn_0, ↓zr_in0, ↓zr_ins, ↓zr_inn, ↓zr_bt, ↓zr_bf, ↓zr_li0, ↓zr_lis, ↓zr_la0, ↓zr_las, ↓zr_ll0, ↓zr_lls, ↓zr_1i, ↓zr_1l, ↓zr_1a, ↓zr_2i, ↓zr_2l, ↓zr_lsi, ↓zr_ia, ↓zr_aa, ↓zr_dia, ↓zr_iia, ↓zr_lia, ↓zr_d1i, ↓zr_d1r, ↓zr_e1, ↓zr_e2, ↓zr_e0, ↓zr_f0, ↓zr_fs, ↓zr_s0, ↓zr_ss, ↓zr_len, ↓zr_len0, ↓zr_ok0, ↓zr_okn, ↓zr_oki, ↓zr_okr, ↓zr_oks, ↓zr_tt, ↓zr_ar0u, ↓zr_ar0n, ↓zr_ar1u, ↓zr_ar1n, ↓zr_ar2u, ↓zr_ar2n, ↓zr_obu, ↓zr_obn, ↓Nat.reduceAdd, Nat.reduceEqDiff, Nat.add_left_cancel_iff, not_false_eq_true, z_up_up, true_and, ↓sX3_init_0, ↓sX3_init_1, ↓sX3_init_4, ↓sX3_init_5, ↓sX3_init_7, ↓sX3_init_9, ↓sX3_init_12, ↓sX3_init_13, ↓sX3_init_15, ↓sX3_init_17, ↓sX3_init_20, ↓sX3_init_21, ↓sX3_init_23, ↓sX3_init_25, ↓sX3_init_28, ↓sX3_init_29, ↓sX3_init_31, ↓sX3_init_33, ↓sX3_init_36, ↓zl_ob0, zl_up0, Nat.reduceMul, Nat.reduceAdd]
  refine z_newi C E 8 (by decide +kernel) (hb1 _) (by decide) (by decide) (by decide) ⟨Nat.le_of_ble_eq_true rfl, Nat.le_of_ble_eq_true rfl⟩ dX3_init_23 ?_
  simp only [zl_nw, zl_1, List.cons_append, List.nil_append, List.length_cons, List.length_nil, Nat.reduceAdd, Nat.zero_add]
  refine z_pFr (ci := 4) (k := 2) C E (by decide +kernel) (by decide +kernel) dX3_init_25 zl_at0 (Nat.le_of_ble_eq_true rfl) ?_
  simp only [zl_up0, zr_s0, zr_ss, Nat.reduceAdd]
  refine z_gn C E tkX3_init (Nat.le_of_ble_eq_true rfl) (Nat.le_of_ble_eq_true rfl) [] 60 ?_
  simp only [↓z_rn_f, ↓z_rn_t, ↓z_rn_0, ↓zr_in0, ↓zr_ins, ↓zr_inn, ↓zr_bt, ↓zr_bf, ↓zr_li0, ↓zr_lis, ↓zr_la0, ↓zr_las, ↓zr_ll0, ↓zr_lls, ↓zr_1i, ↓zr_1l, ↓zr_1a, ↓zr_2i, ↓zr_2l, ↓zr_lsi, ↓zr_ia, ↓zr_aa, ↓zr_dia, ↓zr_iia, ↓zr_lia, ↓zr_d1i, ↓zr_d1r, ↓zr_e1, ↓zr_e2, ↓zr_e0, ↓zr_f0, ↓zr_fs, ↓zr_s0, ↓zr_ss, ↓zr_len, ↓zr_len0, ↓zr_ok0, ↓zr_okn, ↓zr_oki, ↓zr_okr, ↓zr_oks, ↓zr_tt, ↓zr_ar0u, ↓zr_ar0n, ↓zr_ar1u, ↓zr_ar1n, ↓zr_ar2u, ↓zr_ar2n, ↓zr_obu, ↓zr_obn, ↓Nat.reduceAdd, Nat.reduceEqDiff, Nat.add_left_cancel_iff, not_false_eq_true, z_up_up, true_and, ↓sX3_init_0, ↓sX3_init_1, ↓sX3_init_4, ↓sX3_init_5, ↓sX3_init_7, ↓sX3_init_9, ↓sX3_init_12, ↓sX3_init_13, ↓sX3_init_15, ↓sX3_init_17, ↓sX3_init_20, ↓sX3_init_21, ↓sX3_init_23, ↓sX3_init_25, ↓sX3_init_28, ↓sX3_init_29, ↓sX3_init_31, ↓sX3_init_33, ↓sX3_init_36, ↓zl_ob0, zl_up0, Nat.reduceMul, Nat.reduceAdd]
  refine z_newz C E 8 (by decide +kernel) (hb1 _) (by decide) (by decide) (by decide) ⟨Nat.le_of_ble_eq_true rfl, Nat.le_of_ble_eq_true rfl⟩ dX3_init_31 ?_
  simp only [zl_nw, zl_1, List.cons_append, List.nil_append, List.length_cons, List.length_nil, Nat.reduceAdd, Nat.zero_add]
  refine z_pFr (ci := 4) (k := 3) C E (by decide +kernel) (by decide +kernel) dX3_init_33 zl_at0 (Nat.le_of_ble_eq_true rfl) ?_
  simp only [zl_up0, zr_s0, zr_ss, Nat.reduceAdd]
  refine z_gn C E tkX3_init (Nat.le_of_ble_eq_true rfl) (Nat.le_of_ble_eq_true rfl) [] 60 ?_
  simp only [↓z_rn_f, ↓z_rn_t, ↓z_rn_0, ↓zr_in0, ↓zr_ins, ↓zr_inn, ↓zr_bt, ↓zr_bf, ↓zr_li0, ↓zr_lis, ↓zr_la0, ↓zr_las, ↓zr_ll0, ↓zr_lls, ↓zr_1i, ↓zr_1l, ↓zr_1a, ↓zr_2i, ↓zr_2l, ↓zr_lsi, ↓zr_ia, ↓zr_aa, ↓zr_dia, ↓zr_iia, ↓zr_lia, ↓zr_d1i, ↓zr_d1r, ↓zr_e1, ↓zr_e2, ↓zr_e0, ↓zr_f0, ↓zr_fs, ↓zr_s0, ↓zr_ss, ↓zr_len, ↓zr_len0, ↓zr_ok0, ↓zr_okn, ↓zr_oki, ↓zr_okr, ↓zr_oks, ↓zr_tt, ↓zr_ar0u, ↓zr_ar0n, ↓zr_ar1u, ↓zr_ar1n, ↓zr_ar2u, ↓zr_ar2n, ↓zr_obu, ↓zr_obn, ↓Nat.reduceAdd, Nat.reduceEqDiff, Nat.add_left_cancel_iff, not_false_eq_true, z_up_up, true_and, ↓sX3_init_0, ↓sX3_init_1, ↓sX3_init_4, ↓sX3_init_5, ↓sX3_init_7, ↓sX3_init_9, ↓sX3_init_12, ↓sX3_init_13, ↓sX3_init_15, ↓sX3_init_17, ↓sX3_init_20, ↓sX3_init_21, ↓sX3_init_23, ↓sX3_init_25, ↓sX3_init_28, ↓sX3_init_29, ↓sX3_init_31, ↓sX3_init_33, ↓sX3_init_36, ↓zl_ob0, zl_up0, Nat.reduceMul, Nat.reduceAdd]
  exact hP _ _ ⟨rfl, rfl⟩
set_option maxRecDepth 100000 in
set_option maxHeartbeats 1000000 in
theorem c_X4_init (G : zG) (w0 : zW) (b : Nat) (r1 r2 : Nat) (hb : G.2.2.2 ≤ b) :
    z_M G yX4_init wsX4_init (zrK 1 4 4817 30) 4 4817 [.ref b, .ref r1, .ref r2] (z_ls w0 b [.inr (5, [.null, .null, .null, .null, .null, .null, .int 0, .int 0, .int 0])]) (fun x w' => x = none ∧ w' = z_ls w0 b ([.inr (5, [.ref r1, .ref r2, .ref (b + 1), .ref (b + 2), .ref (b + 3), .ref (b + 4), .int 0, .int 0, .int 0]), .inl (0, 1600, .inl (fun _ => 0)), .inl (0, 1600, .inl (fun _ => 0)), .inl (0, 1601, .inl (fun _ => 0)), .inl (0, 16, .inl (fun _ => 0))])) := by
  refine z_mt (nL := 3) (cc := cX4_init) (ret := none) (by decide) rfl (Nat.le_of_ble_eq_true rfl) 0 [some (.ref b), some (.ref r1), some (.ref r2)] rfl ?_
  intro P hP Γ C E
  have hb1 : ∀ n, G.2.2.2 ≤ b + n := fun n => Nat.le_trans hb (Nat.le_add_right _ _)
  refine z_gn C E tkX4_init (Nat.le_of_ble_eq_true rfl) (Nat.le_of_ble_eq_true rfl) [] 60 ?_
  simp only [↓z_rn_f, ↓z_rn_t, ↓z_rn_0, ↓zr_in0, ↓zr_ins, ↓zr_inn, ↓zr_bt, ↓zr_bf, ↓zr_li0, ↓zr_lis, ↓zr_la0, ↓zr_las, ↓zr_ll0, ↓zr_lls, ↓zr_1i, ↓zr_1l, ↓zr_1a, ↓zr_2i, ↓zr_2l, ↓zr_lsi, ↓zr_ia, ↓zr_aa, ↓zr_dia, ↓zr_iia, ↓zr_lia, ↓zr_d1i, ↓zr_d1r, ↓zr_e1, ↓zr_e2, ↓zr_e0, ↓zr_f0, ↓zr_fs, ↓zr_s0, ↓zr_ss, ↓zr_len, ↓zr_len0, ↓zr_ok0, ↓zr_okn, ↓zr_oki, ↓zr_okr, ↓zr_oks, ↓zr_tt, ↓zr_ar0u, ↓zr_ar0n, ↓zr_ar1u, ↓zr_ar1n, ↓zr_ar2u, ↓zr_ar2n, ↓zr_obu, ↓zr_obn, ↓Nat.reduceAdd, Nat.reduceEqDiff, Nat.add_left_cancel_iff, not_false_eq_true, z_up_up, true_and, ↓sX4_init_0, ↓sX4_init_1, ↓sX4_init_4, ↓sX4_init_5, ↓sX4_init_8, ↓sX4_init_10, ↓sX4_init_13, ↓sX4_init_14, ↓sX4_init_17, ↓sX4_init_19, ↓sX4_init_22, ↓sX4_init_23, ↓sX4_init_26, ↓sX4_init_28, ↓sX4_init_31, ↓sX4_init_32, ↓sX4_init_34, ↓sX4_init_36, ↓sX4_init_39, ↓sX4_init_40, ↓sX4_init_41, ↓sX4_init_44, ↓sX4_init_45, ↓sX4_init_46, ↓sX4_init_49, ↓zl_ob0, zl_up0, Nat.reduceMul, Nat.reduceAdd]
  refine z_oinit C E (by decide +kernel) (by decide +kernel) (by decide +kernel) (by decide) (Nat.le_of_ble_eq_true rfl) dX4_init_1 ?_
  refine z_gn C E tkX4_init (Nat.le_of_ble_eq_true rfl) (Nat.le_of_ble_eq_true rfl) [] 60 ?_
  simp only [↓z_rn_f, ↓z_rn_t, ↓z_rn_0, ↓zr_in0, ↓zr_ins, ↓zr_inn, ↓zr_bt, ↓zr_bf, ↓zr_li0, ↓zr_lis, ↓zr_la0, ↓zr_las, ↓zr_ll0, ↓zr_lls, ↓zr_1i, ↓zr_1l, ↓zr_1a, ↓zr_2i, ↓zr_2l, ↓zr_lsi, ↓zr_ia, ↓zr_aa, ↓zr_dia, ↓zr_iia, ↓zr_lia, ↓zr_d1i, ↓zr_d1r, ↓zr_e1, ↓zr_e2, ↓zr_e0, ↓zr_f0, ↓zr_fs, ↓zr_s0, ↓zr_ss, ↓zr_len, ↓zr_len0, ↓zr_ok0, ↓zr_okn, ↓zr_oki, ↓zr_okr, ↓zr_oks, ↓zr_tt, ↓zr_ar0u, ↓zr_ar0n, ↓zr_ar1u, ↓zr_ar1n, ↓zr_ar2u, ↓zr_ar2n, ↓zr_obu, ↓zr_obn, ↓Nat.reduceAdd, Nat.reduceEqDiff, Nat.add_left_cancel_iff, not_false_eq_true, z_up_up, true_and, ↓sX4_init_0, ↓sX4_init_1, ↓sX4_init_4, ↓sX4_init_5, ↓sX4_init_8, ↓sX4_init_10, ↓sX4_init_13, ↓sX4_init_14, ↓sX4_init_17, ↓sX4_init_19, ↓sX4_init_22, ↓sX4_init_23, ↓sX4_init_26, ↓sX4_init_28, ↓sX4_init_31, ↓sX4_init_32, ↓sX4_init_34, ↓sX4_init_36, ↓sX4_init_39, ↓sX4_init_40, ↓sX4_init_41, ↓sX4_init_44, ↓sX4_init_45, ↓sX4_init_46, ↓sX4_init_49, ↓zl_ob0, zl_up0, Nat.reduceMul, Nat.reduceAdd]
  refine z_newi C E 1600 (by decide +kernel) (hb1 _) (by decide) (by decide) (by decide) ⟨Nat.le_of_ble_eq_true rfl, Nat.le_of_ble_eq_true rfl⟩ dX4_init_8 ?_
  simp only [zl_nw, zl_1, List.cons_append, List.nil_append, List.length_cons, List.length_nil, Nat.reduceAdd, Nat.zero_add]
  refine z_pFr (ci := 5) (k := 2) C E (by decide +kernel) (by decide +kernel) dX4_init_10 zl_at0 (Nat.le_of_ble_eq_true rfl) ?_
  simp only [zl_up0, zr_s0, zr_ss, Nat.reduceAdd]
  refine z_gn C E tkX4_init (Nat.le_of_ble_eq_true rfl) (Nat.le_of_ble_eq_true rfl) [] 60 ?_
  simp only [↓z_rn_f, ↓z_rn_t, ↓z_rn_0, ↓zr_in0, ↓zr_ins, ↓zr_inn, ↓zr_bt, ↓zr_bf, ↓zr_li0, ↓zr_lis, ↓zr_la0, ↓zr_las, ↓zr_ll0, ↓zr_lls, ↓zr_1i, ↓zr_1l, ↓zr_1a, ↓zr_2i, ↓zr_2l, ↓zr_lsi, ↓zr_ia, ↓zr_aa, ↓zr_dia, ↓zr_iia, ↓zr_lia, ↓zr_d1i, ↓zr_d1r, ↓zr_e1, ↓zr_e2, ↓zr_e0, ↓zr_f0, ↓zr_fs, ↓zr_s0, ↓zr_ss, ↓zr_len, ↓zr_len0, ↓zr_ok0, ↓zr_okn, ↓zr_oki, ↓zr_okr, ↓zr_oks, ↓zr_tt, ↓zr_ar0u, ↓zr_ar0n, ↓zr_ar1u, ↓zr_ar1n, ↓zr_ar2u, ↓zr_ar2n, ↓zr_obu, ↓zr_obn, ↓Nat.reduceAdd, Nat.reduceEqDiff, Nat.add_left_cancel_iff, not_false_eq_true, z_up_up, true_and, ↓sX4_init_0, ↓sX4_init_1, ↓sX4_init_4, ↓sX4_init_5, ↓sX4_init_8, ↓sX4_init_10, ↓sX4_init_13, ↓sX4_init_14, ↓sX4_init_17, ↓sX4_init_19, ↓sX4_init_22, ↓sX4_init_23, ↓sX4_init_26, ↓sX4_init_28, ↓sX4_init_31, ↓sX4_init_32, ↓sX4_init_34, ↓sX4_init_36, ↓sX4_init_39, ↓sX4_init_40, ↓sX4_init_41, ↓sX4_init_44, ↓sX4_init_45, ↓sX4_init_46, ↓sX4_init_49, ↓zl_ob0, zl_up0, Nat.reduceMul, Nat.reduceAdd]
  refine z_newi C E 1600 (by decide +kernel) (hb1 _) (by decide) (by decide) (by decide) ⟨Nat.le_of_ble_eq_true rfl, Nat.le_of_ble_eq_true rfl⟩ dX4_init_17 ?_
  simp only [zl_nw, zl_1, List.cons_append, List.nil_append, List.length_cons, List.length_nil, Nat.reduceAdd, Nat.zero_add]
  refine z_pFr (ci := 5) (k := 3) C E (by decide +kernel) (by decide +kernel) dX4_init_19 zl_at0 (Nat.le_of_ble_eq_true rfl) ?_
  simp only [zl_up0, zr_s0, zr_ss, Nat.reduceAdd]
  refine z_gn C E tkX4_init (Nat.le_of_ble_eq_true rfl) (Nat.le_of_ble_eq_true rfl) [] 60 ?_
  simp only [↓z_rn_f, ↓z_rn_t, ↓z_rn_0, ↓zr_in0, ↓zr_ins, ↓zr_inn, ↓zr_bt, ↓zr_bf, ↓zr_li0, ↓zr_lis, ↓zr_la0, ↓zr_las, ↓zr_ll0, ↓zr_lls, ↓zr_1i, ↓zr_1l, ↓zr_1a, ↓zr_2i, ↓zr_2l, ↓zr_lsi, ↓zr_ia, ↓zr_aa, ↓zr_dia, ↓zr_iia, ↓zr_lia, ↓zr_d1i, ↓zr_d1r, ↓zr_e1, ↓zr_e2, ↓zr_e0, ↓zr_f0, ↓zr_fs, ↓zr_s0, ↓zr_ss, ↓zr_len, ↓zr_len0, ↓zr_ok0, ↓zr_okn, ↓zr_oki, ↓zr_okr, ↓zr_oks, ↓zr_tt, ↓zr_ar0u, ↓zr_ar0n, ↓zr_ar1u, ↓zr_ar1n, ↓zr_ar2u, ↓zr_ar2n, ↓zr_obu, ↓zr_obn, ↓Nat.reduceAdd, Nat.reduceEqDiff, Nat.add_left_cancel_iff, not_false_eq_true, z_up_up, true_and, ↓sX4_init_0, ↓sX4_init_1, ↓sX4_init_4, ↓sX4_init_5, ↓sX4_init_8, ↓sX4_init_10, ↓sX4_init_13, ↓sX4_init_14, ↓sX4_init_17, ↓sX4_init_19, ↓sX4_init_22, ↓sX4_init_23, ↓sX4_init_26, ↓sX4_init_28, ↓sX4_init_31, ↓sX4_init_32, ↓sX4_init_34, ↓sX4_init_36, ↓sX4_init_39, ↓sX4_init_40, ↓sX4_init_41, ↓sX4_init_44, ↓sX4_init_45, ↓sX4_init_46, ↓sX4_init_49, ↓zl_ob0, zl_up0, Nat.reduceMul, Nat.reduceAdd]
  refine z_newi C E 1601 (by decide +kernel) (hb1 _) (by decide) (by decide) (by decide) ⟨Nat.le_of_ble_eq_true rfl, Nat.le_of_ble_eq_true rfl⟩ dX4_init_26 ?_
  simp only [zl_nw, zl_1, List.cons_append, List.nil_append, List.length_cons, List.length_nil, Nat.reduceAdd, Nat.zero_add]
  refine z_pFr (ci := 5) (k := 4) C E (by decide +kernel) (by decide +kernel) dX4_init_28 zl_at0 (Nat.le_of_ble_eq_true rfl) ?_
  simp only [zl_up0, zr_s0, zr_ss, Nat.reduceAdd]
  refine z_gn C E tkX4_init (Nat.le_of_ble_eq_true rfl) (Nat.le_of_ble_eq_true rfl) [] 60 ?_
  simp only [↓z_rn_f, ↓z_rn_t, ↓z_rn_0, ↓zr_in0, ↓zr_ins, ↓zr_inn, ↓zr_bt, ↓zr_bf, ↓zr_li0, ↓zr_lis, ↓zr_la0, ↓zr_las, ↓zr_ll0, ↓zr_lls, ↓zr_1i, ↓zr_1l, ↓zr_1a, ↓zr_2i, ↓zr_2l, ↓zr_lsi, ↓zr_ia, ↓zr_aa, ↓zr_dia, ↓zr_iia, ↓zr_lia, ↓zr_d1i, ↓zr_d1r, ↓zr_e1, ↓zr_e2, ↓zr_e0, ↓zr_f0, ↓zr_fs, ↓zr_s0, ↓zr_ss, ↓zr_len, ↓zr_len0, ↓zr_ok0, ↓zr_okn, ↓zr_oki, ↓zr_okr, ↓zr_oks, ↓zr_tt, ↓zr_ar0u, ↓zr_ar0n, ↓zr_ar1u, ↓zr_ar1n, ↓zr_ar2u, ↓zr_ar2n, ↓zr_obu, ↓zr_obn, ↓Nat.reduceAdd, Nat.reduceEqDiff, Nat.add_left_cancel_iff, not_false_eq_true, z_up_up, true_and, ↓sX4_init_0, ↓sX4_init_1, ↓sX4_init_4, ↓sX4_init_5, ↓sX4_init_8, ↓sX4_init_10, ↓sX4_init_13, ↓sX4_init_14, ↓sX4_init_17, ↓sX4_init_19, ↓sX4_init_22, ↓sX4_init_23, ↓sX4_init_26, ↓sX4_init_28, ↓sX4_init_31, ↓sX4_init_32, ↓sX4_init_34, ↓sX4_init_36, ↓sX4_init_39, ↓sX4_init_40, ↓sX4_init_41, ↓sX4_init_44, ↓sX4_init_45, ↓sX4_init_46, ↓sX4_init_49, ↓zl_ob0, zl_up0, Nat.reduceMul, Nat.reduceAdd]
  refine z_newi C E 16 (by decide +kernel) (hb1 _) (by decide) (by decide) (by decide) ⟨Nat.le_of_ble_eq_true rfl, Nat.le_of_ble_eq_true rfl⟩ dX4_init_34 ?_
  simp only [zl_nw, zl_1, List.cons_append, List.nil_append, List.length_cons, List.length_nil, Nat.reduceAdd, Nat.zero_add]
  refine z_pFr (ci := 5) (k := 5) C E (by decide +kernel) (by decide +kernel) dX4_init_36 zl_at0 (Nat.le_of_ble_eq_true rfl) ?_
  simp only [zl_up0, zr_s0, zr_ss, Nat.reduceAdd]
  refine z_gn C E tkX4_init (Nat.le_of_ble_eq_true rfl) (Nat.le_of_ble_eq_true rfl) [] 60 ?_
  simp only [↓z_rn_f, ↓z_rn_t, ↓z_rn_0, ↓zr_in0, ↓zr_ins, ↓zr_inn, ↓zr_bt, ↓zr_bf, ↓zr_li0, ↓zr_lis, ↓zr_la0, ↓zr_las, ↓zr_ll0, ↓zr_lls, ↓zr_1i, ↓zr_1l, ↓zr_1a, ↓zr_2i, ↓zr_2l, ↓zr_lsi, ↓zr_ia, ↓zr_aa, ↓zr_dia, ↓zr_iia, ↓zr_lia, ↓zr_d1i, ↓zr_d1r, ↓zr_e1, ↓zr_e2, ↓zr_e0, ↓zr_f0, ↓zr_fs, ↓zr_s0, ↓zr_ss, ↓zr_len, ↓zr_len0, ↓zr_ok0, ↓zr_okn, ↓zr_oki, ↓zr_okr, ↓zr_oks, ↓zr_tt, ↓zr_ar0u, ↓zr_ar0n, ↓zr_ar1u, ↓zr_ar1n, ↓zr_ar2u, ↓zr_ar2n, ↓zr_obu, ↓zr_obn, ↓Nat.reduceAdd, Nat.reduceEqDiff, Nat.add_left_cancel_iff, not_false_eq_true, z_up_up, true_and, ↓sX4_init_0, ↓sX4_init_1, ↓sX4_init_4, ↓sX4_init_5, ↓sX4_init_8, ↓sX4_init_10, ↓sX4_init_13, ↓sX4_init_14, ↓sX4_init_17, ↓sX4_init_19, ↓sX4_init_22, ↓sX4_init_23, ↓sX4_init_26, ↓sX4_init_28, ↓sX4_init_31, ↓sX4_init_32, ↓sX4_init_34, ↓sX4_init_36, ↓sX4_init_39, ↓sX4_init_40, ↓sX4_init_41, ↓sX4_init_44, ↓sX4_init_45, ↓sX4_init_46, ↓sX4_init_49, ↓zl_ob0, zl_up0, Nat.reduceMul, Nat.reduceAdd]
  refine z_pFr (ci := 5) (k := 0) C E (by decide +kernel) (by decide +kernel) dX4_init_41 zl_at0 (Nat.le_of_ble_eq_true rfl) ?_
  simp only [zl_up0, zr_s0, zr_ss, Nat.reduceAdd]
  refine z_gn C E tkX4_init (Nat.le_of_ble_eq_true rfl) (Nat.le_of_ble_eq_true rfl) [] 60 ?_
  simp only [↓z_rn_f, ↓z_rn_t, ↓z_rn_0, ↓zr_in0, ↓zr_ins, ↓zr_inn, ↓zr_bt, ↓zr_bf, ↓zr_li0, ↓zr_lis, ↓zr_la0, ↓zr_las, ↓zr_ll0, ↓zr_lls, ↓zr_1i, ↓zr_1l, ↓zr_1a, ↓zr_2i, ↓zr_2l, ↓zr_lsi, ↓zr_ia, ↓zr_aa, ↓zr_dia, ↓zr_iia, ↓zr_lia, ↓zr_d1i, ↓zr_d1r, ↓zr_e1, ↓zr_e2, ↓zr_e0, ↓zr_f0, ↓zr_fs, ↓zr_s0, ↓zr_ss, ↓zr_len, ↓zr_len0, ↓zr_ok0, ↓zr_okn, ↓zr_oki, ↓zr_okr, ↓zr_oks, ↓zr_tt, ↓zr_ar0u, ↓zr_ar0n, ↓zr_ar1u, ↓zr_ar1n, ↓zr_ar2u, ↓zr_ar2n, ↓zr_obu, ↓zr_obn, ↓Nat.reduceAdd, Nat.reduceEqDiff, Nat.add_left_cancel_iff, not_false_eq_true, z_up_up, true_and, ↓sX4_init_0, ↓sX4_init_1, ↓sX4_init_4, ↓sX4_init_5, ↓sX4_init_8, ↓sX4_init_10, ↓sX4_init_13, ↓sX4_init_14, ↓sX4_init_17, ↓sX4_init_19, ↓sX4_init_22, ↓sX4_init_23, ↓sX4_init_26, ↓sX4_init_28, ↓sX4_init_31, ↓sX4_init_32, ↓sX4_init_34, ↓sX4_init_36, ↓sX4_init_39, ↓sX4_init_40, ↓sX4_init_41, ↓sX4_init_44, ↓sX4_init_45, ↓sX4_init_46, ↓sX4_init_49, ↓zl_ob0, zl_up0, Nat.reduceMul, Nat.reduceAdd]
  refine z_pFr (ci := 5) (k := 1) C E (by decide +kernel) (by decide +kernel) dX4_init_46 zl_at0 (Nat.le_of_ble_eq_true rfl) ?_
  simp only [zl_up0, zr_s0, zr_ss, Nat.reduceAdd]
  refine z_gn C E tkX4_init (Nat.le_of_ble_eq_true rfl) (Nat.le_of_ble_eq_true rfl) [] 60 ?_
  simp only [↓z_rn_f, ↓z_rn_t, ↓z_rn_0, ↓zr_in0, ↓zr_ins, ↓zr_inn, ↓zr_bt, ↓zr_bf, ↓zr_li0, ↓zr_lis, ↓zr_la0, ↓zr_las, ↓zr_ll0, ↓zr_lls, ↓zr_1i, ↓zr_1l, ↓zr_1a, ↓zr_2i, ↓zr_2l, ↓zr_lsi, ↓zr_ia, ↓zr_aa, ↓zr_dia, ↓zr_iia, ↓zr_lia, ↓zr_d1i, ↓zr_d1r, ↓zr_e1, ↓zr_e2, ↓zr_e0, ↓zr_f0, ↓zr_fs, ↓zr_s0, ↓zr_ss, ↓zr_len, ↓zr_len0, ↓zr_ok0, ↓zr_okn, ↓zr_oki, ↓zr_okr, ↓zr_oks, ↓zr_tt, ↓zr_ar0u, ↓zr_ar0n, ↓zr_ar1u, ↓zr_ar1n, ↓zr_ar2u, ↓zr_ar2n, ↓zr_obu, ↓zr_obn, ↓Nat.reduceAdd, Nat.reduceEqDiff, Nat.add_left_cancel_iff, not_false_eq_true, z_up_up, true_and, ↓sX4_init_0, ↓sX4_init_1, ↓sX4_init_4, ↓sX4_init_5, ↓sX4_init_8, ↓sX4_init_10, ↓sX4_init_13, ↓sX4_init_14, ↓sX4_init_17, ↓sX4_init_19, ↓sX4_init_22, ↓sX4_init_23, ↓sX4_init_26, ↓sX4_init_28, ↓sX4_init_31, ↓sX4_init_32, ↓sX4_init_34, ↓sX4_init_36, ↓sX4_init_39, ↓sX4_init_40, ↓sX4_init_41, ↓sX4_init_44, ↓sX4_init_45, ↓sX4_init_46, ↓sX4_init_49, ↓zl_ob0, zl_up0, Nat.reduceMul, Nat.reduceAdd]
  exact hP _ _ ⟨rfl, rfl⟩
set_option maxRecDepth 100000 in
set_option maxHeartbeats 1000000 in
theorem c_X5_init_1600 (G : zG) (w0 : zW) (b : Nat) (hb : G.2.2.2 ≤ b) :
    z_M G yX5_init wsX5_init (zrK 1 3 54400 30) 3 54400 [.ref b, .int 1600] (z_ls w0 b [.inr (6, [.int 0, .null, .null, .null, .int 0])]) (fun x w' => x = none ∧ w' = z_ls w0 b ([.inr (6, [.int 1600, .ref (b + 1), .ref (b + 2), .ref (b + 3), .int 0]), .inl (0, 1600, .inl (fun _ => 0)), .inl (0, 1600, .inl (fun _ => 0)), .inl (0, 51200, .inl (fun _ => 0))])) := by
  refine z_mt (nL := 2) (cc := cX5_init) (ret := none) (by decide) rfl (Nat.le_of_ble_eq_true rfl) 0 [some (.ref b), some (.int 1600)] rfl ?_
  intro P hP Γ C E
  have hb1 : ∀ n, G.2.2.2 ≤ b + n := fun n => Nat.le_trans hb (Nat.le_add_right _ _)
  refine z_gn C E tkX5_init (Nat.le_of_ble_eq_true rfl) (Nat.le_of_ble_eq_true rfl) [] 60 ?_
  simp only [↓z_rn_f, ↓z_rn_t, ↓z_rn_0, ↓zr_in0, ↓zr_ins, ↓zr_inn, ↓zr_bt, ↓zr_bf, ↓zr_li0, ↓zr_lis, ↓zr_la0, ↓zr_las, ↓zr_ll0, ↓zr_lls, ↓zr_1i, ↓zr_1l, ↓zr_1a, ↓zr_2i, ↓zr_2l, ↓zr_lsi, ↓zr_ia, ↓zr_aa, ↓zr_dia, ↓zr_iia, ↓zr_lia, ↓zr_d1i, ↓zr_d1r, ↓zr_e1, ↓zr_e2, ↓zr_e0, ↓zr_f0, ↓zr_fs, ↓zr_s0, ↓zr_ss, ↓zr_len, ↓zr_len0, ↓zr_ok0, ↓zr_okn, ↓zr_oki, ↓zr_okr, ↓zr_oks, ↓zr_tt, ↓zr_ar0u, ↓zr_ar0n, ↓zr_ar1u, ↓zr_ar1n, ↓zr_ar2u, ↓zr_ar2n, ↓zr_obu, ↓zr_obn, ↓Nat.reduceAdd, Nat.reduceEqDiff, Nat.add_left_cancel_iff, not_false_eq_true, z_up_up, true_and, ↓sX5_init_0, ↓sX5_init_1, ↓sX5_init_4, ↓sX5_init_5, ↓sX5_init_6, ↓sX5_init_7, ↓sX5_init_10, ↓sX5_init_13, ↓sX5_init_16, ↓sX5_init_19, ↓sX5_init_20, ↓sX5_init_21, ↓sX5_init_24, ↓sX5_init_26, ↓sX5_init_29, ↓sX5_init_30, ↓sX5_init_31, ↓sX5_init_34, ↓sX5_init_36, ↓sX5_init_39, ↓sX5_init_40, ↓sX5_init_41, ↓sX5_init_44, ↓sX5_init_46, ↓sX5_init_47, ↓sX5_init_49, ↓sX5_init_52, ↓zl_ob0, zl_up0, Nat.reduceMul, Nat.reduceAdd]
  refine z_oinit C E (by decide +kernel) (by decide +kernel) (by decide +kernel) (by decide) (Nat.le_of_ble_eq_true rfl) dX5_init_1 ?_
  refine z_gn C E tkX5_init (Nat.le_of_ble_eq_true rfl) (Nat.le_of_ble_eq_true rfl) [] 60 ?_
  simp only [↓z_rn_f, ↓z_rn_t, ↓z_rn_0, ↓zr_in0, ↓zr_ins, ↓zr_inn, ↓zr_bt, ↓zr_bf, ↓zr_li0, ↓zr_lis, ↓zr_la0, ↓zr_las, ↓zr_ll0, ↓zr_lls, ↓zr_1i, ↓zr_1l, ↓zr_1a, ↓zr_2i, ↓zr_2l, ↓zr_lsi, ↓zr_ia, ↓zr_aa, ↓zr_dia, ↓zr_iia, ↓zr_lia, ↓zr_d1i, ↓zr_d1r, ↓zr_e1, ↓zr_e2, ↓zr_e0, ↓zr_f0, ↓zr_fs, ↓zr_s0, ↓zr_ss, ↓zr_len, ↓zr_len0, ↓zr_ok0, ↓zr_okn, ↓zr_oki, ↓zr_okr, ↓zr_oks, ↓zr_tt, ↓zr_ar0u, ↓zr_ar0n, ↓zr_ar1u, ↓zr_ar1n, ↓zr_ar2u, ↓zr_ar2n, ↓zr_obu, ↓zr_obn, ↓Nat.reduceAdd, Nat.reduceEqDiff, Nat.add_left_cancel_iff, not_false_eq_true, z_up_up, true_and, ↓sX5_init_0, ↓sX5_init_1, ↓sX5_init_4, ↓sX5_init_5, ↓sX5_init_6, ↓sX5_init_7, ↓sX5_init_10, ↓sX5_init_13, ↓sX5_init_16, ↓sX5_init_19, ↓sX5_init_20, ↓sX5_init_21, ↓sX5_init_24, ↓sX5_init_26, ↓sX5_init_29, ↓sX5_init_30, ↓sX5_init_31, ↓sX5_init_34, ↓sX5_init_36, ↓sX5_init_39, ↓sX5_init_40, ↓sX5_init_41, ↓sX5_init_44, ↓sX5_init_46, ↓sX5_init_47, ↓sX5_init_49, ↓sX5_init_52, ↓zl_ob0, zl_up0, Nat.reduceMul, Nat.reduceAdd]
  refine z_mmax C E (by decide +kernel) (by decide +kernel) (by decide +kernel) (by decide +kernel) (by decide) ⟨Nat.zero_le _, Nat.zero_le _⟩ (Nat.le_of_ble_eq_true rfl) dX5_init_7 ?_
  rw [show ((if (1600 : Int32) < 0 then (0 : Int32) else 1600) = 1600) from by decide]
  refine z_gn C E tkX5_init (Nat.le_of_ble_eq_true rfl) (Nat.le_of_ble_eq_true rfl) [] 60 ?_
  simp only [↓z_rn_f, ↓z_rn_t, ↓z_rn_0, ↓zr_in0, ↓zr_ins, ↓zr_inn, ↓zr_bt, ↓zr_bf, ↓zr_li0, ↓zr_lis, ↓zr_la0, ↓zr_las, ↓zr_ll0, ↓zr_lls, ↓zr_1i, ↓zr_1l, ↓zr_1a, ↓zr_2i, ↓zr_2l, ↓zr_lsi, ↓zr_ia, ↓zr_aa, ↓zr_dia, ↓zr_iia, ↓zr_lia, ↓zr_d1i, ↓zr_d1r, ↓zr_e1, ↓zr_e2, ↓zr_e0, ↓zr_f0, ↓zr_fs, ↓zr_s0, ↓zr_ss, ↓zr_len, ↓zr_len0, ↓zr_ok0, ↓zr_okn, ↓zr_oki, ↓zr_okr, ↓zr_oks, ↓zr_tt, ↓zr_ar0u, ↓zr_ar0n, ↓zr_ar1u, ↓zr_ar1n, ↓zr_ar2u, ↓zr_ar2n, ↓zr_obu, ↓zr_obn, ↓Nat.reduceAdd, Nat.reduceEqDiff, Nat.add_left_cancel_iff, not_false_eq_true, z_up_up, true_and, ↓sX5_init_0, ↓sX5_init_1, ↓sX5_init_4, ↓sX5_init_5, ↓sX5_init_6, ↓sX5_init_7, ↓sX5_init_10, ↓sX5_init_13, ↓sX5_init_16, ↓sX5_init_19, ↓sX5_init_20, ↓sX5_init_21, ↓sX5_init_24, ↓sX5_init_26, ↓sX5_init_29, ↓sX5_init_30, ↓sX5_init_31, ↓sX5_init_34, ↓sX5_init_36, ↓sX5_init_39, ↓sX5_init_40, ↓sX5_init_41, ↓sX5_init_44, ↓sX5_init_46, ↓sX5_init_47, ↓sX5_init_49, ↓sX5_init_52, ↓zl_ob0, zl_up0, Nat.reduceMul, Nat.reduceAdd]
  refine z_mmin C E (by decide +kernel) (by decide +kernel) (by decide +kernel) (by decide +kernel) (by decide) ⟨Nat.zero_le _, Nat.zero_le _⟩ (Nat.le_of_ble_eq_true rfl) dX5_init_13 ?_
  rw [show ((if (1600 : Int32) < 1600 then (1600 : Int32) else 1600) = 1600) from by decide]
  refine z_pFi (ci := 6) (k := 0) C E (by decide +kernel) (by decide +kernel) dX5_init_16 zl_at0 (Nat.le_of_ble_eq_true rfl) ?_
  simp only [zl_up0, zr_s0, zr_ss, Nat.reduceAdd]
  refine z_gn C E tkX5_init (Nat.le_of_ble_eq_true rfl) (Nat.le_of_ble_eq_true rfl) [] 60 ?_
  simp only [↓z_rn_f, ↓z_rn_t, ↓z_rn_0, ↓zr_in0, ↓zr_ins, ↓zr_inn, ↓zr_bt, ↓zr_bf, ↓zr_li0, ↓zr_lis, ↓zr_la0, ↓zr_las, ↓zr_ll0, ↓zr_lls, ↓zr_1i, ↓zr_1l, ↓zr_1a, ↓zr_2i, ↓zr_2l, ↓zr_lsi, ↓zr_ia, ↓zr_aa, ↓zr_dia, ↓zr_iia, ↓zr_lia, ↓zr_d1i, ↓zr_d1r, ↓zr_e1, ↓zr_e2, ↓zr_e0, ↓zr_f0, ↓zr_fs, ↓zr_s0, ↓zr_ss, ↓zr_len, ↓zr_len0, ↓zr_ok0, ↓zr_okn, ↓zr_oki, ↓zr_okr, ↓zr_oks, ↓zr_tt, ↓zr_ar0u, ↓zr_ar0n, ↓zr_ar1u, ↓zr_ar1n, ↓zr_ar2u, ↓zr_ar2n, ↓zr_obu, ↓zr_obn, ↓Nat.reduceAdd, Nat.reduceEqDiff, Nat.add_left_cancel_iff, not_false_eq_true, z_up_up, true_and, ↓sX5_init_0, ↓sX5_init_1, ↓sX5_init_4, ↓sX5_init_5, ↓sX5_init_6, ↓sX5_init_7, ↓sX5_init_10, ↓sX5_init_13, ↓sX5_init_16, ↓sX5_init_19, ↓sX5_init_20, ↓sX5_init_21, ↓sX5_init_24, ↓sX5_init_26, ↓sX5_init_29, ↓sX5_init_30, ↓sX5_init_31, ↓sX5_init_34, ↓sX5_init_36, ↓sX5_init_39, ↓sX5_init_40, ↓sX5_init_41, ↓sX5_init_44, ↓sX5_init_46, ↓sX5_init_47, ↓sX5_init_49, ↓sX5_init_52, ↓zl_ob0, zl_up0, Nat.reduceMul, Nat.reduceAdd]
  refine z_newi C E 1600 (by decide +kernel) (hb1 _) (by decide) (by decide) (by decide) ⟨Nat.le_of_ble_eq_true rfl, Nat.le_of_ble_eq_true rfl⟩ dX5_init_24 ?_
  simp only [zl_nw, zl_1, List.cons_append, List.nil_append, List.length_cons, List.length_nil, Nat.reduceAdd, Nat.zero_add]
  refine z_pFr (ci := 6) (k := 1) C E (by decide +kernel) (by decide +kernel) dX5_init_26 zl_at0 (Nat.le_of_ble_eq_true rfl) ?_
  simp only [zl_up0, zr_s0, zr_ss, Nat.reduceAdd]
  refine z_gn C E tkX5_init (Nat.le_of_ble_eq_true rfl) (Nat.le_of_ble_eq_true rfl) [] 60 ?_
  simp only [↓z_rn_f, ↓z_rn_t, ↓z_rn_0, ↓zr_in0, ↓zr_ins, ↓zr_inn, ↓zr_bt, ↓zr_bf, ↓zr_li0, ↓zr_lis, ↓zr_la0, ↓zr_las, ↓zr_ll0, ↓zr_lls, ↓zr_1i, ↓zr_1l, ↓zr_1a, ↓zr_2i, ↓zr_2l, ↓zr_lsi, ↓zr_ia, ↓zr_aa, ↓zr_dia, ↓zr_iia, ↓zr_lia, ↓zr_d1i, ↓zr_d1r, ↓zr_e1, ↓zr_e2, ↓zr_e0, ↓zr_f0, ↓zr_fs, ↓zr_s0, ↓zr_ss, ↓zr_len, ↓zr_len0, ↓zr_ok0, ↓zr_okn, ↓zr_oki, ↓zr_okr, ↓zr_oks, ↓zr_tt, ↓zr_ar0u, ↓zr_ar0n, ↓zr_ar1u, ↓zr_ar1n, ↓zr_ar2u, ↓zr_ar2n, ↓zr_obu, ↓zr_obn, ↓Nat.reduceAdd, Nat.reduceEqDiff, Nat.add_left_cancel_iff, not_false_eq_true, z_up_up, true_and, ↓sX5_init_0, ↓sX5_init_1, ↓sX5_init_4, ↓sX5_init_5, ↓sX5_init_6, ↓sX5_init_7, ↓sX5_init_10, ↓sX5_init_13, ↓sX5_init_16, ↓sX5_init_19, ↓sX5_init_20, ↓sX5_init_21, ↓sX5_init_24, ↓sX5_init_26, ↓sX5_init_29, ↓sX5_init_30, ↓sX5_init_31, ↓sX5_init_34, ↓sX5_init_36, ↓sX5_init_39, ↓sX5_init_40, ↓sX5_init_41, ↓sX5_init_44, ↓sX5_init_46, ↓sX5_init_47, ↓sX5_init_49, ↓sX5_init_52, ↓zl_ob0, zl_up0, Nat.reduceMul, Nat.reduceAdd]
  refine z_newi C E 1600 (by decide +kernel) (hb1 _) (by decide) (by decide) (by decide) ⟨Nat.le_of_ble_eq_true rfl, Nat.le_of_ble_eq_true rfl⟩ dX5_init_34 ?_
  simp only [zl_nw, zl_1, List.cons_append, List.nil_append, List.length_cons, List.length_nil, Nat.reduceAdd, Nat.zero_add]
  refine z_pFr (ci := 6) (k := 2) C E (by decide +kernel) (by decide +kernel) dX5_init_36 zl_at0 (Nat.le_of_ble_eq_true rfl) ?_
  simp only [zl_up0, zr_s0, zr_ss, Nat.reduceAdd]
  refine z_gn C E tkX5_init (Nat.le_of_ble_eq_true rfl) (Nat.le_of_ble_eq_true rfl) [] 60 ?_
  simp only [↓z_rn_f, ↓z_rn_t, ↓z_rn_0, ↓zr_in0, ↓zr_ins, ↓zr_inn, ↓zr_bt, ↓zr_bf, ↓zr_li0, ↓zr_lis, ↓zr_la0, ↓zr_las, ↓zr_ll0, ↓zr_lls, ↓zr_1i, ↓zr_1l, ↓zr_1a, ↓zr_2i, ↓zr_2l, ↓zr_lsi, ↓zr_ia, ↓zr_aa, ↓zr_dia, ↓zr_iia, ↓zr_lia, ↓zr_d1i, ↓zr_d1r, ↓zr_e1, ↓zr_e2, ↓zr_e0, ↓zr_f0, ↓zr_fs, ↓zr_s0, ↓zr_ss, ↓zr_len, ↓zr_len0, ↓zr_ok0, ↓zr_okn, ↓zr_oki, ↓zr_okr, ↓zr_oks, ↓zr_tt, ↓zr_ar0u, ↓zr_ar0n, ↓zr_ar1u, ↓zr_ar1n, ↓zr_ar2u, ↓zr_ar2n, ↓zr_obu, ↓zr_obn, ↓Nat.reduceAdd, Nat.reduceEqDiff, Nat.add_left_cancel_iff, not_false_eq_true, z_up_up, true_and, ↓sX5_init_0, ↓sX5_init_1, ↓sX5_init_4, ↓sX5_init_5, ↓sX5_init_6, ↓sX5_init_7, ↓sX5_init_10, ↓sX5_init_13, ↓sX5_init_16, ↓sX5_init_19, ↓sX5_init_20, ↓sX5_init_21, ↓sX5_init_24, ↓sX5_init_26, ↓sX5_init_29, ↓sX5_init_30, ↓sX5_init_31, ↓sX5_init_34, ↓sX5_init_36, ↓sX5_init_39, ↓sX5_init_40, ↓sX5_init_41, ↓sX5_init_44, ↓sX5_init_46, ↓sX5_init_47, ↓sX5_init_49, ↓sX5_init_52, ↓zl_ob0, zl_up0, Nat.reduceMul, Nat.reduceAdd]
  refine z_newi C E 51200 (by decide +kernel) (hb1 _) (by decide) (by decide) (by decide) ⟨Nat.le_of_ble_eq_true rfl, Nat.le_of_ble_eq_true rfl⟩ dX5_init_47 ?_
  simp only [zl_nw, zl_1, List.cons_append, List.nil_append, List.length_cons, List.length_nil, Nat.reduceAdd, Nat.zero_add]
  refine z_pFr (ci := 6) (k := 3) C E (by decide +kernel) (by decide +kernel) dX5_init_49 zl_at0 (Nat.le_of_ble_eq_true rfl) ?_
  simp only [zl_up0, zr_s0, zr_ss, Nat.reduceAdd]
  refine z_gn C E tkX5_init (Nat.le_of_ble_eq_true rfl) (Nat.le_of_ble_eq_true rfl) [] 60 ?_
  simp only [↓z_rn_f, ↓z_rn_t, ↓z_rn_0, ↓zr_in0, ↓zr_ins, ↓zr_inn, ↓zr_bt, ↓zr_bf, ↓zr_li0, ↓zr_lis, ↓zr_la0, ↓zr_las, ↓zr_ll0, ↓zr_lls, ↓zr_1i, ↓zr_1l, ↓zr_1a, ↓zr_2i, ↓zr_2l, ↓zr_lsi, ↓zr_ia, ↓zr_aa, ↓zr_dia, ↓zr_iia, ↓zr_lia, ↓zr_d1i, ↓zr_d1r, ↓zr_e1, ↓zr_e2, ↓zr_e0, ↓zr_f0, ↓zr_fs, ↓zr_s0, ↓zr_ss, ↓zr_len, ↓zr_len0, ↓zr_ok0, ↓zr_okn, ↓zr_oki, ↓zr_okr, ↓zr_oks, ↓zr_tt, ↓zr_ar0u, ↓zr_ar0n, ↓zr_ar1u, ↓zr_ar1n, ↓zr_ar2u, ↓zr_ar2n, ↓zr_obu, ↓zr_obn, ↓Nat.reduceAdd, Nat.reduceEqDiff, Nat.add_left_cancel_iff, not_false_eq_true, z_up_up, true_and, ↓sX5_init_0, ↓sX5_init_1, ↓sX5_init_4, ↓sX5_init_5, ↓sX5_init_6, ↓sX5_init_7, ↓sX5_init_10, ↓sX5_init_13, ↓sX5_init_16, ↓sX5_init_19, ↓sX5_init_20, ↓sX5_init_21, ↓sX5_init_24, ↓sX5_init_26, ↓sX5_init_29, ↓sX5_init_30, ↓sX5_init_31, ↓sX5_init_34, ↓sX5_init_36, ↓sX5_init_39, ↓sX5_init_40, ↓sX5_init_41, ↓sX5_init_44, ↓sX5_init_46, ↓sX5_init_47, ↓sX5_init_49, ↓sX5_init_52, ↓zl_ob0, zl_up0, Nat.reduceMul, Nat.reduceAdd]
  exact hP _ _ ⟨rfl, rfl⟩
set_option maxRecDepth 100000 in
set_option maxHeartbeats 1000000 in
theorem c_X5_init_400 (G : zG) (w0 : zW) (b : Nat) (hb : G.2.2.2 ≤ b) :
    z_M G yX5_init wsX5_init (zrK 1 3 13600 30) 3 13600 [.ref b, .int 400] (z_ls w0 b [.inr (6, [.int 0, .null, .null, .null, .int 0])]) (fun x w' => x = none ∧ w' = z_ls w0 b ([.inr (6, [.int 400, .ref (b + 1), .ref (b + 2), .ref (b + 3), .int 0]), .inl (0, 400, .inl (fun _ => 0)), .inl (0, 400, .inl (fun _ => 0)), .inl (0, 12800, .inl (fun _ => 0))])) := by
  refine z_mt (nL := 2) (cc := cX5_init) (ret := none) (by decide) rfl (Nat.le_of_ble_eq_true rfl) 0 [some (.ref b), some (.int 400)] rfl ?_
  intro P hP Γ C E
  have hb1 : ∀ n, G.2.2.2 ≤ b + n := fun n => Nat.le_trans hb (Nat.le_add_right _ _)
  refine z_gn C E tkX5_init (Nat.le_of_ble_eq_true rfl) (Nat.le_of_ble_eq_true rfl) [] 60 ?_
  simp only [↓z_rn_f, ↓z_rn_t, ↓z_rn_0, ↓zr_in0, ↓zr_ins, ↓zr_inn, ↓zr_bt, ↓zr_bf, ↓zr_li0, ↓zr_lis, ↓zr_la0, ↓zr_las, ↓zr_ll0, ↓zr_lls, ↓zr_1i, ↓zr_1l, ↓zr_1a, ↓zr_2i, ↓zr_2l, ↓zr_lsi, ↓zr_ia, ↓zr_aa, ↓zr_dia, ↓zr_iia, ↓zr_lia, ↓zr_d1i, ↓zr_d1r, ↓zr_e1, ↓zr_e2, ↓zr_e0, ↓zr_f0, ↓zr_fs, ↓zr_s0, ↓zr_ss, ↓zr_len, ↓zr_len0, ↓zr_ok0, ↓zr_okn, ↓zr_oki, ↓zr_okr, ↓zr_oks, ↓zr_tt, ↓zr_ar0u, ↓zr_ar0n, ↓zr_ar1u, ↓zr_ar1n, ↓zr_ar2u, ↓zr_ar2n, ↓zr_obu, ↓zr_obn, ↓Nat.reduceAdd, Nat.reduceEqDiff, Nat.add_left_cancel_iff, not_false_eq_true, z_up_up, true_and, ↓sX5_init_0, ↓sX5_init_1, ↓sX5_init_4, ↓sX5_init_5, ↓sX5_init_6, ↓sX5_init_7, ↓sX5_init_10, ↓sX5_init_13, ↓sX5_init_16, ↓sX5_init_19, ↓sX5_init_20, ↓sX5_init_21, ↓sX5_init_24, ↓sX5_init_26, ↓sX5_init_29, ↓sX5_init_30, ↓sX5_init_31, ↓sX5_init_34, ↓sX5_init_36, ↓sX5_init_39, ↓sX5_init_40, ↓sX5_init_41, ↓sX5_init_44, ↓sX5_init_46, ↓sX5_init_47, ↓sX5_init_49, ↓sX5_init_52, ↓zl_ob0, zl_up0, Nat.reduceMul, Nat.reduceAdd]
  refine z_oinit C E (by decide +kernel) (by decide +kernel) (by decide +kernel) (by decide) (Nat.le_of_ble_eq_true rfl) dX5_init_1 ?_
  refine z_gn C E tkX5_init (Nat.le_of_ble_eq_true rfl) (Nat.le_of_ble_eq_true rfl) [] 60 ?_
  simp only [↓z_rn_f, ↓z_rn_t, ↓z_rn_0, ↓zr_in0, ↓zr_ins, ↓zr_inn, ↓zr_bt, ↓zr_bf, ↓zr_li0, ↓zr_lis, ↓zr_la0, ↓zr_las, ↓zr_ll0, ↓zr_lls, ↓zr_1i, ↓zr_1l, ↓zr_1a, ↓zr_2i, ↓zr_2l, ↓zr_lsi, ↓zr_ia, ↓zr_aa, ↓zr_dia, ↓zr_iia, ↓zr_lia, ↓zr_d1i, ↓zr_d1r, ↓zr_e1, ↓zr_e2, ↓zr_e0, ↓zr_f0, ↓zr_fs, ↓zr_s0, ↓zr_ss, ↓zr_len, ↓zr_len0, ↓zr_ok0, ↓zr_okn, ↓zr_oki, ↓zr_okr, ↓zr_oks, ↓zr_tt, ↓zr_ar0u, ↓zr_ar0n, ↓zr_ar1u, ↓zr_ar1n, ↓zr_ar2u, ↓zr_ar2n, ↓zr_obu, ↓zr_obn, ↓Nat.reduceAdd, Nat.reduceEqDiff, Nat.add_left_cancel_iff, not_false_eq_true, z_up_up, true_and, ↓sX5_init_0, ↓sX5_init_1, ↓sX5_init_4, ↓sX5_init_5, ↓sX5_init_6, ↓sX5_init_7, ↓sX5_init_10, ↓sX5_init_13, ↓sX5_init_16, ↓sX5_init_19, ↓sX5_init_20, ↓sX5_init_21, ↓sX5_init_24, ↓sX5_init_26, ↓sX5_init_29, ↓sX5_init_30, ↓sX5_init_31, ↓sX5_init_34, ↓sX5_init_36, ↓sX5_init_39, ↓sX5_init_40, ↓sX5_init_41, ↓sX5_init_44, ↓sX5_init_46, ↓sX5_init_47, ↓sX5_init_49, ↓sX5_init_52, ↓zl_ob0, zl_up0, Nat.reduceMul, Nat.reduceAdd]
  refine z_mmax C E (by decide +kernel) (by decide +kernel) (by decide +kernel) (by decide +kernel) (by decide) ⟨Nat.zero_le _, Nat.zero_le _⟩ (Nat.le_of_ble_eq_true rfl) dX5_init_7 ?_
  rw [show ((if (400 : Int32) < 0 then (0 : Int32) else 400) = 400) from by decide]
  refine z_gn C E tkX5_init (Nat.le_of_ble_eq_true rfl) (Nat.le_of_ble_eq_true rfl) [] 60 ?_
  simp only [↓z_rn_f, ↓z_rn_t, ↓z_rn_0, ↓zr_in0, ↓zr_ins, ↓zr_inn, ↓zr_bt, ↓zr_bf, ↓zr_li0, ↓zr_lis, ↓zr_la0, ↓zr_las, ↓zr_ll0, ↓zr_lls, ↓zr_1i, ↓zr_1l, ↓zr_1a, ↓zr_2i, ↓zr_2l, ↓zr_lsi, ↓zr_ia, ↓zr_aa, ↓zr_dia, ↓zr_iia, ↓zr_lia, ↓zr_d1i, ↓zr_d1r, ↓zr_e1, ↓zr_e2, ↓zr_e0, ↓zr_f0, ↓zr_fs, ↓zr_s0, ↓zr_ss, ↓zr_len, ↓zr_len0, ↓zr_ok0, ↓zr_okn, ↓zr_oki, ↓zr_okr, ↓zr_oks, ↓zr_tt, ↓zr_ar0u, ↓zr_ar0n, ↓zr_ar1u, ↓zr_ar1n, ↓zr_ar2u, ↓zr_ar2n, ↓zr_obu, ↓zr_obn, ↓Nat.reduceAdd, Nat.reduceEqDiff, Nat.add_left_cancel_iff, not_false_eq_true, z_up_up, true_and, ↓sX5_init_0, ↓sX5_init_1, ↓sX5_init_4, ↓sX5_init_5, ↓sX5_init_6, ↓sX5_init_7, ↓sX5_init_10, ↓sX5_init_13, ↓sX5_init_16, ↓sX5_init_19, ↓sX5_init_20, ↓sX5_init_21, ↓sX5_init_24, ↓sX5_init_26, ↓sX5_init_29, ↓sX5_init_30, ↓sX5_init_31, ↓sX5_init_34, ↓sX5_init_36, ↓sX5_init_39, ↓sX5_init_40, ↓sX5_init_41, ↓sX5_init_44, ↓sX5_init_46, ↓sX5_init_47, ↓sX5_init_49, ↓sX5_init_52, ↓zl_ob0, zl_up0, Nat.reduceMul, Nat.reduceAdd]
  refine z_mmin C E (by decide +kernel) (by decide +kernel) (by decide +kernel) (by decide +kernel) (by decide) ⟨Nat.zero_le _, Nat.zero_le _⟩ (Nat.le_of_ble_eq_true rfl) dX5_init_13 ?_
  rw [show ((if (1600 : Int32) < 400 then (1600 : Int32) else 400) = 400) from by decide]
  refine z_pFi (ci := 6) (k := 0) C E (by decide +kernel) (by decide +kernel) dX5_init_16 zl_at0 (Nat.le_of_ble_eq_true rfl) ?_
  simp only [zl_up0, zr_s0, zr_ss, Nat.reduceAdd]
  refine z_gn C E tkX5_init (Nat.le_of_ble_eq_true rfl) (Nat.le_of_ble_eq_true rfl) [] 60 ?_
  simp only [↓z_rn_f, ↓z_rn_t, ↓z_rn_0, ↓zr_in0, ↓zr_ins, ↓zr_inn, ↓zr_bt, ↓zr_bf, ↓zr_li0, ↓zr_lis, ↓zr_la0, ↓zr_las, ↓zr_ll0, ↓zr_lls, ↓zr_1i, ↓zr_1l, ↓zr_1a, ↓zr_2i, ↓zr_2l, ↓zr_lsi, ↓zr_ia, ↓zr_aa, ↓zr_dia, ↓zr_iia, ↓zr_lia, ↓zr_d1i, ↓zr_d1r, ↓zr_e1, ↓zr_e2, ↓zr_e0, ↓zr_f0, ↓zr_fs, ↓zr_s0, ↓zr_ss, ↓zr_len, ↓zr_len0, ↓zr_ok0, ↓zr_okn, ↓zr_oki, ↓zr_okr, ↓zr_oks, ↓zr_tt, ↓zr_ar0u, ↓zr_ar0n, ↓zr_ar1u, ↓zr_ar1n, ↓zr_ar2u, ↓zr_ar2n, ↓zr_obu, ↓zr_obn, ↓Nat.reduceAdd, Nat.reduceEqDiff, Nat.add_left_cancel_iff, not_false_eq_true, z_up_up, true_and, ↓sX5_init_0, ↓sX5_init_1, ↓sX5_init_4, ↓sX5_init_5, ↓sX5_init_6, ↓sX5_init_7, ↓sX5_init_10, ↓sX5_init_13, ↓sX5_init_16, ↓sX5_init_19, ↓sX5_init_20, ↓sX5_init_21, ↓sX5_init_24, ↓sX5_init_26, ↓sX5_init_29, ↓sX5_init_30, ↓sX5_init_31, ↓sX5_init_34, ↓sX5_init_36, ↓sX5_init_39, ↓sX5_init_40, ↓sX5_init_41, ↓sX5_init_44, ↓sX5_init_46, ↓sX5_init_47, ↓sX5_init_49, ↓sX5_init_52, ↓zl_ob0, zl_up0, Nat.reduceMul, Nat.reduceAdd]
  refine z_newi C E 400 (by decide +kernel) (hb1 _) (by decide) (by decide) (by decide) ⟨Nat.le_of_ble_eq_true rfl, Nat.le_of_ble_eq_true rfl⟩ dX5_init_24 ?_
  simp only [zl_nw, zl_1, List.cons_append, List.nil_append, List.length_cons, List.length_nil, Nat.reduceAdd, Nat.zero_add]
  refine z_pFr (ci := 6) (k := 1) C E (by decide +kernel) (by decide +kernel) dX5_init_26 zl_at0 (Nat.le_of_ble_eq_true rfl) ?_
  simp only [zl_up0, zr_s0, zr_ss, Nat.reduceAdd]
  refine z_gn C E tkX5_init (Nat.le_of_ble_eq_true rfl) (Nat.le_of_ble_eq_true rfl) [] 60 ?_
  simp only [↓z_rn_f, ↓z_rn_t, ↓z_rn_0, ↓zr_in0, ↓zr_ins, ↓zr_inn, ↓zr_bt, ↓zr_bf, ↓zr_li0, ↓zr_lis, ↓zr_la0, ↓zr_las, ↓zr_ll0, ↓zr_lls, ↓zr_1i, ↓zr_1l, ↓zr_1a, ↓zr_2i, ↓zr_2l, ↓zr_lsi, ↓zr_ia, ↓zr_aa, ↓zr_dia, ↓zr_iia, ↓zr_lia, ↓zr_d1i, ↓zr_d1r, ↓zr_e1, ↓zr_e2, ↓zr_e0, ↓zr_f0, ↓zr_fs, ↓zr_s0, ↓zr_ss, ↓zr_len, ↓zr_len0, ↓zr_ok0, ↓zr_okn, ↓zr_oki, ↓zr_okr, ↓zr_oks, ↓zr_tt, ↓zr_ar0u, ↓zr_ar0n, ↓zr_ar1u, ↓zr_ar1n, ↓zr_ar2u, ↓zr_ar2n, ↓zr_obu, ↓zr_obn, ↓Nat.reduceAdd, Nat.reduceEqDiff, Nat.add_left_cancel_iff, not_false_eq_true, z_up_up, true_and, ↓sX5_init_0, ↓sX5_init_1, ↓sX5_init_4, ↓sX5_init_5, ↓sX5_init_6, ↓sX5_init_7, ↓sX5_init_10, ↓sX5_init_13, ↓sX5_init_16, ↓sX5_init_19, ↓sX5_init_20, ↓sX5_init_21, ↓sX5_init_24, ↓sX5_init_26, ↓sX5_init_29, ↓sX5_init_30, ↓sX5_init_31, ↓sX5_init_34, ↓sX5_init_36, ↓sX5_init_39, ↓sX5_init_40, ↓sX5_init_41, ↓sX5_init_44, ↓sX5_init_46, ↓sX5_init_47, ↓sX5_init_49, ↓sX5_init_52, ↓zl_ob0, zl_up0, Nat.reduceMul, Nat.reduceAdd]
  refine z_newi C E 400 (by decide +kernel) (hb1 _) (by decide) (by decide) (by decide) ⟨Nat.le_of_ble_eq_true rfl, Nat.le_of_ble_eq_true rfl⟩ dX5_init_34 ?_
  simp only [zl_nw, zl_1, List.cons_append, List.nil_append, List.length_cons, List.length_nil, Nat.reduceAdd, Nat.zero_add]
  refine z_pFr (ci := 6) (k := 2) C E (by decide +kernel) (by decide +kernel) dX5_init_36 zl_at0 (Nat.le_of_ble_eq_true rfl) ?_
  simp only [zl_up0, zr_s0, zr_ss, Nat.reduceAdd]
  refine z_gn C E tkX5_init (Nat.le_of_ble_eq_true rfl) (Nat.le_of_ble_eq_true rfl) [] 60 ?_
  simp only [↓z_rn_f, ↓z_rn_t, ↓z_rn_0, ↓zr_in0, ↓zr_ins, ↓zr_inn, ↓zr_bt, ↓zr_bf, ↓zr_li0, ↓zr_lis, ↓zr_la0, ↓zr_las, ↓zr_ll0, ↓zr_lls, ↓zr_1i, ↓zr_1l, ↓zr_1a, ↓zr_2i, ↓zr_2l, ↓zr_lsi, ↓zr_ia, ↓zr_aa, ↓zr_dia, ↓zr_iia, ↓zr_lia, ↓zr_d1i, ↓zr_d1r, ↓zr_e1, ↓zr_e2, ↓zr_e0, ↓zr_f0, ↓zr_fs, ↓zr_s0, ↓zr_ss, ↓zr_len, ↓zr_len0, ↓zr_ok0, ↓zr_okn, ↓zr_oki, ↓zr_okr, ↓zr_oks, ↓zr_tt, ↓zr_ar0u, ↓zr_ar0n, ↓zr_ar1u, ↓zr_ar1n, ↓zr_ar2u, ↓zr_ar2n, ↓zr_obu, ↓zr_obn, ↓Nat.reduceAdd, Nat.reduceEqDiff, Nat.add_left_cancel_iff, not_false_eq_true, z_up_up, true_and, ↓sX5_init_0, ↓sX5_init_1, ↓sX5_init_4, ↓sX5_init_5, ↓sX5_init_6, ↓sX5_init_7, ↓sX5_init_10, ↓sX5_init_13, ↓sX5_init_16, ↓sX5_init_19, ↓sX5_init_20, ↓sX5_init_21, ↓sX5_init_24, ↓sX5_init_26, ↓sX5_init_29, ↓sX5_init_30, ↓sX5_init_31, ↓sX5_init_34, ↓sX5_init_36, ↓sX5_init_39, ↓sX5_init_40, ↓sX5_init_41, ↓sX5_init_44, ↓sX5_init_46, ↓sX5_init_47, ↓sX5_init_49, ↓sX5_init_52, ↓zl_ob0, zl_up0, Nat.reduceMul, Nat.reduceAdd]
  refine z_newi C E 12800 (by decide +kernel) (hb1 _) (by decide) (by decide) (by decide) ⟨Nat.le_of_ble_eq_true rfl, Nat.le_of_ble_eq_true rfl⟩ dX5_init_47 ?_
  simp only [zl_nw, zl_1, List.cons_append, List.nil_append, List.length_cons, List.length_nil, Nat.reduceAdd, Nat.zero_add]
  refine z_pFr (ci := 6) (k := 3) C E (by decide +kernel) (by decide +kernel) dX5_init_49 zl_at0 (Nat.le_of_ble_eq_true rfl) ?_
  simp only [zl_up0, zr_s0, zr_ss, Nat.reduceAdd]
  refine z_gn C E tkX5_init (Nat.le_of_ble_eq_true rfl) (Nat.le_of_ble_eq_true rfl) [] 60 ?_
  simp only [↓z_rn_f, ↓z_rn_t, ↓z_rn_0, ↓zr_in0, ↓zr_ins, ↓zr_inn, ↓zr_bt, ↓zr_bf, ↓zr_li0, ↓zr_lis, ↓zr_la0, ↓zr_las, ↓zr_ll0, ↓zr_lls, ↓zr_1i, ↓zr_1l, ↓zr_1a, ↓zr_2i, ↓zr_2l, ↓zr_lsi, ↓zr_ia, ↓zr_aa, ↓zr_dia, ↓zr_iia, ↓zr_lia, ↓zr_d1i, ↓zr_d1r, ↓zr_e1, ↓zr_e2, ↓zr_e0, ↓zr_f0, ↓zr_fs, ↓zr_s0, ↓zr_ss, ↓zr_len, ↓zr_len0, ↓zr_ok0, ↓zr_okn, ↓zr_oki, ↓zr_okr, ↓zr_oks, ↓zr_tt, ↓zr_ar0u, ↓zr_ar0n, ↓zr_ar1u, ↓zr_ar1n, ↓zr_ar2u, ↓zr_ar2n, ↓zr_obu, ↓zr_obn, ↓Nat.reduceAdd, Nat.reduceEqDiff, Nat.add_left_cancel_iff, not_false_eq_true, z_up_up, true_and, ↓sX5_init_0, ↓sX5_init_1, ↓sX5_init_4, ↓sX5_init_5, ↓sX5_init_6, ↓sX5_init_7, ↓sX5_init_10, ↓sX5_init_13, ↓sX5_init_16, ↓sX5_init_19, ↓sX5_init_20, ↓sX5_init_21, ↓sX5_init_24, ↓sX5_init_26, ↓sX5_init_29, ↓sX5_init_30, ↓sX5_init_31, ↓sX5_init_34, ↓sX5_init_36, ↓sX5_init_39, ↓sX5_init_40, ↓sX5_init_41, ↓sX5_init_44, ↓sX5_init_46, ↓sX5_init_47, ↓sX5_init_49, ↓sX5_init_52, ↓zl_ob0, zl_up0, Nat.reduceMul, Nat.reduceAdd]
  exact hP _ _ ⟨rfl, rfl⟩
set_option maxRecDepth 100000 in
set_option maxHeartbeats 1000000 in
theorem c_X6_init (G : zG) (w0 : zW) (b : Nat) (hb : G.2.2.2 ≤ b) :
    z_M G yX6_init wsX6_init (zrK 1 3 40 30) 3 40 [.ref b] (z_ls w0 b [.inr (7, [.null, .null, .null, .int 0])]) (fun x w' => x = none ∧ w' = z_ls w0 b ([.inr (7, [.ref (b + 1), .ref (b + 2), .ref (b + 3), .int 0]), .inl (0, 4, .inl (fun _ => 0)), .inl (0, 4, .inl (fun _ => 0)), .inl (0, 32, .inl (fun _ => 0))])) := by
  refine z_mt (nL := 1) (cc := cX6_init) (ret := none) (by decide) rfl (Nat.le_of_ble_eq_true rfl) 0 [some (.ref b)] rfl ?_
  intro P hP Γ C E
  have hb1 : ∀ n, G.2.2.2 ≤ b + n := fun n => Nat.le_trans hb (Nat.le_add_right _ _)
  refine z_gn C E tkX6_init (Nat.le_of_ble_eq_true rfl) (Nat.le_of_ble_eq_true rfl) [] 60 ?_
  simp only [↓z_rn_f, ↓z_rn_t, ↓z_rn_0, ↓zr_in0, ↓zr_ins, ↓zr_inn, ↓zr_bt, ↓zr_bf, ↓zr_li0, ↓zr_lis, ↓zr_la0, ↓zr_las, ↓zr_ll0, ↓zr_lls, ↓zr_1i, ↓zr_1l, ↓zr_1a, ↓zr_2i, ↓zr_2l, ↓zr_lsi, ↓zr_ia, ↓zr_aa, ↓zr_dia, ↓zr_iia, ↓zr_lia, ↓zr_d1i, ↓zr_d1r, ↓zr_e1, ↓zr_e2, ↓zr_e0, ↓zr_f0, ↓zr_fs, ↓zr_s0, ↓zr_ss, ↓zr_len, ↓zr_len0, ↓zr_ok0, ↓zr_okn, ↓zr_oki, ↓zr_okr, ↓zr_oks, ↓zr_tt, ↓zr_ar0u, ↓zr_ar0n, ↓zr_ar1u, ↓zr_ar1n, ↓zr_ar2u, ↓zr_ar2n, ↓zr_obu, ↓zr_obn, ↓Nat.reduceAdd, Nat.reduceEqDiff, Nat.add_left_cancel_iff, not_false_eq_true, z_up_up, true_and, ↓sX6_init_0, ↓sX6_init_1, ↓sX6_init_4, ↓sX6_init_5, ↓sX6_init_6, ↓sX6_init_8, ↓sX6_init_11, ↓sX6_init_12, ↓sX6_init_13, ↓sX6_init_15, ↓sX6_init_18, ↓sX6_init_19, ↓sX6_init_21, ↓sX6_init_23, ↓sX6_init_26, ↓zl_ob0, zl_up0, Nat.reduceMul, Nat.reduceAdd]
  refine z_oinit C E (by decide +kernel) (by decide +kernel) (by decide +kernel) (by decide) (Nat.le_of_ble_eq_true rfl) dX6_init_1 ?_
  refine z_gn C E tkX6_init (Nat.le_of_ble_eq_true rfl) (Nat.le_of_ble_eq_true rfl) [] 60 ?_
  simp only [↓z_rn_f, ↓z_rn_t, ↓z_rn_0, ↓zr_in0, ↓zr_ins, ↓zr_inn, ↓zr_bt, ↓zr_bf, ↓zr_li0, ↓zr_lis, ↓zr_la0, ↓zr_las, ↓zr_ll0, ↓zr_lls, ↓zr_1i, ↓zr_1l, ↓zr_1a, ↓zr_2i, ↓zr_2l, ↓zr_lsi, ↓zr_ia, ↓zr_aa, ↓zr_dia, ↓zr_iia, ↓zr_lia, ↓zr_d1i, ↓zr_d1r, ↓zr_e1, ↓zr_e2, ↓zr_e0, ↓zr_f0, ↓zr_fs, ↓zr_s0, ↓zr_ss, ↓zr_len, ↓zr_len0, ↓zr_ok0, ↓zr_okn, ↓zr_oki, ↓zr_okr, ↓zr_oks, ↓zr_tt, ↓zr_ar0u, ↓zr_ar0n, ↓zr_ar1u, ↓zr_ar1n, ↓zr_ar2u, ↓zr_ar2n, ↓zr_obu, ↓zr_obn, ↓Nat.reduceAdd, Nat.reduceEqDiff, Nat.add_left_cancel_iff, not_false_eq_true, z_up_up, true_and, ↓sX6_init_0, ↓sX6_init_1, ↓sX6_init_4, ↓sX6_init_5, ↓sX6_init_6, ↓sX6_init_8, ↓sX6_init_11, ↓sX6_init_12, ↓sX6_init_13, ↓sX6_init_15, ↓sX6_init_18, ↓sX6_init_19, ↓sX6_init_21, ↓sX6_init_23, ↓sX6_init_26, ↓zl_ob0, zl_up0, Nat.reduceMul, Nat.reduceAdd]
  refine z_newi C E 4 (by decide +kernel) (hb1 _) (by decide) (by decide) (by decide) ⟨Nat.le_of_ble_eq_true rfl, Nat.le_of_ble_eq_true rfl⟩ dX6_init_6 ?_
  simp only [zl_nw, zl_1, List.cons_append, List.nil_append, List.length_cons, List.length_nil, Nat.reduceAdd, Nat.zero_add]
  refine z_pFr (ci := 7) (k := 0) C E (by decide +kernel) (by decide +kernel) dX6_init_8 zl_at0 (Nat.le_of_ble_eq_true rfl) ?_
  simp only [zl_up0, zr_s0, zr_ss, Nat.reduceAdd]
  refine z_gn C E tkX6_init (Nat.le_of_ble_eq_true rfl) (Nat.le_of_ble_eq_true rfl) [] 60 ?_
  simp only [↓z_rn_f, ↓z_rn_t, ↓z_rn_0, ↓zr_in0, ↓zr_ins, ↓zr_inn, ↓zr_bt, ↓zr_bf, ↓zr_li0, ↓zr_lis, ↓zr_la0, ↓zr_las, ↓zr_ll0, ↓zr_lls, ↓zr_1i, ↓zr_1l, ↓zr_1a, ↓zr_2i, ↓zr_2l, ↓zr_lsi, ↓zr_ia, ↓zr_aa, ↓zr_dia, ↓zr_iia, ↓zr_lia, ↓zr_d1i, ↓zr_d1r, ↓zr_e1, ↓zr_e2, ↓zr_e0, ↓zr_f0, ↓zr_fs, ↓zr_s0, ↓zr_ss, ↓zr_len, ↓zr_len0, ↓zr_ok0, ↓zr_okn, ↓zr_oki, ↓zr_okr, ↓zr_oks, ↓zr_tt, ↓zr_ar0u, ↓zr_ar0n, ↓zr_ar1u, ↓zr_ar1n, ↓zr_ar2u, ↓zr_ar2n, ↓zr_obu, ↓zr_obn, ↓Nat.reduceAdd, Nat.reduceEqDiff, Nat.add_left_cancel_iff, not_false_eq_true, z_up_up, true_and, ↓sX6_init_0, ↓sX6_init_1, ↓sX6_init_4, ↓sX6_init_5, ↓sX6_init_6, ↓sX6_init_8, ↓sX6_init_11, ↓sX6_init_12, ↓sX6_init_13, ↓sX6_init_15, ↓sX6_init_18, ↓sX6_init_19, ↓sX6_init_21, ↓sX6_init_23, ↓sX6_init_26, ↓zl_ob0, zl_up0, Nat.reduceMul, Nat.reduceAdd]
  refine z_newi C E 4 (by decide +kernel) (hb1 _) (by decide) (by decide) (by decide) ⟨Nat.le_of_ble_eq_true rfl, Nat.le_of_ble_eq_true rfl⟩ dX6_init_13 ?_
  simp only [zl_nw, zl_1, List.cons_append, List.nil_append, List.length_cons, List.length_nil, Nat.reduceAdd, Nat.zero_add]
  refine z_pFr (ci := 7) (k := 1) C E (by decide +kernel) (by decide +kernel) dX6_init_15 zl_at0 (Nat.le_of_ble_eq_true rfl) ?_
  simp only [zl_up0, zr_s0, zr_ss, Nat.reduceAdd]
  refine z_gn C E tkX6_init (Nat.le_of_ble_eq_true rfl) (Nat.le_of_ble_eq_true rfl) [] 60 ?_
  simp only [↓z_rn_f, ↓z_rn_t, ↓z_rn_0, ↓zr_in0, ↓zr_ins, ↓zr_inn, ↓zr_bt, ↓zr_bf, ↓zr_li0, ↓zr_lis, ↓zr_la0, ↓zr_las, ↓zr_ll0, ↓zr_lls, ↓zr_1i, ↓zr_1l, ↓zr_1a, ↓zr_2i, ↓zr_2l, ↓zr_lsi, ↓zr_ia, ↓zr_aa, ↓zr_dia, ↓zr_iia, ↓zr_lia, ↓zr_d1i, ↓zr_d1r, ↓zr_e1, ↓zr_e2, ↓zr_e0, ↓zr_f0, ↓zr_fs, ↓zr_s0, ↓zr_ss, ↓zr_len, ↓zr_len0, ↓zr_ok0, ↓zr_okn, ↓zr_oki, ↓zr_okr, ↓zr_oks, ↓zr_tt, ↓zr_ar0u, ↓zr_ar0n, ↓zr_ar1u, ↓zr_ar1n, ↓zr_ar2u, ↓zr_ar2n, ↓zr_obu, ↓zr_obn, ↓Nat.reduceAdd, Nat.reduceEqDiff, Nat.add_left_cancel_iff, not_false_eq_true, z_up_up, true_and, ↓sX6_init_0, ↓sX6_init_1, ↓sX6_init_4, ↓sX6_init_5, ↓sX6_init_6, ↓sX6_init_8, ↓sX6_init_11, ↓sX6_init_12, ↓sX6_init_13, ↓sX6_init_15, ↓sX6_init_18, ↓sX6_init_19, ↓sX6_init_21, ↓sX6_init_23, ↓sX6_init_26, ↓zl_ob0, zl_up0, Nat.reduceMul, Nat.reduceAdd]
  refine z_newi C E 32 (by decide +kernel) (hb1 _) (by decide) (by decide) (by decide) ⟨Nat.le_of_ble_eq_true rfl, Nat.le_of_ble_eq_true rfl⟩ dX6_init_21 ?_
  simp only [zl_nw, zl_1, List.cons_append, List.nil_append, List.length_cons, List.length_nil, Nat.reduceAdd, Nat.zero_add]
  refine z_pFr (ci := 7) (k := 2) C E (by decide +kernel) (by decide +kernel) dX6_init_23 zl_at0 (Nat.le_of_ble_eq_true rfl) ?_
  simp only [zl_up0, zr_s0, zr_ss, Nat.reduceAdd]
  refine z_gn C E tkX6_init (Nat.le_of_ble_eq_true rfl) (Nat.le_of_ble_eq_true rfl) [] 60 ?_
  simp only [↓z_rn_f, ↓z_rn_t, ↓z_rn_0, ↓zr_in0, ↓zr_ins, ↓zr_inn, ↓zr_bt, ↓zr_bf, ↓zr_li0, ↓zr_lis, ↓zr_la0, ↓zr_las, ↓zr_ll0, ↓zr_lls, ↓zr_1i, ↓zr_1l, ↓zr_1a, ↓zr_2i, ↓zr_2l, ↓zr_lsi, ↓zr_ia, ↓zr_aa, ↓zr_dia, ↓zr_iia, ↓zr_lia, ↓zr_d1i, ↓zr_d1r, ↓zr_e1, ↓zr_e2, ↓zr_e0, ↓zr_f0, ↓zr_fs, ↓zr_s0, ↓zr_ss, ↓zr_len, ↓zr_len0, ↓zr_ok0, ↓zr_okn, ↓zr_oki, ↓zr_okr, ↓zr_oks, ↓zr_tt, ↓zr_ar0u, ↓zr_ar0n, ↓zr_ar1u, ↓zr_ar1n, ↓zr_ar2u, ↓zr_ar2n, ↓zr_obu, ↓zr_obn, ↓Nat.reduceAdd, Nat.reduceEqDiff, Nat.add_left_cancel_iff, not_false_eq_true, z_up_up, true_and, ↓sX6_init_0, ↓sX6_init_1, ↓sX6_init_4, ↓sX6_init_5, ↓sX6_init_6, ↓sX6_init_8, ↓sX6_init_11, ↓sX6_init_12, ↓sX6_init_13, ↓sX6_init_15, ↓sX6_init_18, ↓sX6_init_19, ↓sX6_init_21, ↓sX6_init_23, ↓sX6_init_26, ↓zl_ob0, zl_up0, Nat.reduceMul, Nat.reduceAdd]
  exact hP _ _ ⟨rfl, rfl⟩
set_option maxRecDepth 100000 in
set_option maxHeartbeats 1000000 in
theorem c_X7_init (G : zG) (w0 : zW) (b : Nat) (hb : G.2.2.2 ≤ b) :
    z_M G yX7_init wsX7_init (zrK 1 0 0 30) 0 0 [.ref b] (z_ls w0 b [.inr (8, [.int 0, .int 0, .int 0, .int 0, .int 0])]) (fun x w' => x = none ∧ w' = z_ls w0 b ([.inr (8, [.int 0, .int 0, .int 0, .int 0, .int 0])])) := by
  refine z_mt (nL := 1) (cc := cX7_init) (ret := none) (by decide) rfl (Nat.le_of_ble_eq_true rfl) 0 [some (.ref b)] rfl ?_
  intro P hP Γ C E
  have hb1 : ∀ n, G.2.2.2 ≤ b + n := fun n => Nat.le_trans hb (Nat.le_add_right _ _)
  refine z_gn C E tkX7_init (Nat.le_of_ble_eq_true rfl) (Nat.le_of_ble_eq_true rfl) [] 60 ?_
  simp only [↓z_rn_f, ↓z_rn_t, ↓z_rn_0, ↓zr_in0, ↓zr_ins, ↓zr_inn, ↓zr_bt, ↓zr_bf, ↓zr_li0, ↓zr_lis, ↓zr_la0, ↓zr_las, ↓zr_ll0, ↓zr_lls, ↓zr_1i, ↓zr_1l, ↓zr_1a, ↓zr_2i, ↓zr_2l, ↓zr_lsi, ↓zr_ia, ↓zr_aa, ↓zr_dia, ↓zr_iia, ↓zr_lia, ↓zr_d1i, ↓zr_d1r, ↓zr_e1, ↓zr_e2, ↓zr_e0, ↓zr_f0, ↓zr_fs, ↓zr_s0, ↓zr_ss, ↓zr_len, ↓zr_len0, ↓zr_ok0, ↓zr_okn, ↓zr_oki, ↓zr_okr, ↓zr_oks, ↓zr_tt, ↓zr_ar0u, ↓zr_ar0n, ↓zr_ar1u, ↓zr_ar1n, ↓zr_ar2u, ↓zr_ar2n, ↓zr_obu, ↓zr_obn, ↓Nat.reduceAdd, Nat.reduceEqDiff, Nat.add_left_cancel_iff, not_false_eq_true, z_up_up, true_and, ↓sX7_init_0, ↓sX7_init_1, ↓sX7_init_4, ↓zl_ob0, zl_up0, Nat.reduceMul, Nat.reduceAdd]
  refine z_oinit C E (by decide +kernel) (by decide +kernel) (by decide +kernel) (by decide) (Nat.le_of_ble_eq_true rfl) dX7_init_1 ?_
  refine z_gn C E tkX7_init (Nat.le_of_ble_eq_true rfl) (Nat.le_of_ble_eq_true rfl) [] 60 ?_
  simp only [↓z_rn_f, ↓z_rn_t, ↓z_rn_0, ↓zr_in0, ↓zr_ins, ↓zr_inn, ↓zr_bt, ↓zr_bf, ↓zr_li0, ↓zr_lis, ↓zr_la0, ↓zr_las, ↓zr_ll0, ↓zr_lls, ↓zr_1i, ↓zr_1l, ↓zr_1a, ↓zr_2i, ↓zr_2l, ↓zr_lsi, ↓zr_ia, ↓zr_aa, ↓zr_dia, ↓zr_iia, ↓zr_lia, ↓zr_d1i, ↓zr_d1r, ↓zr_e1, ↓zr_e2, ↓zr_e0, ↓zr_f0, ↓zr_fs, ↓zr_s0, ↓zr_ss, ↓zr_len, ↓zr_len0, ↓zr_ok0, ↓zr_okn, ↓zr_oki, ↓zr_okr, ↓zr_oks, ↓zr_tt, ↓zr_ar0u, ↓zr_ar0n, ↓zr_ar1u, ↓zr_ar1n, ↓zr_ar2u, ↓zr_ar2n, ↓zr_obu, ↓zr_obn, ↓Nat.reduceAdd, Nat.reduceEqDiff, Nat.add_left_cancel_iff, not_false_eq_true, z_up_up, true_and, ↓sX7_init_0, ↓sX7_init_1, ↓sX7_init_4, ↓zl_ob0, zl_up0, Nat.reduceMul, Nat.reduceAdd]
  exact hP _ _ ⟨rfl, rfl⟩
