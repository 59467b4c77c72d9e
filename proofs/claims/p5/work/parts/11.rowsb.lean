def zrm2 : Room := { frames := 2, cells := 0, slots := 0, locals := 60 }
theorem zi_cpy (f g : Nat → Int32) (sp dp n : Nat) : ∃ h : Nat → Int32, va_cpy f g sp dp n = h := ⟨_, rfl⟩
set_option maxRecDepth 100000 in
set_option maxHeartbeats 800000 in
theorem c_Rows_addCopy (G : zG) (w : zW) (r an al ab cap : Nat) (held : Int32) (fn fl fb : Nat → Int32) (h : zRo w r an al ab cap held fn fl fb)
    (r2 an2 al2 ab2 cap2 : Nat) (held2 row : Int32) (fn2 fl2 fb2 : Nat → Int32) (h2 : zRo w r2 an2 al2 ab2 cap2 held2 fn2 fl2 fb2) (hne : ∀ x ∈ [r2, an2, al2, ab2], x ∉ [r, an, al, ab]) :
    z_M G yX5_addCopy wsX5_addCopy zrm2 0 0 [.ref r, .ref r2, .int row] w (fun x w' => z_fr [r, an, al, ab] w w' ∧ ∃ v held' fn' fl' fb', x = some (.int v) ∧ zRo w' r an al ab cap held' fn' fl' fb') := by
  have hq := h
  have hq2 := h2
  obtain ⟨⟨h0, h1, h2, h3⟩, ⟨n1, n2, n3, n4, n5, n6⟩, hcap, hh, hl⟩ := h
  obtain ⟨⟨g0, g1, g2, g3⟩, ⟨m1, m2, m3, m4, m5, m6⟩, gcap, gh, gl⟩ := hq2
  refine z_mt (nL := 4) (cc := cX5_addCopy) (ret := some .int) (by decide) rfl (Nat.le_of_ble_eq_true rfl) 1 [some (.ref r), some (.ref r2), some (.int row), none] rfl ?_
  intro P hP Γ C E
  refine z_gn C E tkX5_addCopy (Nat.le_refl _) (Nat.le_refl _) [] 60 ?_
  simp only [↓z_rn_f, ↓z_rn_t, ↓z_rn_0, ↓zr_in0, ↓zr_ins, ↓zr_inn, ↓zr_bt, ↓zr_bf, ↓zr_li0, ↓zr_lis, ↓zr_la0, ↓zr_las, ↓zr_ll0, ↓zr_lls, ↓zr_1i, ↓zr_1l, ↓zr_1a, ↓zr_2i, ↓zr_2l, ↓zr_lsi, ↓zr_ia, ↓zr_aa, ↓zr_dia, ↓zr_iia, ↓zr_lia, ↓zr_d1i, ↓zr_d1r, ↓zr_e1, ↓zr_e2, ↓zr_e0, ↓zr_f0, ↓zr_fs, ↓zr_s0, ↓zr_ss, ↓zr_len, ↓zr_len0, ↓zr_ok0, ↓zr_okn, ↓zr_oki, ↓zr_okr, ↓zr_oks, ↓zr_tt, ↓zr_ar0u, ↓zr_ar0n, ↓zr_ar1u, ↓zr_ar1n, ↓zr_ar2u, ↓zr_ar2n, ↓zr_obu, ↓zr_obn, ↓Nat.reduceAdd, Nat.reduceEqDiff, Nat.add_left_cancel_iff, not_false_eq_true, z_up_up, true_and, ↓sX5_addCopy_0, ↓sX5_addCopy_1, ↓sX5_addCopy_4, ↓sX5_addCopy_5, ↓sX5_addCopy_6, ↓sX5_addCopy_9, ↓sX5_addCopy_12, ↓sX5_addCopy_13, ↓sX5_addCopy_14, ↓sX5_addCopy_15, ↓sX5_addCopy_16, ↓sX5_addCopy_19, ↓sX5_addCopy_20, ↓sX5_addCopy_21, ↓sX5_addCopy_24, ↓sX5_addCopy_25, ↓sX5_addCopy_26, ↓sX5_addCopy_27, ↓sX5_addCopy_30, ↓sX5_addCopy_31, ↓sX5_addCopy_34, ↓sX5_addCopy_35, ↓sX5_addCopy_36, ↓sX5_addCopy_39, ↓sX5_addCopy_40, ↓sX5_addCopy_41, ↓sX5_addCopy_42, ↓sX5_addCopy_43, ↓sX5_addCopy_46, ↓sX5_addCopy_47, ↓sX5_addCopy_49, ↓sX5_addCopy_50, ↓sX5_addCopy_51, ↓sX5_addCopy_54, ↓sX5_addCopy_55, ↓sX5_addCopy_57, ↓sX5_addCopy_58, ↓sX5_addCopy_59, ↓sX5_addCopy_62, ↓sX5_addCopy_63, ↓sX5_addCopy_64, ↓sX5_addCopy_67, ↓sX5_addCopy_68, ↓zh_ob h0, ↓zh_ar0 h1, ↓zh_ar0 h2, ↓zh_ar0 h3, ↓zh_ob g0, ↓zh_ar0 g1, ↓zh_ar0 g2, ↓zh_ar0 g3]
  have ok : ∀ v, P (some (.int v)) w := fun v => hP _ _ ⟨⟨rfl, fun _ _ => rfl⟩, v, held, fn, fl, fb, rfl, hq⟩
  refine ⟨fun _ => ok _, fun a1 => ⟨fun a2 => ?_, fun _ => ok _⟩⟩
  simp only [zi_lt, zi_le, zi_0, zi_1, zi_m1, zi_2, zi_32] at a1 a2
  have hr2 : vp_in row cap2 := vp_in_iff.mpr (by omega)
  refine ⟨hr2, ?_⟩
  refine z_callV (n := 1) (As := [.int _]) (rest := []) C E (c_Rows_add G w r an al ab cap held _ fn fl fb hq) gX5_addCopy_X5_add rfl rfl rfl (by decide +kernel) (by decide) dX5_addCopy_21 rfl ⟨Nat.zero_le _, Nat.zero_le _⟩ (Nat.le_of_ble_eq_true rfl) rfl h0 ?_
  intro x w' hx
  rcases hx with ⟨-, rfl, rfl⟩ | ⟨hlt, rfl, ⟨f1, f2⟩, hz⟩
  · simp only [Option.toList, List.cons_append, List.nil_append]
    refine z_gn C E tkX5_addCopy (Nat.le_refl _) (Nat.le_refl _) [] 60 ?_
    simp only [↓z_rn_f, ↓z_rn_t, ↓z_rn_0, ↓zr_in0, ↓zr_ins, ↓zr_inn, ↓zr_bt, ↓zr_bf, ↓zr_li0, ↓zr_lis, ↓zr_la0, ↓zr_las, ↓zr_ll0, ↓zr_lls, ↓zr_1i, ↓zr_1l, ↓zr_1a, ↓zr_2i, ↓zr_2l, ↓zr_lsi, ↓zr_ia, ↓zr_aa, ↓zr_dia, ↓zr_iia, ↓zr_lia, ↓zr_d1i, ↓zr_d1r, ↓zr_e1, ↓zr_e2, ↓zr_e0, ↓zr_f0, ↓zr_fs, ↓zr_s0, ↓zr_ss, ↓zr_len, ↓zr_len0, ↓zr_ok0, ↓zr_okn, ↓zr_oki, ↓zr_okr, ↓zr_oks, ↓zr_tt, ↓zr_ar0u, ↓zr_ar0n, ↓zr_ar1u, ↓zr_ar1n, ↓zr_ar2u, ↓zr_ar2n, ↓zr_obu, ↓zr_obn, ↓Nat.reduceAdd, Nat.reduceEqDiff, Nat.add_left_cancel_iff, not_false_eq_true, z_up_up, true_and, ↓sX5_addCopy_0, ↓sX5_addCopy_1, ↓sX5_addCopy_4, ↓sX5_addCopy_5, ↓sX5_addCopy_6, ↓sX5_addCopy_9, ↓sX5_addCopy_12, ↓sX5_addCopy_13, ↓sX5_addCopy_14, ↓sX5_addCopy_15, ↓sX5_addCopy_16, ↓sX5_addCopy_19, ↓sX5_addCopy_20, ↓sX5_addCopy_21, ↓sX5_addCopy_24, ↓sX5_addCopy_25, ↓sX5_addCopy_26, ↓sX5_addCopy_27, ↓sX5_addCopy_30, ↓sX5_addCopy_31, ↓sX5_addCopy_34, ↓sX5_addCopy_35, ↓sX5_addCopy_36, ↓sX5_addCopy_39, ↓sX5_addCopy_40, ↓sX5_addCopy_41, ↓sX5_addCopy_42, ↓sX5_addCopy_43, ↓sX5_addCopy_46, ↓sX5_addCopy_47, ↓sX5_addCopy_49, ↓sX5_addCopy_50, ↓sX5_addCopy_51, ↓sX5_addCopy_54, ↓sX5_addCopy_55, ↓sX5_addCopy_57, ↓sX5_addCopy_58, ↓sX5_addCopy_59, ↓sX5_addCopy_62, ↓sX5_addCopy_63, ↓sX5_addCopy_64, ↓sX5_addCopy_67, ↓sX5_addCopy_68]
    exact ⟨fun _ => ok _, fun q => absurd trivial q⟩
  · obtain ⟨⟨k0, k1, k2, k3⟩, -, -, kh, kl⟩ := id hz
    have e0 : w'.2 r2 = _ := (f2 r2 (fun q => hne r2 (by simp) (by simp at q ⊢; omega))).trans g0
    have e2 : w'.2 al2 = _ := (f2 al2 (fun q => hne al2 (by simp) (by simp at q ⊢; omega))).trans g2
    have e3 : w'.2 ab2 = _ := (f2 ab2 (fun q => hne ab2 (by simp) (by simp at q ⊢; omega))).trans g3
    have d0 : r2 ≠ al := fun q => hne r2 (by simp) (by simp [q])
    have d2 : al2 ≠ al := fun q => hne al2 (by simp) (by simp [q])
    have d3 : ab2 ≠ al := fun q => hne ab2 (by simp) (by simp [q])
    have hv : vp_in held cap := vp_in_iff.mpr (by omega)
    have hm1 : ¬ held = -1 := fun q => by rw [q, zi_m1] at hh; omega
    have ec : (row * 32).toInt = row.toInt * 32 := by rw [zi_mul (by rw [zi_32]; omega) (by rw [zi_32]; omega), zi_32]
    have ed : (held * 32).toInt = held.toInt * 32 := by rw [zi_mul (by rw [zi_32]; omega) (by rw [zi_32]; omega), zi_32]
    have hg := gl _ (zi_nat_lt hr2)
    have ee : ∀ x : Int32, upd (upd fl held.toNatClampNeg 0) held.toNatClampNeg x held.toNatClampNeg = x := fun x => by simp [upd]
    simp only [Option.toList, List.cons_append, List.nil_append]
    refine z_gn C E tkX5_addCopy (Nat.le_refl _) (Nat.le_refl _) [] 60 ?_
    simp only [↓z_rn_f, ↓z_rn_t, ↓z_rn_0, ↓zr_in0, ↓zr_ins, ↓zr_inn, ↓zr_bt, ↓zr_bf, ↓zr_li0, ↓zr_lis, ↓zr_la0, ↓zr_las, ↓zr_ll0, ↓zr_lls, ↓zr_1i, ↓zr_1l, ↓zr_1a, ↓zr_2i, ↓zr_2l, ↓zr_lsi, ↓zr_ia, ↓zr_aa, ↓zr_dia, ↓zr_iia, ↓zr_lia, ↓zr_d1i, ↓zr_d1r, ↓zr_e1, ↓zr_e2, ↓zr_e0, ↓zr_f0, ↓zr_fs, ↓zr_s0, ↓zr_ss, ↓zr_len, ↓zr_len0, ↓zr_ok0, ↓zr_okn, ↓zr_oki, ↓zr_okr, ↓zr_oks, ↓zr_tt, ↓zr_ar0u, ↓zr_ar0n, ↓zr_ar1u, ↓zr_ar1n, ↓zr_ar2u, ↓zr_ar2n, ↓zr_obu, ↓zr_obn, ↓Nat.reduceAdd, Nat.reduceEqDiff, Nat.add_left_cancel_iff, not_false_eq_true, z_up_up, true_and, ↓sX5_addCopy_0, ↓sX5_addCopy_1, ↓sX5_addCopy_4, ↓sX5_addCopy_5, ↓sX5_addCopy_6, ↓sX5_addCopy_9, ↓sX5_addCopy_12, ↓sX5_addCopy_13, ↓sX5_addCopy_14, ↓sX5_addCopy_15, ↓sX5_addCopy_16, ↓sX5_addCopy_19, ↓sX5_addCopy_20, ↓sX5_addCopy_21, ↓sX5_addCopy_24, ↓sX5_addCopy_25, ↓sX5_addCopy_26, ↓sX5_addCopy_27, ↓sX5_addCopy_30, ↓sX5_addCopy_31, ↓sX5_addCopy_34, ↓sX5_addCopy_35, ↓sX5_addCopy_36, ↓sX5_addCopy_39, ↓sX5_addCopy_40, ↓sX5_addCopy_41, ↓sX5_addCopy_42, ↓sX5_addCopy_43, ↓sX5_addCopy_46, ↓sX5_addCopy_47, ↓sX5_addCopy_49, ↓sX5_addCopy_50, ↓sX5_addCopy_51, ↓sX5_addCopy_54, ↓sX5_addCopy_55, ↓sX5_addCopy_57, ↓sX5_addCopy_58, ↓sX5_addCopy_59, ↓sX5_addCopy_62, ↓sX5_addCopy_63, ↓sX5_addCopy_64, ↓sX5_addCopy_67, ↓sX5_addCopy_68, ↓zh_ob k0, ↓zh_ar0 k1, ↓zh_ar0 k2, ↓zh_ar0 k3, ↓zh_ob e0, ↓zh_ar0 e2, ↓zh_ar0 e3, d0, d2, d3, n2, n3, n4, Ne.symm n6, hm1, ee]
    refine ⟨fun q => q.elim, fun _ => ⟨hr2, hv, hv, ?_⟩⟩
    refine z_acopy (rest := []) C E (by decide +kernel) (by decide +kernel) (by decide +kernel) (by decide +kernel) (f := fb2) (g := fb) (n0 := cap2 * 32) (n1 := cap * 32) (by simp [z_up_2, d3, e3]) (by simp [z_up_2, Ne.symm n6, k3]) (by rw [ec]; omega) (by rw [ed]; omega) hg.1 (by rw [ec]; omega) (by rw [ed]; omega) (by decide) (Nat.le_of_ble_eq_true rfl) dX5_addCopy_64 ?_
    refine z_gn C E tkX5_addCopy (Nat.le_refl _) (Nat.le_refl _) [] 60 ?_
    simp only [↓z_rn_f, ↓z_rn_t, ↓z_rn_0, ↓zr_in0, ↓zr_ins, ↓zr_inn, ↓zr_bt, ↓zr_bf, ↓zr_li0, ↓zr_lis, ↓zr_la0, ↓zr_las, ↓zr_ll0, ↓zr_lls, ↓zr_1i, ↓zr_1l, ↓zr_1a, ↓zr_2i, ↓zr_2l, ↓zr_lsi, ↓zr_ia, ↓zr_aa, ↓zr_dia, ↓zr_iia, ↓zr_lia, ↓zr_d1i, ↓zr_d1r, ↓zr_e1, ↓zr_e2, ↓zr_e0, ↓zr_f0, ↓zr_fs, ↓zr_s0, ↓zr_ss, ↓zr_len, ↓zr_len0, ↓zr_ok0, ↓zr_okn, ↓zr_oki, ↓zr_okr, ↓zr_oks, ↓zr_tt, ↓zr_ar0u, ↓zr_ar0n, ↓zr_ar1u, ↓zr_ar1n, ↓zr_ar2u, ↓zr_ar2n, ↓zr_obu, ↓zr_obn, ↓Nat.reduceAdd, Nat.reduceEqDiff, Nat.add_left_cancel_iff, not_false_eq_true, z_up_up, true_and, ↓sX5_addCopy_0, ↓sX5_addCopy_1, ↓sX5_addCopy_4, ↓sX5_addCopy_5, ↓sX5_addCopy_6, ↓sX5_addCopy_9, ↓sX5_addCopy_12, ↓sX5_addCopy_13, ↓sX5_addCopy_14, ↓sX5_addCopy_15, ↓sX5_addCopy_16, ↓sX5_addCopy_19, ↓sX5_addCopy_20, ↓sX5_addCopy_21, ↓sX5_addCopy_24, ↓sX5_addCopy_25, ↓sX5_addCopy_26, ↓sX5_addCopy_27, ↓sX5_addCopy_30, ↓sX5_addCopy_31, ↓sX5_addCopy_34, ↓sX5_addCopy_35, ↓sX5_addCopy_36, ↓sX5_addCopy_39, ↓sX5_addCopy_40, ↓sX5_addCopy_41, ↓sX5_addCopy_42, ↓sX5_addCopy_43, ↓sX5_addCopy_46, ↓sX5_addCopy_47, ↓sX5_addCopy_49, ↓sX5_addCopy_50, ↓sX5_addCopy_51, ↓sX5_addCopy_54, ↓sX5_addCopy_55, ↓sX5_addCopy_57, ↓sX5_addCopy_58, ↓sX5_addCopy_59, ↓sX5_addCopy_62, ↓sX5_addCopy_63, ↓sX5_addCopy_64, ↓sX5_addCopy_67, ↓sX5_addCopy_68]
    refine hP _ _ ⟨⟨f1, fun k hk => ?_⟩, held, held + 1, upd fn held.toNatClampNeg (fn2 row.toNatClampNeg), upd (upd fl held.toNatClampNeg 0) held.toNatClampNeg (fl2 row.toNatClampNeg), va_cpy fb2 fb (row * 32).toNatClampNeg (held * 32).toNatClampNeg (fl2 row.toNatClampNeg).toNatClampNeg, rfl, ⟨?_, ?_, ?_, ?_⟩, ⟨n1, n2, n3, n4, n5, n6⟩, hcap, kh, fun j hj => ?_⟩
    · simp only [List.mem_cons, List.not_mem_nil, or_false, not_or] at hk
      simp [z_up_2, hk.2.2.1, hk.2.2.2]
      exact f2 k (by simp [hk.1, hk.2.1, hk.2.2.1])
    · simp [z_up_2, n2, n3, k0]
    · simp [z_up_2, n4, n5, k1]
    · simp [z_up_2, n6]
    · simp [z_up_2]
    · unfold upd
      split
      · exact hg
      · exact hl j hj
