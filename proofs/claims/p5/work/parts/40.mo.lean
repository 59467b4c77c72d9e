/-! THE REFERENCE IN ANY STATE -/
def zMob (c : Nat) (σ : Nat → Int32) : zC := .inr (10, [.int (σ 0), .int (σ 1), .int (σ 2), .int (σ 3), .ref (c + 1), .ref (c + 2), .ref (c + 3), .ref (c + 4), .int (σ 8), .ref (c + 5), .ref (c + 6), .int (σ 11), .int (σ 12), .int (σ 13), .int (σ 14), .ref (c + 7), .ref (c + 8), .ref (c + 9), .ref (c + 10), .ref (c + 11), .int (σ 20), .ref (c + 12), .int (σ 22), .ref (c + 13), .ref (c + 14), .ref (c + 15), .ref (c + 16), .ref (c + 17), .ref (c + 18), .ref (c + 19), .int (σ 30), .int (σ 31), .int (σ 32), .int (σ 33), .int (σ 34), .ref (c + 20)])
def zMn (k : Nat) : Nat := match k with
  | 1 => 8
  | 2 => 8
  | 3 => 8
  | 4 => 8
  | 5 => 12800
  | 6 => 400
  | 7 => 4
  | 8 => 4
  | 9 => 2
  | 10 => 2
  | 11 => 2
  | 12 => 1000
  | 13 => 1600
  | 14 => 8
  | 15 => 51200
  | 16 => 1600
  | 17 => 1600
  | 18 => 1600
  | 19 => 1600
  | _ => 9
def zMA (c : Nat) (w : zW) (F : Nat → Nat → Int32) : Prop := ∀ k, 1 ≤ k → k ≤ 20 → w.2 (c + k) = some (.inl (if k = 4 then 1 else 0, zMn k, .inl (F k)))
def zF1 (F : Nat → Nat → Int32) (k : Nat) (g : Nat → Int32) : Nat → Nat → Int32 := fun j => if j = k then g else F j
theorem zMA.up0 {c : Nat} {w : zW} {F : Nat → Nat → Int32} (h : zMA c w F) (x : zC) : zMA c (z_up w c x) F := fun k h1 h2 => by
  rw [z_up_2, if_neg (by omega)]
  exact h k h1 h2
theorem zMA.upk {c : Nat} {w : zW} {F : Nat → Nat → Int32} (h : zMA c w F) (k : Nat) (g : Nat → Int32) (n q : Nat) (hn : zMn k = n) (hq : (if k = 4 then 1 else 0) = q) : zMA c (z_up w (c + k) (.inl (q, n, .inl g))) (zF1 F k g) := fun j h1 h2 => by
  rw [z_up_2]
  unfold zF1
  by_cases e : j = k
  · subst e
    rw [if_pos rfl, if_pos rfl, hn, hq]
  · rw [if_neg (by omega), if_neg e]
    exact h j h1 h2
def zbK (σ : Nat → Int32) (F : Nat → Nat → Int32) : Prop := (0 ≤ (σ 8).toInt ∧ (σ 8).toInt ≤ 8) ∧ ∀ j : Nat, (j : Int) < (σ 8).toInt → 0 ≤ (F 1 j).toInt ∧ 1 ≤ (F 2 j).toInt ∧ (F 1 j).toInt + (F 2 j).toInt ≤ 32
def zbR (σ : Nat → Int32) (F : Nat → Nat → Int32) : Prop := (0 ≤ (σ 11).toInt ∧ (σ 11).toInt ≤ 400) ∧ ∀ j : Nat, j < 400 → 0 ≤ (F 6 j).toInt ∧ (F 6 j).toInt ≤ 32
def zbS (σ : Nat → Int32) (F : Nat → Nat → Int32) : Prop := (0 ≤ (σ 12).toInt ∧ (σ 12).toInt ≤ 31) ∧ (0 ≤ (σ 20).toInt ∧ (σ 20).toInt ≤ 4) ∧ ∀ j : Nat, j < 4 → 0 ≤ (F 7 j).toInt ∧ 0 ≤ (F 8 j).toInt ∧ (F 7 j).toInt + (F 8 j).toInt ≤ 32
def zbL (σ : Nat → Int32) (F : Nat → Nat → Int32) : Prop := (0 ≤ (σ 22).toInt ∧ (σ 22).toInt ≤ 1000) ∧ ∀ j : Nat, (j : Int) < (σ 22).toInt → 1 ≤ (F 12 j).toInt ∧ (F 12 j).toInt ≤ 400
def zbI (F : Nat → Nat → Int32) : Prop := ∀ i : Nat, i < 8 → (0 ≤ (F 14 i).toInt ∧ (F 14 i).toInt ≤ 200) ∧ ∀ k : Nat, (k : Int) < (F 14 i).toInt → 1 ≤ (F 13 (200 * i + k)).toInt ∧ (F 13 (200 * i + k)).toInt ≤ 400
def zbC (F : Nat → Nat → Int32) : Prop := ∀ j : Nat, j < 1600 → (0 ≤ (F 16 j).toInt ∧ (F 16 j).toInt ≤ 32) ∧ (0 ≤ (F 18 j).toInt ∧ (F 18 j).toInt < 1600) ∧ (0 ≤ (F 19 j).toInt ∧ (F 19 j).toInt < 1600)
def zbA (σ : Nat → Int32) : Prop := (1 ≤ (σ 1).toInt ∧ (σ 1).toInt ≤ 1000) ∧ (2 ≤ (σ 2).toInt ∧ (σ 2).toInt ≤ 16) ∧ (0 ≤ (σ 30).toInt ∧ (σ 30).toInt ≤ 1600) ∧ (0 ≤ (σ 31).toInt ∧ (σ 31).toInt ≤ 1600) ∧ (0 ≤ (σ 32).toInt ∧ (σ 32).toInt ≤ 1601) ∧ (σ 3 = 2 → (σ 32).toInt ≤ 1600) ∧ (σ 33 = -1 ∨ (0 ≤ (σ 33).toInt ∧ (σ 33).toInt < 1600))
def zMo (c : Nat) (w : zW) (σ : Nat → Int32) (F : Nat → Nat → Int32) : Prop := w.2 c = some (zMob c σ) ∧ zMA c w F ∧ zbK σ F ∧ zbR σ F ∧ zbS σ F ∧ zbL σ F ∧ zbI F ∧ zbC F ∧ zbA σ
/-- nothing but the reference has changed -/
def zKm (c : Nat) (w w' : zW) : Prop := w'.1 = w.1 ∧ ∀ k, k < c ∨ c + 20 < k → w'.2 k = w.2 k
theorem zKm.rf (c : Nat) (w : zW) : zKm c w w := ⟨rfl, fun _ _ => rfl⟩
theorem zKm.up {c : Nat} {w w' : zW} (h : zKm c w w') (j : Nat) (x : zC) (h1 : c ≤ j) (h2 : j ≤ c + 20) : zKm c w (z_up w' j x) := ⟨h.1, fun k hk => by
  rw [z_up_2, if_neg (by omega)]
  exact h.2 k hk⟩
theorem zKm.tr {c : Nat} {w w' w2 : zW} (h : zKm c w w') (h2 : zKm c w' w2) : zKm c w w2 := ⟨h2.1.trans h.1, fun k hk => (h2.2 k hk).trans (h.2 k hk)⟩
/-- the scalars: one set -/
def sU (σ : Nat → Int32) (k : Nat) (v : Int32) : Nat → Int32 := fun j => if j = k then v else σ j
def zA_areaM (n : Int32) : Int32 := if n.toInt < 0 then 0 else if 1 ≤ n.toInt ∧ n.toInt ≤ 1000 then 1 else -4
set_option maxRecDepth 100000 in
set_option maxHeartbeats 1000000 in
theorem n_area (G : zG) (w : zW) (c : Nat) (n : Int32) (σ : Nat → Int32) (F : Nat → Nat → Int32) (h : zMo c w σ F) :
    z_M G yX9_area wsX9_area zrm0 0 0 [.ref c, .int n] w (fun x w' => zKm c w w' ∧ x = some (.int (zA_areaM n)) ∧ ∃ σ', zMo c w' σ' F ∧ σ' 0 = (if n.toInt < 0 then 1 else 0) ∧ σ' 2 = σ 2 ∧ σ' 11 = σ 11 ∧ σ' 20 = σ 20) := by
  obtain ⟨h0, hA, bK, bR, bS, bL, bI, bC, bA⟩ := id h
  unfold zMob at h0
  refine z_mt (nL := 2) (cc := cX9_area) (ret := some .int) (by decide) rfl (Nat.le_of_ble_eq_true rfl) 0 [some (.ref c), some (.int n)] rfl ?_
  intro P hP Γ C E
  refine z_gn C E tkX9_area (Nat.zero_le _) (Nat.zero_le _) [] 60 ?_
  simp only [↓z_rn_f, ↓z_rn_t, ↓z_rn_0, ↓zr_in0, ↓zr_ins, ↓zr_inn, ↓zr_bt, ↓zr_bf, ↓zr_li0, ↓zr_lis, ↓zr_la0, ↓zr_las, ↓zr_ll0, ↓zr_lls, ↓zr_1i, ↓zr_1l, ↓zr_1a, ↓zr_2i, ↓zr_2l, ↓zr_lsi, ↓zr_ia, ↓zr_aa, ↓zr_dia, ↓zr_iia, ↓zr_lia, ↓zr_d1i, ↓zr_d1r, ↓zr_e1, ↓zr_e2, ↓zr_e0, ↓zr_f0, ↓zr_fs, ↓zr_s0, ↓zr_ss, ↓zr_len, ↓zr_len0, ↓zr_ok0, ↓zr_okn, ↓zr_oki, ↓zr_okr, ↓zr_oks, ↓zr_tt, ↓zr_ar0u, ↓zr_ar0n, ↓zr_ar1u, ↓zr_ar1n, ↓zr_ar2u, ↓zr_ar2n, ↓zr_obu, ↓zr_obn, ↓Nat.reduceAdd, Nat.reduceEqDiff, Nat.add_left_cancel_iff, not_false_eq_true, z_up_up, true_and, ↓sX9_area_0, ↓sX9_area_1, ↓sX9_area_2, ↓sX9_area_5, ↓sX9_area_6, ↓sX9_area_9, ↓sX9_area_10, ↓sX9_area_13, ↓sX9_area_14, ↓sX9_area_17, ↓sX9_area_18, ↓sX9_area_19, ↓sX9_area_20, ↓sX9_area_23, ↓sX9_area_24, ↓sX9_area_27, ↓sX9_area_30, ↓sX9_area_32, ↓sX9_area_33, ↓sX9_area_34, ↓sX9_area_35, ↓sX9_area_38, ↓sX9_area_39, ↓zh_ob h0, zn_a, zn_b, zq1, zq2, zq3, zq4, zq5, zq6, zq7, eq_self, Int32.reduceLT, Int32.reduceLE, Int32.reduceAdd, not_true_eq_false, not_false_eq_true, false_implies, true_implies, and_true, true_and, or_true, true_or]
  repeat' first | refine And.intro ?_ ?_ | (show _ → _; intro _)
  all_goals try simp only [zi_lt, zi_le, zi_eq, Int32.reduceToInt] at *
  all_goals first
    | (exfalso; omega)
    | exact hP _ _ ⟨(zKm.rf _ _).up _ _ (Nat.le_refl _) (by omega), by (unfold zA_areaM; rw [if_pos (by omega)]), sU σ 0 1, ⟨by rw [z_up_2, if_pos rfl]; rfl, hA.up0 _, bK, bR, bS, bL, bI, bC, bA⟩, by rw [if_pos (by omega)]; rfl, rfl, rfl, rfl⟩
    | exact hP _ _ ⟨(zKm.rf _ _).up _ _ (Nat.le_refl _) (by omega), by (unfold zA_areaM; rw [if_neg (by omega), if_neg (by omega)]), sU σ 0 0, ⟨by rw [z_up_2, if_pos rfl]; rfl, hA.up0 _, bK, bR, bS, bL, bI, bC, bA⟩, by rw [if_neg (by omega)]; rfl, rfl, rfl, rfl⟩
    | exact hP _ _ ⟨(zKm.rf _ _).up _ _ (Nat.le_refl _) (by omega), by (unfold zA_areaM; rw [if_neg (by omega), if_pos (by omega)]), sU (sU σ 0 0) 1 n, ⟨by rw [z_up_2, if_pos rfl]; rfl, hA.up0 _, bK, bR, bS, bL, bI, bC, ⟨show 1 ≤ n.toInt ∧ n.toInt ≤ 1000 by omega, bA.2⟩⟩, by rw [if_neg (by omega)]; rfl, rfl, rfl, rfl⟩
set_option maxRecDepth 100000 in
set_option maxHeartbeats 1000000 in
theorem n_ways (G : zG) (w : zW) (c : Nat) (n : Int32) (σ : Nat → Int32) (F : Nat → Nat → Int32) (h : zMo c w σ F) :
    z_M G yX9_ways wsX9_ways zrm0 0 0 [.ref c, .int n] w (fun x w' => zKm c w w' ∧ ((2 ≤ n.toInt ∧ n.toInt ≤ 16 ∧ x = some (.int (σ 2)) ∧ ∃ σ', zMo c w' σ' F ∧ σ' 2 = n ∧ σ' 11 = σ 11 ∧ σ' 20 = σ 20) ∨ (¬ (2 ≤ n.toInt ∧ n.toInt ≤ 16) ∧ x = some (.int (-4)) ∧ ∃ σ', zMo c w' σ' F ∧ σ' 2 = σ 2 ∧ σ' 11 = σ 11 ∧ σ' 20 = σ 20))) := by
  obtain ⟨h0, hA, bK, bR, bS, bL, bI, bC, bA⟩ := id h
  unfold zMob at h0
  refine z_mt (nL := 3) (cc := cX9_ways) (ret := some .int) (by decide) rfl (Nat.le_of_ble_eq_true rfl) 1 [some (.ref c), some (.int n), none] rfl ?_
  intro P hP Γ C E
  refine z_gn C E tkX9_ways (Nat.zero_le _) (Nat.zero_le _) [] 60 ?_
  simp only [↓z_rn_f, ↓z_rn_t, ↓z_rn_0, ↓zr_in0, ↓zr_ins, ↓zr_inn, ↓zr_bt, ↓zr_bf, ↓zr_li0, ↓zr_lis, ↓zr_la0, ↓zr_las, ↓zr_ll0, ↓zr_lls, ↓zr_1i, ↓zr_1l, ↓zr_1a, ↓zr_2i, ↓zr_2l, ↓zr_lsi, ↓zr_ia, ↓zr_aa, ↓zr_dia, ↓zr_iia, ↓zr_lia, ↓zr_d1i, ↓zr_d1r, ↓zr_e1, ↓zr_e2, ↓zr_e0, ↓zr_f0, ↓zr_fs, ↓zr_s0, ↓zr_ss, ↓zr_len, ↓zr_len0, ↓zr_ok0, ↓zr_okn, ↓zr_oki, ↓zr_okr, ↓zr_oks, ↓zr_tt, ↓zr_ar0u, ↓zr_ar0n, ↓zr_ar1u, ↓zr_ar1n, ↓zr_ar2u, ↓zr_ar2n, ↓zr_obu, ↓zr_obn, ↓Nat.reduceAdd, Nat.reduceEqDiff, Nat.add_left_cancel_iff, not_false_eq_true, z_up_up, true_and, ↓sX9_ways_0, ↓sX9_ways_1, ↓sX9_ways_2, ↓sX9_ways_5, ↓sX9_ways_6, ↓sX9_ways_7, ↓sX9_ways_10, ↓sX9_ways_11, ↓sX9_ways_13, ↓sX9_ways_16, ↓sX9_ways_18, ↓sX9_ways_19, ↓sX9_ways_20, ↓sX9_ways_23, ↓sX9_ways_24, ↓sX9_ways_25, ↓sX9_ways_26, ↓sX9_ways_29, ↓sX9_ways_30, ↓zh_ob h0, zn_a, zn_b, zq1, zq2, zq3, zq4, zq5, zq6, zq7, eq_self, Int32.reduceLT, Int32.reduceLE, Int32.reduceAdd, not_true_eq_false, not_false_eq_true, false_implies, true_implies, and_true, true_and, or_true, true_or]
  repeat' first | refine And.intro ?_ ?_ | (show _ → _; intro _)
  all_goals try simp only [zi_lt, zi_le, Int32.reduceToInt] at *
  all_goals first
    | exact hP _ _ ⟨(zKm.rf _ _).up _ _ (Nat.le_refl _) (by omega), Or.inr ⟨by omega, rfl, sU σ 0 0, ⟨by rw [z_up_2, if_pos rfl]; rfl, hA.up0 _, bK, bR, bS, bL, bI, bC, bA⟩, rfl, rfl, rfl⟩⟩
    | exact hP _ _ ⟨(zKm.rf _ _).up _ _ (Nat.le_refl _) (by omega), Or.inl ⟨by omega, by omega, rfl, sU (sU σ 0 0) 2 n, ⟨by rw [z_up_2, if_pos rfl]; rfl, hA.up0 _, bK, bR, bS, bL, bI, bC, ⟨bA.1, show 2 ≤ n.toInt ∧ n.toInt ≤ 16 by omega, bA.2.2⟩⟩, rfl, rfl, rfl⟩⟩
