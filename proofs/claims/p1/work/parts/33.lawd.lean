set_option maxRecDepth 100000 in
set_option maxHeartbeats 2000000 in
theorem law_sw {G : zG} {Γ : zΓ} {P : Option Value → zW → Prop} {nm : String} {sb : Nat} {xs : Nat → Int32} {b : Nat} {w : zW} (H : zLw G Γ P nm sb xs b w) : ∀ v : Int32, z_J G 7 Γ w 54 149066 39 [some (.ref sb), some (.ref b), some (.ref (b + 32)), some (.ref (b + 53)), some (.int 0), none, none] [.int v] := by
  obtain ⟨C, E, hP, ⟨hX, hbl, hbA⟩, hF, hM, ⟨fo, hO⟩, hw, hG, hts'⟩ := id H
  have h0 : w.2 b = some _ := hF 0 _ rfl
  intro v
  by_cases hc : 0 ≤ v.toInt ∧ v.toInt ≤ 17
  · rcases (show v.toInt = 0 ∨ v.toInt = 1 ∨ v.toInt = 2 ∨ v.toInt = 3 ∨ v.toInt = 4 ∨ v.toInt = 5 ∨ v.toInt = 6 ∨ v.toInt = 7 ∨ v.toInt = 8 ∨ v.toInt = 9 ∨ v.toInt = 10 ∨ v.toInt = 11 ∨ v.toInt = 12 ∨ v.toInt = 13 ∨ v.toInt = 14 ∨ v.toInt = 15 ∨ v.toInt = 16 ∨ v.toInt = 17 by omega) with e | e | e | e | e | e | e | e | e | e | e | e | e | e | e | e | e | e
    · exact z_tsIn (tgt := 124) C dL_law_39 (by omega) (by omega) (by rw [e]; rfl) (by decide) (law_0 H)
    · exact z_tsIn (tgt := 180) C dL_law_39 (by omega) (by omega) (by rw [e]; rfl) (by decide) (law_1 H)
    · exact z_tsIn (tgt := 205) C dL_law_39 (by omega) (by omega) (by rw [e]; rfl) (by decide) (law_2 H)
    · exact z_tsIn (tgt := 282) C dL_law_39 (by omega) (by omega) (by rw [e]; rfl) (by decide) (law_3 H)
    · exact z_tsIn (tgt := 295) C dL_law_39 (by omega) (by omega) (by rw [e]; rfl) (by decide) (law_4 H)
    · exact z_tsIn (tgt := 344) C dL_law_39 (by omega) (by omega) (by rw [e]; rfl) (by decide) (law_5 H)
    · exact z_tsIn (tgt := 393) C dL_law_39 (by omega) (by omega) (by rw [e]; rfl) (by decide) (law_6 H)
    · exact z_tsIn (tgt := 430) C dL_law_39 (by omega) (by omega) (by rw [e]; rfl) (by decide) (law_7 H)
    · exact z_tsIn (tgt := 479) C dL_law_39 (by omega) (by omega) (by rw [e]; rfl) (by decide) (law_8 H)
    · exact z_tsIn (tgt := 492) C dL_law_39 (by omega) (by omega) (by rw [e]; rfl) (by decide) (law_9 H)
    · exact z_tsIn (tgt := 517) C dL_law_39 (by omega) (by omega) (by rw [e]; rfl) (by decide) (law_10 H)
    · exact z_tsIn (tgt := 589) C dL_law_39 (by omega) (by omega) (by rw [e]; rfl) (by decide) (law_11 H)
    · exact z_tsIn (tgt := 602) C dL_law_39 (by omega) (by omega) (by rw [e]; rfl) (by decide) (law_12 H)
    · exact z_tsIn (tgt := 627) C dL_law_39 (by omega) (by omega) (by rw [e]; rfl) (by decide) (law_13 H)
    · exact z_tsIn (tgt := 664) C dL_law_39 (by omega) (by omega) (by rw [e]; rfl) (by decide) (law_14 H)
    · exact z_tsIn (tgt := 677) C dL_law_39 (by omega) (by omega) (by rw [e]; rfl) (by decide) (law_15 H)
    · exact z_tsIn (tgt := 745) C dL_law_39 (by omega) (by omega) (by rw [e]; rfl) (by decide) (law_16 H)
    · exact z_tsIn (tgt := 758) C dL_law_39 (by omega) (by omega) (by rw [e]; rfl) (by decide) (law_17 H)
  · exact z_tsOut (tgt := 783) C dL_law_39 (by omega) (by decide) (law_fin H _ _ _ (Nat.le_of_ble_eq_true rfl) (Nat.le_of_ble_eq_true rfl) _ _)
