/-! NEW OBJECTS ARE IN THE LAW'S STATE -/
/-- the class as its constructor leaves it, at b -/
def zFr (b : Nat) (w : zW) : Prop := ∀ (k : Nat) (c : zC), (zX8c b)[k]? = some c → w.2 (b + k) = some c
/-- the reference as its constructor leaves it, at c -/
def zFm (c : Nat) (w : zW) : Prop := ∀ (k : Nat) (d : zC), (zX9c c)[k]? = some d → w.2 (c + k) = some d
theorem zls_fr (w00 : zW) (b : Nat) (x : zC) : zFr b (z_ls w00 b (zX8c b ++ zX9c (b + 32) ++ [x])) := fun k c h => by
  have hlt := (List.getElem?_eq_some_iff.mp h).1
  refine zl_at ?_
  rw [List.append_assoc, List.getElem?_append_left hlt]
  exact h
theorem zls_fm (w00 : zW) (b : Nat) (x : zC) : zFm (b + 32) (z_ls w00 b (zX8c b ++ zX9c (b + 32) ++ [x])) := fun k c h => by
  have hlt := (List.getElem?_eq_some_iff.mp h).1
  rw [Nat.add_assoc]
  refine zl_at ?_
  have h8 : (zX8c b).length = 32 := rfl
  rw [List.append_assoc, List.getElem?_append_right (by omega), h8, Nat.add_sub_cancel_left, List.getElem?_append_left hlt]
  exact h
theorem zls_fo (w00 : zW) (b : Nat) (x : zC) : (z_ls w00 b (zX8c b ++ zX9c (b + 32) ++ [x])).2 (b + 53) = some x := zl_at rfl
theorem z_00 : 0 ≤ (0 : Int32).toInt ∧ (0 : Int32).toInt ≤ 32 := by decide
theorem zRo.new {w : zW} {r an al ab cap : Nat} (h0 : w.2 r = some (.inr (6, [.int (nI cap), .ref an, .ref al, .ref ab, .int 0]))) (h1 : w.2 an = some (.inl (0, cap, .inl (fun _ => 0)))) (h2 : w.2 al = some (.inl (0, cap, .inl (fun _ => 0)))) (h3 : w.2 ab = some (.inl (0, cap * 32, .inl (fun _ => 0)))) (hd : r ≠ an ∧ r ≠ al ∧ r ≠ ab ∧ an ≠ al ∧ an ≠ ab ∧ al ≠ ab) (hc : cap ≤ 1600) : zRo w r an al ab cap 0 (fun _ => 0) (fun _ => 0) (fun _ => 0) :=
  ⟨⟨h0, h1, h2, h3⟩, hd, hc, ⟨by decide, by rw [zi_0]; omega⟩, fun _ _ => z_00⟩
theorem zCl.new {b : Nat} {w : zW} (h : zFr b w) : zCl b w 2 0 0 (fun _ => 0) := by
  refine ⟨⟨0, 8, 0, 0, -1, 0, b + 30, b + 31, h 0 _ rfl, ⟨by decide, by decide, by decide, by decide, Or.inl ⟨rfl, rfl⟩⟩⟩, ?_, ?_, ?_, ?_, ?_, ?_, ?_, ?_, ?_, ?_, ?_, ?_⟩
  · exact ⟨0, _, _, _, zRo.new (h 1 _ rfl) (h 2 _ rfl) (h 3 _ rfl) (h 4 _ rfl) (by omega) (by omega)⟩
  · exact ⟨_, _, zRo.new (h 10 _ rfl) (h 11 _ rfl) (h 12 _ rfl) (h 13 _ rfl) (by omega) (by omega)⟩
  · exact ⟨0, ⟨_, _, _, _, h 5 _ rfl, h 6 _ rfl, h 7 _ rfl, h 8 _ rfl, h 9 _ rfl⟩, by decide, by decide⟩
  · exact ⟨0, 0, 0, ⟨_, _, _, _, h 14 _ rfl, h 15 _ rfl, h 16 _ rfl, h 17 _ rfl, h 18 _ rfl, fun _ _ => by decide, fun _ _ => by decide⟩, by decide, by decide, Or.inl rfl⟩
  · exact ⟨_, _, _, h 19 _ rfl⟩
  · exact ⟨⟨_, _, _, h 20 _ rfl, h 21 _ rfl, h 22 _ rfl, h 23 _ rfl, fun _ _ => by decide⟩, by decide, by decide⟩
  · exact ⟨_, _, _, h 24 _ rfl⟩
  · exact ⟨_, _, _, h 25 _ rfl⟩
  · exact ⟨_, _, _, h 26 _ rfl, h 27 _ rfl, h 28 _ rfl, fun _ _ => by decide⟩
  · exact ⟨_, h 29 _ rfl⟩
  · exact ⟨_, _, _, _, _, h 30 _ rfl⟩
  · exact ⟨_, _, _, _, _, h 31 _ rfl⟩
def zs0 (k : Nat) : Int32 := if k = 1 then 8 else if k = 2 then 2 else if k = 13 then 4 else if k = 33 then -1 else 0
theorem zMo.new {c : Nat} {w : zW} (h : zFm c w) : zMo c w zs0 (fun _ _ => 0) := by
  refine ⟨h 0 _ rfl, fun k h1 h2 => ?_, ⟨by decide, fun j hj => ?_⟩, ⟨by decide, fun _ _ => z_00⟩, ⟨by decide, by decide, fun _ _ => show 0 ≤ (0 : Int32).toInt ∧ 0 ≤ (0 : Int32).toInt ∧ (0 : Int32).toInt + (0 : Int32).toInt ≤ 32 by decide⟩, ⟨by decide, fun j hj => ?_⟩, fun i hi => ⟨show 0 ≤ (0 : Int32).toInt ∧ (0 : Int32).toInt ≤ 200 by decide, fun k hk => ?_⟩, fun j hj => show (0 ≤ (0 : Int32).toInt ∧ (0 : Int32).toInt ≤ 32) ∧ (0 ≤ (0 : Int32).toInt ∧ (0 : Int32).toInt < 1600) ∧ (0 ≤ (0 : Int32).toInt ∧ (0 : Int32).toInt < 1600) by decide, ⟨by decide, by decide, by decide, by decide, by decide, fun _ => by decide, Or.inl rfl⟩⟩
  · rcases (show k = 1 ∨ k = 2 ∨ k = 3 ∨ k = 4 ∨ k = 5 ∨ k = 6 ∨ k = 7 ∨ k = 8 ∨ k = 9 ∨ k = 10 ∨ k = 11 ∨ k = 12 ∨ k = 13 ∨ k = 14 ∨ k = 15 ∨ k = 16 ∨ k = 17 ∨ k = 18 ∨ k = 19 ∨ k = 20 by omega) with rfl | rfl | rfl | rfl | rfl | rfl | rfl | rfl | rfl | rfl | rfl | rfl | rfl | rfl | rfl | rfl | rfl | rfl | rfl | rfl
    all_goals exact h _ _ rfl
  · have e : (zs0 8).toInt = 0 := by decide
    rw [e] at hj
    omega
  · have e : (zs0 22).toInt = 0 := by decide
    rw [e] at hj
    omega
  · have e : (k : Int) < (0 : Int32).toInt := hk
    rw [zi_0] at e
    omega
theorem zLs.new {b : Nat} {w : zW} (hF : zFr b w) (hM : zFm (b + 32) w) (hO : zO b w) (hw : b + 54 ≤ w.1) : zLs b w :=
  ⟨2, 0, 0, fun _ => 0, zs0, fun _ _ => 0, zCl.new hF, zMo.new hM, hO, hw, rfl, rfl, rfl, fun j _ => by split <;> rfl⟩
