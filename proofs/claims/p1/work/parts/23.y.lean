def tmX9_value_ (pc : Nat) : zI := match pc with
  | 0 => (1, 0, 0, 1, 0)
  | 1 => (6, 0, 0, 2, 0)
  | 2 => (47, 10, 0, 5, 0)
  | 5 => (1, 0, 0, 6, 0)
  | 6 => (46, 10, 33, 9, 0)
  | 9 => (6, 0, 0, 10, (-1))
  | 10 => (40, 30, 0, 13, 0)
  | 13 => (0, 1, 0, 14, 0)
  | 14 => (36, 30, 0, 17, 0)
  | 17 => (0, 1, 0, 18, 0)
  | 18 => (1, 0, 0, 19, 0)
  | 19 => (46, 10, 26, 22, 0)
  | 22 => (1, 0, 0, 23, 0)
  | 23 => (46, 10, 33, 26, 0)
  | 26 => (48, 0, 0, 27, 0)
  | 27 => (42, 34, 0, 30, 0)
  | 30 => (6, 0, 0, 31, (-1))
  | 31 => (33, 48, 0, 34, 0)
  | 34 => (1, 0, 0, 35, 0)
  | 35 => (46, 10, 25, 38, 0)
  | 38 => (6, 0, 0, 40, 32)
  | 40 => (1, 0, 0, 41, 0)
  | 41 => (46, 10, 33, 44, 0)
  | 44 => (10, 0, 0, 45, 0)
  | 45 => (0, 1, 0, 46, 0)
  | 46 => (8, 0, 0, 47, 0)
  | 47 => (48, 0, 0, 48, 0)
  | 48 => (53, 0, 0, 49, 0)
  | _ => (99, 0, 0, 0, 0)
def tX9_value_ (pc : Nat) : zI := if pc < 49 then tmX9_value_ pc else (99, 0, 0, 0, 0)
theorem tkX9_value_ : z_tab RX9 wsX9_value_ 2 (some .int) cX9_value_ 49 tX9_value_ := z_tab_of (tm := tmX9_value_) (by decide +kernel)
theorem sX9_value__0 (lv : zL) (st : List Value) (w : zW) (nx K : Nat → zL → List Value → zW → Prop) (Rt : Option Value → zW → Prop) : z_st1 (tX9_value_ 0) 0 lv st w nx K Rt = (z_la lv 0 (fun x => nx 1 lv (.ref x :: st) w)) := id rfl
theorem sX9_value__1 (lv : zL) (st : List Value) (w : zW) (nx K : Nat → zL → List Value → zW → Prop) (Rt : Option Value → zW → Prop) : z_st1 (tX9_value_ 1) 1 lv st w nx K Rt = (nx 2 lv (.int (0 : Int32) :: st) w) := id rfl
theorem sX9_value__2 (lv : zL) (st : List Value) (w : zW) (nx K : Nat → zL → List Value → zW → Prop) (Rt : Option Value → zW → Prop) : z_st1 (tX9_value_ 2) 2 lv st w nx K Rt = (z_ia st (fun x i r => z_ob w x 10 (fun fs => 0 < fs.length ∧ nx 5 lv r (z_up w x (.inr (10, fs.set 0 (.int i))))))) := id rfl
theorem sX9_value__5 (lv : zL) (st : List Value) (w : zW) (nx K : Nat → zL → List Value → zW → Prop) (Rt : Option Value → zW → Prop) : z_st1 (tX9_value_ 5) 5 lv st w nx K Rt = (z_la lv 0 (fun x => nx 6 lv (.ref x :: st) w)) := id rfl
theorem sX9_value__6 (lv : zL) (st : List Value) (w : zW) (nx K : Nat → zL → List Value → zW → Prop) (Rt : Option Value → zW → Prop) : z_st1 (tX9_value_ 6) 6 lv st w nx K Rt = (z_1a st (fun x r => z_ob w x 10 (fun fs => z_fl fs 33 (fun u => nx 9 lv (u :: r) w)))) := id rfl
theorem sX9_value__9 (lv : zL) (st : List Value) (w : zW) (nx K : Nat → zL → List Value → zW → Prop) (Rt : Option Value → zW → Prop) : z_st1 (tX9_value_ 9) 9 lv st w nx K Rt = (nx 10 lv (.int (-1 : Int32) :: st) w) := id rfl
theorem sX9_value__10 (lv : zL) (st : List Value) (w : zW) (nx K : Nat → zL → List Value → zW → Prop) (Rt : Option Value → zW → Prop) : z_st1 (tX9_value_ 10) 10 lv st w nx K Rt = (z_2i st (fun x y r => (x = y → nx 30 lv r w) ∧ (¬ x = y → nx 13 lv r w))) := id rfl
theorem sX9_value__13 (lv : zL) (st : List Value) (w : zW) (nx K : Nat → zL → List Value → zW → Prop) (Rt : Option Value → zW → Prop) : z_st1 (tX9_value_ 13) 13 lv st w nx K Rt = (z_li lv 1 (fun x => nx 14 lv (.int x :: st) w)) := id rfl
theorem sX9_value__14 (lv : zL) (st : List Value) (w : zW) (nx K : Nat → zL → List Value → zW → Prop) (Rt : Option Value → zW → Prop) : z_st1 (tX9_value_ 14) 14 lv st w nx K Rt = (z_1i st (fun x r => (x < 0 → nx 30 lv r w) ∧ (¬ x < 0 → nx 17 lv r w))) := id rfl
theorem sX9_value__17 (lv : zL) (st : List Value) (w : zW) (nx K : Nat → zL → List Value → zW → Prop) (Rt : Option Value → zW → Prop) : z_st1 (tX9_value_ 17) 17 lv st w nx K Rt = (z_li lv 1 (fun x => nx 18 lv (.int x :: st) w)) := id rfl
theorem sX9_value__18 (lv : zL) (st : List Value) (w : zW) (nx K : Nat → zL → List Value → zW → Prop) (Rt : Option Value → zW → Prop) : z_st1 (tX9_value_ 18) 18 lv st w nx K Rt = (z_la lv 0 (fun x => nx 19 lv (.ref x :: st) w)) := id rfl
theorem sX9_value__19 (lv : zL) (st : List Value) (w : zW) (nx K : Nat → zL → List Value → zW → Prop) (Rt : Option Value → zW → Prop) : z_st1 (tX9_value_ 19) 19 lv st w nx K Rt = (z_1a st (fun x r => z_ob w x 10 (fun fs => z_fl fs 26 (fun u => nx 22 lv (u :: r) w)))) := id rfl
theorem sX9_value__22 (lv : zL) (st : List Value) (w : zW) (nx K : Nat → zL → List Value → zW → Prop) (Rt : Option Value → zW → Prop) : z_st1 (tX9_value_ 22) 22 lv st w nx K Rt = (z_la lv 0 (fun x => nx 23 lv (.ref x :: st) w)) := id rfl
theorem sX9_value__23 (lv : zL) (st : List Value) (w : zW) (nx K : Nat → zL → List Value → zW → Prop) (Rt : Option Value → zW → Prop) : z_st1 (tX9_value_ 23) 23 lv st w nx K Rt = (z_1a st (fun x r => z_ob w x 10 (fun fs => z_fl fs 33 (fun u => nx 26 lv (u :: r) w)))) := id rfl
theorem sX9_value__26 (lv : zL) (st : List Value) (w : zW) (nx K : Nat → zL → List Value → zW → Prop) (Rt : Option Value → zW → Prop) : z_st1 (tX9_value_ 26) 26 lv st w nx K Rt = (z_ia st (fun x i r => z_ar0 w x (fun m g => vp_in i m ∧ nx 27 lv (.int (g i.toNatClampNeg) :: r) w))) := id rfl
theorem sX9_value__27 (lv : zL) (st : List Value) (w : zW) (nx K : Nat → zL → List Value → zW → Prop) (Rt : Option Value → zW → Prop) : z_st1 (tX9_value_ 27) 27 lv st w nx K Rt = (z_2i st (fun x y r => (x < y → nx 34 lv r w) ∧ (¬ x < y → nx 30 lv r w))) := id rfl
theorem sX9_value__30 (lv : zL) (st : List Value) (w : zW) (nx K : Nat → zL → List Value → zW → Prop) (Rt : Option Value → zW → Prop) : z_st1 (tX9_value_ 30) 30 lv st w nx K Rt = (nx 31 lv (.int (-1 : Int32) :: st) w) := id rfl
theorem sX9_value__31 (lv : zL) (st : List Value) (w : zW) (nx K : Nat → zL → List Value → zW → Prop) (Rt : Option Value → zW → Prop) : z_st1 (tX9_value_ 31) 31 lv st w nx K Rt = (nx 48 lv st w) := id rfl
theorem sX9_value__34 (lv : zL) (st : List Value) (w : zW) (nx K : Nat → zL → List Value → zW → Prop) (Rt : Option Value → zW → Prop) : z_st1 (tX9_value_ 34) 34 lv st w nx K Rt = (z_la lv 0 (fun x => nx 35 lv (.ref x :: st) w)) := id rfl
theorem sX9_value__35 (lv : zL) (st : List Value) (w : zW) (nx K : Nat → zL → List Value → zW → Prop) (Rt : Option Value → zW → Prop) : z_st1 (tX9_value_ 35) 35 lv st w nx K Rt = (z_1a st (fun x r => z_ob w x 10 (fun fs => z_fl fs 25 (fun u => nx 38 lv (u :: r) w)))) := id rfl
theorem sX9_value__38 (lv : zL) (st : List Value) (w : zW) (nx K : Nat → zL → List Value → zW → Prop) (Rt : Option Value → zW → Prop) : z_st1 (tX9_value_ 38) 38 lv st w nx K Rt = (nx 40 lv (.int (32 : Int32) :: st) w) := id rfl
theorem sX9_value__40 (lv : zL) (st : List Value) (w : zW) (nx K : Nat → zL → List Value → zW → Prop) (Rt : Option Value → zW → Prop) : z_st1 (tX9_value_ 40) 40 lv st w nx K Rt = (z_la lv 0 (fun x => nx 41 lv (.ref x :: st) w)) := id rfl
theorem sX9_value__41 (lv : zL) (st : List Value) (w : zW) (nx K : Nat → zL → List Value → zW → Prop) (Rt : Option Value → zW → Prop) : z_st1 (tX9_value_ 41) 41 lv st w nx K Rt = (z_1a st (fun x r => z_ob w x 10 (fun fs => z_fl fs 33 (fun u => nx 44 lv (u :: r) w)))) := id rfl
theorem sX9_value__44 (lv : zL) (st : List Value) (w : zW) (nx K : Nat → zL → List Value → zW → Prop) (Rt : Option Value → zW → Prop) : z_st1 (tX9_value_ 44) 44 lv st w nx K Rt = (z_2i st (fun x y r => nx 45 lv (.int (x * y) :: r) w)) := id rfl
theorem sX9_value__45 (lv : zL) (st : List Value) (w : zW) (nx K : Nat → zL → List Value → zW → Prop) (Rt : Option Value → zW → Prop) : z_st1 (tX9_value_ 45) 45 lv st w nx K Rt = (z_li lv 1 (fun x => nx 46 lv (.int x :: st) w)) := id rfl
theorem sX9_value__46 (lv : zL) (st : List Value) (w : zW) (nx K : Nat → zL → List Value → zW → Prop) (Rt : Option Value → zW → Prop) : z_st1 (tX9_value_ 46) 46 lv st w nx K Rt = (z_2i st (fun x y r => nx 47 lv (.int (x + y) :: r) w)) := id rfl
theorem sX9_value__47 (lv : zL) (st : List Value) (w : zW) (nx K : Nat → zL → List Value → zW → Prop) (Rt : Option Value → zW → Prop) : z_st1 (tX9_value_ 47) 47 lv st w nx K Rt = (z_ia st (fun x i r => z_ar0 w x (fun m g => vp_in i m ∧ nx 48 lv (.int (g i.toNatClampNeg) :: r) w))) := id rfl
theorem sX9_value__48 (lv : zL) (st : List Value) (w : zW) (nx K : Nat → zL → List Value → zW → Prop) (Rt : Option Value → zW → Prop) : z_st1 (tX9_value_ 48) 48 lv st w nx K Rt = (z_e1 st (fun x => Rt (some (.int x)) w)) := id rfl
