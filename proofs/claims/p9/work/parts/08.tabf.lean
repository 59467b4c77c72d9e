def tmX9_next (pc : Nat) : zI := match pc with
  | 0 => (1, 0, 0, 1, 0)
  | 1 => (6, 0, 0, 2, 0)
  | 2 => (47, 10, 0, 5, 0)
  | 5 => (1, 0, 0, 6, 0)
  | 6 => (46, 10, 3, 9, 0)
  | 9 => (6, 0, 0, 10, 2)
  | 10 => (40, 16, 0, 13, 0)
  | 13 => (6, 0, 0, 15, (-5))
  | 15 => (53, 0, 0, 16, 0)
  | 16 => (1, 0, 0, 17, 0)
  | 17 => (1, 0, 0, 18, 0)
  | 18 => (46, 10, 32, 21, 0)
  | 21 => (1, 0, 0, 22, 0)
  | 22 => (46, 10, 31, 25, 0)
  | 25 => (43, 40, 0, 28, 0)
  | 28 => (1, 0, 0, 29, 0)
  | 29 => (46, 10, 29, 32, 0)
  | 32 => (1, 0, 0, 33, 0)
  | 33 => (46, 10, 32, 36, 0)
  | 36 => (48, 0, 0, 37, 0)
  | 37 => (33, 41, 0, 40, 0)
  | 40 => (6, 0, 0, 41, (-1))
  | 41 => (47, 10, 33, 44, 0)
  | 44 => (1, 0, 0, 45, 0)
  | 45 => (29, 0, 0, 46, 0)
  | 46 => (46, 10, 32, 49, 0)
  | 49 => (6, 0, 0, 50, 1)
  | 50 => (8, 0, 0, 51, 0)
  | 51 => (47, 10, 32, 54, 0)
  | 54 => (1, 0, 0, 55, 0)
  | 55 => (46, 10, 33, 58, 0)
  | 58 => (6, 0, 0, 59, (-1))
  | 59 => (41, 67, 0, 62, 0)
  | 62 => (1, 0, 0, 63, 0)
  | 63 => (6, 0, 0, 64, 0)
  | 64 => (47, 10, 3, 67, 0)
  | 67 => (1, 0, 0, 68, 0)
  | 68 => (46, 10, 33, 71, 0)
  | 71 => (6, 0, 0, 72, (-1))
  | 72 => (41, 79, 0, 75, 0)
  | 75 => (6, 0, 0, 76, 0)
  | 76 => (33, 88, 0, 79, 0)
  | 79 => (1, 0, 0, 80, 0)
  | 80 => (46, 10, 27, 83, 0)
  | 83 => (1, 0, 0, 84, 0)
  | 84 => (46, 10, 33, 87, 0)
  | 87 => (48, 0, 0, 88, 0)
  | 88 => (53, 0, 0, 89, 0)
  | _ => (99, 0, 0, 0, 0)
def tX9_next (pc : Nat) : zI := if pc < 89 then tmX9_next pc else (99, 0, 0, 0, 0)
theorem tkX9_next : z_tab RX9 wsX9_next 1 (some .int) cX9_next 89 tX9_next := z_tab_of (tm := tmX9_next) (by decide +kernel)
theorem sX9_next_0 (lv : zL) (st : List Value) (w : zW) (nx K : Nat → zL → List Value → zW → Prop) (Rt : Option Value → zW → Prop) : z_st1 (tX9_next 0) 0 lv st w nx K Rt = (z_la lv 0 (fun x => nx 1 lv (.ref x :: st) w)) := id rfl
theorem sX9_next_1 (lv : zL) (st : List Value) (w : zW) (nx K : Nat → zL → List Value → zW → Prop) (Rt : Option Value → zW → Prop) : z_st1 (tX9_next 1) 1 lv st w nx K Rt = (nx 2 lv (.int (0 : Int32) :: st) w) := id rfl
theorem sX9_next_2 (lv : zL) (st : List Value) (w : zW) (nx K : Nat → zL → List Value → zW → Prop) (Rt : Option Value → zW → Prop) : z_st1 (tX9_next 2) 2 lv st w nx K Rt = (z_ia st (fun x i r => z_ob w x 10 (fun fs => 0 < fs.length ∧ nx 5 lv r (z_up w x (.inr (10, fs.set 0 (.int i))))))) := id rfl
theorem sX9_next_5 (lv : zL) (st : List Value) (w : zW) (nx K : Nat → zL → List Value → zW → Prop) (Rt : Option Value → zW → Prop) : z_st1 (tX9_next 5) 5 lv st w nx K Rt = (z_la lv 0 (fun x => nx 6 lv (.ref x :: st) w)) := id rfl
theorem sX9_next_6 (lv : zL) (st : List Value) (w : zW) (nx K : Nat → zL → List Value → zW → Prop) (Rt : Option Value → zW → Prop) : z_st1 (tX9_next 6) 6 lv st w nx K Rt = (z_1a st (fun x r => z_ob w x 10 (fun fs => z_fl fs 3 (fun u => nx 9 lv (u :: r) w)))) := id rfl
theorem sX9_next_9 (lv : zL) (st : List Value) (w : zW) (nx K : Nat → zL → List Value → zW → Prop) (Rt : Option Value → zW → Prop) : z_st1 (tX9_next 9) 9 lv st w nx K Rt = (nx 10 lv (.int (2 : Int32) :: st) w) := id rfl
theorem sX9_next_10 (lv : zL) (st : List Value) (w : zW) (nx K : Nat → zL → List Value → zW → Prop) (Rt : Option Value → zW → Prop) : z_st1 (tX9_next 10) 10 lv st w nx K Rt = (z_2i st (fun x y r => (x = y → nx 16 lv r w) ∧ (¬ x = y → nx 13 lv r w))) := id rfl
theorem sX9_next_13 (lv : zL) (st : List Value) (w : zW) (nx K : Nat → zL → List Value → zW → Prop) (Rt : Option Value → zW → Prop) : z_st1 (tX9_next 13) 13 lv st w nx K Rt = (nx 15 lv (.int (-5 : Int32) :: st) w) := id rfl
theorem sX9_next_15 (lv : zL) (st : List Value) (w : zW) (nx K : Nat → zL → List Value → zW → Prop) (Rt : Option Value → zW → Prop) : z_st1 (tX9_next 15) 15 lv st w nx K Rt = (z_e1 st (fun x => Rt (some (.int x)) w)) := id rfl
theorem sX9_next_16 (lv : zL) (st : List Value) (w : zW) (nx K : Nat → zL → List Value → zW → Prop) (Rt : Option Value → zW → Prop) : z_st1 (tX9_next 16) 16 lv st w nx K Rt = (z_la lv 0 (fun x => nx 17 lv (.ref x :: st) w)) := id rfl
theorem sX9_next_17 (lv : zL) (st : List Value) (w : zW) (nx K : Nat → zL → List Value → zW → Prop) (Rt : Option Value → zW → Prop) : z_st1 (tX9_next 17) 17 lv st w nx K Rt = (z_la lv 0 (fun x => nx 18 lv (.ref x :: st) w)) := id rfl
theorem sX9_next_18 (lv : zL) (st : List Value) (w : zW) (nx K : Nat → zL → List Value → zW → Prop) (Rt : Option Value → zW → Prop) : z_st1 (tX9_next 18) 18 lv st w nx K Rt = (z_1a st (fun x r => z_ob w x 10 (fun fs => z_fl fs 32 (fun u => nx 21 lv (u :: r) w)))) := id rfl
theorem sX9_next_21 (lv : zL) (st : List Value) (w : zW) (nx K : Nat → zL → List Value → zW → Prop) (Rt : Option Value → zW → Prop) : z_st1 (tX9_next 21) 21 lv st w nx K Rt = (z_la lv 0 (fun x => nx 22 lv (.ref x :: st) w)) := id rfl
theorem sX9_next_22 (lv : zL) (st : List Value) (w : zW) (nx K : Nat → zL → List Value → zW → Prop) (Rt : Option Value → zW → Prop) : z_st1 (tX9_next 22) 22 lv st w nx K Rt = (z_1a st (fun x r => z_ob w x 10 (fun fs => z_fl fs 31 (fun u => nx 25 lv (u :: r) w)))) := id rfl
theorem sX9_next_25 (lv : zL) (st : List Value) (w : zW) (nx K : Nat → zL → List Value → zW → Prop) (Rt : Option Value → zW → Prop) : z_st1 (tX9_next 25) 25 lv st w nx K Rt = (z_2i st (fun x y r => (y ≤ x → nx 40 lv r w) ∧ (¬ y ≤ x → nx 28 lv r w))) := id rfl
theorem sX9_next_28 (lv : zL) (st : List Value) (w : zW) (nx K : Nat → zL → List Value → zW → Prop) (Rt : Option Value → zW → Prop) : z_st1 (tX9_next 28) 28 lv st w nx K Rt = (z_la lv 0 (fun x => nx 29 lv (.ref x :: st) w)) := id rfl
theorem sX9_next_29 (lv : zL) (st : List Value) (w : zW) (nx K : Nat → zL → List Value → zW → Prop) (Rt : Option Value → zW → Prop) : z_st1 (tX9_next 29) 29 lv st w nx K Rt = (z_1a st (fun x r => z_ob w x 10 (fun fs => z_fl fs 29 (fun u => nx 32 lv (u :: r) w)))) := id rfl
theorem sX9_next_32 (lv : zL) (st : List Value) (w : zW) (nx K : Nat → zL → List Value → zW → Prop) (Rt : Option Value → zW → Prop) : z_st1 (tX9_next 32) 32 lv st w nx K Rt = (z_la lv 0 (fun x => nx 33 lv (.ref x :: st) w)) := id rfl
theorem sX9_next_33 (lv : zL) (st : List Value) (w : zW) (nx K : Nat → zL → List Value → zW → Prop) (Rt : Option Value → zW → Prop) : z_st1 (tX9_next 33) 33 lv st w nx K Rt = (z_1a st (fun x r => z_ob w x 10 (fun fs => z_fl fs 32 (fun u => nx 36 lv (u :: r) w)))) := id rfl
theorem sX9_next_36 (lv : zL) (st : List Value) (w : zW) (nx K : Nat → zL → List Value → zW → Prop) (Rt : Option Value → zW → Prop) : z_st1 (tX9_next 36) 36 lv st w nx K Rt = (z_ia st (fun x i r => z_ar0 w x (fun m g => vp_in i m ∧ nx 37 lv (.int (g i.toNatClampNeg) :: r) w))) := id rfl
theorem sX9_next_37 (lv : zL) (st : List Value) (w : zW) (nx K : Nat → zL → List Value → zW → Prop) (Rt : Option Value → zW → Prop) : z_st1 (tX9_next 37) 37 lv st w nx K Rt = (nx 41 lv st w) := id rfl
theorem sX9_next_40 (lv : zL) (st : List Value) (w : zW) (nx K : Nat → zL → List Value → zW → Prop) (Rt : Option Value → zW → Prop) : z_st1 (tX9_next 40) 40 lv st w nx K Rt = (nx 41 lv (.int (-1 : Int32) :: st) w) := id rfl
theorem sX9_next_41 (lv : zL) (st : List Value) (w : zW) (nx K : Nat → zL → List Value → zW → Prop) (Rt : Option Value → zW → Prop) : z_st1 (tX9_next 41) 41 lv st w nx K Rt = (z_ia st (fun x i r => z_ob w x 10 (fun fs => 33 < fs.length ∧ nx 44 lv r (z_up w x (.inr (10, fs.set 33 (.int i))))))) := id rfl
theorem sX9_next_44 (lv : zL) (st : List Value) (w : zW) (nx K : Nat → zL → List Value → zW → Prop) (Rt : Option Value → zW → Prop) : z_st1 (tX9_next 44) 44 lv st w nx K Rt = (z_la lv 0 (fun x => nx 45 lv (.ref x :: st) w)) := id rfl
theorem sX9_next_45 (lv : zL) (st : List Value) (w : zW) (nx K : Nat → zL → List Value → zW → Prop) (Rt : Option Value → zW → Prop) : z_st1 (tX9_next 45) 45 lv st w nx K Rt = (z_d1 st (fun x r => nx 46 lv (x :: x :: r) w)) := id rfl
theorem sX9_next_46 (lv : zL) (st : List Value) (w : zW) (nx K : Nat → zL → List Value → zW → Prop) (Rt : Option Value → zW → Prop) : z_st1 (tX9_next 46) 46 lv st w nx K Rt = (z_1a st (fun x r => z_ob w x 10 (fun fs => z_fl fs 32 (fun u => nx 49 lv (u :: r) w)))) := id rfl
theorem sX9_next_49 (lv : zL) (st : List Value) (w : zW) (nx K : Nat → zL → List Value → zW → Prop) (Rt : Option Value → zW → Prop) : z_st1 (tX9_next 49) 49 lv st w nx K Rt = (nx 50 lv (.int (1 : Int32) :: st) w) := id rfl
theorem sX9_next_50 (lv : zL) (st : List Value) (w : zW) (nx K : Nat → zL → List Value → zW → Prop) (Rt : Option Value → zW → Prop) : z_st1 (tX9_next 50) 50 lv st w nx K Rt = (z_2i st (fun x y r => nx 51 lv (.int (x + y) :: r) w)) := id rfl
theorem sX9_next_51 (lv : zL) (st : List Value) (w : zW) (nx K : Nat → zL → List Value → zW → Prop) (Rt : Option Value → zW → Prop) : z_st1 (tX9_next 51) 51 lv st w nx K Rt = (z_ia st (fun x i r => z_ob w x 10 (fun fs => 32 < fs.length ∧ nx 54 lv r (z_up w x (.inr (10, fs.set 32 (.int i))))))) := id rfl
theorem sX9_next_54 (lv : zL) (st : List Value) (w : zW) (nx K : Nat → zL → List Value → zW → Prop) (Rt : Option Value → zW → Prop) : z_st1 (tX9_next 54) 54 lv st w nx K Rt = (z_la lv 0 (fun x => nx 55 lv (.ref x :: st) w)) := id rfl
theorem sX9_next_55 (lv : zL) (st : List Value) (w : zW) (nx K : Nat → zL → List Value → zW → Prop) (Rt : Option Value → zW → Prop) : z_st1 (tX9_next 55) 55 lv st w nx K Rt = (z_1a st (fun x r => z_ob w x 10 (fun fs => z_fl fs 33 (fun u => nx 58 lv (u :: r) w)))) := id rfl
theorem sX9_next_58 (lv : zL) (st : List Value) (w : zW) (nx K : Nat → zL → List Value → zW → Prop) (Rt : Option Value → zW → Prop) : z_st1 (tX9_next 58) 58 lv st w nx K Rt = (nx 59 lv (.int (-1 : Int32) :: st) w) := id rfl
theorem sX9_next_59 (lv : zL) (st : List Value) (w : zW) (nx K : Nat → zL → List Value → zW → Prop) (Rt : Option Value → zW → Prop) : z_st1 (tX9_next 59) 59 lv st w nx K Rt = (z_2i st (fun x y r => (¬ x = y → nx 67 lv r w) ∧ (x = y → nx 62 lv r w))) := id rfl
theorem sX9_next_62 (lv : zL) (st : List Value) (w : zW) (nx K : Nat → zL → List Value → zW → Prop) (Rt : Option Value → zW → Prop) : z_st1 (tX9_next 62) 62 lv st w nx K Rt = (z_la lv 0 (fun x => nx 63 lv (.ref x :: st) w)) := id rfl
theorem sX9_next_63 (lv : zL) (st : List Value) (w : zW) (nx K : Nat → zL → List Value → zW → Prop) (Rt : Option Value → zW → Prop) : z_st1 (tX9_next 63) 63 lv st w nx K Rt = (nx 64 lv (.int (0 : Int32) :: st) w) := id rfl
theorem sX9_next_64 (lv : zL) (st : List Value) (w : zW) (nx K : Nat → zL → List Value → zW → Prop) (Rt : Option Value → zW → Prop) : z_st1 (tX9_next 64) 64 lv st w nx K Rt = (z_ia st (fun x i r => z_ob w x 10 (fun fs => 3 < fs.length ∧ nx 67 lv r (z_up w x (.inr (10, fs.set 3 (.int i))))))) := id rfl
theorem sX9_next_67 (lv : zL) (st : List Value) (w : zW) (nx K : Nat → zL → List Value → zW → Prop) (Rt : Option Value → zW → Prop) : z_st1 (tX9_next 67) 67 lv st w nx K Rt = (z_la lv 0 (fun x => nx 68 lv (.ref x :: st) w)) := id rfl
theorem sX9_next_68 (lv : zL) (st : List Value) (w : zW) (nx K : Nat → zL → List Value → zW → Prop) (Rt : Option Value → zW → Prop) : z_st1 (tX9_next 68) 68 lv st w nx K Rt = (z_1a st (fun x r => z_ob w x 10 (fun fs => z_fl fs 33 (fun u => nx 71 lv (u :: r) w)))) := id rfl
theorem sX9_next_71 (lv : zL) (st : List Value) (w : zW) (nx K : Nat → zL → List Value → zW → Prop) (Rt : Option Value → zW → Prop) : z_st1 (tX9_next 71) 71 lv st w nx K Rt = (nx 72 lv (.int (-1 : Int32) :: st) w) := id rfl
theorem sX9_next_72 (lv : zL) (st : List Value) (w : zW) (nx K : Nat → zL → List Value → zW → Prop) (Rt : Option Value → zW → Prop) : z_st1 (tX9_next 72) 72 lv st w nx K Rt = (z_2i st (fun x y r => (¬ x = y → nx 79 lv r w) ∧ (x = y → nx 75 lv r w))) := id rfl
theorem sX9_next_75 (lv : zL) (st : List Value) (w : zW) (nx K : Nat → zL → List Value → zW → Prop) (Rt : Option Value → zW → Prop) : z_st1 (tX9_next 75) 75 lv st w nx K Rt = (nx 76 lv (.int (0 : Int32) :: st) w) := id rfl
theorem sX9_next_76 (lv : zL) (st : List Value) (w : zW) (nx K : Nat → zL → List Value → zW → Prop) (Rt : Option Value → zW → Prop) : z_st1 (tX9_next 76) 76 lv st w nx K Rt = (nx 88 lv st w) := id rfl
theorem sX9_next_79 (lv : zL) (st : List Value) (w : zW) (nx K : Nat → zL → List Value → zW → Prop) (Rt : Option Value → zW → Prop) : z_st1 (tX9_next 79) 79 lv st w nx K Rt = (z_la lv 0 (fun x => nx 80 lv (.ref x :: st) w)) := id rfl
theorem sX9_next_80 (lv : zL) (st : List Value) (w : zW) (nx K : Nat → zL → List Value → zW → Prop) (Rt : Option Value → zW → Prop) : z_st1 (tX9_next 80) 80 lv st w nx K Rt = (z_1a st (fun x r => z_ob w x 10 (fun fs => z_fl fs 27 (fun u => nx 83 lv (u :: r) w)))) := id rfl
theorem sX9_next_83 (lv : zL) (st : List Value) (w : zW) (nx K : Nat → zL → List Value → zW → Prop) (Rt : Option Value → zW → Prop) : z_st1 (tX9_next 83) 83 lv st w nx K Rt = (z_la lv 0 (fun x => nx 84 lv (.ref x :: st) w)) := id rfl
theorem sX9_next_84 (lv : zL) (st : List Value) (w : zW) (nx K : Nat → zL → List Value → zW → Prop) (Rt : Option Value → zW → Prop) : z_st1 (tX9_next 84) 84 lv st w nx K Rt = (z_1a st (fun x r => z_ob w x 10 (fun fs => z_fl fs 33 (fun u => nx 87 lv (u :: r) w)))) := id rfl
theorem sX9_next_87 (lv : zL) (st : List Value) (w : zW) (nx K : Nat → zL → List Value → zW → Prop) (Rt : Option Value → zW → Prop) : z_st1 (tX9_next 87) 87 lv st w nx K Rt = (z_ia st (fun x i r => z_ar0 w x (fun m g => vp_in i m ∧ nx 88 lv (.int (g i.toNatClampNeg) :: r) w))) := id rfl
theorem sX9_next_88 (lv : zL) (st : List Value) (w : zW) (nx K : Nat → zL → List Value → zW → Prop) (Rt : Option Value → zW → Prop) : z_st1 (tX9_next 88) 88 lv st w nx K Rt = (z_e1 st (fun x => Rt (some (.int x)) w)) := id rfl

def tmX9_value_ (pc : Nat) : zI := match pc with
  | 0 => (1, 0, 0, 1, 0)
  | 1 => (6, 0, 0, 2, 0)
  | 2 => (47, 10, 0, 5, 0)
  | 5 => (1, 0, 0, 6, 0)
  | 6 => (46, 10, 33, 9, 0)
  | 9 => (6, 0, 0, 10, (-1))
  | 10 => (40, 30, 0, 13, 0)
  | 13 => (0, 1, 0, 14, 0)
  | 14 => (36, 30, 0, 17, 0)
  | 17 => (0, 1, 0, 18, 0)
  | 18 => (1, 0, 0, 19, 0)
  | 19 => (46, 10, 26, 22, 0)
  | 22 => (1, 0, 0, 23, 0)
  | 23 => (46, 10, 33, 26, 0)
  | 26 => (48, 0, 0, 27, 0)
  | 27 => (42, 34, 0, 30, 0)
  | 30 => (6, 0, 0, 31, (-1))
  | 31 => (33, 48, 0, 34, 0)
  | 34 => (1, 0, 0, 35, 0)
  | 35 => (46, 10, 25, 38, 0)
  | 38 => (6, 0, 0, 40, 32)
  | 40 => (1, 0, 0, 41, 0)
  | 41 => (46, 10, 33, 44, 0)
  | 44 => (10, 0, 0, 45, 0)
  | 45 => (0, 1, 0, 46, 0)
  | 46 => (8, 0, 0, 47, 0)
  | 47 => (48, 0, 0, 48, 0)
  | 48 => (53, 0, 0, 49, 0)
  | _ => (99, 0, 0, 0, 0)
def tX9_value_ (pc : Nat) : zI := if pc < 49 then tmX9_value_ pc else (99, 0, 0, 0, 0)
theorem tkX9_value_ : z_tab RX9 wsX9_value_ 2 (some .int) cX9_value_ 49 tX9_value_ := z_tab_of (tm := tmX9_value_) (by decide +kernel)
theorem sX9_value__0 (lv : zL) (st : List Value) (w : zW) (nx K : Nat → zL → List Value → zW → Prop) (Rt : Option Value → zW → Prop) : z_st1 (tX9_value_ 0) 0 lv st w nx K Rt = (z_la lv 0 (fun x => nx 1 lv (.ref x :: st) w)) := id rfl
theorem sX9_value__1 (lv : zL) (st : List Value) (w : zW) (nx K : Nat → zL → List Value → zW → Prop) (Rt : Option Value → zW → Prop) : z_st1 (tX9_value_ 1) 1 lv st w nx K Rt = (nx 2 lv (.int (0 : Int32) :: st) w) := id rfl
theorem sX9_value__2 (lv : zL) (st : List Value) (w : zW) (nx K : Nat → zL → List Value → zW → Prop) (Rt : Option Value → zW → Prop) : z_st1 (tX9_value_ 2) 2 lv st w nx K Rt = (z_ia st (fun x i r => z_ob w x 10 (fun fs => 0 < fs.length ∧ nx 5 lv r (z_up w x (.inr (10, fs.set 0 (.int i))))))) := id rfl
theorem sX9_value__5 (lv : zL) (st : List Value) (w : zW) (nx K : Nat → zL → List Value → zW → Prop) (Rt : Option Value → zW → Prop) : z_st1 (tX9_value_ 5) 5 lv st w nx K Rt = (z_la lv 0 (fun x => nx 6 lv (.ref x :: st) w)) := id rfl
theorem sX9_value__6 (lv : zL) (st : List Value) (w : zW) (nx K : Nat → zL → List Value → zW → Prop) (Rt : Option Value → zW → Prop) : z_st1 (tX9_value_ 6) 6 lv st w nx K Rt = (z_1a st (fun x r => z_ob w x 10 (fun fs => z_fl fs 33 (fun u => nx 9 lv (u :: r) w)))) := id rfl
theorem sX9_value__9 (lv : zL) (st : List Value) (w : zW) (nx K : Nat → zL → List Value → zW → Prop) (Rt : Option Value → zW → Prop) : z_st1 (tX9_value_ 9) 9 lv st w nx K Rt = (nx 10 lv (.int (-1 : Int32) :: st) w) := id rfl
theorem sX9_value__10 (lv : zL) (st : List Value) (w : zW) (nx K : Nat → zL → List Value → zW → Prop) (Rt : Option Value → zW → Prop) : z_st1 (tX9_value_ 10) 10 lv st w nx K Rt = (z_2i st (fun x y r => (x = y → nx 30 lv r w) ∧ (¬ x = y → nx 13 lv r w))) := id rfl
theorem sX9_value__13 (lv : zL) (st : List Value) (w : zW) (nx K : Nat → zL → List Value → zW → Prop) (Rt : Option Value → zW → Prop) : z_st1 (tX9_value_ 13) 13 lv st w nx K Rt = (z_li lv 1 (fun x => nx 14 lv (.int x :: st) w)) := id rfl
theorem sX9_value__14 (lv : zL) (st : List Value) (w : zW) (nx K : Nat → zL → List Value → zW → Prop) (Rt : Option Value → zW → Prop) : z_st1 (tX9_value_ 14) 14 lv st w nx K Rt = (z_1i st (fun x r => (x < 0 → nx 30 lv r w) ∧ (¬ x < 0 → nx 17 lv r w))) := id rfl
theorem sX9_value__17 (lv : zL) (st : List Value) (w : zW) (nx K : Nat → zL → List Value → zW → Prop) (Rt : Option Value → zW → Prop) : z_st1 (tX9_value_ 17) 17 lv st w nx K Rt = (z_li lv 1 (fun x => nx 18 lv (.int x :: st) w)) := id rfl
theorem sX9_value__18 (lv : zL) (st : List Value) (w : zW) (nx K : Nat → zL → List Value → zW → Prop) (Rt : Option Value → zW → Prop) : z_st1 (tX9_value_ 18) 18 lv st w nx K Rt = (z_la lv 0 (fun x => nx 19 lv (.ref x :: st) w)) := id rfl
theorem sX9_value__19 (lv : zL) (st : List Value) (w : zW) (nx K : Nat → zL → List Value → zW → Prop) (Rt : Option Value → zW → Prop) : z_st1 (tX9_value_ 19) 19 lv st w nx K Rt = (z_1a st (fun x r => z_ob w x 10 (fun fs => z_fl fs 26 (fun u => nx 22 lv (u :: r) w)))) := id rfl
theorem sX9_value__22 (lv : zL) (st : List Value) (w : zW) (nx K : Nat → zL → List Value → zW → Prop) (Rt : Option Value → zW → Prop) : z_st1 (tX9_value_ 22) 22 lv st w nx K Rt = (z_la lv 0 (fun x => nx 23 lv (.ref x :: st) w)) := id rfl
theorem sX9_value__23 (lv : zL) (st : List Value) (w : zW) (nx K : Nat → zL → List Value → zW → Prop) (Rt : Option Value → zW → Prop) : z_st1 (tX9_value_ 23) 23 lv st w nx K Rt = (z_1a st (fun x r => z_ob w x 10 (fun fs => z_fl fs 33 (fun u => nx 26 lv (u :: r) w)))) := id rfl
theorem sX9_value__26 (lv : zL) (st : List Value) (w : zW) (nx K : Nat → zL → List Value → zW → Prop) (Rt : Option Value → zW → Prop) : z_st1 (tX9_value_ 26) 26 lv st w nx K Rt = (z_ia st (fun x i r => z_ar0 w x (fun m g => vp_in i m ∧ nx 27 lv (.int (g i.toNatClampNeg) :: r) w))) := id rfl
theorem sX9_value__27 (lv : zL) (st : List Value) (w : zW) (nx K : Nat → zL → List Value → zW → Prop) (Rt : Option Value → zW → Prop) : z_st1 (tX9_value_ 27) 27 lv st w nx K Rt = (z_2i st (fun x y r => (x < y → nx 34 lv r w) ∧ (¬ x < y → nx 30 lv r w))) := id rfl
theorem sX9_value__30 (lv : zL) (st : List Value) (w : zW) (nx K : Nat → zL → List Value → zW → Prop) (Rt : Option Value → zW → Prop) : z_st1 (tX9_value_ 30) 30 lv st w nx K Rt = (nx 31 lv (.int (-1 : Int32) :: st) w) := id rfl
theorem sX9_value__31 (lv : zL) (st : List Value) (w : zW) (nx K : Nat → zL → List Value → zW → Prop) (Rt : Option Value → zW → Prop) : z_st1 (tX9_value_ 31) 31 lv st w nx K Rt = (nx 48 lv st w) := id rfl
theorem sX9_value__34 (lv : zL) (st : List Value) (w : zW) (nx K : Nat → zL → List Value → zW → Prop) (Rt : Option Value → zW → Prop) : z_st1 (tX9_value_ 34) 34 lv st w nx K Rt = (z_la lv 0 (fun x => nx 35 lv (.ref x :: st) w)) := id rfl
theorem sX9_value__35 (lv : zL) (st : List Value) (w : zW) (nx K : Nat → zL → List Value → zW → Prop) (Rt : Option Value → zW → Prop) : z_st1 (tX9_value_ 35) 35 lv st w nx K Rt = (z_1a st (fun x r => z_ob w x 10 (fun fs => z_fl fs 25 (fun u => nx 38 lv (u :: r) w)))) := id rfl
theorem sX9_value__38 (lv : zL) (st : List Value) (w : zW) (nx K : Nat → zL → List Value → zW → Prop) (Rt : Option Value → zW → Prop) : z_st1 (tX9_value_ 38) 38 lv st w nx K Rt = (nx 40 lv (.int (32 : Int32) :: st) w) := id rfl
theorem sX9_value__40 (lv : zL) (st : List Value) (w : zW) (nx K : Nat → zL → List Value → zW → Prop) (Rt : Option Value → zW → Prop) : z_st1 (tX9_value_ 40) 40 lv st w nx K Rt = (z_la lv 0 (fun x => nx 41 lv (.ref x :: st) w)) := id rfl
theorem sX9_value__41 (lv : zL) (st : List Value) (w : zW) (nx K : Nat → zL → List Value → zW → Prop) (Rt : Option Value → zW → Prop) : z_st1 (tX9_value_ 41) 41 lv st w nx K Rt = (z_1a st (fun x r => z_ob w x 10 (fun fs => z_fl fs 33 (fun u => nx 44 lv (u :: r) w)))) := id rfl
theorem sX9_value__44 (lv : zL) (st : List Value) (w : zW) (nx K : Nat → zL → List Value → zW → Prop) (Rt : Option Value → zW → Prop) : z_st1 (tX9_value_ 44) 44 lv st w nx K Rt = (z_2i st (fun x y r => nx 45 lv (.int (x * y) :: r) w)) := id rfl
theorem sX9_value__45 (lv : zL) (st : List Value) (w : zW) (nx K : Nat → zL → List Value → zW → Prop) (Rt : Option Value → zW → Prop) : z_st1 (tX9_value_ 45) 45 lv st w nx K Rt = (z_li lv 1 (fun x => nx 46 lv (.int x :: st) w)) := id rfl
theorem sX9_value__46 (lv : zL) (st : List Value) (w : zW) (nx K : Nat → zL → List Value → zW → Prop) (Rt : Option Value → zW → Prop) : z_st1 (tX9_value_ 46) 46 lv st w nx K Rt = (z_2i st (fun x y r => nx 47 lv (.int (x + y) :: r) w)) := id rfl
theorem sX9_value__47 (lv : zL) (st : List Value) (w : zW) (nx K : Nat → zL → List Value → zW → Prop) (Rt : Option Value → zW → Prop) : z_st1 (tX9_value_ 47) 47 lv st w nx K Rt = (z_ia st (fun x i r => z_ar0 w x (fun m g => vp_in i m ∧ nx 48 lv (.int (g i.toNatClampNeg) :: r) w))) := id rfl
theorem sX9_value__48 (lv : zL) (st : List Value) (w : zW) (nx K : Nat → zL → List Value → zW → Prop) (Rt : Option Value → zW → Prop) : z_st1 (tX9_value_ 48) 48 lv st w nx K Rt = (z_e1 st (fun x => Rt (some (.int x)) w)) := id rfl

def tmX9_merge (pc : Nat) : zI := match pc with
  | 0 => (1, 0, 0, 1, 0)
  | 1 => (6, 0, 0, 2, 0)
  | 2 => (47, 10, 0, 5, 0)
  | 5 => (1, 0, 0, 6, 0)
  | 6 => (0, 2, 0, 7, 0)
  | 10 => (35, 16, 0, 13, 0)
  | 13 => (6, 0, 0, 15, (-2))
  | 15 => (53, 0, 0, 16, 0)
  | 16 => (0, 1, 0, 17, 0)
  | 17 => (36, 26, 0, 20, 0)
  | 20 => (0, 1, 0, 21, 0)
  | 21 => (6, 0, 0, 23, 8)
  | 23 => (42, 29, 0, 26, 0)
  | 26 => (6, 0, 0, 28, (-4))
  | 28 => (53, 0, 0, 29, 0)
  | 29 => (1, 0, 0, 30, 0)
  | 30 => (46, 10, 24, 33, 0)
  | 33 => (0, 1, 0, 34, 0)
  | 34 => (48, 0, 0, 35, 0)
  | 35 => (6, 0, 0, 38, 200)
  | 38 => (41, 43, 0, 41, 0)
  | 41 => (6, 0, 0, 42, (-1))
  | 42 => (53, 0, 0, 43, 0)
  | 43 => (1, 0, 0, 44, 0)
  | 44 => (46, 10, 23, 47, 0)
  | 47 => (6, 0, 0, 50, 200)
  | 50 => (0, 1, 0, 51, 0)
  | 51 => (10, 0, 0, 52, 0)
  | 52 => (1, 0, 0, 53, 0)
  | 53 => (46, 10, 24, 56, 0)
  | 56 => (0, 1, 0, 57, 0)
  | 57 => (48, 0, 0, 58, 0)
  | 58 => (8, 0, 0, 59, 0)
  | 59 => (0, 2, 0, 60, 0)
  | 60 => (49, 0, 0, 61, 0)
  | 61 => (1, 0, 0, 62, 0)
  | 62 => (46, 10, 24, 65, 0)
  | 65 => (0, 1, 0, 66, 0)
  | 66 => (32, 0, 0, 67, 0)
  | 67 => (48, 0, 0, 68, 0)
  | 68 => (6, 0, 0, 69, 1)
  | 69 => (8, 0, 0, 70, 0)
  | 70 => (49, 0, 0, 71, 0)
  | 71 => (1, 0, 0, 72, 0)
  | 72 => (46, 10, 24, 75, 0)
  | 75 => (0, 1, 0, 76, 0)
  | 76 => (48, 0, 0, 77, 0)
  | 77 => (53, 0, 0, 78, 0)
  | _ => (99, 0, 0, 0, 0)
def tX9_merge (pc : Nat) : zI := if pc < 78 then tmX9_merge pc else (99, 0, 0, 0, 0)
theorem tkX9_merge : z_tab RX9 wsX9_merge 3 (some .int) cX9_merge 78 tX9_merge := z_tab_of (tm := tmX9_merge) (by decide +kernel)
theorem sX9_merge_0 (lv : zL) (st : List Value) (w : zW) (nx K : Nat → zL → List Value → zW → Prop) (Rt : Option Value → zW → Prop) : z_st1 (tX9_merge 0) 0 lv st w nx K Rt = (z_la lv 0 (fun x => nx 1 lv (.ref x :: st) w)) := id rfl
theorem sX9_merge_1 (lv : zL) (st : List Value) (w : zW) (nx K : Nat → zL → List Value → zW → Prop) (Rt : Option Value → zW → Prop) : z_st1 (tX9_merge 1) 1 lv st w nx K Rt = (nx 2 lv (.int (0 : Int32) :: st) w) := id rfl
theorem sX9_merge_2 (lv : zL) (st : List Value) (w : zW) (nx K : Nat → zL → List Value → zW → Prop) (Rt : Option Value → zW → Prop) : z_st1 (tX9_merge 2) 2 lv st w nx K Rt = (z_ia st (fun x i r => z_ob w x 10 (fun fs => 0 < fs.length ∧ nx 5 lv r (z_up w x (.inr (10, fs.set 0 (.int i))))))) := id rfl
theorem sX9_merge_5 (lv : zL) (st : List Value) (w : zW) (nx K : Nat → zL → List Value → zW → Prop) (Rt : Option Value → zW → Prop) : z_st1 (tX9_merge 5) 5 lv st w nx K Rt = (z_la lv 0 (fun x => nx 6 lv (.ref x :: st) w)) := id rfl
theorem sX9_merge_6 (lv : zL) (st : List Value) (w : zW) (nx K : Nat → zL → List Value → zW → Prop) (Rt : Option Value → zW → Prop) : z_st1 (tX9_merge 6) 6 lv st w nx K Rt = (z_li lv 2 (fun x => nx 7 lv (.int x :: st) w)) := id rfl
theorem sX9_merge_10 (lv : zL) (st : List Value) (w : zW) (nx K : Nat → zL → List Value → zW → Prop) (Rt : Option Value → zW → Prop) : z_st1 (tX9_merge 10) 10 lv st w nx K Rt = (z_1i st (fun x r => (¬ x = 0 → nx 16 lv r w) ∧ (x = 0 → nx 13 lv r w))) := id rfl
theorem sX9_merge_13 (lv : zL) (st : List Value) (w : zW) (nx K : Nat → zL → List Value → zW → Prop) (Rt : Option Value → zW → Prop) : z_st1 (tX9_merge 13) 13 lv st w nx K Rt = (nx 15 lv (.int (-2 : Int32) :: st) w) := id rfl
theorem sX9_merge_15 (lv : zL) (st : List Value) (w : zW) (nx K : Nat → zL → List Value → zW → Prop) (Rt : Option Value → zW → Prop) : z_st1 (tX9_merge 15) 15 lv st w nx K Rt = (z_e1 st (fun x => Rt (some (.int x)) w)) := id rfl
theorem sX9_merge_16 (lv : zL) (st : List Value) (w : zW) (nx K : Nat → zL → List Value → zW → Prop) (Rt : Option Value → zW → Prop) : z_st1 (tX9_merge 16) 16 lv st w nx K Rt = (z_li lv 1 (fun x => nx 17 lv (.int x :: st) w)) := id rfl
theorem sX9_merge_17 (lv : zL) (st : List Value) (w : zW) (nx K : Nat → zL → List Value → zW → Prop) (Rt : Option Value → zW → Prop) : z_st1 (tX9_merge 17) 17 lv st w nx K Rt = (z_1i st (fun x r => (x < 0 → nx 26 lv r w) ∧ (¬ x < 0 → nx 20 lv r w))) := id rfl
theorem sX9_merge_20 (lv : zL) (st : List Value) (w : zW) (nx K : Nat → zL → List Value → zW → Prop) (Rt : Option Value → zW → Prop) : z_st1 (tX9_merge 20) 20 lv st w nx K Rt = (z_li lv 1 (fun x => nx 21 lv (.int x :: st) w)) := id rfl
theorem sX9_merge_21 (lv : zL) (st : List Value) (w : zW) (nx K : Nat → zL → List Value → zW → Prop) (Rt : Option Value → zW → Prop) : z_st1 (tX9_merge 21) 21 lv st w nx K Rt = (nx 23 lv (.int (8 : Int32) :: st) w) := id rfl
theorem sX9_merge_23 (lv : zL) (st : List Value) (w : zW) (nx K : Nat → zL → List Value → zW → Prop) (Rt : Option Value → zW → Prop) : z_st1 (tX9_merge 23) 23 lv st w nx K Rt = (z_2i st (fun x y r => (x < y → nx 29 lv r w) ∧ (¬ x < y → nx 26 lv r w))) := id rfl
theorem sX9_merge_26 (lv : zL) (st : List Value) (w : zW) (nx K : Nat → zL → List Value → zW → Prop) (Rt : Option Value → zW → Prop) : z_st1 (tX9_merge 26) 26 lv st w nx K Rt = (nx 28 lv (.int (-4 : Int32) :: st) w) := id rfl
theorem sX9_merge_28 (lv : zL) (st : List Value) (w : zW) (nx K : Nat → zL → List Value → zW → Prop) (Rt : Option Value → zW → Prop) : z_st1 (tX9_merge 28) 28 lv st w nx K Rt = (z_e1 st (fun x => Rt (some (.int x)) w)) := id rfl
theorem sX9_merge_29 (lv : zL) (st : List Value) (w : zW) (nx K : Nat → zL → List Value → zW → Prop) (Rt : Option Value → zW → Prop) : z_st1 (tX9_merge 29) 29 lv st w nx K Rt = (z_la lv 0 (fun x => nx 30 lv (.ref x :: st) w)) := id rfl
theorem sX9_merge_30 (lv : zL) (st : List Value) (w : zW) (nx K : Nat → zL → List Value → zW → Prop) (Rt : Option Value → zW → Prop) : z_st1 (tX9_merge 30) 30 lv st w nx K Rt = (z_1a st (fun x r => z_ob w x 10 (fun fs => z_fl fs 24 (fun u => nx 33 lv (u :: r) w)))) := id rfl
theorem sX9_merge_33 (lv : zL) (st : List Value) (w : zW) (nx K : Nat → zL → List Value → zW → Prop) (Rt : Option Value → zW → Prop) : z_st1 (tX9_merge 33) 33 lv st w nx K Rt = (z_li lv 1 (fun x => nx 34 lv (.int x :: st) w)) := id rfl
theorem sX9_merge_34 (lv : zL) (st : List Value) (w : zW) (nx K : Nat → zL → List Value → zW → Prop) (Rt : Option Value → zW → Prop) : z_st1 (tX9_merge 34) 34 lv st w nx K Rt = (z_ia st (fun x i r => z_ar0 w x (fun m g => vp_in i m ∧ nx 35 lv (.int (g i.toNatClampNeg) :: r) w))) := id rfl
theorem sX9_merge_35 (lv : zL) (st : List Value) (w : zW) (nx K : Nat → zL → List Value → zW → Prop) (Rt : Option Value → zW → Prop) : z_st1 (tX9_merge 35) 35 lv st w nx K Rt = (nx 38 lv (.int (200 : Int32) :: st) w) := id rfl
theorem sX9_merge_38 (lv : zL) (st : List Value) (w : zW) (nx K : Nat → zL → List Value → zW → Prop) (Rt : Option Value → zW → Prop) : z_st1 (tX9_merge 38) 38 lv st w nx K Rt = (z_2i st (fun x y r => (¬ x = y → nx 43 lv r w) ∧ (x = y → nx 41 lv r w))) := id rfl
theorem sX9_merge_41 (lv : zL) (st : List Value) (w : zW) (nx K : Nat → zL → List Value → zW → Prop) (Rt : Option Value → zW → Prop) : z_st1 (tX9_merge 41) 41 lv st w nx K Rt = (nx 42 lv (.int (-1 : Int32) :: st) w) := id rfl
theorem sX9_merge_42 (lv : zL) (st : List Value) (w : zW) (nx K : Nat → zL → List Value → zW → Prop) (Rt : Option Value → zW → Prop) : z_st1 (tX9_merge 42) 42 lv st w nx K Rt = (z_e1 st (fun x => Rt (some (.int x)) w)) := id rfl
theorem sX9_merge_43 (lv : zL) (st : List Value) (w : zW) (nx K : Nat → zL → List Value → zW → Prop) (Rt : Option Value → zW → Prop) : z_st1 (tX9_merge 43) 43 lv st w nx K Rt = (z_la lv 0 (fun x => nx 44 lv (.ref x :: st) w)) := id rfl
theorem sX9_merge_44 (lv : zL) (st : List Value) (w : zW) (nx K : Nat → zL → List Value → zW → Prop) (Rt : Option Value → zW → Prop) : z_st1 (tX9_merge 44) 44 lv st w nx K Rt = (z_1a st (fun x r => z_ob w x 10 (fun fs => z_fl fs 23 (fun u => nx 47 lv (u :: r) w)))) := id rfl
theorem sX9_merge_47 (lv : zL) (st : List Value) (w : zW) (nx K : Nat → zL → List Value → zW → Prop) (Rt : Option Value → zW → Prop) : z_st1 (tX9_merge 47) 47 lv st w nx K Rt = (nx 50 lv (.int (200 : Int32) :: st) w) := id rfl
theorem sX9_merge_50 (lv : zL) (st : List Value) (w : zW) (nx K : Nat → zL → List Value → zW → Prop) (Rt : Option Value → zW → Prop) : z_st1 (tX9_merge 50) 50 lv st w nx K Rt = (z_li lv 1 (fun x => nx 51 lv (.int x :: st) w)) := id rfl
theorem sX9_merge_51 (lv : zL) (st : List Value) (w : zW) (nx K : Nat → zL → List Value → zW → Prop) (Rt : Option Value → zW → Prop) : z_st1 (tX9_merge 51) 51 lv st w nx K Rt = (z_2i st (fun x y r => nx 52 lv (.int (x * y) :: r) w)) := id rfl
theorem sX9_merge_52 (lv : zL) (st : List Value) (w : zW) (nx K : Nat → zL → List Value → zW → Prop) (Rt : Option Value → zW → Prop) : z_st1 (tX9_merge 52) 52 lv st w nx K Rt = (z_la lv 0 (fun x => nx 53 lv (.ref x :: st) w)) := id rfl
theorem sX9_merge_53 (lv : zL) (st : List Value) (w : zW) (nx K : Nat → zL → List Value → zW → Prop) (Rt : Option Value → zW → Prop) : z_st1 (tX9_merge 53) 53 lv st w nx K Rt = (z_1a st (fun x r => z_ob w x 10 (fun fs => z_fl fs 24 (fun u => nx 56 lv (u :: r) w)))) := id rfl
theorem sX9_merge_56 (lv : zL) (st : List Value) (w : zW) (nx K : Nat → zL → List Value → zW → Prop) (Rt : Option Value → zW → Prop) : z_st1 (tX9_merge 56) 56 lv st w nx K Rt = (z_li lv 1 (fun x => nx 57 lv (.int x :: st) w)) := id rfl
theorem sX9_merge_57 (lv : zL) (st : List Value) (w : zW) (nx K : Nat → zL → List Value → zW → Prop) (Rt : Option Value → zW → Prop) : z_st1 (tX9_merge 57) 57 lv st w nx K Rt = (z_ia st (fun x i r => z_ar0 w x (fun m g => vp_in i m ∧ nx 58 lv (.int (g i.toNatClampNeg) :: r) w))) := id rfl
theorem sX9_merge_58 (lv : zL) (st : List Value) (w : zW) (nx K : Nat → zL → List Value → zW → Prop) (Rt : Option Value → zW → Prop) : z_st1 (tX9_merge 58) 58 lv st w nx K Rt = (z_2i st (fun x y r => nx 59 lv (.int (x + y) :: r) w)) := id rfl
theorem sX9_merge_59 (lv : zL) (st : List Value) (w : zW) (nx K : Nat → zL → List Value → zW → Prop) (Rt : Option Value → zW → Prop) : z_st1 (tX9_merge 59) 59 lv st w nx K Rt = (z_li lv 2 (fun x => nx 60 lv (.int x :: st) w)) := id rfl
theorem sX9_merge_60 (lv : zL) (st : List Value) (w : zW) (nx K : Nat → zL → List Value → zW → Prop) (Rt : Option Value → zW → Prop) : z_st1 (tX9_merge 60) 60 lv st w nx K Rt = (z_iia st (fun x i u r => z_ar0 w x (fun m g => vp_in i m ∧ nx 61 lv r (z_up w x (.inl (0, m, .inl (upd g i.toNatClampNeg u))))))) := id rfl
theorem sX9_merge_61 (lv : zL) (st : List Value) (w : zW) (nx K : Nat → zL → List Value → zW → Prop) (Rt : Option Value → zW → Prop) : z_st1 (tX9_merge 61) 61 lv st w nx K Rt = (z_la lv 0 (fun x => nx 62 lv (.ref x :: st) w)) := id rfl
theorem sX9_merge_62 (lv : zL) (st : List Value) (w : zW) (nx K : Nat → zL → List Value → zW → Prop) (Rt : Option Value → zW → Prop) : z_st1 (tX9_merge 62) 62 lv st w nx K Rt = (z_1a st (fun x r => z_ob w x 10 (fun fs => z_fl fs 24 (fun u => nx 65 lv (u :: r) w)))) := id rfl
theorem sX9_merge_65 (lv : zL) (st : List Value) (w : zW) (nx K : Nat → zL → List Value → zW → Prop) (Rt : Option Value → zW → Prop) : z_st1 (tX9_merge 65) 65 lv st w nx K Rt = (z_li lv 1 (fun x => nx 66 lv (.int x :: st) w)) := id rfl
theorem sX9_merge_66 (lv : zL) (st : List Value) (w : zW) (nx K : Nat → zL → List Value → zW → Prop) (Rt : Option Value → zW → Prop) : z_st1 (tX9_merge 66) 66 lv st w nx K Rt = (z_dia st (fun x i r => nx 67 lv (.int i :: .ref x :: .int i :: .ref x :: r) w)) := id rfl
theorem sX9_merge_67 (lv : zL) (st : List Value) (w : zW) (nx K : Nat → zL → List Value → zW → Prop) (Rt : Option Value → zW → Prop) : z_st1 (tX9_merge 67) 67 lv st w nx K Rt = (z_ia st (fun x i r => z_ar0 w x (fun m g => vp_in i m ∧ nx 68 lv (.int (g i.toNatClampNeg) :: r) w))) := id rfl
theorem sX9_merge_68 (lv : zL) (st : List Value) (w : zW) (nx K : Nat → zL → List Value → zW → Prop) (Rt : Option Value → zW → Prop) : z_st1 (tX9_merge 68) 68 lv st w nx K Rt = (nx 69 lv (.int (1 : Int32) :: st) w) := id rfl
theorem sX9_merge_69 (lv : zL) (st : List Value) (w : zW) (nx K : Nat → zL → List Value → zW → Prop) (Rt : Option Value → zW → Prop) : z_st1 (tX9_merge 69) 69 lv st w nx K Rt = (z_2i st (fun x y r => nx 70 lv (.int (x + y) :: r) w)) := id rfl
theorem sX9_merge_70 (lv : zL) (st : List Value) (w : zW) (nx K : Nat → zL → List Value → zW → Prop) (Rt : Option Value → zW → Prop) : z_st1 (tX9_merge 70) 70 lv st w nx K Rt = (z_iia st (fun x i u r => z_ar0 w x (fun m g => vp_in i m ∧ nx 71 lv r (z_up w x (.inl (0, m, .inl (upd g i.toNatClampNeg u))))))) := id rfl
theorem sX9_merge_71 (lv : zL) (st : List Value) (w : zW) (nx K : Nat → zL → List Value → zW → Prop) (Rt : Option Value → zW → Prop) : z_st1 (tX9_merge 71) 71 lv st w nx K Rt = (z_la lv 0 (fun x => nx 72 lv (.ref x :: st) w)) := id rfl
theorem sX9_merge_72 (lv : zL) (st : List Value) (w : zW) (nx K : Nat → zL → List Value → zW → Prop) (Rt : Option Value → zW → Prop) : z_st1 (tX9_merge 72) 72 lv st w nx K Rt = (z_1a st (fun x r => z_ob w x 10 (fun fs => z_fl fs 24 (fun u => nx 75 lv (u :: r) w)))) := id rfl
theorem sX9_merge_75 (lv : zL) (st : List Value) (w : zW) (nx K : Nat → zL → List Value → zW → Prop) (Rt : Option Value → zW → Prop) : z_st1 (tX9_merge 75) 75 lv st w nx K Rt = (z_li lv 1 (fun x => nx 76 lv (.int x :: st) w)) := id rfl
theorem sX9_merge_76 (lv : zL) (st : List Value) (w : zW) (nx K : Nat → zL → List Value → zW → Prop) (Rt : Option Value → zW → Prop) : z_st1 (tX9_merge 76) 76 lv st w nx K Rt = (z_ia st (fun x i r => z_ar0 w x (fun m g => vp_in i m ∧ nx 77 lv (.int (g i.toNatClampNeg) :: r) w))) := id rfl
theorem sX9_merge_77 (lv : zL) (st : List Value) (w : zW) (nx K : Nat → zL → List Value → zW → Prop) (Rt : Option Value → zW → Prop) : z_st1 (tX9_merge 77) 77 lv st w nx K Rt = (z_e1 st (fun x => Rt (some (.int x)) w)) := id rfl
theorem sX9_merge_7 (lv : zL) (st : List Value) (w : zW) (nx K : Nat → zL → List Value → zW → Prop) (Rt : Option Value → zW → Prop) : z_st1 (tX9_merge 7) 7 lv st w nx K Rt = K 7 lv st w := id rfl
theorem dX9_merge_7 : decode cX9_merge 7 = .ok (.invokevirtual 101, 3) := by decide +kernel

def tmX9_mergeAll (pc : Nat) : zI := match pc with
  | 0 => (1, 0, 0, 1, 0)
  | 1 => (6, 0, 0, 2, 0)
  | 2 => (47, 10, 0, 5, 0)
  | 5 => (1, 0, 0, 6, 0)
  | 6 => (46, 10, 3, 9, 0)
  | 9 => (6, 0, 0, 10, 1)
  | 10 => (41, 16, 0, 13, 0)
  | 13 => (6, 0, 0, 15, (-5))
  | 15 => (53, 0, 0, 16, 0)
  | 16 => (6, 0, 0, 17, 0)
  | 17 => (3, 1, 0, 18, 0)
  | 18 => (0, 1, 0, 19, 0)
  | 19 => (6, 0, 0, 21, 8)
  | 21 => (43, 104, 0, 24, 0)
  | 24 => (6, 0, 0, 25, 1)
  | 25 => (3, 2, 0, 26, 0)
  | 26 => (0, 2, 0, 27, 0)
  | 27 => (1, 0, 0, 28, 0)
  | 28 => (46, 10, 24, 31, 0)
  | 31 => (0, 1, 0, 32, 0)
  | 32 => (48, 0, 0, 33, 0)
  | 33 => (43, 98, 0, 36, 0)
  | 36 => (1, 0, 0, 37, 0)
  | 37 => (1, 0, 0, 38, 0)
  | 38 => (46, 10, 9, 41, 0)
  | 41 => (6, 0, 0, 43, 32)
  | 43 => (1, 0, 0, 44, 0)
  | 44 => (46, 10, 23, 47, 0)
  | 47 => (6, 0, 0, 50, 200)
  | 50 => (0, 1, 0, 51, 0)
  | 51 => (10, 0, 0, 52, 0)
  | 52 => (0, 2, 0, 53, 0)
  | 53 => (8, 0, 0, 54, 0)
  | 54 => (6, 0, 0, 55, 1)
  | 55 => (9, 0, 0, 56, 0)
  | 56 => (48, 0, 0, 57, 0)
  | 57 => (6, 0, 0, 58, 1)
  | 58 => (9, 0, 0, 59, 0)
  | 59 => (10, 0, 0, 60, 0)
  | 60 => (1, 0, 0, 61, 0)
  | 61 => (46, 10, 9, 64, 0)
  | 64 => (6, 0, 0, 66, 32)
  | 66 => (1, 0, 0, 67, 0)
  | 67 => (46, 10, 23, 70, 0)
  | 70 => (6, 0, 0, 73, 200)
  | 73 => (0, 1, 0, 74, 0)
  | 74 => (10, 0, 0, 75, 0)
  | 75 => (0, 2, 0, 76, 0)
  | 76 => (8, 0, 0, 77, 0)
  | 77 => (48, 0, 0, 78, 0)
  | 78 => (6, 0, 0, 79, 1)
  | 79 => (9, 0, 0, 80, 0)
  | 80 => (10, 0, 0, 81, 0)
  | 84 => (39, 92, 0, 87, 0)
  | 87 => (6, 0, 0, 89, (-10))
  | 89 => (0, 1, 0, 90, 0)
  | 90 => (9, 0, 0, 91, 0)
  | 91 => (53, 0, 0, 92, 0)
  | 92 => (7, 2, 0, 95, 1)
  | 95 => (33, 26, 0, 98, 0)
  | 98 => (7, 1, 0, 101, 1)
  | 101 => (33, 18, 0, 104, 0)
  | 104 => (1, 0, 0, 105, 0)
  | 105 => (6, 0, 0, 106, 0)
  | 106 => (47, 10, 30, 109, 0)
  | 109 => (6, 0, 0, 110, 0)
  | 110 => (3, 1, 0, 111, 0)
  | 111 => (0, 1, 0, 112, 0)
  | 112 => (6, 0, 0, 114, 8)
  | 114 => (43, 164, 0, 117, 0)
  | 117 => (6, 0, 0, 118, 0)
  | 118 => (3, 2, 0, 119, 0)
  | 119 => (0, 2, 0, 120, 0)
  | 120 => (1, 0, 0, 121, 0)
  | 121 => (46, 10, 24, 124, 0)
  | 124 => (0, 1, 0, 125, 0)
  | 125 => (48, 0, 0, 126, 0)
  | 126 => (43, 151, 0, 129, 0)
  | 129 => (1, 0, 0, 130, 0)
  | 130 => (1, 0, 0, 131, 0)
  | 131 => (46, 10, 23, 134, 0)
  | 134 => (6, 0, 0, 137, 200)
  | 137 => (0, 1, 0, 138, 0)
  | 138 => (10, 0, 0, 139, 0)
  | 139 => (0, 2, 0, 140, 0)
  | 140 => (8, 0, 0, 141, 0)
  | 141 => (48, 0, 0, 142, 0)
  | 145 => (7, 2, 0, 148, 1)
  | 148 => (33, 119, 0, 151, 0)
  | 151 => (1, 0, 0, 152, 0)
  | 152 => (46, 10, 24, 155, 0)
  | 155 => (0, 1, 0, 156, 0)
  | 156 => (6, 0, 0, 157, 0)
  | 157 => (49, 0, 0, 158, 0)
  | 158 => (7, 1, 0, 161, 1)
  | 161 => (33, 111, 0, 164, 0)
  | 164 => (1, 0, 0, 165, 0)
  | 165 => (6, 0, 0, 166, 0)
  | 169 => (6, 0, 0, 170, 0)
  | 170 => (3, 1, 0, 171, 0)
  | 171 => (0, 1, 0, 172, 0)
  | 172 => (1, 0, 0, 173, 0)
  | 173 => (46, 10, 30, 176, 0)
  | 176 => (43, 197, 0, 179, 0)
  | 179 => (1, 0, 0, 180, 0)
  | 180 => (46, 10, 29, 183, 0)
  | 183 => (0, 1, 0, 184, 0)
  | 184 => (1, 0, 0, 185, 0)
  | 185 => (46, 10, 28, 188, 0)
  | 188 => (0, 1, 0, 189, 0)
  | 189 => (48, 0, 0, 190, 0)
  | 190 => (49, 0, 0, 191, 0)
  | 191 => (7, 1, 0, 194, 1)
  | 194 => (33, 171, 0, 197, 0)
  | 197 => (1, 0, 0, 198, 0)
  | 198 => (1, 0, 0, 199, 0)
  | 199 => (46, 10, 30, 202, 0)
  | 202 => (47, 10, 31, 205, 0)
  | 205 => (1, 0, 0, 206, 0)
  | 209 => (53, 0, 0, 210, 0)
  | _ => (99, 0, 0, 0, 0)
def tX9_mergeAll (pc : Nat) : zI := if pc < 210 then tmX9_mergeAll pc else (99, 0, 0, 0, 0)
theorem tkX9_mergeAll : z_tab RX9 wsX9_mergeAll 3 (some .int) cX9_mergeAll 210 tX9_mergeAll := z_tab_of (tm := tmX9_mergeAll) (by decide +kernel)
theorem sX9_mergeAll_0 (lv : zL) (st : List Value) (w : zW) (nx K : Nat → zL → List Value → zW → Prop) (Rt : Option Value → zW → Prop) : z_st1 (tX9_mergeAll 0) 0 lv st w nx K Rt = (z_la lv 0 (fun x => nx 1 lv (.ref x :: st) w)) := id rfl
theorem sX9_mergeAll_1 (lv : zL) (st : List Value) (w : zW) (nx K : Nat → zL → List Value → zW → Prop) (Rt : Option Value → zW → Prop) : z_st1 (tX9_mergeAll 1) 1 lv st w nx K Rt = (nx 2 lv (.int (0 : Int32) :: st) w) := id rfl
theorem sX9_mergeAll_2 (lv : zL) (st : List Value) (w : zW) (nx K : Nat → zL → List Value → zW → Prop) (Rt : Option Value → zW → Prop) : z_st1 (tX9_mergeAll 2) 2 lv st w nx K Rt = (z_ia st (fun x i r => z_ob w x 10 (fun fs => 0 < fs.length ∧ nx 5 lv r (z_up w x (.inr (10, fs.set 0 (.int i))))))) := id rfl
theorem sX9_mergeAll_5 (lv : zL) (st : List Value) (w : zW) (nx K : Nat → zL → List Value → zW → Prop) (Rt : Option Value → zW → Prop) : z_st1 (tX9_mergeAll 5) 5 lv st w nx K Rt = (z_la lv 0 (fun x => nx 6 lv (.ref x :: st) w)) := id rfl
theorem sX9_mergeAll_6 (lv : zL) (st : List Value) (w : zW) (nx K : Nat → zL → List Value → zW → Prop) (Rt : Option Value → zW → Prop) : z_st1 (tX9_mergeAll 6) 6 lv st w nx K Rt = (z_1a st (fun x r => z_ob w x 10 (fun fs => z_fl fs 3 (fun u => nx 9 lv (u :: r) w)))) := id rfl
theorem sX9_mergeAll_9 (lv : zL) (st : List Value) (w : zW) (nx K : Nat → zL → List Value → zW → Prop) (Rt : Option Value → zW → Prop) : z_st1 (tX9_mergeAll 9) 9 lv st w nx K Rt = (nx 10 lv (.int (1 : Int32) :: st) w) := id rfl
theorem sX9_mergeAll_10 (lv : zL) (st : List Value) (w : zW) (nx K : Nat → zL → List Value → zW → Prop) (Rt : Option Value → zW → Prop) : z_st1 (tX9_mergeAll 10) 10 lv st w nx K Rt = (z_2i st (fun x y r => (¬ x = y → nx 16 lv r w) ∧ (x = y → nx 13 lv r w))) := id rfl
theorem sX9_mergeAll_13 (lv : zL) (st : List Value) (w : zW) (nx K : Nat → zL → List Value → zW → Prop) (Rt : Option Value → zW → Prop) : z_st1 (tX9_mergeAll 13) 13 lv st w nx K Rt = (nx 15 lv (.int (-5 : Int32) :: st) w) := id rfl
theorem sX9_mergeAll_15 (lv : zL) (st : List Value) (w : zW) (nx K : Nat → zL → List Value → zW → Prop) (Rt : Option Value → zW → Prop) : z_st1 (tX9_mergeAll 15) 15 lv st w nx K Rt = (z_e1 st (fun x => Rt (some (.int x)) w)) := id rfl
theorem sX9_mergeAll_16 (lv : zL) (st : List Value) (w : zW) (nx K : Nat → zL → List Value → zW → Prop) (Rt : Option Value → zW → Prop) : z_st1 (tX9_mergeAll 16) 16 lv st w nx K Rt = (nx 17 lv (.int (0 : Int32) :: st) w) := id rfl
theorem sX9_mergeAll_17 (lv : zL) (st : List Value) (w : zW) (nx K : Nat → zL → List Value → zW → Prop) (Rt : Option Value → zW → Prop) : z_st1 (tX9_mergeAll 17) 17 lv st w nx K Rt = (z_1i st (fun x r => z_ok1 lv 1 = true ∧ nx 18 (lv.set 1 (some (.int x))) r w)) := id rfl
theorem sX9_mergeAll_18 (lv : zL) (st : List Value) (w : zW) (nx K : Nat → zL → List Value → zW → Prop) (Rt : Option Value → zW → Prop) : z_st1 (tX9_mergeAll 18) 18 lv st w nx K Rt = (z_li lv 1 (fun x => nx 19 lv (.int x :: st) w)) := id rfl
theorem sX9_mergeAll_19 (lv : zL) (st : List Value) (w : zW) (nx K : Nat → zL → List Value → zW → Prop) (Rt : Option Value → zW → Prop) : z_st1 (tX9_mergeAll 19) 19 lv st w nx K Rt = (nx 21 lv (.int (8 : Int32) :: st) w) := id rfl
theorem sX9_mergeAll_21 (lv : zL) (st : List Value) (w : zW) (nx K : Nat → zL → List Value → zW → Prop) (Rt : Option Value → zW → Prop) : z_st1 (tX9_mergeAll 21) 21 lv st w nx K Rt = (z_2i st (fun x y r => (y ≤ x → nx 104 lv r w) ∧ (¬ y ≤ x → nx 24 lv r w))) := id rfl
theorem sX9_mergeAll_24 (lv : zL) (st : List Value) (w : zW) (nx K : Nat → zL → List Value → zW → Prop) (Rt : Option Value → zW → Prop) : z_st1 (tX9_mergeAll 24) 24 lv st w nx K Rt = (nx 25 lv (.int (1 : Int32) :: st) w) := id rfl
theorem sX9_mergeAll_25 (lv : zL) (st : List Value) (w : zW) (nx K : Nat → zL → List Value → zW → Prop) (Rt : Option Value → zW → Prop) : z_st1 (tX9_mergeAll 25) 25 lv st w nx K Rt = (z_1i st (fun x r => z_ok1 lv 2 = true ∧ nx 26 (lv.set 2 (some (.int x))) r w)) := id rfl
theorem sX9_mergeAll_26 (lv : zL) (st : List Value) (w : zW) (nx K : Nat → zL → List Value → zW → Prop) (Rt : Option Value → zW → Prop) : z_st1 (tX9_mergeAll 26) 26 lv st w nx K Rt = (z_li lv 2 (fun x => nx 27 lv (.int x :: st) w)) := id rfl
theorem sX9_mergeAll_27 (lv : zL) (st : List Value) (w : zW) (nx K : Nat → zL → List Value → zW → Prop) (Rt : Option Value → zW → Prop) : z_st1 (tX9_mergeAll 27) 27 lv st w nx K Rt = (z_la lv 0 (fun x => nx 28 lv (.ref x :: st) w)) := id rfl
theorem sX9_mergeAll_28 (lv : zL) (st : List Value) (w : zW) (nx K : Nat → zL → List Value → zW → Prop) (Rt : Option Value → zW → Prop) : z_st1 (tX9_mergeAll 28) 28 lv st w nx K Rt = (z_1a st (fun x r => z_ob w x 10 (fun fs => z_fl fs 24 (fun u => nx 31 lv (u :: r) w)))) := id rfl
theorem sX9_mergeAll_31 (lv : zL) (st : List Value) (w : zW) (nx K : Nat → zL → List Value → zW → Prop) (Rt : Option Value → zW → Prop) : z_st1 (tX9_mergeAll 31) 31 lv st w nx K Rt = (z_li lv 1 (fun x => nx 32 lv (.int x :: st) w)) := id rfl
theorem sX9_mergeAll_32 (lv : zL) (st : List Value) (w : zW) (nx K : Nat → zL → List Value → zW → Prop) (Rt : Option Value → zW → Prop) : z_st1 (tX9_mergeAll 32) 32 lv st w nx K Rt = (z_ia st (fun x i r => z_ar0 w x (fun m g => vp_in i m ∧ nx 33 lv (.int (g i.toNatClampNeg) :: r) w))) := id rfl
theorem sX9_mergeAll_33 (lv : zL) (st : List Value) (w : zW) (nx K : Nat → zL → List Value → zW → Prop) (Rt : Option Value → zW → Prop) : z_st1 (tX9_mergeAll 33) 33 lv st w nx K Rt = (z_2i st (fun x y r => (y ≤ x → nx 98 lv r w) ∧ (¬ y ≤ x → nx 36 lv r w))) := id rfl
theorem sX9_mergeAll_36 (lv : zL) (st : List Value) (w : zW) (nx K : Nat → zL → List Value → zW → Prop) (Rt : Option Value → zW → Prop) : z_st1 (tX9_mergeAll 36) 36 lv st w nx K Rt = (z_la lv 0 (fun x => nx 37 lv (.ref x :: st) w)) := id rfl
theorem sX9_mergeAll_37 (lv : zL) (st : List Value) (w : zW) (nx K : Nat → zL → List Value → zW → Prop) (Rt : Option Value → zW → Prop) : z_st1 (tX9_mergeAll 37) 37 lv st w nx K Rt = (z_la lv 0 (fun x => nx 38 lv (.ref x :: st) w)) := id rfl
theorem sX9_mergeAll_38 (lv : zL) (st : List Value) (w : zW) (nx K : Nat → zL → List Value → zW → Prop) (Rt : Option Value → zW → Prop) : z_st1 (tX9_mergeAll 38) 38 lv st w nx K Rt = (z_1a st (fun x r => z_ob w x 10 (fun fs => z_fl fs 9 (fun u => nx 41 lv (u :: r) w)))) := id rfl
theorem sX9_mergeAll_41 (lv : zL) (st : List Value) (w : zW) (nx K : Nat → zL → List Value → zW → Prop) (Rt : Option Value → zW → Prop) : z_st1 (tX9_mergeAll 41) 41 lv st w nx K Rt = (nx 43 lv (.int (32 : Int32) :: st) w) := id rfl
theorem sX9_mergeAll_43 (lv : zL) (st : List Value) (w : zW) (nx K : Nat → zL → List Value → zW → Prop) (Rt : Option Value → zW → Prop) : z_st1 (tX9_mergeAll 43) 43 lv st w nx K Rt = (z_la lv 0 (fun x => nx 44 lv (.ref x :: st) w)) := id rfl
theorem sX9_mergeAll_44 (lv : zL) (st : List Value) (w : zW) (nx K : Nat → zL → List Value → zW → Prop) (Rt : Option Value → zW → Prop) : z_st1 (tX9_mergeAll 44) 44 lv st w nx K Rt = (z_1a st (fun x r => z_ob w x 10 (fun fs => z_fl fs 23 (fun u => nx 47 lv (u :: r) w)))) := id rfl
theorem sX9_mergeAll_47 (lv : zL) (st : List Value) (w : zW) (nx K : Nat → zL → List Value → zW → Prop) (Rt : Option Value → zW → Prop) : z_st1 (tX9_mergeAll 47) 47 lv st w nx K Rt = (nx 50 lv (.int (200 : Int32) :: st) w) := id rfl
theorem sX9_mergeAll_50 (lv : zL) (st : List Value) (w : zW) (nx K : Nat → zL → List Value → zW → Prop) (Rt : Option Value → zW → Prop) : z_st1 (tX9_mergeAll 50) 50 lv st w nx K Rt = (z_li lv 1 (fun x => nx 51 lv (.int x :: st) w)) := id rfl
theorem sX9_mergeAll_51 (lv : zL) (st : List Value) (w : zW) (nx K : Nat → zL → List Value → zW → Prop) (Rt : Option Value → zW → Prop) : z_st1 (tX9_mergeAll 51) 51 lv st w nx K Rt = (z_2i st (fun x y r => nx 52 lv (.int (x * y) :: r) w)) := id rfl
theorem sX9_mergeAll_52 (lv : zL) (st : List Value) (w : zW) (nx K : Nat → zL → List Value → zW → Prop) (Rt : Option Value → zW → Prop) : z_st1 (tX9_mergeAll 52) 52 lv st w nx K Rt = (z_li lv 2 (fun x => nx 53 lv (.int x :: st) w)) := id rfl
theorem sX9_mergeAll_53 (lv : zL) (st : List Value) (w : zW) (nx K : Nat → zL → List Value → zW → Prop) (Rt : Option Value → zW → Prop) : z_st1 (tX9_mergeAll 53) 53 lv st w nx K Rt = (z_2i st (fun x y r => nx 54 lv (.int (x + y) :: r) w)) := id rfl
theorem sX9_mergeAll_54 (lv : zL) (st : List Value) (w : zW) (nx K : Nat → zL → List Value → zW → Prop) (Rt : Option Value → zW → Prop) : z_st1 (tX9_mergeAll 54) 54 lv st w nx K Rt = (nx 55 lv (.int (1 : Int32) :: st) w) := id rfl
theorem sX9_mergeAll_55 (lv : zL) (st : List Value) (w : zW) (nx K : Nat → zL → List Value → zW → Prop) (Rt : Option Value → zW → Prop) : z_st1 (tX9_mergeAll 55) 55 lv st w nx K Rt = (z_2i st (fun x y r => nx 56 lv (.int (x - y) :: r) w)) := id rfl
theorem sX9_mergeAll_56 (lv : zL) (st : List Value) (w : zW) (nx K : Nat → zL → List Value → zW → Prop) (Rt : Option Value → zW → Prop) : z_st1 (tX9_mergeAll 56) 56 lv st w nx K Rt = (z_ia st (fun x i r => z_ar0 w x (fun m g => vp_in i m ∧ nx 57 lv (.int (g i.toNatClampNeg) :: r) w))) := id rfl
theorem sX9_mergeAll_57 (lv : zL) (st : List Value) (w : zW) (nx K : Nat → zL → List Value → zW → Prop) (Rt : Option Value → zW → Prop) : z_st1 (tX9_mergeAll 57) 57 lv st w nx K Rt = (nx 58 lv (.int (1 : Int32) :: st) w) := id rfl
theorem sX9_mergeAll_58 (lv : zL) (st : List Value) (w : zW) (nx K : Nat → zL → List Value → zW → Prop) (Rt : Option Value → zW → Prop) : z_st1 (tX9_mergeAll 58) 58 lv st w nx K Rt = (z_2i st (fun x y r => nx 59 lv (.int (x - y) :: r) w)) := id rfl
theorem sX9_mergeAll_59 (lv : zL) (st : List Value) (w : zW) (nx K : Nat → zL → List Value → zW → Prop) (Rt : Option Value → zW → Prop) : z_st1 (tX9_mergeAll 59) 59 lv st w nx K Rt = (z_2i st (fun x y r => nx 60 lv (.int (x * y) :: r) w)) := id rfl
theorem sX9_mergeAll_60 (lv : zL) (st : List Value) (w : zW) (nx K : Nat → zL → List Value → zW → Prop) (Rt : Option Value → zW → Prop) : z_st1 (tX9_mergeAll 60) 60 lv st w nx K Rt = (z_la lv 0 (fun x => nx 61 lv (.ref x :: st) w)) := id rfl
theorem sX9_mergeAll_61 (lv : zL) (st : List Value) (w : zW) (nx K : Nat → zL → List Value → zW → Prop) (Rt : Option Value → zW → Prop) : z_st1 (tX9_mergeAll 61) 61 lv st w nx K Rt = (z_1a st (fun x r => z_ob w x 10 (fun fs => z_fl fs 9 (fun u => nx 64 lv (u :: r) w)))) := id rfl
theorem sX9_mergeAll_64 (lv : zL) (st : List Value) (w : zW) (nx K : Nat → zL → List Value → zW → Prop) (Rt : Option Value → zW → Prop) : z_st1 (tX9_mergeAll 64) 64 lv st w nx K Rt = (nx 66 lv (.int (32 : Int32) :: st) w) := id rfl
theorem sX9_mergeAll_66 (lv : zL) (st : List Value) (w : zW) (nx K : Nat → zL → List Value → zW → Prop) (Rt : Option Value → zW → Prop) : z_st1 (tX9_mergeAll 66) 66 lv st w nx K Rt = (z_la lv 0 (fun x => nx 67 lv (.ref x :: st) w)) := id rfl
theorem sX9_mergeAll_67 (lv : zL) (st : List Value) (w : zW) (nx K : Nat → zL → List Value → zW → Prop) (Rt : Option Value → zW → Prop) : z_st1 (tX9_mergeAll 67) 67 lv st w nx K Rt = (z_1a st (fun x r => z_ob w x 10 (fun fs => z_fl fs 23 (fun u => nx 70 lv (u :: r) w)))) := id rfl
theorem sX9_mergeAll_70 (lv : zL) (st : List Value) (w : zW) (nx K : Nat → zL → List Value → zW → Prop) (Rt : Option Value → zW → Prop) : z_st1 (tX9_mergeAll 70) 70 lv st w nx K Rt = (nx 73 lv (.int (200 : Int32) :: st) w) := id rfl
theorem sX9_mergeAll_73 (lv : zL) (st : List Value) (w : zW) (nx K : Nat → zL → List Value → zW → Prop) (Rt : Option Value → zW → Prop) : z_st1 (tX9_mergeAll 73) 73 lv st w nx K Rt = (z_li lv 1 (fun x => nx 74 lv (.int x :: st) w)) := id rfl
theorem sX9_mergeAll_74 (lv : zL) (st : List Value) (w : zW) (nx K : Nat → zL → List Value → zW → Prop) (Rt : Option Value → zW → Prop) : z_st1 (tX9_mergeAll 74) 74 lv st w nx K Rt = (z_2i st (fun x y r => nx 75 lv (.int (x * y) :: r) w)) := id rfl
theorem sX9_mergeAll_75 (lv : zL) (st : List Value) (w : zW) (nx K : Nat → zL → List Value → zW → Prop) (Rt : Option Value → zW → Prop) : z_st1 (tX9_mergeAll 75) 75 lv st w nx K Rt = (z_li lv 2 (fun x => nx 76 lv (.int x :: st) w)) := id rfl
theorem sX9_mergeAll_76 (lv : zL) (st : List Value) (w : zW) (nx K : Nat → zL → List Value → zW → Prop) (Rt : Option Value → zW → Prop) : z_st1 (tX9_mergeAll 76) 76 lv st w nx K Rt = (z_2i st (fun x y r => nx 77 lv (.int (x + y) :: r) w)) := id rfl
theorem sX9_mergeAll_77 (lv : zL) (st : List Value) (w : zW) (nx K : Nat → zL → List Value → zW → Prop) (Rt : Option Value → zW → Prop) : z_st1 (tX9_mergeAll 77) 77 lv st w nx K Rt = (z_ia st (fun x i r => z_ar0 w x (fun m g => vp_in i m ∧ nx 78 lv (.int (g i.toNatClampNeg) :: r) w))) := id rfl
theorem sX9_mergeAll_78 (lv : zL) (st : List Value) (w : zW) (nx K : Nat → zL → List Value → zW → Prop) (Rt : Option Value → zW → Prop) : z_st1 (tX9_mergeAll 78) 78 lv st w nx K Rt = (nx 79 lv (.int (1 : Int32) :: st) w) := id rfl
theorem sX9_mergeAll_79 (lv : zL) (st : List Value) (w : zW) (nx K : Nat → zL → List Value → zW → Prop) (Rt : Option Value → zW → Prop) : z_st1 (tX9_mergeAll 79) 79 lv st w nx K Rt = (z_2i st (fun x y r => nx 80 lv (.int (x - y) :: r) w)) := id rfl
theorem sX9_mergeAll_80 (lv : zL) (st : List Value) (w : zW) (nx K : Nat → zL → List Value → zW → Prop) (Rt : Option Value → zW → Prop) : z_st1 (tX9_mergeAll 80) 80 lv st w nx K Rt = (z_2i st (fun x y r => nx 81 lv (.int (x * y) :: r) w)) := id rfl
theorem sX9_mergeAll_84 (lv : zL) (st : List Value) (w : zW) (nx K : Nat → zL → List Value → zW → Prop) (Rt : Option Value → zW → Prop) : z_st1 (tX9_mergeAll 84) 84 lv st w nx K Rt = (z_1i st (fun x r => (x ≤ 0 → nx 92 lv r w) ∧ (¬ x ≤ 0 → nx 87 lv r w))) := id rfl
theorem sX9_mergeAll_87 (lv : zL) (st : List Value) (w : zW) (nx K : Nat → zL → List Value → zW → Prop) (Rt : Option Value → zW → Prop) : z_st1 (tX9_mergeAll 87) 87 lv st w nx K Rt = (nx 89 lv (.int (-10 : Int32) :: st) w) := id rfl
theorem sX9_mergeAll_89 (lv : zL) (st : List Value) (w : zW) (nx K : Nat → zL → List Value → zW → Prop) (Rt : Option Value → zW → Prop) : z_st1 (tX9_mergeAll 89) 89 lv st w nx K Rt = (z_li lv 1 (fun x => nx 90 lv (.int x :: st) w)) := id rfl
theorem sX9_mergeAll_90 (lv : zL) (st : List Value) (w : zW) (nx K : Nat → zL → List Value → zW → Prop) (Rt : Option Value → zW → Prop) : z_st1 (tX9_mergeAll 90) 90 lv st w nx K Rt = (z_2i st (fun x y r => nx 91 lv (.int (x - y) :: r) w)) := id rfl
theorem sX9_mergeAll_91 (lv : zL) (st : List Value) (w : zW) (nx K : Nat → zL → List Value → zW → Prop) (Rt : Option Value → zW → Prop) : z_st1 (tX9_mergeAll 91) 91 lv st w nx K Rt = (z_e1 st (fun x => Rt (some (.int x)) w)) := id rfl
theorem sX9_mergeAll_92 (lv : zL) (st : List Value) (w : zW) (nx K : Nat → zL → List Value → zW → Prop) (Rt : Option Value → zW → Prop) : z_st1 (tX9_mergeAll 92) 92 lv st w nx K Rt = (z_li lv 2 (fun x => z_ok1 lv 2 = true ∧ nx 95 (lv.set 2 (some (.int (x + (1 : Int32))))) st w)) := id rfl
theorem sX9_mergeAll_95 (lv : zL) (st : List Value) (w : zW) (nx K : Nat → zL → List Value → zW → Prop) (Rt : Option Value → zW → Prop) : z_st1 (tX9_mergeAll 95) 95 lv st w nx K Rt = (nx 26 lv st w) := id rfl
theorem sX9_mergeAll_98 (lv : zL) (st : List Value) (w : zW) (nx K : Nat → zL → List Value → zW → Prop) (Rt : Option Value → zW → Prop) : z_st1 (tX9_mergeAll 98) 98 lv st w nx K Rt = (z_li lv 1 (fun x => z_ok1 lv 1 = true ∧ nx 101 (lv.set 1 (some (.int (x + (1 : Int32))))) st w)) := id rfl
theorem sX9_mergeAll_101 (lv : zL) (st : List Value) (w : zW) (nx K : Nat → zL → List Value → zW → Prop) (Rt : Option Value → zW → Prop) : z_st1 (tX9_mergeAll 101) 101 lv st w nx K Rt = (nx 18 lv st w) := id rfl
theorem sX9_mergeAll_104 (lv : zL) (st : List Value) (w : zW) (nx K : Nat → zL → List Value → zW → Prop) (Rt : Option Value → zW → Prop) : z_st1 (tX9_mergeAll 104) 104 lv st w nx K Rt = (z_la lv 0 (fun x => nx 105 lv (.ref x :: st) w)) := id rfl
theorem sX9_mergeAll_105 (lv : zL) (st : List Value) (w : zW) (nx K : Nat → zL → List Value → zW → Prop) (Rt : Option Value → zW → Prop) : z_st1 (tX9_mergeAll 105) 105 lv st w nx K Rt = (nx 106 lv (.int (0 : Int32) :: st) w) := id rfl
theorem sX9_mergeAll_106 (lv : zL) (st : List Value) (w : zW) (nx K : Nat → zL → List Value → zW → Prop) (Rt : Option Value → zW → Prop) : z_st1 (tX9_mergeAll 106) 106 lv st w nx K Rt = (z_ia st (fun x i r => z_ob w x 10 (fun fs => 30 < fs.length ∧ nx 109 lv r (z_up w x (.inr (10, fs.set 30 (.int i))))))) := id rfl
theorem sX9_mergeAll_109 (lv : zL) (st : List Value) (w : zW) (nx K : Nat → zL → List Value → zW → Prop) (Rt : Option Value → zW → Prop) : z_st1 (tX9_mergeAll 109) 109 lv st w nx K Rt = (nx 110 lv (.int (0 : Int32) :: st) w) := id rfl
theorem sX9_mergeAll_110 (lv : zL) (st : List Value) (w : zW) (nx K : Nat → zL → List Value → zW → Prop) (Rt : Option Value → zW → Prop) : z_st1 (tX9_mergeAll 110) 110 lv st w nx K Rt = (z_1i st (fun x r => z_ok1 lv 1 = true ∧ nx 111 (lv.set 1 (some (.int x))) r w)) := id rfl
theorem sX9_mergeAll_111 (lv : zL) (st : List Value) (w : zW) (nx K : Nat → zL → List Value → zW → Prop) (Rt : Option Value → zW → Prop) : z_st1 (tX9_mergeAll 111) 111 lv st w nx K Rt = (z_li lv 1 (fun x => nx 112 lv (.int x :: st) w)) := id rfl
theorem sX9_mergeAll_112 (lv : zL) (st : List Value) (w : zW) (nx K : Nat → zL → List Value → zW → Prop) (Rt : Option Value → zW → Prop) : z_st1 (tX9_mergeAll 112) 112 lv st w nx K Rt = (nx 114 lv (.int (8 : Int32) :: st) w) := id rfl
theorem sX9_mergeAll_114 (lv : zL) (st : List Value) (w : zW) (nx K : Nat → zL → List Value → zW → Prop) (Rt : Option Value → zW → Prop) : z_st1 (tX9_mergeAll 114) 114 lv st w nx K Rt = (z_2i st (fun x y r => (y ≤ x → nx 164 lv r w) ∧ (¬ y ≤ x → nx 117 lv r w))) := id rfl
theorem sX9_mergeAll_117 (lv : zL) (st : List Value) (w : zW) (nx K : Nat → zL → List Value → zW → Prop) (Rt : Option Value → zW → Prop) : z_st1 (tX9_mergeAll 117) 117 lv st w nx K Rt = (nx 118 lv (.int (0 : Int32) :: st) w) := id rfl
theorem sX9_mergeAll_118 (lv : zL) (st : List Value) (w : zW) (nx K : Nat → zL → List Value → zW → Prop) (Rt : Option Value → zW → Prop) : z_st1 (tX9_mergeAll 118) 118 lv st w nx K Rt = (z_1i st (fun x r => z_ok1 lv 2 = true ∧ nx 119 (lv.set 2 (some (.int x))) r w)) := id rfl
theorem sX9_mergeAll_119 (lv : zL) (st : List Value) (w : zW) (nx K : Nat → zL → List Value → zW → Prop) (Rt : Option Value → zW → Prop) : z_st1 (tX9_mergeAll 119) 119 lv st w nx K Rt = (z_li lv 2 (fun x => nx 120 lv (.int x :: st) w)) := id rfl
theorem sX9_mergeAll_120 (lv : zL) (st : List Value) (w : zW) (nx K : Nat → zL → List Value → zW → Prop) (Rt : Option Value → zW → Prop) : z_st1 (tX9_mergeAll 120) 120 lv st w nx K Rt = (z_la lv 0 (fun x => nx 121 lv (.ref x :: st) w)) := id rfl
theorem sX9_mergeAll_121 (lv : zL) (st : List Value) (w : zW) (nx K : Nat → zL → List Value → zW → Prop) (Rt : Option Value → zW → Prop) : z_st1 (tX9_mergeAll 121) 121 lv st w nx K Rt = (z_1a st (fun x r => z_ob w x 10 (fun fs => z_fl fs 24 (fun u => nx 124 lv (u :: r) w)))) := id rfl
theorem sX9_mergeAll_124 (lv : zL) (st : List Value) (w : zW) (nx K : Nat → zL → List Value → zW → Prop) (Rt : Option Value → zW → Prop) : z_st1 (tX9_mergeAll 124) 124 lv st w nx K Rt = (z_li lv 1 (fun x => nx 125 lv (.int x :: st) w)) := id rfl
theorem sX9_mergeAll_125 (lv : zL) (st : List Value) (w : zW) (nx K : Nat → zL → List Value → zW → Prop) (Rt : Option Value → zW → Prop) : z_st1 (tX9_mergeAll 125) 125 lv st w nx K Rt = (z_ia st (fun x i r => z_ar0 w x (fun m g => vp_in i m ∧ nx 126 lv (.int (g i.toNatClampNeg) :: r) w))) := id rfl
theorem sX9_mergeAll_126 (lv : zL) (st : List Value) (w : zW) (nx K : Nat → zL → List Value → zW → Prop) (Rt : Option Value → zW → Prop) : z_st1 (tX9_mergeAll 126) 126 lv st w nx K Rt = (z_2i st (fun x y r => (y ≤ x → nx 151 lv r w) ∧ (¬ y ≤ x → nx 129 lv r w))) := id rfl
theorem sX9_mergeAll_129 (lv : zL) (st : List Value) (w : zW) (nx K : Nat → zL → List Value → zW → Prop) (Rt : Option Value → zW → Prop) : z_st1 (tX9_mergeAll 129) 129 lv st w nx K Rt = (z_la lv 0 (fun x => nx 130 lv (.ref x :: st) w)) := id rfl
theorem sX9_mergeAll_130 (lv : zL) (st : List Value) (w : zW) (nx K : Nat → zL → List Value → zW → Prop) (Rt : Option Value → zW → Prop) : z_st1 (tX9_mergeAll 130) 130 lv st w nx K Rt = (z_la lv 0 (fun x => nx 131 lv (.ref x :: st) w)) := id rfl
theorem sX9_mergeAll_131 (lv : zL) (st : List Value) (w : zW) (nx K : Nat → zL → List Value → zW → Prop) (Rt : Option Value → zW → Prop) : z_st1 (tX9_mergeAll 131) 131 lv st w nx K Rt = (z_1a st (fun x r => z_ob w x 10 (fun fs => z_fl fs 23 (fun u => nx 134 lv (u :: r) w)))) := id rfl
theorem sX9_mergeAll_134 (lv : zL) (st : List Value) (w : zW) (nx K : Nat → zL → List Value → zW → Prop) (Rt : Option Value → zW → Prop) : z_st1 (tX9_mergeAll 134) 134 lv st w nx K Rt = (nx 137 lv (.int (200 : Int32) :: st) w) := id rfl
theorem sX9_mergeAll_137 (lv : zL) (st : List Value) (w : zW) (nx K : Nat → zL → List Value → zW → Prop) (Rt : Option Value → zW → Prop) : z_st1 (tX9_mergeAll 137) 137 lv st w nx K Rt = (z_li lv 1 (fun x => nx 138 lv (.int x :: st) w)) := id rfl
theorem sX9_mergeAll_138 (lv : zL) (st : List Value) (w : zW) (nx K : Nat → zL → List Value → zW → Prop) (Rt : Option Value → zW → Prop) : z_st1 (tX9_mergeAll 138) 138 lv st w nx K Rt = (z_2i st (fun x y r => nx 139 lv (.int (x * y) :: r) w)) := id rfl
theorem sX9_mergeAll_139 (lv : zL) (st : List Value) (w : zW) (nx K : Nat → zL → List Value → zW → Prop) (Rt : Option Value → zW → Prop) : z_st1 (tX9_mergeAll 139) 139 lv st w nx K Rt = (z_li lv 2 (fun x => nx 140 lv (.int x :: st) w)) := id rfl
theorem sX9_mergeAll_140 (lv : zL) (st : List Value) (w : zW) (nx K : Nat → zL → List Value → zW → Prop) (Rt : Option Value → zW → Prop) : z_st1 (tX9_mergeAll 140) 140 lv st w nx K Rt = (z_2i st (fun x y r => nx 141 lv (.int (x + y) :: r) w)) := id rfl
theorem sX9_mergeAll_141 (lv : zL) (st : List Value) (w : zW) (nx K : Nat → zL → List Value → zW → Prop) (Rt : Option Value → zW → Prop) : z_st1 (tX9_mergeAll 141) 141 lv st w nx K Rt = (z_ia st (fun x i r => z_ar0 w x (fun m g => vp_in i m ∧ nx 142 lv (.int (g i.toNatClampNeg) :: r) w))) := id rfl
theorem sX9_mergeAll_145 (lv : zL) (st : List Value) (w : zW) (nx K : Nat → zL → List Value → zW → Prop) (Rt : Option Value → zW → Prop) : z_st1 (tX9_mergeAll 145) 145 lv st w nx K Rt = (z_li lv 2 (fun x => z_ok1 lv 2 = true ∧ nx 148 (lv.set 2 (some (.int (x + (1 : Int32))))) st w)) := id rfl
theorem sX9_mergeAll_148 (lv : zL) (st : List Value) (w : zW) (nx K : Nat → zL → List Value → zW → Prop) (Rt : Option Value → zW → Prop) : z_st1 (tX9_mergeAll 148) 148 lv st w nx K Rt = (nx 119 lv st w) := id rfl
theorem sX9_mergeAll_151 (lv : zL) (st : List Value) (w : zW) (nx K : Nat → zL → List Value → zW → Prop) (Rt : Option Value → zW → Prop) : z_st1 (tX9_mergeAll 151) 151 lv st w nx K Rt = (z_la lv 0 (fun x => nx 152 lv (.ref x :: st) w)) := id rfl
theorem sX9_mergeAll_152 (lv : zL) (st : List Value) (w : zW) (nx K : Nat → zL → List Value → zW → Prop) (Rt : Option Value → zW → Prop) : z_st1 (tX9_mergeAll 152) 152 lv st w nx K Rt = (z_1a st (fun x r => z_ob w x 10 (fun fs => z_fl fs 24 (fun u => nx 155 lv (u :: r) w)))) := id rfl
theorem sX9_mergeAll_155 (lv : zL) (st : List Value) (w : zW) (nx K : Nat → zL → List Value → zW → Prop) (Rt : Option Value → zW → Prop) : z_st1 (tX9_mergeAll 155) 155 lv st w nx K Rt = (z_li lv 1 (fun x => nx 156 lv (.int x :: st) w)) := id rfl
theorem sX9_mergeAll_156 (lv : zL) (st : List Value) (w : zW) (nx K : Nat → zL → List Value → zW → Prop) (Rt : Option Value → zW → Prop) : z_st1 (tX9_mergeAll 156) 156 lv st w nx K Rt = (nx 157 lv (.int (0 : Int32) :: st) w) := id rfl
theorem sX9_mergeAll_157 (lv : zL) (st : List Value) (w : zW) (nx K : Nat → zL → List Value → zW → Prop) (Rt : Option Value → zW → Prop) : z_st1 (tX9_mergeAll 157) 157 lv st w nx K Rt = (z_iia st (fun x i u r => z_ar0 w x (fun m g => vp_in i m ∧ nx 158 lv r (z_up w x (.inl (0, m, .inl (upd g i.toNatClampNeg u))))))) := id rfl
theorem sX9_mergeAll_158 (lv : zL) (st : List Value) (w : zW) (nx K : Nat → zL → List Value → zW → Prop) (Rt : Option Value → zW → Prop) : z_st1 (tX9_mergeAll 158) 158 lv st w nx K Rt = (z_li lv 1 (fun x => z_ok1 lv 1 = true ∧ nx 161 (lv.set 1 (some (.int (x + (1 : Int32))))) st w)) := id rfl
theorem sX9_mergeAll_161 (lv : zL) (st : List Value) (w : zW) (nx K : Nat → zL → List Value → zW → Prop) (Rt : Option Value → zW → Prop) : z_st1 (tX9_mergeAll 161) 161 lv st w nx K Rt = (nx 111 lv st w) := id rfl
theorem sX9_mergeAll_164 (lv : zL) (st : List Value) (w : zW) (nx K : Nat → zL → List Value → zW → Prop) (Rt : Option Value → zW → Prop) : z_st1 (tX9_mergeAll 164) 164 lv st w nx K Rt = (z_la lv 0 (fun x => nx 165 lv (.ref x :: st) w)) := id rfl
theorem sX9_mergeAll_165 (lv : zL) (st : List Value) (w : zW) (nx K : Nat → zL → List Value → zW → Prop) (Rt : Option Value → zW → Prop) : z_st1 (tX9_mergeAll 165) 165 lv st w nx K Rt = (nx 166 lv (.int (0 : Int32) :: st) w) := id rfl
theorem sX9_mergeAll_169 (lv : zL) (st : List Value) (w : zW) (nx K : Nat → zL → List Value → zW → Prop) (Rt : Option Value → zW → Prop) : z_st1 (tX9_mergeAll 169) 169 lv st w nx K Rt = (nx 170 lv (.int (0 : Int32) :: st) w) := id rfl
theorem sX9_mergeAll_170 (lv : zL) (st : List Value) (w : zW) (nx K : Nat → zL → List Value → zW → Prop) (Rt : Option Value → zW → Prop) : z_st1 (tX9_mergeAll 170) 170 lv st w nx K Rt = (z_1i st (fun x r => z_ok1 lv 1 = true ∧ nx 171 (lv.set 1 (some (.int x))) r w)) := id rfl
theorem sX9_mergeAll_171 (lv : zL) (st : List Value) (w : zW) (nx K : Nat → zL → List Value → zW → Prop) (Rt : Option Value → zW → Prop) : z_st1 (tX9_mergeAll 171) 171 lv st w nx K Rt = (z_li lv 1 (fun x => nx 172 lv (.int x :: st) w)) := id rfl
theorem sX9_mergeAll_172 (lv : zL) (st : List Value) (w : zW) (nx K : Nat → zL → List Value → zW → Prop) (Rt : Option Value → zW → Prop) : z_st1 (tX9_mergeAll 172) 172 lv st w nx K Rt = (z_la lv 0 (fun x => nx 173 lv (.ref x :: st) w)) := id rfl
theorem sX9_mergeAll_173 (lv : zL) (st : List Value) (w : zW) (nx K : Nat → zL → List Value → zW → Prop) (Rt : Option Value → zW → Prop) : z_st1 (tX9_mergeAll 173) 173 lv st w nx K Rt = (z_1a st (fun x r => z_ob w x 10 (fun fs => z_fl fs 30 (fun u => nx 176 lv (u :: r) w)))) := id rfl
theorem sX9_mergeAll_176 (lv : zL) (st : List Value) (w : zW) (nx K : Nat → zL → List Value → zW → Prop) (Rt : Option Value → zW → Prop) : z_st1 (tX9_mergeAll 176) 176 lv st w nx K Rt = (z_2i st (fun x y r => (y ≤ x → nx 197 lv r w) ∧ (¬ y ≤ x → nx 179 lv r w))) := id rfl
theorem sX9_mergeAll_179 (lv : zL) (st : List Value) (w : zW) (nx K : Nat → zL → List Value → zW → Prop) (Rt : Option Value → zW → Prop) : z_st1 (tX9_mergeAll 179) 179 lv st w nx K Rt = (z_la lv 0 (fun x => nx 180 lv (.ref x :: st) w)) := id rfl
theorem sX9_mergeAll_180 (lv : zL) (st : List Value) (w : zW) (nx K : Nat → zL → List Value → zW → Prop) (Rt : Option Value → zW → Prop) : z_st1 (tX9_mergeAll 180) 180 lv st w nx K Rt = (z_1a st (fun x r => z_ob w x 10 (fun fs => z_fl fs 29 (fun u => nx 183 lv (u :: r) w)))) := id rfl
theorem sX9_mergeAll_183 (lv : zL) (st : List Value) (w : zW) (nx K : Nat → zL → List Value → zW → Prop) (Rt : Option Value → zW → Prop) : z_st1 (tX9_mergeAll 183) 183 lv st w nx K Rt = (z_li lv 1 (fun x => nx 184 lv (.int x :: st) w)) := id rfl
theorem sX9_mergeAll_184 (lv : zL) (st : List Value) (w : zW) (nx K : Nat → zL → List Value → zW → Prop) (Rt : Option Value → zW → Prop) : z_st1 (tX9_mergeAll 184) 184 lv st w nx K Rt = (z_la lv 0 (fun x => nx 185 lv (.ref x :: st) w)) := id rfl
theorem sX9_mergeAll_185 (lv : zL) (st : List Value) (w : zW) (nx K : Nat → zL → List Value → zW → Prop) (Rt : Option Value → zW → Prop) : z_st1 (tX9_mergeAll 185) 185 lv st w nx K Rt = (z_1a st (fun x r => z_ob w x 10 (fun fs => z_fl fs 28 (fun u => nx 188 lv (u :: r) w)))) := id rfl
theorem sX9_mergeAll_188 (lv : zL) (st : List Value) (w : zW) (nx K : Nat → zL → List Value → zW → Prop) (Rt : Option Value → zW → Prop) : z_st1 (tX9_mergeAll 188) 188 lv st w nx K Rt = (z_li lv 1 (fun x => nx 189 lv (.int x :: st) w)) := id rfl
theorem sX9_mergeAll_189 (lv : zL) (st : List Value) (w : zW) (nx K : Nat → zL → List Value → zW → Prop) (Rt : Option Value → zW → Prop) : z_st1 (tX9_mergeAll 189) 189 lv st w nx K Rt = (z_ia st (fun x i r => z_ar0 w x (fun m g => vp_in i m ∧ nx 190 lv (.int (g i.toNatClampNeg) :: r) w))) := id rfl
theorem sX9_mergeAll_190 (lv : zL) (st : List Value) (w : zW) (nx K : Nat → zL → List Value → zW → Prop) (Rt : Option Value → zW → Prop) : z_st1 (tX9_mergeAll 190) 190 lv st w nx K Rt = (z_iia st (fun x i u r => z_ar0 w x (fun m g => vp_in i m ∧ nx 191 lv r (z_up w x (.inl (0, m, .inl (upd g i.toNatClampNeg u))))))) := id rfl
theorem sX9_mergeAll_191 (lv : zL) (st : List Value) (w : zW) (nx K : Nat → zL → List Value → zW → Prop) (Rt : Option Value → zW → Prop) : z_st1 (tX9_mergeAll 191) 191 lv st w nx K Rt = (z_li lv 1 (fun x => z_ok1 lv 1 = true ∧ nx 194 (lv.set 1 (some (.int (x + (1 : Int32))))) st w)) := id rfl
theorem sX9_mergeAll_194 (lv : zL) (st : List Value) (w : zW) (nx K : Nat → zL → List Value → zW → Prop) (Rt : Option Value → zW → Prop) : z_st1 (tX9_mergeAll 194) 194 lv st w nx K Rt = (nx 171 lv st w) := id rfl
theorem sX9_mergeAll_197 (lv : zL) (st : List Value) (w : zW) (nx K : Nat → zL → List Value → zW → Prop) (Rt : Option Value → zW → Prop) : z_st1 (tX9_mergeAll 197) 197 lv st w nx K Rt = (z_la lv 0 (fun x => nx 198 lv (.ref x :: st) w)) := id rfl
theorem sX9_mergeAll_198 (lv : zL) (st : List Value) (w : zW) (nx K : Nat → zL → List Value → zW → Prop) (Rt : Option Value → zW → Prop) : z_st1 (tX9_mergeAll 198) 198 lv st w nx K Rt = (z_la lv 0 (fun x => nx 199 lv (.ref x :: st) w)) := id rfl
theorem sX9_mergeAll_199 (lv : zL) (st : List Value) (w : zW) (nx K : Nat → zL → List Value → zW → Prop) (Rt : Option Value → zW → Prop) : z_st1 (tX9_mergeAll 199) 199 lv st w nx K Rt = (z_1a st (fun x r => z_ob w x 10 (fun fs => z_fl fs 30 (fun u => nx 202 lv (u :: r) w)))) := id rfl
theorem sX9_mergeAll_202 (lv : zL) (st : List Value) (w : zW) (nx K : Nat → zL → List Value → zW → Prop) (Rt : Option Value → zW → Prop) : z_st1 (tX9_mergeAll 202) 202 lv st w nx K Rt = (z_ia st (fun x i r => z_ob w x 10 (fun fs => 31 < fs.length ∧ nx 205 lv r (z_up w x (.inr (10, fs.set 31 (.int i))))))) := id rfl
theorem sX9_mergeAll_205 (lv : zL) (st : List Value) (w : zW) (nx K : Nat → zL → List Value → zW → Prop) (Rt : Option Value → zW → Prop) : z_st1 (tX9_mergeAll 205) 205 lv st w nx K Rt = (z_la lv 0 (fun x => nx 206 lv (.ref x :: st) w)) := id rfl
theorem sX9_mergeAll_209 (lv : zL) (st : List Value) (w : zW) (nx K : Nat → zL → List Value → zW → Prop) (Rt : Option Value → zW → Prop) : z_st1 (tX9_mergeAll 209) 209 lv st w nx K Rt = (z_e1 st (fun x => Rt (some (.int x)) w)) := id rfl
theorem sX9_mergeAll_81 (lv : zL) (st : List Value) (w : zW) (nx K : Nat → zL → List Value → zW → Prop) (Rt : Option Value → zW → Prop) : z_st1 (tX9_mergeAll 81) 81 lv st w nx K Rt = K 81 lv st w := id rfl
theorem sX9_mergeAll_142 (lv : zL) (st : List Value) (w : zW) (nx K : Nat → zL → List Value → zW → Prop) (Rt : Option Value → zW → Prop) : z_st1 (tX9_mergeAll 142) 142 lv st w nx K Rt = K 142 lv st w := id rfl
theorem sX9_mergeAll_166 (lv : zL) (st : List Value) (w : zW) (nx K : Nat → zL → List Value → zW → Prop) (Rt : Option Value → zW → Prop) : z_st1 (tX9_mergeAll 166) 166 lv st w nx K Rt = K 166 lv st w := id rfl
theorem sX9_mergeAll_206 (lv : zL) (st : List Value) (w : zW) (nx K : Nat → zL → List Value → zW → Prop) (Rt : Option Value → zW → Prop) : z_st1 (tX9_mergeAll 206) 206 lv st w nx K Rt = K 206 lv st w := id rfl
theorem dX9_mergeAll_81 : decode cX9_mergeAll 81 = .ok (.invokevirtual 123, 3) := by decide +kernel
theorem dX9_mergeAll_142 : decode cX9_mergeAll 142 = .ok (.invokevirtual 150, 3) := by decide +kernel
theorem dX9_mergeAll_166 : decode cX9_mergeAll 166 = .ok (.invokevirtual 161, 3) := by decide +kernel
theorem dX9_mergeAll_206 : decode cX9_mergeAll 206 = .ok (.invokevirtual 169, 3) := by decide +kernel

def tmX9_failed (pc : Nat) : zI := match pc with
  | 0 => (1, 0, 0, 1, 0)
  | 1 => (6, 0, 0, 2, 0)
  | 2 => (47, 10, 0, 5, 0)
  | 5 => (1, 0, 0, 6, 0)
  | 6 => (46, 10, 34, 9, 0)
  | 9 => (53, 0, 0, 10, 0)
  | _ => (99, 0, 0, 0, 0)
def tX9_failed (pc : Nat) : zI := if pc < 10 then tmX9_failed pc else (99, 0, 0, 0, 0)
theorem tkX9_failed : z_tab RX9 wsX9_failed 1 (some .int) cX9_failed 10 tX9_failed := z_tab_of (tm := tmX9_failed) (by decide +kernel)
theorem sX9_failed_0 (lv : zL) (st : List Value) (w : zW) (nx K : Nat → zL → List Value → zW → Prop) (Rt : Option Value → zW → Prop) : z_st1 (tX9_failed 0) 0 lv st w nx K Rt = (z_la lv 0 (fun x => nx 1 lv (.ref x :: st) w)) := id rfl
theorem sX9_failed_1 (lv : zL) (st : List Value) (w : zW) (nx K : Nat → zL → List Value → zW → Prop) (Rt : Option Value → zW → Prop) : z_st1 (tX9_failed 1) 1 lv st w nx K Rt = (nx 2 lv (.int (0 : Int32) :: st) w) := id rfl
theorem sX9_failed_2 (lv : zL) (st : List Value) (w : zW) (nx K : Nat → zL → List Value → zW → Prop) (Rt : Option Value → zW → Prop) : z_st1 (tX9_failed 2) 2 lv st w nx K Rt = (z_ia st (fun x i r => z_ob w x 10 (fun fs => 0 < fs.length ∧ nx 5 lv r (z_up w x (.inr (10, fs.set 0 (.int i))))))) := id rfl
theorem sX9_failed_5 (lv : zL) (st : List Value) (w : zW) (nx K : Nat → zL → List Value → zW → Prop) (Rt : Option Value → zW → Prop) : z_st1 (tX9_failed 5) 5 lv st w nx K Rt = (z_la lv 0 (fun x => nx 6 lv (.ref x :: st) w)) := id rfl
theorem sX9_failed_6 (lv : zL) (st : List Value) (w : zW) (nx K : Nat → zL → List Value → zW → Prop) (Rt : Option Value → zW → Prop) : z_st1 (tX9_failed 6) 6 lv st w nx K Rt = (z_1a st (fun x r => z_ob w x 10 (fun fs => z_fl fs 34 (fun u => nx 9 lv (u :: r) w)))) := id rfl
theorem sX9_failed_9 (lv : zL) (st : List Value) (w : zW) (nx K : Nat → zL → List Value → zW → Prop) (Rt : Option Value → zW → Prop) : z_st1 (tX9_failed 9) 9 lv st w nx K Rt = (z_e1 st (fun x => Rt (some (.int x)) w)) := id rfl

def tmX9_count (pc : Nat) : zI := match pc with
  | 0 => (1, 0, 0, 1, 0)
  | 1 => (6, 0, 0, 2, 0)
  | 2 => (47, 10, 0, 5, 0)
  | 5 => (0, 1, 0, 6, 0)
  | 60 => (1, 0, 0, 61, 0)
  | 61 => (46, 10, 8, 64, 0)
  | 64 => (53, 0, 0, 65, 0)
  | 65 => (1, 0, 0, 66, 0)
  | 66 => (46, 10, 11, 69, 0)
  | 69 => (53, 0, 0, 70, 0)
  | 70 => (1, 0, 0, 71, 0)
  | 71 => (46, 10, 3, 74, 0)
  | 74 => (53, 0, 0, 75, 0)
  | 75 => (1, 0, 0, 76, 0)
  | 76 => (46, 10, 22, 79, 0)
  | 79 => (53, 0, 0, 80, 0)
  | 80 => (1, 0, 0, 81, 0)
  | 81 => (46, 10, 35, 84, 0)
  | 84 => (0, 1, 0, 85, 0)
  | 85 => (48, 0, 0, 86, 0)
  | 86 => (53, 0, 0, 87, 0)
  | 87 => (6, 0, 0, 88, 0)
  | 88 => (3, 2, 0, 89, 0)
  | 89 => (6, 0, 0, 90, 0)
  | 90 => (3, 3, 0, 91, 0)
  | 91 => (0, 3, 0, 92, 0)
  | 92 => (6, 0, 0, 94, 8)
  | 94 => (43, 112, 0, 97, 0)
  | 97 => (0, 2, 0, 98, 0)
  | 98 => (1, 0, 0, 99, 0)
  | 99 => (46, 10, 24, 102, 0)
  | 102 => (0, 3, 0, 103, 0)
  | 103 => (48, 0, 0, 104, 0)
  | 104 => (8, 0, 0, 105, 0)
  | 105 => (3, 2, 0, 106, 0)
  | 106 => (7, 3, 0, 109, 1)
  | 109 => (33, 91, 0, 112, 0)
  | 112 => (0, 2, 0, 113, 0)
  | 113 => (53, 0, 0, 114, 0)
  | 114 => (6, 0, 0, 115, (-1))
  | 115 => (53, 0, 0, 116, 0)
  | _ => (99, 0, 0, 0, 0)
def tX9_count (pc : Nat) : zI := if pc < 116 then tmX9_count pc else (99, 0, 0, 0, 0)
theorem tkX9_count : z_tab RX9 wsX9_count 4 (some .int) cX9_count 116 tX9_count := z_tab_of (tm := tmX9_count) (by decide +kernel)
theorem sX9_count_0 (lv : zL) (st : List Value) (w : zW) (nx K : Nat → zL → List Value → zW → Prop) (Rt : Option Value → zW → Prop) : z_st1 (tX9_count 0) 0 lv st w nx K Rt = (z_la lv 0 (fun x => nx 1 lv (.ref x :: st) w)) := id rfl
theorem sX9_count_1 (lv : zL) (st : List Value) (w : zW) (nx K : Nat → zL → List Value → zW → Prop) (Rt : Option Value → zW → Prop) : z_st1 (tX9_count 1) 1 lv st w nx K Rt = (nx 2 lv (.int (0 : Int32) :: st) w) := id rfl
theorem sX9_count_2 (lv : zL) (st : List Value) (w : zW) (nx K : Nat → zL → List Value → zW → Prop) (Rt : Option Value → zW → Prop) : z_st1 (tX9_count 2) 2 lv st w nx K Rt = (z_ia st (fun x i r => z_ob w x 10 (fun fs => 0 < fs.length ∧ nx 5 lv r (z_up w x (.inr (10, fs.set 0 (.int i))))))) := id rfl
theorem sX9_count_5 (lv : zL) (st : List Value) (w : zW) (nx K : Nat → zL → List Value → zW → Prop) (Rt : Option Value → zW → Prop) : z_st1 (tX9_count 5) 5 lv st w nx K Rt = (z_li lv 1 (fun x => nx 6 lv (.int x :: st) w)) := id rfl
theorem sX9_count_60 (lv : zL) (st : List Value) (w : zW) (nx K : Nat → zL → List Value → zW → Prop) (Rt : Option Value → zW → Prop) : z_st1 (tX9_count 60) 60 lv st w nx K Rt = (z_la lv 0 (fun x => nx 61 lv (.ref x :: st) w)) := id rfl
theorem sX9_count_61 (lv : zL) (st : List Value) (w : zW) (nx K : Nat → zL → List Value → zW → Prop) (Rt : Option Value → zW → Prop) : z_st1 (tX9_count 61) 61 lv st w nx K Rt = (z_1a st (fun x r => z_ob w x 10 (fun fs => z_fl fs 8 (fun u => nx 64 lv (u :: r) w)))) := id rfl
theorem sX9_count_64 (lv : zL) (st : List Value) (w : zW) (nx K : Nat → zL → List Value → zW → Prop) (Rt : Option Value → zW → Prop) : z_st1 (tX9_count 64) 64 lv st w nx K Rt = (z_e1 st (fun x => Rt (some (.int x)) w)) := id rfl
theorem sX9_count_65 (lv : zL) (st : List Value) (w : zW) (nx K : Nat → zL → List Value → zW → Prop) (Rt : Option Value → zW → Prop) : z_st1 (tX9_count 65) 65 lv st w nx K Rt = (z_la lv 0 (fun x => nx 66 lv (.ref x :: st) w)) := id rfl
theorem sX9_count_66 (lv : zL) (st : List Value) (w : zW) (nx K : Nat → zL → List Value → zW → Prop) (Rt : Option Value → zW → Prop) : z_st1 (tX9_count 66) 66 lv st w nx K Rt = (z_1a st (fun x r => z_ob w x 10 (fun fs => z_fl fs 11 (fun u => nx 69 lv (u :: r) w)))) := id rfl
theorem sX9_count_69 (lv : zL) (st : List Value) (w : zW) (nx K : Nat → zL → List Value → zW → Prop) (Rt : Option Value → zW → Prop) : z_st1 (tX9_count 69) 69 lv st w nx K Rt = (z_e1 st (fun x => Rt (some (.int x)) w)) := id rfl
theorem sX9_count_70 (lv : zL) (st : List Value) (w : zW) (nx K : Nat → zL → List Value → zW → Prop) (Rt : Option Value → zW → Prop) : z_st1 (tX9_count 70) 70 lv st w nx K Rt = (z_la lv 0 (fun x => nx 71 lv (.ref x :: st) w)) := id rfl
theorem sX9_count_71 (lv : zL) (st : List Value) (w : zW) (nx K : Nat → zL → List Value → zW → Prop) (Rt : Option Value → zW → Prop) : z_st1 (tX9_count 71) 71 lv st w nx K Rt = (z_1a st (fun x r => z_ob w x 10 (fun fs => z_fl fs 3 (fun u => nx 74 lv (u :: r) w)))) := id rfl
theorem sX9_count_74 (lv : zL) (st : List Value) (w : zW) (nx K : Nat → zL → List Value → zW → Prop) (Rt : Option Value → zW → Prop) : z_st1 (tX9_count 74) 74 lv st w nx K Rt = (z_e1 st (fun x => Rt (some (.int x)) w)) := id rfl
theorem sX9_count_75 (lv : zL) (st : List Value) (w : zW) (nx K : Nat → zL → List Value → zW → Prop) (Rt : Option Value → zW → Prop) : z_st1 (tX9_count 75) 75 lv st w nx K Rt = (z_la lv 0 (fun x => nx 76 lv (.ref x :: st) w)) := id rfl
theorem sX9_count_76 (lv : zL) (st : List Value) (w : zW) (nx K : Nat → zL → List Value → zW → Prop) (Rt : Option Value → zW → Prop) : z_st1 (tX9_count 76) 76 lv st w nx K Rt = (z_1a st (fun x r => z_ob w x 10 (fun fs => z_fl fs 22 (fun u => nx 79 lv (u :: r) w)))) := id rfl
theorem sX9_count_79 (lv : zL) (st : List Value) (w : zW) (nx K : Nat → zL → List Value → zW → Prop) (Rt : Option Value → zW → Prop) : z_st1 (tX9_count 79) 79 lv st w nx K Rt = (z_e1 st (fun x => Rt (some (.int x)) w)) := id rfl
theorem sX9_count_80 (lv : zL) (st : List Value) (w : zW) (nx K : Nat → zL → List Value → zW → Prop) (Rt : Option Value → zW → Prop) : z_st1 (tX9_count 80) 80 lv st w nx K Rt = (z_la lv 0 (fun x => nx 81 lv (.ref x :: st) w)) := id rfl
theorem sX9_count_81 (lv : zL) (st : List Value) (w : zW) (nx K : Nat → zL → List Value → zW → Prop) (Rt : Option Value → zW → Prop) : z_st1 (tX9_count 81) 81 lv st w nx K Rt = (z_1a st (fun x r => z_ob w x 10 (fun fs => z_fl fs 35 (fun u => nx 84 lv (u :: r) w)))) := id rfl
theorem sX9_count_84 (lv : zL) (st : List Value) (w : zW) (nx K : Nat → zL → List Value → zW → Prop) (Rt : Option Value → zW → Prop) : z_st1 (tX9_count 84) 84 lv st w nx K Rt = (z_li lv 1 (fun x => nx 85 lv (.int x :: st) w)) := id rfl
theorem sX9_count_85 (lv : zL) (st : List Value) (w : zW) (nx K : Nat → zL → List Value → zW → Prop) (Rt : Option Value → zW → Prop) : z_st1 (tX9_count 85) 85 lv st w nx K Rt = (z_ia st (fun x i r => z_ar0 w x (fun m g => vp_in i m ∧ nx 86 lv (.int (g i.toNatClampNeg) :: r) w))) := id rfl
theorem sX9_count_86 (lv : zL) (st : List Value) (w : zW) (nx K : Nat → zL → List Value → zW → Prop) (Rt : Option Value → zW → Prop) : z_st1 (tX9_count 86) 86 lv st w nx K Rt = (z_e1 st (fun x => Rt (some (.int x)) w)) := id rfl
theorem sX9_count_87 (lv : zL) (st : List Value) (w : zW) (nx K : Nat → zL → List Value → zW → Prop) (Rt : Option Value → zW → Prop) : z_st1 (tX9_count 87) 87 lv st w nx K Rt = (nx 88 lv (.int (0 : Int32) :: st) w) := id rfl
theorem sX9_count_88 (lv : zL) (st : List Value) (w : zW) (nx K : Nat → zL → List Value → zW → Prop) (Rt : Option Value → zW → Prop) : z_st1 (tX9_count 88) 88 lv st w nx K Rt = (z_1i st (fun x r => z_ok1 lv 2 = true ∧ nx 89 (lv.set 2 (some (.int x))) r w)) := id rfl
theorem sX9_count_89 (lv : zL) (st : List Value) (w : zW) (nx K : Nat → zL → List Value → zW → Prop) (Rt : Option Value → zW → Prop) : z_st1 (tX9_count 89) 89 lv st w nx K Rt = (nx 90 lv (.int (0 : Int32) :: st) w) := id rfl
theorem sX9_count_90 (lv : zL) (st : List Value) (w : zW) (nx K : Nat → zL → List Value → zW → Prop) (Rt : Option Value → zW → Prop) : z_st1 (tX9_count 90) 90 lv st w nx K Rt = (z_1i st (fun x r => z_ok1 lv 3 = true ∧ nx 91 (lv.set 3 (some (.int x))) r w)) := id rfl
theorem sX9_count_91 (lv : zL) (st : List Value) (w : zW) (nx K : Nat → zL → List Value → zW → Prop) (Rt : Option Value → zW → Prop) : z_st1 (tX9_count 91) 91 lv st w nx K Rt = (z_li lv 3 (fun x => nx 92 lv (.int x :: st) w)) := id rfl
theorem sX9_count_92 (lv : zL) (st : List Value) (w : zW) (nx K : Nat → zL → List Value → zW → Prop) (Rt : Option Value → zW → Prop) : z_st1 (tX9_count 92) 92 lv st w nx K Rt = (nx 94 lv (.int (8 : Int32) :: st) w) := id rfl
theorem sX9_count_94 (lv : zL) (st : List Value) (w : zW) (nx K : Nat → zL → List Value → zW → Prop) (Rt : Option Value → zW → Prop) : z_st1 (tX9_count 94) 94 lv st w nx K Rt = (z_2i st (fun x y r => (y ≤ x → nx 112 lv r w) ∧ (¬ y ≤ x → nx 97 lv r w))) := id rfl
theorem sX9_count_97 (lv : zL) (st : List Value) (w : zW) (nx K : Nat → zL → List Value → zW → Prop) (Rt : Option Value → zW → Prop) : z_st1 (tX9_count 97) 97 lv st w nx K Rt = (z_li lv 2 (fun x => nx 98 lv (.int x :: st) w)) := id rfl
theorem sX9_count_98 (lv : zL) (st : List Value) (w : zW) (nx K : Nat → zL → List Value → zW → Prop) (Rt : Option Value → zW → Prop) : z_st1 (tX9_count 98) 98 lv st w nx K Rt = (z_la lv 0 (fun x => nx 99 lv (.ref x :: st) w)) := id rfl
theorem sX9_count_99 (lv : zL) (st : List Value) (w : zW) (nx K : Nat → zL → List Value → zW → Prop) (Rt : Option Value → zW → Prop) : z_st1 (tX9_count 99) 99 lv st w nx K Rt = (z_1a st (fun x r => z_ob w x 10 (fun fs => z_fl fs 24 (fun u => nx 102 lv (u :: r) w)))) := id rfl
theorem sX9_count_102 (lv : zL) (st : List Value) (w : zW) (nx K : Nat → zL → List Value → zW → Prop) (Rt : Option Value → zW → Prop) : z_st1 (tX9_count 102) 102 lv st w nx K Rt = (z_li lv 3 (fun x => nx 103 lv (.int x :: st) w)) := id rfl
theorem sX9_count_103 (lv : zL) (st : List Value) (w : zW) (nx K : Nat → zL → List Value → zW → Prop) (Rt : Option Value → zW → Prop) : z_st1 (tX9_count 103) 103 lv st w nx K Rt = (z_ia st (fun x i r => z_ar0 w x (fun m g => vp_in i m ∧ nx 104 lv (.int (g i.toNatClampNeg) :: r) w))) := id rfl
theorem sX9_count_104 (lv : zL) (st : List Value) (w : zW) (nx K : Nat → zL → List Value → zW → Prop) (Rt : Option Value → zW → Prop) : z_st1 (tX9_count 104) 104 lv st w nx K Rt = (z_2i st (fun x y r => nx 105 lv (.int (x + y) :: r) w)) := id rfl
theorem sX9_count_105 (lv : zL) (st : List Value) (w : zW) (nx K : Nat → zL → List Value → zW → Prop) (Rt : Option Value → zW → Prop) : z_st1 (tX9_count 105) 105 lv st w nx K Rt = (z_1i st (fun x r => z_ok1 lv 2 = true ∧ nx 106 (lv.set 2 (some (.int x))) r w)) := id rfl
theorem sX9_count_106 (lv : zL) (st : List Value) (w : zW) (nx K : Nat → zL → List Value → zW → Prop) (Rt : Option Value → zW → Prop) : z_st1 (tX9_count 106) 106 lv st w nx K Rt = (z_li lv 3 (fun x => z_ok1 lv 3 = true ∧ nx 109 (lv.set 3 (some (.int (x + (1 : Int32))))) st w)) := id rfl
theorem sX9_count_109 (lv : zL) (st : List Value) (w : zW) (nx K : Nat → zL → List Value → zW → Prop) (Rt : Option Value → zW → Prop) : z_st1 (tX9_count 109) 109 lv st w nx K Rt = (nx 91 lv st w) := id rfl
theorem sX9_count_112 (lv : zL) (st : List Value) (w : zW) (nx K : Nat → zL → List Value → zW → Prop) (Rt : Option Value → zW → Prop) : z_st1 (tX9_count 112) 112 lv st w nx K Rt = (z_li lv 2 (fun x => nx 113 lv (.int x :: st) w)) := id rfl
theorem sX9_count_113 (lv : zL) (st : List Value) (w : zW) (nx K : Nat → zL → List Value → zW → Prop) (Rt : Option Value → zW → Prop) : z_st1 (tX9_count 113) 113 lv st w nx K Rt = (z_e1 st (fun x => Rt (some (.int x)) w)) := id rfl
theorem sX9_count_114 (lv : zL) (st : List Value) (w : zW) (nx K : Nat → zL → List Value → zW → Prop) (Rt : Option Value → zW → Prop) : z_st1 (tX9_count 114) 114 lv st w nx K Rt = (nx 115 lv (.int (-1 : Int32) :: st) w) := id rfl
theorem sX9_count_115 (lv : zL) (st : List Value) (w : zW) (nx K : Nat → zL → List Value → zW → Prop) (Rt : Option Value → zW → Prop) : z_st1 (tX9_count 115) 115 lv st w nx K Rt = (z_e1 st (fun x => Rt (some (.int x)) w)) := id rfl
theorem sX9_count_6 (lv : zL) (st : List Value) (w : zW) (nx K : Nat → zL → List Value → zW → Prop) (Rt : Option Value → zW → Prop) : z_st1 (tX9_count 6) 6 lv st w nx K Rt = K 6 lv st w := id rfl
theorem dX9_count_6 : decode cX9_count 6 = .ok (.tableswitch 108 0 9 #[54, 59, 64, 69, 74, 74, 74, 74, 74, 81], 54) := by decide +kernel

def tmJ9_max_7cf53 (pc : Nat) : zI := match pc with
  | 0 => (0, 0, 0, 1, 0)
  | 1 => (0, 1, 0, 2, 0)
  | 2 => (42, 9, 0, 5, 0)
  | 5 => (0, 0, 0, 6, 0)
  | 6 => (33, 10, 0, 9, 0)
  | 9 => (0, 1, 0, 10, 0)
  | 10 => (53, 0, 0, 11, 0)
  | _ => (99, 0, 0, 0, 0)
def tJ9_max_7cf53 (pc : Nat) : zI := if pc < 11 then tmJ9_max_7cf53 pc else (99, 0, 0, 0, 0)
theorem tkJ9_max_7cf53 : z_tab RJ9 wsJ9_max_7cf53 2 (some .int) cJ9_max_7cf53 11 tJ9_max_7cf53 := z_tab_of (tm := tmJ9_max_7cf53) (by decide +kernel)
theorem sJ9_max_7cf53_0 (lv : zL) (st : List Value) (w : zW) (nx K : Nat → zL → List Value → zW → Prop) (Rt : Option Value → zW → Prop) : z_st1 (tJ9_max_7cf53 0) 0 lv st w nx K Rt = (z_li lv 0 (fun x => nx 1 lv (.int x :: st) w)) := id rfl
theorem sJ9_max_7cf53_1 (lv : zL) (st : List Value) (w : zW) (nx K : Nat → zL → List Value → zW → Prop) (Rt : Option Value → zW → Prop) : z_st1 (tJ9_max_7cf53 1) 1 lv st w nx K Rt = (z_li lv 1 (fun x => nx 2 lv (.int x :: st) w)) := id rfl
theorem sJ9_max_7cf53_2 (lv : zL) (st : List Value) (w : zW) (nx K : Nat → zL → List Value → zW → Prop) (Rt : Option Value → zW → Prop) : z_st1 (tJ9_max_7cf53 2) 2 lv st w nx K Rt = (z_2i st (fun x y r => (x < y → nx 9 lv r w) ∧ (¬ x < y → nx 5 lv r w))) := id rfl
theorem sJ9_max_7cf53_5 (lv : zL) (st : List Value) (w : zW) (nx K : Nat → zL → List Value → zW → Prop) (Rt : Option Value → zW → Prop) : z_st1 (tJ9_max_7cf53 5) 5 lv st w nx K Rt = (z_li lv 0 (fun x => nx 6 lv (.int x :: st) w)) := id rfl
theorem sJ9_max_7cf53_6 (lv : zL) (st : List Value) (w : zW) (nx K : Nat → zL → List Value → zW → Prop) (Rt : Option Value → zW → Prop) : z_st1 (tJ9_max_7cf53 6) 6 lv st w nx K Rt = (nx 10 lv st w) := id rfl
theorem sJ9_max_7cf53_9 (lv : zL) (st : List Value) (w : zW) (nx K : Nat → zL → List Value → zW → Prop) (Rt : Option Value → zW → Prop) : z_st1 (tJ9_max_7cf53 9) 9 lv st w nx K Rt = (z_li lv 1 (fun x => nx 10 lv (.int x :: st) w)) := id rfl
theorem sJ9_max_7cf53_10 (lv : zL) (st : List Value) (w : zW) (nx K : Nat → zL → List Value → zW → Prop) (Rt : Option Value → zW → Prop) : z_st1 (tJ9_max_7cf53 10) 10 lv st w nx K Rt = (z_e1 st (fun x => Rt (some (.int x)) w)) := id rfl

def tmJ9_min_7cf53 (pc : Nat) : zI := match pc with
  | 0 => (0, 0, 0, 1, 0)
  | 1 => (0, 1, 0, 2, 0)
  | 2 => (44, 9, 0, 5, 0)
  | 5 => (0, 0, 0, 6, 0)
  | 6 => (33, 10, 0, 9, 0)
  | 9 => (0, 1, 0, 10, 0)
  | 10 => (53, 0, 0, 11, 0)
  | _ => (99, 0, 0, 0, 0)
def tJ9_min_7cf53 (pc : Nat) : zI := if pc < 11 then tmJ9_min_7cf53 pc else (99, 0, 0, 0, 0)
theorem tkJ9_min_7cf53 : z_tab RJ9 wsJ9_min_7cf53 2 (some .int) cJ9_min_7cf53 11 tJ9_min_7cf53 := z_tab_of (tm := tmJ9_min_7cf53) (by decide +kernel)
theorem sJ9_min_7cf53_0 (lv : zL) (st : List Value) (w : zW) (nx K : Nat → zL → List Value → zW → Prop) (Rt : Option Value → zW → Prop) : z_st1 (tJ9_min_7cf53 0) 0 lv st w nx K Rt = (z_li lv 0 (fun x => nx 1 lv (.int x :: st) w)) := id rfl
theorem sJ9_min_7cf53_1 (lv : zL) (st : List Value) (w : zW) (nx K : Nat → zL → List Value → zW → Prop) (Rt : Option Value → zW → Prop) : z_st1 (tJ9_min_7cf53 1) 1 lv st w nx K Rt = (z_li lv 1 (fun x => nx 2 lv (.int x :: st) w)) := id rfl
theorem sJ9_min_7cf53_2 (lv : zL) (st : List Value) (w : zW) (nx K : Nat → zL → List Value → zW → Prop) (Rt : Option Value → zW → Prop) : z_st1 (tJ9_min_7cf53 2) 2 lv st w nx K Rt = (z_2i st (fun x y r => (y < x → nx 9 lv r w) ∧ (¬ y < x → nx 5 lv r w))) := id rfl
theorem sJ9_min_7cf53_5 (lv : zL) (st : List Value) (w : zW) (nx K : Nat → zL → List Value → zW → Prop) (Rt : Option Value → zW → Prop) : z_st1 (tJ9_min_7cf53 5) 5 lv st w nx K Rt = (z_li lv 0 (fun x => nx 6 lv (.int x :: st) w)) := id rfl
theorem sJ9_min_7cf53_6 (lv : zL) (st : List Value) (w : zW) (nx K : Nat → zL → List Value → zW → Prop) (Rt : Option Value → zW → Prop) : z_st1 (tJ9_min_7cf53 6) 6 lv st w nx K Rt = (nx 10 lv st w) := id rfl
theorem sJ9_min_7cf53_9 (lv : zL) (st : List Value) (w : zW) (nx K : Nat → zL → List Value → zW → Prop) (Rt : Option Value → zW → Prop) : z_st1 (tJ9_min_7cf53 9) 9 lv st w nx K Rt = (z_li lv 1 (fun x => nx 10 lv (.int x :: st) w)) := id rfl
theorem sJ9_min_7cf53_10 (lv : zL) (st : List Value) (w : zW) (nx K : Nat → zL → List Value → zW → Prop) (Rt : Option Value → zW → Prop) : z_st1 (tJ9_min_7cf53 10) 10 lv st w nx K Rt = (z_e1 st (fun x => Rt (some (.int x)) w)) := id rfl

def tmJxde1cd_init_a7421 (pc : Nat) : zI := match pc with
  | 0 => (1, 0, 0, 1, 0)
  | 1 => (1, 1, 0, 2, 0)
  | 5 => (55, 0, 0, 6, 0)
  | _ => (99, 0, 0, 0, 0)
def tJxde1cd_init_a7421 (pc : Nat) : zI := if pc < 6 then tmJxde1cd_init_a7421 pc else (99, 0, 0, 0, 0)
theorem tkJxde1cd_init_a7421 : z_tab RJxde1cd wsJxde1cd_init_a7421 2 none cJxde1cd_init_a7421 6 tJxde1cd_init_a7421 := z_tab_of (tm := tmJxde1cd_init_a7421) (by decide +kernel)
theorem sJxde1cd_init_a7421_0 (lv : zL) (st : List Value) (w : zW) (nx K : Nat → zL → List Value → zW → Prop) (Rt : Option Value → zW → Prop) : z_st1 (tJxde1cd_init_a7421 0) 0 lv st w nx K Rt = (z_la lv 0 (fun x => nx 1 lv (.ref x :: st) w)) := id rfl
theorem sJxde1cd_init_a7421_1 (lv : zL) (st : List Value) (w : zW) (nx K : Nat → zL → List Value → zW → Prop) (Rt : Option Value → zW → Prop) : z_st1 (tJxde1cd_init_a7421 1) 1 lv st w nx K Rt = (z_la lv 1 (fun x => nx 2 lv (.ref x :: st) w)) := id rfl
theorem sJxde1cd_init_a7421_5 (lv : zL) (st : List Value) (w : zW) (nx K : Nat → zL → List Value → zW → Prop) (Rt : Option Value → zW → Prop) : z_st1 (tJxde1cd_init_a7421 5) 5 lv st w nx K Rt = (z_e0 st (Rt none w)) := id rfl
theorem sJxde1cd_init_a7421_2 (lv : zL) (st : List Value) (w : zW) (nx K : Nat → zL → List Value → zW → Prop) (Rt : Option Value → zW → Prop) : z_st1 (tJxde1cd_init_a7421 2) 2 lv st w nx K Rt = K 2 lv st w := id rfl
theorem dJxde1cd_init_a7421_2 : decode cJxde1cd_init_a7421 2 = .ok (.invokespecial 7, 3) := by decide +kernel

def tmL_area (pc : Nat) : zI := match pc with
  | 0 => (1, 2, 0, 1, 0)
  | 1 => (6, 0, 0, 2, 0)
  | 2 => (1, 0, 0, 3, 0)
  | 3 => (0, 1, 0, 4, 0)
  | 7 => (25, 0, 0, 8, 0)
  | 8 => (64, 0, 0, 9, 0)
  | 9 => (33, 15, 0, 12, 0)
  | 12 => (4, 3, 0, 13, 0)
  | 13 => (6, 0, 0, 14, 1)
  | 14 => (53, 0, 0, 15, 0)
  | 15 => (6, 0, 0, 16, 0)
  | 16 => (53, 0, 0, 17, 0)
  | _ => (99, 0, 0, 0, 0)
def tL_area (pc : Nat) : zI := if pc < 17 then tmL_area pc else (99, 0, 0, 0, 0)
theorem tkL_area : z_tab RL wsL_area 4 (some .int) cL_area 17 tL_area := z_tab_of (tm := tmL_area) (by decide +kernel)
theorem sL_area_0 (lv : zL) (st : List Value) (w : zW) (nx K : Nat → zL → List Value → zW → Prop) (Rt : Option Value → zW → Prop) : z_st1 (tL_area 0) 0 lv st w nx K Rt = (z_la lv 2 (fun x => nx 1 lv (.ref x :: st) w)) := id rfl
theorem sL_area_1 (lv : zL) (st : List Value) (w : zW) (nx K : Nat → zL → List Value → zW → Prop) (Rt : Option Value → zW → Prop) : z_st1 (tL_area 1) 1 lv st w nx K Rt = (nx 2 lv (.int (0 : Int32) :: st) w) := id rfl
theorem sL_area_2 (lv : zL) (st : List Value) (w : zW) (nx K : Nat → zL → List Value → zW → Prop) (Rt : Option Value → zW → Prop) : z_st1 (tL_area 2) 2 lv st w nx K Rt = (z_la lv 0 (fun x => nx 3 lv (.ref x :: st) w)) := id rfl
theorem sL_area_3 (lv : zL) (st : List Value) (w : zW) (nx K : Nat → zL → List Value → zW → Prop) (Rt : Option Value → zW → Prop) : z_st1 (tL_area 3) 3 lv st w nx K Rt = (z_li lv 1 (fun x => nx 4 lv (.int x :: st) w)) := id rfl
theorem sL_area_7 (lv : zL) (st : List Value) (w : zW) (nx K : Nat → zL → List Value → zW → Prop) (Rt : Option Value → zW → Prop) : z_st1 (tL_area 7) 7 lv st w nx K Rt = (z_1i st (fun x r => nx 8 lv (.long x.toInt64 :: r) w)) := id rfl
theorem sL_area_8 (lv : zL) (st : List Value) (w : zW) (nx K : Nat → zL → List Value → zW → Prop) (Rt : Option Value → zW → Prop) : z_st1 (tL_area 8) 8 lv st w nx K Rt = (z_lia st (fun x i u r => z_ar2 w x (fun m g => vp_in i m ∧ nx 9 lv r (z_up w x (.inl (2, m, .inr (.inl (vp_updL g i.toNatClampNeg u)))))))) := id rfl
theorem sL_area_9 (lv : zL) (st : List Value) (w : zW) (nx K : Nat → zL → List Value → zW → Prop) (Rt : Option Value → zW → Prop) : z_st1 (tL_area 9) 9 lv st w nx K Rt = (nx 15 lv st w) := id rfl
theorem sL_area_12 (lv : zL) (st : List Value) (w : zW) (nx K : Nat → zL → List Value → zW → Prop) (Rt : Option Value → zW → Prop) : z_st1 (tL_area 12) 12 lv st w nx K Rt = (z_1a st (fun x r => z_ok1 lv 3 = true ∧ nx 13 (lv.set 3 (some (.ref x))) r w)) := id rfl
theorem sL_area_13 (lv : zL) (st : List Value) (w : zW) (nx K : Nat → zL → List Value → zW → Prop) (Rt : Option Value → zW → Prop) : z_st1 (tL_area 13) 13 lv st w nx K Rt = (nx 14 lv (.int (1 : Int32) :: st) w) := id rfl
theorem sL_area_14 (lv : zL) (st : List Value) (w : zW) (nx K : Nat → zL → List Value → zW → Prop) (Rt : Option Value → zW → Prop) : z_st1 (tL_area 14) 14 lv st w nx K Rt = (z_e1 st (fun x => Rt (some (.int x)) w)) := id rfl
theorem sL_area_15 (lv : zL) (st : List Value) (w : zW) (nx K : Nat → zL → List Value → zW → Prop) (Rt : Option Value → zW → Prop) : z_st1 (tL_area 15) 15 lv st w nx K Rt = (nx 16 lv (.int (0 : Int32) :: st) w) := id rfl
theorem sL_area_16 (lv : zL) (st : List Value) (w : zW) (nx K : Nat → zL → List Value → zW → Prop) (Rt : Option Value → zW → Prop) : z_st1 (tL_area 16) 16 lv st w nx K Rt = (z_e1 st (fun x => Rt (some (.int x)) w)) := id rfl
theorem sL_area_4 (lv : zL) (st : List Value) (w : zW) (nx K : Nat → zL → List Value → zW → Prop) (Rt : Option Value → zW → Prop) : z_st1 (tL_area 4) 4 lv st w nx K Rt = K 4 lv st w := id rfl
theorem dL_area_4 : decode cL_area 4 = .ok (.invokevirtual 7, 3) := by decide +kernel

def tmL_sort (pc : Nat) : zI := match pc with
  | 0 => (1, 2, 0, 1, 0)
  | 1 => (6, 0, 0, 2, 0)
  | 2 => (1, 0, 0, 3, 0)
  | 3 => (0, 1, 0, 4, 0)
  | 7 => (25, 0, 0, 8, 0)
  | 8 => (64, 0, 0, 9, 0)
  | 9 => (33, 15, 0, 12, 0)
  | 12 => (4, 3, 0, 13, 0)
  | 13 => (6, 0, 0, 14, 1)
  | 14 => (53, 0, 0, 15, 0)
  | 15 => (6, 0, 0, 16, 0)
  | 16 => (53, 0, 0, 17, 0)
  | _ => (99, 0, 0, 0, 0)
def tL_sort (pc : Nat) : zI := if pc < 17 then tmL_sort pc else (99, 0, 0, 0, 0)
theorem tkL_sort : z_tab RL wsL_sort 4 (some .int) cL_sort 17 tL_sort := z_tab_of (tm := tmL_sort) (by decide +kernel)
theorem sL_sort_0 (lv : zL) (st : List Value) (w : zW) (nx K : Nat → zL → List Value → zW → Prop) (Rt : Option Value → zW → Prop) : z_st1 (tL_sort 0) 0 lv st w nx K Rt = (z_la lv 2 (fun x => nx 1 lv (.ref x :: st) w)) := id rfl
theorem sL_sort_1 (lv : zL) (st : List Value) (w : zW) (nx K : Nat → zL → List Value → zW → Prop) (Rt : Option Value → zW → Prop) : z_st1 (tL_sort 1) 1 lv st w nx K Rt = (nx 2 lv (.int (0 : Int32) :: st) w) := id rfl
theorem sL_sort_2 (lv : zL) (st : List Value) (w : zW) (nx K : Nat → zL → List Value → zW → Prop) (Rt : Option Value → zW → Prop) : z_st1 (tL_sort 2) 2 lv st w nx K Rt = (z_la lv 0 (fun x => nx 3 lv (.ref x :: st) w)) := id rfl
theorem sL_sort_3 (lv : zL) (st : List Value) (w : zW) (nx K : Nat → zL → List Value → zW → Prop) (Rt : Option Value → zW → Prop) : z_st1 (tL_sort 3) 3 lv st w nx K Rt = (z_li lv 1 (fun x => nx 4 lv (.int x :: st) w)) := id rfl
theorem sL_sort_7 (lv : zL) (st : List Value) (w : zW) (nx K : Nat → zL → List Value → zW → Prop) (Rt : Option Value → zW → Prop) : z_st1 (tL_sort 7) 7 lv st w nx K Rt = (z_1i st (fun x r => nx 8 lv (.long x.toInt64 :: r) w)) := id rfl
theorem sL_sort_8 (lv : zL) (st : List Value) (w : zW) (nx K : Nat → zL → List Value → zW → Prop) (Rt : Option Value → zW → Prop) : z_st1 (tL_sort 8) 8 lv st w nx K Rt = (z_lia st (fun x i u r => z_ar2 w x (fun m g => vp_in i m ∧ nx 9 lv r (z_up w x (.inl (2, m, .inr (.inl (vp_updL g i.toNatClampNeg u)))))))) := id rfl
theorem sL_sort_9 (lv : zL) (st : List Value) (w : zW) (nx K : Nat → zL → List Value → zW → Prop) (Rt : Option Value → zW → Prop) : z_st1 (tL_sort 9) 9 lv st w nx K Rt = (nx 15 lv st w) := id rfl
theorem sL_sort_12 (lv : zL) (st : List Value) (w : zW) (nx K : Nat → zL → List Value → zW → Prop) (Rt : Option Value → zW → Prop) : z_st1 (tL_sort 12) 12 lv st w nx K Rt = (z_1a st (fun x r => z_ok1 lv 3 = true ∧ nx 13 (lv.set 3 (some (.ref x))) r w)) := id rfl
theorem sL_sort_13 (lv : zL) (st : List Value) (w : zW) (nx K : Nat → zL → List Value → zW → Prop) (Rt : Option Value → zW → Prop) : z_st1 (tL_sort 13) 13 lv st w nx K Rt = (nx 14 lv (.int (1 : Int32) :: st) w) := id rfl
theorem sL_sort_14 (lv : zL) (st : List Value) (w : zW) (nx K : Nat → zL → List Value → zW → Prop) (Rt : Option Value → zW → Prop) : z_st1 (tL_sort 14) 14 lv st w nx K Rt = (z_e1 st (fun x => Rt (some (.int x)) w)) := id rfl
theorem sL_sort_15 (lv : zL) (st : List Value) (w : zW) (nx K : Nat → zL → List Value → zW → Prop) (Rt : Option Value → zW → Prop) : z_st1 (tL_sort 15) 15 lv st w nx K Rt = (nx 16 lv (.int (0 : Int32) :: st) w) := id rfl
theorem sL_sort_16 (lv : zL) (st : List Value) (w : zW) (nx K : Nat → zL → List Value → zW → Prop) (Rt : Option Value → zW → Prop) : z_st1 (tL_sort 16) 16 lv st w nx K Rt = (z_e1 st (fun x => Rt (some (.int x)) w)) := id rfl
theorem sL_sort_4 (lv : zL) (st : List Value) (w : zW) (nx K : Nat → zL → List Value → zW → Prop) (Rt : Option Value → zW → Prop) : z_st1 (tL_sort 4) 4 lv st w nx K Rt = K 4 lv st w := id rfl
theorem dL_sort_4 : decode cL_sort 4 = .ok (.invokevirtual 15, 3) := by decide +kernel

def tmL_compare (pc : Nat) : zI := match pc with
  | 0 => (1, 3, 0, 1, 0)
  | 1 => (6, 0, 0, 2, 0)
  | 2 => (1, 0, 0, 3, 0)
  | 3 => (0, 1, 0, 4, 0)
  | 4 => (0, 2, 0, 5, 0)
  | 8 => (25, 0, 0, 9, 0)
  | 9 => (64, 0, 0, 10, 0)
  | 10 => (33, 17, 0, 13, 0)
  | 13 => (4, 4, 0, 15, 0)
  | 15 => (6, 0, 0, 16, 1)
  | 16 => (53, 0, 0, 17, 0)
  | 17 => (6, 0, 0, 18, 0)
  | 18 => (53, 0, 0, 19, 0)
  | _ => (99, 0, 0, 0, 0)
def tL_compare (pc : Nat) : zI := if pc < 19 then tmL_compare pc else (99, 0, 0, 0, 0)
theorem tkL_compare : z_tab RL wsL_compare 5 (some .int) cL_compare 19 tL_compare := z_tab_of (tm := tmL_compare) (by decide +kernel)
theorem sL_compare_0 (lv : zL) (st : List Value) (w : zW) (nx K : Nat → zL → List Value → zW → Prop) (Rt : Option Value → zW → Prop) : z_st1 (tL_compare 0) 0 lv st w nx K Rt = (z_la lv 3 (fun x => nx 1 lv (.ref x :: st) w)) := id rfl
theorem sL_compare_1 (lv : zL) (st : List Value) (w : zW) (nx K : Nat → zL → List Value → zW → Prop) (Rt : Option Value → zW → Prop) : z_st1 (tL_compare 1) 1 lv st w nx K Rt = (nx 2 lv (.int (0 : Int32) :: st) w) := id rfl
theorem sL_compare_2 (lv : zL) (st : List Value) (w : zW) (nx K : Nat → zL → List Value → zW → Prop) (Rt : Option Value → zW → Prop) : z_st1 (tL_compare 2) 2 lv st w nx K Rt = (z_la lv 0 (fun x => nx 3 lv (.ref x :: st) w)) := id rfl
theorem sL_compare_3 (lv : zL) (st : List Value) (w : zW) (nx K : Nat → zL → List Value → zW → Prop) (Rt : Option Value → zW → Prop) : z_st1 (tL_compare 3) 3 lv st w nx K Rt = (z_li lv 1 (fun x => nx 4 lv (.int x :: st) w)) := id rfl
theorem sL_compare_4 (lv : zL) (st : List Value) (w : zW) (nx K : Nat → zL → List Value → zW → Prop) (Rt : Option Value → zW → Prop) : z_st1 (tL_compare 4) 4 lv st w nx K Rt = (z_li lv 2 (fun x => nx 5 lv (.int x :: st) w)) := id rfl
theorem sL_compare_8 (lv : zL) (st : List Value) (w : zW) (nx K : Nat → zL → List Value → zW → Prop) (Rt : Option Value → zW → Prop) : z_st1 (tL_compare 8) 8 lv st w nx K Rt = (z_1i st (fun x r => nx 9 lv (.long x.toInt64 :: r) w)) := id rfl
theorem sL_compare_9 (lv : zL) (st : List Value) (w : zW) (nx K : Nat → zL → List Value → zW → Prop) (Rt : Option Value → zW → Prop) : z_st1 (tL_compare 9) 9 lv st w nx K Rt = (z_lia st (fun x i u r => z_ar2 w x (fun m g => vp_in i m ∧ nx 10 lv r (z_up w x (.inl (2, m, .inr (.inl (vp_updL g i.toNatClampNeg u)))))))) := id rfl
theorem sL_compare_10 (lv : zL) (st : List Value) (w : zW) (nx K : Nat → zL → List Value → zW → Prop) (Rt : Option Value → zW → Prop) : z_st1 (tL_compare 10) 10 lv st w nx K Rt = (nx 17 lv st w) := id rfl
theorem sL_compare_13 (lv : zL) (st : List Value) (w : zW) (nx K : Nat → zL → List Value → zW → Prop) (Rt : Option Value → zW → Prop) : z_st1 (tL_compare 13) 13 lv st w nx K Rt = (z_1a st (fun x r => z_ok1 lv 4 = true ∧ nx 15 (lv.set 4 (some (.ref x))) r w)) := id rfl
theorem sL_compare_15 (lv : zL) (st : List Value) (w : zW) (nx K : Nat → zL → List Value → zW → Prop) (Rt : Option Value → zW → Prop) : z_st1 (tL_compare 15) 15 lv st w nx K Rt = (nx 16 lv (.int (1 : Int32) :: st) w) := id rfl
theorem sL_compare_16 (lv : zL) (st : List Value) (w : zW) (nx K : Nat → zL → List Value → zW → Prop) (Rt : Option Value → zW → Prop) : z_st1 (tL_compare 16) 16 lv st w nx K Rt = (z_e1 st (fun x => Rt (some (.int x)) w)) := id rfl
theorem sL_compare_17 (lv : zL) (st : List Value) (w : zW) (nx K : Nat → zL → List Value → zW → Prop) (Rt : Option Value → zW → Prop) : z_st1 (tL_compare 17) 17 lv st w nx K Rt = (nx 18 lv (.int (0 : Int32) :: st) w) := id rfl
theorem sL_compare_18 (lv : zL) (st : List Value) (w : zW) (nx K : Nat → zL → List Value → zW → Prop) (Rt : Option Value → zW → Prop) : z_st1 (tL_compare 18) 18 lv st w nx K Rt = (z_e1 st (fun x => Rt (some (.int x)) w)) := id rfl
theorem sL_compare_5 (lv : zL) (st : List Value) (w : zW) (nx K : Nat → zL → List Value → zW → Prop) (Rt : Option Value → zW → Prop) : z_st1 (tL_compare 5) 5 lv st w nx K Rt = K 5 lv st w := id rfl
theorem dL_compare_5 : decode cL_compare 5 = .ok (.invokevirtual 21, 3) := by decide +kernel

def tmL_law (pc : Nat) : zI := match pc with
  | 3 => (29, 0, 0, 4, 0)
  | 7 => (4, 1, 0, 8, 0)
  | 11 => (29, 0, 0, 12, 0)
  | 15 => (4, 2, 0, 16, 0)
  | 16 => (6, 0, 0, 17, 1)
  | 19 => (4, 3, 0, 20, 0)
  | 20 => (6, 0, 0, 21, 0)
  | 21 => (3, 4, 0, 23, 0)
  | 23 => (0, 4, 0, 25, 0)
  | 25 => (1, 0, 0, 26, 0)
  | 27 => (6, 0, 0, 28, 5)
  | 28 => (9, 0, 0, 29, 0)
  | 29 => (44, 705, 0, 32, 0)
  | 32 => (1, 0, 0, 33, 0)
  | 33 => (0, 4, 0, 35, 0)
  | 36 => (6, 0, 0, 38, 31)
  | 38 => (11, 0, 0, 39, 0)
  | 124 => (1, 1, 0, 125, 0)
  | 125 => (1, 0, 0, 126, 0)
  | 126 => (0, 4, 0, 128, 0)
  | 128 => (6, 0, 0, 129, 1)
  | 129 => (8, 0, 0, 130, 0)
  | 131 => (1, 3, 0, 132, 0)
  | 135 => (3, 5, 0, 137, 0)
  | 137 => (1, 2, 0, 138, 0)
  | 138 => (1, 0, 0, 139, 0)
  | 139 => (0, 4, 0, 141, 0)
  | 141 => (6, 0, 0, 142, 1)
  | 142 => (8, 0, 0, 143, 0)
  | 147 => (3, 6, 0, 149, 0)
  | 149 => (33, 699, 0, 152, 0)
  | 152 => (1, 1, 0, 153, 0)
  | 153 => (1, 0, 0, 154, 0)
  | 154 => (0, 4, 0, 156, 0)
  | 156 => (6, 0, 0, 157, 1)
  | 157 => (8, 0, 0, 158, 0)
  | 162 => (30, 0, 0, 163, 0)
  | 163 => (1, 2, 0, 164, 0)
  | 164 => (1, 0, 0, 165, 0)
  | 165 => (0, 4, 0, 167, 0)
  | 167 => (6, 0, 0, 168, 1)
  | 168 => (8, 0, 0, 169, 0)
  | 173 => (30, 0, 0, 174, 0)
  | 174 => (33, 699, 0, 177, 0)
  | 177 => (1, 1, 0, 178, 0)
  | 178 => (1, 0, 0, 179, 0)
  | 179 => (0, 4, 0, 181, 0)
  | 181 => (6, 0, 0, 182, 1)
  | 182 => (8, 0, 0, 183, 0)
  | 184 => (1, 0, 0, 185, 0)
  | 185 => (0, 4, 0, 187, 0)
  | 187 => (6, 0, 0, 188, 2)
  | 188 => (8, 0, 0, 189, 0)
  | 190 => (1, 0, 0, 191, 0)
  | 191 => (0, 4, 0, 193, 0)
  | 193 => (6, 0, 0, 194, 3)
  | 194 => (8, 0, 0, 195, 0)
  | 196 => (1, 0, 0, 197, 0)
  | 197 => (0, 4, 0, 199, 0)
  | 199 => (6, 0, 0, 200, 4)
  | 200 => (8, 0, 0, 201, 0)
  | 202 => (34, 209, 0, 205, 0)
  | 205 => (6, 0, 0, 206, 1)
  | 206 => (33, 210, 0, 209, 0)
  | 209 => (6, 0, 0, 210, 0)
  | 213 => (30, 0, 0, 214, 0)
  | 214 => (1, 2, 0, 215, 0)
  | 215 => (1, 0, 0, 216, 0)
  | 216 => (0, 4, 0, 218, 0)
  | 218 => (6, 0, 0, 219, 1)
  | 219 => (8, 0, 0, 220, 0)
  | 221 => (1, 0, 0, 222, 0)
  | 222 => (0, 4, 0, 224, 0)
  | 224 => (6, 0, 0, 225, 2)
  | 225 => (8, 0, 0, 226, 0)
  | 227 => (1, 0, 0, 228, 0)
  | 228 => (0, 4, 0, 230, 0)
  | 230 => (6, 0, 0, 231, 3)
  | 231 => (8, 0, 0, 232, 0)
  | 233 => (1, 0, 0, 234, 0)
  | 234 => (0, 4, 0, 236, 0)
  | 236 => (6, 0, 0, 237, 4)
  | 237 => (8, 0, 0, 238, 0)
  | 239 => (34, 246, 0, 242, 0)
  | 242 => (6, 0, 0, 243, 1)
  | 243 => (33, 247, 0, 246, 0)
  | 246 => (6, 0, 0, 247, 0)
  | 250 => (30, 0, 0, 251, 0)
  | 251 => (33, 699, 0, 254, 0)
  | 254 => (1, 1, 0, 255, 0)
  | 258 => (30, 0, 0, 259, 0)
  | 259 => (1, 2, 0, 260, 0)
  | 263 => (30, 0, 0, 264, 0)
  | 264 => (33, 699, 0, 267, 0)
  | 267 => (1, 1, 0, 268, 0)
  | 268 => (1, 0, 0, 269, 0)
  | 269 => (0, 4, 0, 271, 0)
  | 271 => (6, 0, 0, 272, 1)
  | 272 => (8, 0, 0, 273, 0)
  | 274 => (1, 0, 0, 275, 0)
  | 275 => (0, 4, 0, 277, 0)
  | 277 => (6, 0, 0, 278, 2)
  | 278 => (8, 0, 0, 279, 0)
  | 280 => (1, 0, 0, 281, 0)
  | 281 => (0, 4, 0, 283, 0)
  | 283 => (6, 0, 0, 284, 3)
  | 284 => (8, 0, 0, 285, 0)
  | 289 => (30, 0, 0, 290, 0)
  | 290 => (1, 2, 0, 291, 0)
  | 291 => (1, 0, 0, 292, 0)
  | 292 => (0, 4, 0, 294, 0)
  | 294 => (6, 0, 0, 295, 1)
  | 295 => (8, 0, 0, 296, 0)
  | 297 => (1, 0, 0, 298, 0)
  | 298 => (0, 4, 0, 300, 0)
  | 300 => (6, 0, 0, 301, 2)
  | 301 => (8, 0, 0, 302, 0)
  | 303 => (1, 0, 0, 304, 0)
  | 304 => (0, 4, 0, 306, 0)
  | 306 => (6, 0, 0, 307, 3)
  | 307 => (8, 0, 0, 308, 0)
  | 312 => (30, 0, 0, 313, 0)
  | 313 => (33, 699, 0, 316, 0)
  | 316 => (1, 1, 0, 317, 0)
  | 317 => (1, 0, 0, 318, 0)
  | 318 => (0, 4, 0, 320, 0)
  | 320 => (6, 0, 0, 321, 1)
  | 321 => (8, 0, 0, 322, 0)
  | 323 => (1, 0, 0, 324, 0)
  | 324 => (0, 4, 0, 326, 0)
  | 326 => (6, 0, 0, 327, 2)
  | 327 => (8, 0, 0, 328, 0)
  | 329 => (1, 0, 0, 330, 0)
  | 330 => (0, 4, 0, 332, 0)
  | 332 => (6, 0, 0, 333, 3)
  | 333 => (8, 0, 0, 334, 0)
  | 338 => (30, 0, 0, 339, 0)
  | 339 => (1, 2, 0, 340, 0)
  | 340 => (1, 0, 0, 341, 0)
  | 341 => (0, 4, 0, 343, 0)
  | 343 => (6, 0, 0, 344, 1)
  | 344 => (8, 0, 0, 345, 0)
  | 346 => (1, 0, 0, 347, 0)
  | 347 => (0, 4, 0, 349, 0)
  | 349 => (6, 0, 0, 350, 2)
  | 350 => (8, 0, 0, 351, 0)
  | 352 => (1, 0, 0, 353, 0)
  | 353 => (0, 4, 0, 355, 0)
  | 355 => (6, 0, 0, 356, 3)
  | 356 => (8, 0, 0, 357, 0)
  | 361 => (30, 0, 0, 362, 0)
  | 362 => (33, 699, 0, 365, 0)
  | 365 => (1, 1, 0, 366, 0)
  | 366 => (1, 0, 0, 367, 0)
  | 367 => (0, 4, 0, 369, 0)
  | 369 => (6, 0, 0, 370, 1)
  | 370 => (8, 0, 0, 371, 0)
  | 372 => (1, 0, 0, 373, 0)
  | 373 => (0, 4, 0, 375, 0)
  | 375 => (6, 0, 0, 376, 2)
  | 376 => (8, 0, 0, 377, 0)
  | 381 => (30, 0, 0, 382, 0)
  | 382 => (1, 2, 0, 383, 0)
  | 383 => (1, 0, 0, 384, 0)
  | 384 => (0, 4, 0, 386, 0)
  | 386 => (6, 0, 0, 387, 1)
  | 387 => (8, 0, 0, 388, 0)
  | 389 => (1, 0, 0, 390, 0)
  | 390 => (0, 4, 0, 392, 0)
  | 392 => (6, 0, 0, 393, 2)
  | 393 => (8, 0, 0, 394, 0)
  | 398 => (30, 0, 0, 399, 0)
  | 399 => (33, 699, 0, 402, 0)
  | 402 => (1, 1, 0, 403, 0)
  | 403 => (1, 0, 0, 404, 0)
  | 404 => (0, 4, 0, 406, 0)
  | 406 => (6, 0, 0, 407, 1)
  | 407 => (8, 0, 0, 408, 0)
  | 409 => (1, 0, 0, 410, 0)
  | 410 => (0, 4, 0, 412, 0)
  | 412 => (6, 0, 0, 413, 2)
  | 413 => (8, 0, 0, 414, 0)
  | 415 => (1, 0, 0, 416, 0)
  | 416 => (0, 4, 0, 418, 0)
  | 418 => (6, 0, 0, 419, 3)
  | 419 => (8, 0, 0, 420, 0)
  | 424 => (1, 2, 0, 425, 0)
  | 425 => (1, 0, 0, 426, 0)
  | 426 => (0, 4, 0, 428, 0)
  | 428 => (6, 0, 0, 429, 1)
  | 429 => (8, 0, 0, 430, 0)
  | 431 => (1, 0, 0, 432, 0)
  | 432 => (0, 4, 0, 434, 0)
  | 434 => (6, 0, 0, 435, 2)
  | 435 => (8, 0, 0, 436, 0)
  | 437 => (1, 0, 0, 438, 0)
  | 438 => (0, 4, 0, 440, 0)
  | 440 => (6, 0, 0, 441, 3)
  | 441 => (8, 0, 0, 442, 0)
  | 446 => (40, 699, 0, 449, 0)
  | 449 => (6, 0, 0, 450, 0)
  | 450 => (58, 0, 0, 451, 0)
  | 451 => (1, 1, 0, 452, 0)
  | 455 => (30, 0, 0, 456, 0)
  | 456 => (1, 2, 0, 457, 0)
  | 460 => (30, 0, 0, 461, 0)
  | 461 => (33, 699, 0, 464, 0)
  | 464 => (1, 1, 0, 465, 0)
  | 465 => (1, 0, 0, 466, 0)
  | 466 => (0, 4, 0, 468, 0)
  | 468 => (6, 0, 0, 469, 1)
  | 469 => (8, 0, 0, 470, 0)
  | 474 => (30, 0, 0, 475, 0)
  | 475 => (1, 2, 0, 476, 0)
  | 476 => (1, 0, 0, 477, 0)
  | 477 => (0, 4, 0, 479, 0)
  | 479 => (6, 0, 0, 480, 1)
  | 480 => (8, 0, 0, 481, 0)
  | 485 => (30, 0, 0, 486, 0)
  | 486 => (33, 699, 0, 489, 0)
  | 489 => (1, 1, 0, 490, 0)
  | 490 => (1, 0, 0, 491, 0)
  | 491 => (0, 4, 0, 493, 0)
  | 493 => (6, 0, 0, 494, 1)
  | 494 => (8, 0, 0, 495, 0)
  | 496 => (34, 503, 0, 499, 0)
  | 499 => (6, 0, 0, 500, 1)
  | 500 => (33, 504, 0, 503, 0)
  | 503 => (6, 0, 0, 504, 0)
  | 504 => (1, 3, 0, 505, 0)
  | 508 => (3, 5, 0, 510, 0)
  | 510 => (1, 2, 0, 511, 0)
  | 511 => (1, 0, 0, 512, 0)
  | 512 => (0, 4, 0, 514, 0)
  | 514 => (6, 0, 0, 515, 1)
  | 515 => (8, 0, 0, 516, 0)
  | 517 => (34, 524, 0, 520, 0)
  | 520 => (6, 0, 0, 521, 1)
  | 521 => (33, 525, 0, 524, 0)
  | 524 => (6, 0, 0, 525, 0)
  | 528 => (3, 6, 0, 530, 0)
  | 530 => (33, 699, 0, 533, 0)
  | 533 => (1, 1, 0, 534, 0)
  | 537 => (30, 0, 0, 538, 0)
  | 538 => (1, 2, 0, 539, 0)
  | 542 => (30, 0, 0, 543, 0)
  | 543 => (33, 699, 0, 546, 0)
  | 546 => (1, 1, 0, 547, 0)
  | 547 => (1, 0, 0, 548, 0)
  | 548 => (0, 4, 0, 550, 0)
  | 550 => (6, 0, 0, 551, 1)
  | 551 => (8, 0, 0, 552, 0)
  | 556 => (30, 0, 0, 557, 0)
  | 557 => (1, 2, 0, 558, 0)
  | 558 => (1, 0, 0, 559, 0)
  | 559 => (0, 4, 0, 561, 0)
  | 561 => (6, 0, 0, 562, 1)
  | 562 => (8, 0, 0, 563, 0)
  | 567 => (30, 0, 0, 568, 0)
  | 568 => (33, 699, 0, 571, 0)
  | 571 => (1, 1, 0, 572, 0)
  | 572 => (1, 0, 0, 573, 0)
  | 573 => (0, 4, 0, 575, 0)
  | 575 => (6, 0, 0, 576, 1)
  | 576 => (8, 0, 0, 577, 0)
  | 578 => (1, 0, 0, 579, 0)
  | 579 => (0, 4, 0, 581, 0)
  | 581 => (6, 0, 0, 582, 2)
  | 582 => (8, 0, 0, 583, 0)
  | 587 => (30, 0, 0, 588, 0)
  | 588 => (1, 2, 0, 589, 0)
  | 589 => (1, 0, 0, 590, 0)
  | 590 => (0, 4, 0, 592, 0)
  | 592 => (6, 0, 0, 593, 1)
  | 593 => (8, 0, 0, 594, 0)
  | 595 => (1, 0, 0, 596, 0)
  | 596 => (0, 4, 0, 598, 0)
  | 598 => (6, 0, 0, 599, 2)
  | 599 => (8, 0, 0, 600, 0)
  | 604 => (30, 0, 0, 605, 0)
  | 605 => (33, 699, 0, 608, 0)
  | 608 => (1, 1, 0, 609, 0)
  | 612 => (30, 0, 0, 613, 0)
  | 613 => (1, 2, 0, 614, 0)
  | 617 => (30, 0, 0, 618, 0)
  | 618 => (33, 699, 0, 621, 0)
  | 621 => (1, 1, 0, 622, 0)
  | 622 => (1, 0, 0, 623, 0)
  | 623 => (0, 4, 0, 625, 0)
  | 625 => (6, 0, 0, 626, 1)
  | 626 => (8, 0, 0, 627, 0)
  | 628 => (1, 0, 0, 629, 0)
  | 629 => (0, 4, 0, 631, 0)
  | 631 => (6, 0, 0, 632, 2)
  | 632 => (8, 0, 0, 633, 0)
  | 634 => (1, 3, 0, 635, 0)
  | 638 => (3, 5, 0, 640, 0)
  | 640 => (1, 2, 0, 641, 0)
  | 641 => (1, 0, 0, 642, 0)
  | 642 => (0, 4, 0, 644, 0)
  | 644 => (6, 0, 0, 645, 1)
  | 645 => (8, 0, 0, 646, 0)
  | 647 => (1, 0, 0, 648, 0)
  | 648 => (0, 4, 0, 650, 0)
  | 650 => (6, 0, 0, 651, 2)
  | 651 => (8, 0, 0, 652, 0)
  | 656 => (3, 6, 0, 658, 0)
  | 658 => (33, 699, 0, 661, 0)
  | 661 => (1, 1, 0, 662, 0)
  | 665 => (30, 0, 0, 666, 0)
  | 666 => (1, 2, 0, 667, 0)
  | 670 => (30, 0, 0, 671, 0)
  | 671 => (33, 699, 0, 674, 0)
  | 674 => (1, 1, 0, 675, 0)
  | 675 => (1, 0, 0, 676, 0)
  | 676 => (0, 4, 0, 678, 0)
  | 678 => (6, 0, 0, 679, 1)
  | 679 => (8, 0, 0, 680, 0)
  | 684 => (30, 0, 0, 685, 0)
  | 685 => (1, 2, 0, 686, 0)
  | 686 => (1, 0, 0, 687, 0)
  | 687 => (0, 4, 0, 689, 0)
  | 689 => (6, 0, 0, 690, 1)
  | 690 => (8, 0, 0, 691, 0)
  | 695 => (30, 0, 0, 696, 0)
  | 696 => (33, 699, 0, 699, 0)
  | 699 => (7, 4, 0, 702, 5)
  | 702 => (33, 23, 0, 705, 0)
  | 705 => (6, 0, 0, 706, 1)
  | 706 => (58, 0, 0, 707, 0)
  | _ => (99, 0, 0, 0, 0)
def tL_law (pc : Nat) : zI := if pc < 707 then tmL_law pc else (99, 0, 0, 0, 0)
theorem tkL_law : z_tab RL wsL_law 7 (some .boolean) cL_law 707 tL_law := z_tab_of (tm := tmL_law) (by decide +kernel)
theorem sL_law_3 (lv : zL) (st : List Value) (w : zW) (nx K : Nat → zL → List Value → zW → Prop) (Rt : Option Value → zW → Prop) : z_st1 (tL_law 3) 3 lv st w nx K Rt = (z_d1 st (fun x r => nx 4 lv (x :: x :: r) w)) := id rfl
theorem sL_law_7 (lv : zL) (st : List Value) (w : zW) (nx K : Nat → zL → List Value → zW → Prop) (Rt : Option Value → zW → Prop) : z_st1 (tL_law 7) 7 lv st w nx K Rt = (z_1a st (fun x r => z_ok1 lv 1 = true ∧ nx 8 (lv.set 1 (some (.ref x))) r w)) := id rfl
theorem sL_law_11 (lv : zL) (st : List Value) (w : zW) (nx K : Nat → zL → List Value → zW → Prop) (Rt : Option Value → zW → Prop) : z_st1 (tL_law 11) 11 lv st w nx K Rt = (z_d1 st (fun x r => nx 12 lv (x :: x :: r) w)) := id rfl
theorem sL_law_15 (lv : zL) (st : List Value) (w : zW) (nx K : Nat → zL → List Value → zW → Prop) (Rt : Option Value → zW → Prop) : z_st1 (tL_law 15) 15 lv st w nx K Rt = (z_1a st (fun x r => z_ok1 lv 2 = true ∧ nx 16 (lv.set 2 (some (.ref x))) r w)) := id rfl
theorem sL_law_16 (lv : zL) (st : List Value) (w : zW) (nx K : Nat → zL → List Value → zW → Prop) (Rt : Option Value → zW → Prop) : z_st1 (tL_law 16) 16 lv st w nx K Rt = (nx 17 lv (.int (1 : Int32) :: st) w) := id rfl
theorem sL_law_19 (lv : zL) (st : List Value) (w : zW) (nx K : Nat → zL → List Value → zW → Prop) (Rt : Option Value → zW → Prop) : z_st1 (tL_law 19) 19 lv st w nx K Rt = (z_1a st (fun x r => z_ok1 lv 3 = true ∧ nx 20 (lv.set 3 (some (.ref x))) r w)) := id rfl
theorem sL_law_20 (lv : zL) (st : List Value) (w : zW) (nx K : Nat → zL → List Value → zW → Prop) (Rt : Option Value → zW → Prop) : z_st1 (tL_law 20) 20 lv st w nx K Rt = (nx 21 lv (.int (0 : Int32) :: st) w) := id rfl
theorem sL_law_21 (lv : zL) (st : List Value) (w : zW) (nx K : Nat → zL → List Value → zW → Prop) (Rt : Option Value → zW → Prop) : z_st1 (tL_law 21) 21 lv st w nx K Rt = (z_1i st (fun x r => z_ok1 lv 4 = true ∧ nx 23 (lv.set 4 (some (.int x))) r w)) := id rfl
theorem sL_law_23 (lv : zL) (st : List Value) (w : zW) (nx K : Nat → zL → List Value → zW → Prop) (Rt : Option Value → zW → Prop) : z_st1 (tL_law 23) 23 lv st w nx K Rt = (z_li lv 4 (fun x => nx 25 lv (.int x :: st) w)) := id rfl
theorem sL_law_25 (lv : zL) (st : List Value) (w : zW) (nx K : Nat → zL → List Value → zW → Prop) (Rt : Option Value → zW → Prop) : z_st1 (tL_law 25) 25 lv st w nx K Rt = (z_la lv 0 (fun x => nx 26 lv (.ref x :: st) w)) := id rfl
theorem sL_law_27 (lv : zL) (st : List Value) (w : zW) (nx K : Nat → zL → List Value → zW → Prop) (Rt : Option Value → zW → Prop) : z_st1 (tL_law 27) 27 lv st w nx K Rt = (nx 28 lv (.int (5 : Int32) :: st) w) := id rfl
theorem sL_law_28 (lv : zL) (st : List Value) (w : zW) (nx K : Nat → zL → List Value → zW → Prop) (Rt : Option Value → zW → Prop) : z_st1 (tL_law 28) 28 lv st w nx K Rt = (z_2i st (fun x y r => nx 29 lv (.int (x - y) :: r) w)) := id rfl
theorem sL_law_29 (lv : zL) (st : List Value) (w : zW) (nx K : Nat → zL → List Value → zW → Prop) (Rt : Option Value → zW → Prop) : z_st1 (tL_law 29) 29 lv st w nx K Rt = (z_2i st (fun x y r => (y < x → nx 705 lv r w) ∧ (¬ y < x → nx 32 lv r w))) := id rfl
theorem sL_law_32 (lv : zL) (st : List Value) (w : zW) (nx K : Nat → zL → List Value → zW → Prop) (Rt : Option Value → zW → Prop) : z_st1 (tL_law 32) 32 lv st w nx K Rt = (z_la lv 0 (fun x => nx 33 lv (.ref x :: st) w)) := id rfl
theorem sL_law_33 (lv : zL) (st : List Value) (w : zW) (nx K : Nat → zL → List Value → zW → Prop) (Rt : Option Value → zW → Prop) : z_st1 (tL_law 33) 33 lv st w nx K Rt = (z_li lv 4 (fun x => nx 35 lv (.int x :: st) w)) := id rfl
theorem sL_law_36 (lv : zL) (st : List Value) (w : zW) (nx K : Nat → zL → List Value → zW → Prop) (Rt : Option Value → zW → Prop) : z_st1 (tL_law 36) 36 lv st w nx K Rt = (nx 38 lv (.int (31 : Int32) :: st) w) := id rfl
theorem sL_law_38 (lv : zL) (st : List Value) (w : zW) (nx K : Nat → zL → List Value → zW → Prop) (Rt : Option Value → zW → Prop) : z_st1 (tL_law 38) 38 lv st w nx K Rt = (z_2i st (fun x y r => nx 39 lv (.int (x &&& y) :: r) w)) := id rfl
theorem sL_law_124 (lv : zL) (st : List Value) (w : zW) (nx K : Nat → zL → List Value → zW → Prop) (Rt : Option Value → zW → Prop) : z_st1 (tL_law 124) 124 lv st w nx K Rt = (z_la lv 1 (fun x => nx 125 lv (.ref x :: st) w)) := id rfl
theorem sL_law_125 (lv : zL) (st : List Value) (w : zW) (nx K : Nat → zL → List Value → zW → Prop) (Rt : Option Value → zW → Prop) : z_st1 (tL_law 125) 125 lv st w nx K Rt = (z_la lv 0 (fun x => nx 126 lv (.ref x :: st) w)) := id rfl
theorem sL_law_126 (lv : zL) (st : List Value) (w : zW) (nx K : Nat → zL → List Value → zW → Prop) (Rt : Option Value → zW → Prop) : z_st1 (tL_law 126) 126 lv st w nx K Rt = (z_li lv 4 (fun x => nx 128 lv (.int x :: st) w)) := id rfl
theorem sL_law_128 (lv : zL) (st : List Value) (w : zW) (nx K : Nat → zL → List Value → zW → Prop) (Rt : Option Value → zW → Prop) : z_st1 (tL_law 128) 128 lv st w nx K Rt = (nx 129 lv (.int (1 : Int32) :: st) w) := id rfl
theorem sL_law_129 (lv : zL) (st : List Value) (w : zW) (nx K : Nat → zL → List Value → zW → Prop) (Rt : Option Value → zW → Prop) : z_st1 (tL_law 129) 129 lv st w nx K Rt = (z_2i st (fun x y r => nx 130 lv (.int (x + y) :: r) w)) := id rfl
theorem sL_law_131 (lv : zL) (st : List Value) (w : zW) (nx K : Nat → zL → List Value → zW → Prop) (Rt : Option Value → zW → Prop) : z_st1 (tL_law 131) 131 lv st w nx K Rt = (z_la lv 3 (fun x => nx 132 lv (.ref x :: st) w)) := id rfl
theorem sL_law_135 (lv : zL) (st : List Value) (w : zW) (nx K : Nat → zL → List Value → zW → Prop) (Rt : Option Value → zW → Prop) : z_st1 (tL_law 135) 135 lv st w nx K Rt = (z_1i st (fun x r => z_ok1 lv 5 = true ∧ nx 137 (lv.set 5 (some (.int x))) r w)) := id rfl
theorem sL_law_137 (lv : zL) (st : List Value) (w : zW) (nx K : Nat → zL → List Value → zW → Prop) (Rt : Option Value → zW → Prop) : z_st1 (tL_law 137) 137 lv st w nx K Rt = (z_la lv 2 (fun x => nx 138 lv (.ref x :: st) w)) := id rfl
theorem sL_law_138 (lv : zL) (st : List Value) (w : zW) (nx K : Nat → zL → List Value → zW → Prop) (Rt : Option Value → zW → Prop) : z_st1 (tL_law 138) 138 lv st w nx K Rt = (z_la lv 0 (fun x => nx 139 lv (.ref x :: st) w)) := id rfl
theorem sL_law_139 (lv : zL) (st : List Value) (w : zW) (nx K : Nat → zL → List Value → zW → Prop) (Rt : Option Value → zW → Prop) : z_st1 (tL_law 139) 139 lv st w nx K Rt = (z_li lv 4 (fun x => nx 141 lv (.int x :: st) w)) := id rfl
theorem sL_law_141 (lv : zL) (st : List Value) (w : zW) (nx K : Nat → zL → List Value → zW → Prop) (Rt : Option Value → zW → Prop) : z_st1 (tL_law 141) 141 lv st w nx K Rt = (nx 142 lv (.int (1 : Int32) :: st) w) := id rfl
theorem sL_law_142 (lv : zL) (st : List Value) (w : zW) (nx K : Nat → zL → List Value → zW → Prop) (Rt : Option Value → zW → Prop) : z_st1 (tL_law 142) 142 lv st w nx K Rt = (z_2i st (fun x y r => nx 143 lv (.int (x + y) :: r) w)) := id rfl
theorem sL_law_147 (lv : zL) (st : List Value) (w : zW) (nx K : Nat → zL → List Value → zW → Prop) (Rt : Option Value → zW → Prop) : z_st1 (tL_law 147) 147 lv st w nx K Rt = (z_1i st (fun x r => z_ok1 lv 6 = true ∧ nx 149 (lv.set 6 (some (.int x))) r w)) := id rfl
theorem sL_law_149 (lv : zL) (st : List Value) (w : zW) (nx K : Nat → zL → List Value → zW → Prop) (Rt : Option Value → zW → Prop) : z_st1 (tL_law 149) 149 lv st w nx K Rt = (nx 699 lv st w) := id rfl
theorem sL_law_152 (lv : zL) (st : List Value) (w : zW) (nx K : Nat → zL → List Value → zW → Prop) (Rt : Option Value → zW → Prop) : z_st1 (tL_law 152) 152 lv st w nx K Rt = (z_la lv 1 (fun x => nx 153 lv (.ref x :: st) w)) := id rfl
theorem sL_law_153 (lv : zL) (st : List Value) (w : zW) (nx K : Nat → zL → List Value → zW → Prop) (Rt : Option Value → zW → Prop) : z_st1 (tL_law 153) 153 lv st w nx K Rt = (z_la lv 0 (fun x => nx 154 lv (.ref x :: st) w)) := id rfl
theorem sL_law_154 (lv : zL) (st : List Value) (w : zW) (nx K : Nat → zL → List Value → zW → Prop) (Rt : Option Value → zW → Prop) : z_st1 (tL_law 154) 154 lv st w nx K Rt = (z_li lv 4 (fun x => nx 156 lv (.int x :: st) w)) := id rfl
theorem sL_law_156 (lv : zL) (st : List Value) (w : zW) (nx K : Nat → zL → List Value → zW → Prop) (Rt : Option Value → zW → Prop) : z_st1 (tL_law 156) 156 lv st w nx K Rt = (nx 157 lv (.int (1 : Int32) :: st) w) := id rfl
theorem sL_law_157 (lv : zL) (st : List Value) (w : zW) (nx K : Nat → zL → List Value → zW → Prop) (Rt : Option Value → zW → Prop) : z_st1 (tL_law 157) 157 lv st w nx K Rt = (z_2i st (fun x y r => nx 158 lv (.int (x + y) :: r) w)) := id rfl
theorem sL_law_162 (lv : zL) (st : List Value) (w : zW) (nx K : Nat → zL → List Value → zW → Prop) (Rt : Option Value → zW → Prop) : z_st1 (tL_law 162) 162 lv st w nx K Rt = (z_d1 st (fun _ r => nx 163 lv r w)) := id rfl
theorem sL_law_163 (lv : zL) (st : List Value) (w : zW) (nx K : Nat → zL → List Value → zW → Prop) (Rt : Option Value → zW → Prop) : z_st1 (tL_law 163) 163 lv st w nx K Rt = (z_la lv 2 (fun x => nx 164 lv (.ref x :: st) w)) := id rfl
theorem sL_law_164 (lv : zL) (st : List Value) (w : zW) (nx K : Nat → zL → List Value → zW → Prop) (Rt : Option Value → zW → Prop) : z_st1 (tL_law 164) 164 lv st w nx K Rt = (z_la lv 0 (fun x => nx 165 lv (.ref x :: st) w)) := id rfl
theorem sL_law_165 (lv : zL) (st : List Value) (w : zW) (nx K : Nat → zL → List Value → zW → Prop) (Rt : Option Value → zW → Prop) : z_st1 (tL_law 165) 165 lv st w nx K Rt = (z_li lv 4 (fun x => nx 167 lv (.int x :: st) w)) := id rfl
theorem sL_law_167 (lv : zL) (st : List Value) (w : zW) (nx K : Nat → zL → List Value → zW → Prop) (Rt : Option Value → zW → Prop) : z_st1 (tL_law 167) 167 lv st w nx K Rt = (nx 168 lv (.int (1 : Int32) :: st) w) := id rfl
theorem sL_law_168 (lv : zL) (st : List Value) (w : zW) (nx K : Nat → zL → List Value → zW → Prop) (Rt : Option Value → zW → Prop) : z_st1 (tL_law 168) 168 lv st w nx K Rt = (z_2i st (fun x y r => nx 169 lv (.int (x + y) :: r) w)) := id rfl
theorem sL_law_173 (lv : zL) (st : List Value) (w : zW) (nx K : Nat → zL → List Value → zW → Prop) (Rt : Option Value → zW → Prop) : z_st1 (tL_law 173) 173 lv st w nx K Rt = (z_d1 st (fun _ r => nx 174 lv r w)) := id rfl
theorem sL_law_174 (lv : zL) (st : List Value) (w : zW) (nx K : Nat → zL → List Value → zW → Prop) (Rt : Option Value → zW → Prop) : z_st1 (tL_law 174) 174 lv st w nx K Rt = (nx 699 lv st w) := id rfl
theorem sL_law_177 (lv : zL) (st : List Value) (w : zW) (nx K : Nat → zL → List Value → zW → Prop) (Rt : Option Value → zW → Prop) : z_st1 (tL_law 177) 177 lv st w nx K Rt = (z_la lv 1 (fun x => nx 178 lv (.ref x :: st) w)) := id rfl
theorem sL_law_178 (lv : zL) (st : List Value) (w : zW) (nx K : Nat → zL → List Value → zW → Prop) (Rt : Option Value → zW → Prop) : z_st1 (tL_law 178) 178 lv st w nx K Rt = (z_la lv 0 (fun x => nx 179 lv (.ref x :: st) w)) := id rfl
theorem sL_law_179 (lv : zL) (st : List Value) (w : zW) (nx K : Nat → zL → List Value → zW → Prop) (Rt : Option Value → zW → Prop) : z_st1 (tL_law 179) 179 lv st w nx K Rt = (z_li lv 4 (fun x => nx 181 lv (.int x :: st) w)) := id rfl
theorem sL_law_181 (lv : zL) (st : List Value) (w : zW) (nx K : Nat → zL → List Value → zW → Prop) (Rt : Option Value → zW → Prop) : z_st1 (tL_law 181) 181 lv st w nx K Rt = (nx 182 lv (.int (1 : Int32) :: st) w) := id rfl
theorem sL_law_182 (lv : zL) (st : List Value) (w : zW) (nx K : Nat → zL → List Value → zW → Prop) (Rt : Option Value → zW → Prop) : z_st1 (tL_law 182) 182 lv st w nx K Rt = (z_2i st (fun x y r => nx 183 lv (.int (x + y) :: r) w)) := id rfl
theorem sL_law_184 (lv : zL) (st : List Value) (w : zW) (nx K : Nat → zL → List Value → zW → Prop) (Rt : Option Value → zW → Prop) : z_st1 (tL_law 184) 184 lv st w nx K Rt = (z_la lv 0 (fun x => nx 185 lv (.ref x :: st) w)) := id rfl
theorem sL_law_185 (lv : zL) (st : List Value) (w : zW) (nx K : Nat → zL → List Value → zW → Prop) (Rt : Option Value → zW → Prop) : z_st1 (tL_law 185) 185 lv st w nx K Rt = (z_li lv 4 (fun x => nx 187 lv (.int x :: st) w)) := id rfl
theorem sL_law_187 (lv : zL) (st : List Value) (w : zW) (nx K : Nat → zL → List Value → zW → Prop) (Rt : Option Value → zW → Prop) : z_st1 (tL_law 187) 187 lv st w nx K Rt = (nx 188 lv (.int (2 : Int32) :: st) w) := id rfl
theorem sL_law_188 (lv : zL) (st : List Value) (w : zW) (nx K : Nat → zL → List Value → zW → Prop) (Rt : Option Value → zW → Prop) : z_st1 (tL_law 188) 188 lv st w nx K Rt = (z_2i st (fun x y r => nx 189 lv (.int (x + y) :: r) w)) := id rfl
theorem sL_law_190 (lv : zL) (st : List Value) (w : zW) (nx K : Nat → zL → List Value → zW → Prop) (Rt : Option Value → zW → Prop) : z_st1 (tL_law 190) 190 lv st w nx K Rt = (z_la lv 0 (fun x => nx 191 lv (.ref x :: st) w)) := id rfl
theorem sL_law_191 (lv : zL) (st : List Value) (w : zW) (nx K : Nat → zL → List Value → zW → Prop) (Rt : Option Value → zW → Prop) : z_st1 (tL_law 191) 191 lv st w nx K Rt = (z_li lv 4 (fun x => nx 193 lv (.int x :: st) w)) := id rfl
theorem sL_law_193 (lv : zL) (st : List Value) (w : zW) (nx K : Nat → zL → List Value → zW → Prop) (Rt : Option Value → zW → Prop) : z_st1 (tL_law 193) 193 lv st w nx K Rt = (nx 194 lv (.int (3 : Int32) :: st) w) := id rfl
theorem sL_law_194 (lv : zL) (st : List Value) (w : zW) (nx K : Nat → zL → List Value → zW → Prop) (Rt : Option Value → zW → Prop) : z_st1 (tL_law 194) 194 lv st w nx K Rt = (z_2i st (fun x y r => nx 195 lv (.int (x + y) :: r) w)) := id rfl
theorem sL_law_196 (lv : zL) (st : List Value) (w : zW) (nx K : Nat → zL → List Value → zW → Prop) (Rt : Option Value → zW → Prop) : z_st1 (tL_law 196) 196 lv st w nx K Rt = (z_la lv 0 (fun x => nx 197 lv (.ref x :: st) w)) := id rfl
theorem sL_law_197 (lv : zL) (st : List Value) (w : zW) (nx K : Nat → zL → List Value → zW → Prop) (Rt : Option Value → zW → Prop) : z_st1 (tL_law 197) 197 lv st w nx K Rt = (z_li lv 4 (fun x => nx 199 lv (.int x :: st) w)) := id rfl
theorem sL_law_199 (lv : zL) (st : List Value) (w : zW) (nx K : Nat → zL → List Value → zW → Prop) (Rt : Option Value → zW → Prop) : z_st1 (tL_law 199) 199 lv st w nx K Rt = (nx 200 lv (.int (4 : Int32) :: st) w) := id rfl
theorem sL_law_200 (lv : zL) (st : List Value) (w : zW) (nx K : Nat → zL → List Value → zW → Prop) (Rt : Option Value → zW → Prop) : z_st1 (tL_law 200) 200 lv st w nx K Rt = (z_2i st (fun x y r => nx 201 lv (.int (x + y) :: r) w)) := id rfl
theorem sL_law_202 (lv : zL) (st : List Value) (w : zW) (nx K : Nat → zL → List Value → zW → Prop) (Rt : Option Value → zW → Prop) : z_st1 (tL_law 202) 202 lv st w nx K Rt = (z_1i st (fun x r => (x = 0 → nx 209 lv r w) ∧ (¬ x = 0 → nx 205 lv r w))) := id rfl
theorem sL_law_205 (lv : zL) (st : List Value) (w : zW) (nx K : Nat → zL → List Value → zW → Prop) (Rt : Option Value → zW → Prop) : z_st1 (tL_law 205) 205 lv st w nx K Rt = (nx 206 lv (.int (1 : Int32) :: st) w) := id rfl
theorem sL_law_206 (lv : zL) (st : List Value) (w : zW) (nx K : Nat → zL → List Value → zW → Prop) (Rt : Option Value → zW → Prop) : z_st1 (tL_law 206) 206 lv st w nx K Rt = (nx 210 lv st w) := id rfl
theorem sL_law_209 (lv : zL) (st : List Value) (w : zW) (nx K : Nat → zL → List Value → zW → Prop) (Rt : Option Value → zW → Prop) : z_st1 (tL_law 209) 209 lv st w nx K Rt = (nx 210 lv (.int (0 : Int32) :: st) w) := id rfl
theorem sL_law_213 (lv : zL) (st : List Value) (w : zW) (nx K : Nat → zL → List Value → zW → Prop) (Rt : Option Value → zW → Prop) : z_st1 (tL_law 213) 213 lv st w nx K Rt = (z_d1 st (fun _ r => nx 214 lv r w)) := id rfl
theorem sL_law_214 (lv : zL) (st : List Value) (w : zW) (nx K : Nat → zL → List Value → zW → Prop) (Rt : Option Value → zW → Prop) : z_st1 (tL_law 214) 214 lv st w nx K Rt = (z_la lv 2 (fun x => nx 215 lv (.ref x :: st) w)) := id rfl
theorem sL_law_215 (lv : zL) (st : List Value) (w : zW) (nx K : Nat → zL → List Value → zW → Prop) (Rt : Option Value → zW → Prop) : z_st1 (tL_law 215) 215 lv st w nx K Rt = (z_la lv 0 (fun x => nx 216 lv (.ref x :: st) w)) := id rfl
theorem sL_law_216 (lv : zL) (st : List Value) (w : zW) (nx K : Nat → zL → List Value → zW → Prop) (Rt : Option Value → zW → Prop) : z_st1 (tL_law 216) 216 lv st w nx K Rt = (z_li lv 4 (fun x => nx 218 lv (.int x :: st) w)) := id rfl
theorem sL_law_218 (lv : zL) (st : List Value) (w : zW) (nx K : Nat → zL → List Value → zW → Prop) (Rt : Option Value → zW → Prop) : z_st1 (tL_law 218) 218 lv st w nx K Rt = (nx 219 lv (.int (1 : Int32) :: st) w) := id rfl
theorem sL_law_219 (lv : zL) (st : List Value) (w : zW) (nx K : Nat → zL → List Value → zW → Prop) (Rt : Option Value → zW → Prop) : z_st1 (tL_law 219) 219 lv st w nx K Rt = (z_2i st (fun x y r => nx 220 lv (.int (x + y) :: r) w)) := id rfl
theorem sL_law_221 (lv : zL) (st : List Value) (w : zW) (nx K : Nat → zL → List Value → zW → Prop) (Rt : Option Value → zW → Prop) : z_st1 (tL_law 221) 221 lv st w nx K Rt = (z_la lv 0 (fun x => nx 222 lv (.ref x :: st) w)) := id rfl
theorem sL_law_222 (lv : zL) (st : List Value) (w : zW) (nx K : Nat → zL → List Value → zW → Prop) (Rt : Option Value → zW → Prop) : z_st1 (tL_law 222) 222 lv st w nx K Rt = (z_li lv 4 (fun x => nx 224 lv (.int x :: st) w)) := id rfl
theorem sL_law_224 (lv : zL) (st : List Value) (w : zW) (nx K : Nat → zL → List Value → zW → Prop) (Rt : Option Value → zW → Prop) : z_st1 (tL_law 224) 224 lv st w nx K Rt = (nx 225 lv (.int (2 : Int32) :: st) w) := id rfl
theorem sL_law_225 (lv : zL) (st : List Value) (w : zW) (nx K : Nat → zL → List Value → zW → Prop) (Rt : Option Value → zW → Prop) : z_st1 (tL_law 225) 225 lv st w nx K Rt = (z_2i st (fun x y r => nx 226 lv (.int (x + y) :: r) w)) := id rfl
theorem sL_law_227 (lv : zL) (st : List Value) (w : zW) (nx K : Nat → zL → List Value → zW → Prop) (Rt : Option Value → zW → Prop) : z_st1 (tL_law 227) 227 lv st w nx K Rt = (z_la lv 0 (fun x => nx 228 lv (.ref x :: st) w)) := id rfl
theorem sL_law_228 (lv : zL) (st : List Value) (w : zW) (nx K : Nat → zL → List Value → zW → Prop) (Rt : Option Value → zW → Prop) : z_st1 (tL_law 228) 228 lv st w nx K Rt = (z_li lv 4 (fun x => nx 230 lv (.int x :: st) w)) := id rfl
theorem sL_law_230 (lv : zL) (st : List Value) (w : zW) (nx K : Nat → zL → List Value → zW → Prop) (Rt : Option Value → zW → Prop) : z_st1 (tL_law 230) 230 lv st w nx K Rt = (nx 231 lv (.int (3 : Int32) :: st) w) := id rfl
theorem sL_law_231 (lv : zL) (st : List Value) (w : zW) (nx K : Nat → zL → List Value → zW → Prop) (Rt : Option Value → zW → Prop) : z_st1 (tL_law 231) 231 lv st w nx K Rt = (z_2i st (fun x y r => nx 232 lv (.int (x + y) :: r) w)) := id rfl
theorem sL_law_233 (lv : zL) (st : List Value) (w : zW) (nx K : Nat → zL → List Value → zW → Prop) (Rt : Option Value → zW → Prop) : z_st1 (tL_law 233) 233 lv st w nx K Rt = (z_la lv 0 (fun x => nx 234 lv (.ref x :: st) w)) := id rfl
theorem sL_law_234 (lv : zL) (st : List Value) (w : zW) (nx K : Nat → zL → List Value → zW → Prop) (Rt : Option Value → zW → Prop) : z_st1 (tL_law 234) 234 lv st w nx K Rt = (z_li lv 4 (fun x => nx 236 lv (.int x :: st) w)) := id rfl
theorem sL_law_236 (lv : zL) (st : List Value) (w : zW) (nx K : Nat → zL → List Value → zW → Prop) (Rt : Option Value → zW → Prop) : z_st1 (tL_law 236) 236 lv st w nx K Rt = (nx 237 lv (.int (4 : Int32) :: st) w) := id rfl
theorem sL_law_237 (lv : zL) (st : List Value) (w : zW) (nx K : Nat → zL → List Value → zW → Prop) (Rt : Option Value → zW → Prop) : z_st1 (tL_law 237) 237 lv st w nx K Rt = (z_2i st (fun x y r => nx 238 lv (.int (x + y) :: r) w)) := id rfl
theorem sL_law_239 (lv : zL) (st : List Value) (w : zW) (nx K : Nat → zL → List Value → zW → Prop) (Rt : Option Value → zW → Prop) : z_st1 (tL_law 239) 239 lv st w nx K Rt = (z_1i st (fun x r => (x = 0 → nx 246 lv r w) ∧ (¬ x = 0 → nx 242 lv r w))) := id rfl
theorem sL_law_242 (lv : zL) (st : List Value) (w : zW) (nx K : Nat → zL → List Value → zW → Prop) (Rt : Option Value → zW → Prop) : z_st1 (tL_law 242) 242 lv st w nx K Rt = (nx 243 lv (.int (1 : Int32) :: st) w) := id rfl
theorem sL_law_243 (lv : zL) (st : List Value) (w : zW) (nx K : Nat → zL → List Value → zW → Prop) (Rt : Option Value → zW → Prop) : z_st1 (tL_law 243) 243 lv st w nx K Rt = (nx 247 lv st w) := id rfl
theorem sL_law_246 (lv : zL) (st : List Value) (w : zW) (nx K : Nat → zL → List Value → zW → Prop) (Rt : Option Value → zW → Prop) : z_st1 (tL_law 246) 246 lv st w nx K Rt = (nx 247 lv (.int (0 : Int32) :: st) w) := id rfl
theorem sL_law_250 (lv : zL) (st : List Value) (w : zW) (nx K : Nat → zL → List Value → zW → Prop) (Rt : Option Value → zW → Prop) : z_st1 (tL_law 250) 250 lv st w nx K Rt = (z_d1 st (fun _ r => nx 251 lv r w)) := id rfl
theorem sL_law_251 (lv : zL) (st : List Value) (w : zW) (nx K : Nat → zL → List Value → zW → Prop) (Rt : Option Value → zW → Prop) : z_st1 (tL_law 251) 251 lv st w nx K Rt = (nx 699 lv st w) := id rfl
theorem sL_law_254 (lv : zL) (st : List Value) (w : zW) (nx K : Nat → zL → List Value → zW → Prop) (Rt : Option Value → zW → Prop) : z_st1 (tL_law 254) 254 lv st w nx K Rt = (z_la lv 1 (fun x => nx 255 lv (.ref x :: st) w)) := id rfl
theorem sL_law_258 (lv : zL) (st : List Value) (w : zW) (nx K : Nat → zL → List Value → zW → Prop) (Rt : Option Value → zW → Prop) : z_st1 (tL_law 258) 258 lv st w nx K Rt = (z_d1 st (fun _ r => nx 259 lv r w)) := id rfl
theorem sL_law_259 (lv : zL) (st : List Value) (w : zW) (nx K : Nat → zL → List Value → zW → Prop) (Rt : Option Value → zW → Prop) : z_st1 (tL_law 259) 259 lv st w nx K Rt = (z_la lv 2 (fun x => nx 260 lv (.ref x :: st) w)) := id rfl
theorem sL_law_263 (lv : zL) (st : List Value) (w : zW) (nx K : Nat → zL → List Value → zW → Prop) (Rt : Option Value → zW → Prop) : z_st1 (tL_law 263) 263 lv st w nx K Rt = (z_d1 st (fun _ r => nx 264 lv r w)) := id rfl
theorem sL_law_264 (lv : zL) (st : List Value) (w : zW) (nx K : Nat → zL → List Value → zW → Prop) (Rt : Option Value → zW → Prop) : z_st1 (tL_law 264) 264 lv st w nx K Rt = (nx 699 lv st w) := id rfl
theorem sL_law_267 (lv : zL) (st : List Value) (w : zW) (nx K : Nat → zL → List Value → zW → Prop) (Rt : Option Value → zW → Prop) : z_st1 (tL_law 267) 267 lv st w nx K Rt = (z_la lv 1 (fun x => nx 268 lv (.ref x :: st) w)) := id rfl
theorem sL_law_268 (lv : zL) (st : List Value) (w : zW) (nx K : Nat → zL → List Value → zW → Prop) (Rt : Option Value → zW → Prop) : z_st1 (tL_law 268) 268 lv st w nx K Rt = (z_la lv 0 (fun x => nx 269 lv (.ref x :: st) w)) := id rfl
theorem sL_law_269 (lv : zL) (st : List Value) (w : zW) (nx K : Nat → zL → List Value → zW → Prop) (Rt : Option Value → zW → Prop) : z_st1 (tL_law 269) 269 lv st w nx K Rt = (z_li lv 4 (fun x => nx 271 lv (.int x :: st) w)) := id rfl
theorem sL_law_271 (lv : zL) (st : List Value) (w : zW) (nx K : Nat → zL → List Value → zW → Prop) (Rt : Option Value → zW → Prop) : z_st1 (tL_law 271) 271 lv st w nx K Rt = (nx 272 lv (.int (1 : Int32) :: st) w) := id rfl
theorem sL_law_272 (lv : zL) (st : List Value) (w : zW) (nx K : Nat → zL → List Value → zW → Prop) (Rt : Option Value → zW → Prop) : z_st1 (tL_law 272) 272 lv st w nx K Rt = (z_2i st (fun x y r => nx 273 lv (.int (x + y) :: r) w)) := id rfl
theorem sL_law_274 (lv : zL) (st : List Value) (w : zW) (nx K : Nat → zL → List Value → zW → Prop) (Rt : Option Value → zW → Prop) : z_st1 (tL_law 274) 274 lv st w nx K Rt = (z_la lv 0 (fun x => nx 275 lv (.ref x :: st) w)) := id rfl
theorem sL_law_275 (lv : zL) (st : List Value) (w : zW) (nx K : Nat → zL → List Value → zW → Prop) (Rt : Option Value → zW → Prop) : z_st1 (tL_law 275) 275 lv st w nx K Rt = (z_li lv 4 (fun x => nx 277 lv (.int x :: st) w)) := id rfl
theorem sL_law_277 (lv : zL) (st : List Value) (w : zW) (nx K : Nat → zL → List Value → zW → Prop) (Rt : Option Value → zW → Prop) : z_st1 (tL_law 277) 277 lv st w nx K Rt = (nx 278 lv (.int (2 : Int32) :: st) w) := id rfl
theorem sL_law_278 (lv : zL) (st : List Value) (w : zW) (nx K : Nat → zL → List Value → zW → Prop) (Rt : Option Value → zW → Prop) : z_st1 (tL_law 278) 278 lv st w nx K Rt = (z_2i st (fun x y r => nx 279 lv (.int (x + y) :: r) w)) := id rfl
theorem sL_law_280 (lv : zL) (st : List Value) (w : zW) (nx K : Nat → zL → List Value → zW → Prop) (Rt : Option Value → zW → Prop) : z_st1 (tL_law 280) 280 lv st w nx K Rt = (z_la lv 0 (fun x => nx 281 lv (.ref x :: st) w)) := id rfl
theorem sL_law_281 (lv : zL) (st : List Value) (w : zW) (nx K : Nat → zL → List Value → zW → Prop) (Rt : Option Value → zW → Prop) : z_st1 (tL_law 281) 281 lv st w nx K Rt = (z_li lv 4 (fun x => nx 283 lv (.int x :: st) w)) := id rfl
theorem sL_law_283 (lv : zL) (st : List Value) (w : zW) (nx K : Nat → zL → List Value → zW → Prop) (Rt : Option Value → zW → Prop) : z_st1 (tL_law 283) 283 lv st w nx K Rt = (nx 284 lv (.int (3 : Int32) :: st) w) := id rfl
theorem sL_law_284 (lv : zL) (st : List Value) (w : zW) (nx K : Nat → zL → List Value → zW → Prop) (Rt : Option Value → zW → Prop) : z_st1 (tL_law 284) 284 lv st w nx K Rt = (z_2i st (fun x y r => nx 285 lv (.int (x + y) :: r) w)) := id rfl
theorem sL_law_289 (lv : zL) (st : List Value) (w : zW) (nx K : Nat → zL → List Value → zW → Prop) (Rt : Option Value → zW → Prop) : z_st1 (tL_law 289) 289 lv st w nx K Rt = (z_d1 st (fun _ r => nx 290 lv r w)) := id rfl
theorem sL_law_290 (lv : zL) (st : List Value) (w : zW) (nx K : Nat → zL → List Value → zW → Prop) (Rt : Option Value → zW → Prop) : z_st1 (tL_law 290) 290 lv st w nx K Rt = (z_la lv 2 (fun x => nx 291 lv (.ref x :: st) w)) := id rfl
theorem sL_law_291 (lv : zL) (st : List Value) (w : zW) (nx K : Nat → zL → List Value → zW → Prop) (Rt : Option Value → zW → Prop) : z_st1 (tL_law 291) 291 lv st w nx K Rt = (z_la lv 0 (fun x => nx 292 lv (.ref x :: st) w)) := id rfl
theorem sL_law_292 (lv : zL) (st : List Value) (w : zW) (nx K : Nat → zL → List Value → zW → Prop) (Rt : Option Value → zW → Prop) : z_st1 (tL_law 292) 292 lv st w nx K Rt = (z_li lv 4 (fun x => nx 294 lv (.int x :: st) w)) := id rfl
theorem sL_law_294 (lv : zL) (st : List Value) (w : zW) (nx K : Nat → zL → List Value → zW → Prop) (Rt : Option Value → zW → Prop) : z_st1 (tL_law 294) 294 lv st w nx K Rt = (nx 295 lv (.int (1 : Int32) :: st) w) := id rfl
theorem sL_law_295 (lv : zL) (st : List Value) (w : zW) (nx K : Nat → zL → List Value → zW → Prop) (Rt : Option Value → zW → Prop) : z_st1 (tL_law 295) 295 lv st w nx K Rt = (z_2i st (fun x y r => nx 296 lv (.int (x + y) :: r) w)) := id rfl
theorem sL_law_297 (lv : zL) (st : List Value) (w : zW) (nx K : Nat → zL → List Value → zW → Prop) (Rt : Option Value → zW → Prop) : z_st1 (tL_law 297) 297 lv st w nx K Rt = (z_la lv 0 (fun x => nx 298 lv (.ref x :: st) w)) := id rfl
theorem sL_law_298 (lv : zL) (st : List Value) (w : zW) (nx K : Nat → zL → List Value → zW → Prop) (Rt : Option Value → zW → Prop) : z_st1 (tL_law 298) 298 lv st w nx K Rt = (z_li lv 4 (fun x => nx 300 lv (.int x :: st) w)) := id rfl
theorem sL_law_300 (lv : zL) (st : List Value) (w : zW) (nx K : Nat → zL → List Value → zW → Prop) (Rt : Option Value → zW → Prop) : z_st1 (tL_law 300) 300 lv st w nx K Rt = (nx 301 lv (.int (2 : Int32) :: st) w) := id rfl
theorem sL_law_301 (lv : zL) (st : List Value) (w : zW) (nx K : Nat → zL → List Value → zW → Prop) (Rt : Option Value → zW → Prop) : z_st1 (tL_law 301) 301 lv st w nx K Rt = (z_2i st (fun x y r => nx 302 lv (.int (x + y) :: r) w)) := id rfl
theorem sL_law_303 (lv : zL) (st : List Value) (w : zW) (nx K : Nat → zL → List Value → zW → Prop) (Rt : Option Value → zW → Prop) : z_st1 (tL_law 303) 303 lv st w nx K Rt = (z_la lv 0 (fun x => nx 304 lv (.ref x :: st) w)) := id rfl
theorem sL_law_304 (lv : zL) (st : List Value) (w : zW) (nx K : Nat → zL → List Value → zW → Prop) (Rt : Option Value → zW → Prop) : z_st1 (tL_law 304) 304 lv st w nx K Rt = (z_li lv 4 (fun x => nx 306 lv (.int x :: st) w)) := id rfl
theorem sL_law_306 (lv : zL) (st : List Value) (w : zW) (nx K : Nat → zL → List Value → zW → Prop) (Rt : Option Value → zW → Prop) : z_st1 (tL_law 306) 306 lv st w nx K Rt = (nx 307 lv (.int (3 : Int32) :: st) w) := id rfl
theorem sL_law_307 (lv : zL) (st : List Value) (w : zW) (nx K : Nat → zL → List Value → zW → Prop) (Rt : Option Value → zW → Prop) : z_st1 (tL_law 307) 307 lv st w nx K Rt = (z_2i st (fun x y r => nx 308 lv (.int (x + y) :: r) w)) := id rfl
theorem sL_law_312 (lv : zL) (st : List Value) (w : zW) (nx K : Nat → zL → List Value → zW → Prop) (Rt : Option Value → zW → Prop) : z_st1 (tL_law 312) 312 lv st w nx K Rt = (z_d1 st (fun _ r => nx 313 lv r w)) := id rfl
theorem sL_law_313 (lv : zL) (st : List Value) (w : zW) (nx K : Nat → zL → List Value → zW → Prop) (Rt : Option Value → zW → Prop) : z_st1 (tL_law 313) 313 lv st w nx K Rt = (nx 699 lv st w) := id rfl
theorem sL_law_316 (lv : zL) (st : List Value) (w : zW) (nx K : Nat → zL → List Value → zW → Prop) (Rt : Option Value → zW → Prop) : z_st1 (tL_law 316) 316 lv st w nx K Rt = (z_la lv 1 (fun x => nx 317 lv (.ref x :: st) w)) := id rfl
theorem sL_law_317 (lv : zL) (st : List Value) (w : zW) (nx K : Nat → zL → List Value → zW → Prop) (Rt : Option Value → zW → Prop) : z_st1 (tL_law 317) 317 lv st w nx K Rt = (z_la lv 0 (fun x => nx 318 lv (.ref x :: st) w)) := id rfl
theorem sL_law_318 (lv : zL) (st : List Value) (w : zW) (nx K : Nat → zL → List Value → zW → Prop) (Rt : Option Value → zW → Prop) : z_st1 (tL_law 318) 318 lv st w nx K Rt = (z_li lv 4 (fun x => nx 320 lv (.int x :: st) w)) := id rfl
theorem sL_law_320 (lv : zL) (st : List Value) (w : zW) (nx K : Nat → zL → List Value → zW → Prop) (Rt : Option Value → zW → Prop) : z_st1 (tL_law 320) 320 lv st w nx K Rt = (nx 321 lv (.int (1 : Int32) :: st) w) := id rfl
theorem sL_law_321 (lv : zL) (st : List Value) (w : zW) (nx K : Nat → zL → List Value → zW → Prop) (Rt : Option Value → zW → Prop) : z_st1 (tL_law 321) 321 lv st w nx K Rt = (z_2i st (fun x y r => nx 322 lv (.int (x + y) :: r) w)) := id rfl
theorem sL_law_323 (lv : zL) (st : List Value) (w : zW) (nx K : Nat → zL → List Value → zW → Prop) (Rt : Option Value → zW → Prop) : z_st1 (tL_law 323) 323 lv st w nx K Rt = (z_la lv 0 (fun x => nx 324 lv (.ref x :: st) w)) := id rfl
theorem sL_law_324 (lv : zL) (st : List Value) (w : zW) (nx K : Nat → zL → List Value → zW → Prop) (Rt : Option Value → zW → Prop) : z_st1 (tL_law 324) 324 lv st w nx K Rt = (z_li lv 4 (fun x => nx 326 lv (.int x :: st) w)) := id rfl
theorem sL_law_326 (lv : zL) (st : List Value) (w : zW) (nx K : Nat → zL → List Value → zW → Prop) (Rt : Option Value → zW → Prop) : z_st1 (tL_law 326) 326 lv st w nx K Rt = (nx 327 lv (.int (2 : Int32) :: st) w) := id rfl
theorem sL_law_327 (lv : zL) (st : List Value) (w : zW) (nx K : Nat → zL → List Value → zW → Prop) (Rt : Option Value → zW → Prop) : z_st1 (tL_law 327) 327 lv st w nx K Rt = (z_2i st (fun x y r => nx 328 lv (.int (x + y) :: r) w)) := id rfl
theorem sL_law_329 (lv : zL) (st : List Value) (w : zW) (nx K : Nat → zL → List Value → zW → Prop) (Rt : Option Value → zW → Prop) : z_st1 (tL_law 329) 329 lv st w nx K Rt = (z_la lv 0 (fun x => nx 330 lv (.ref x :: st) w)) := id rfl
theorem sL_law_330 (lv : zL) (st : List Value) (w : zW) (nx K : Nat → zL → List Value → zW → Prop) (Rt : Option Value → zW → Prop) : z_st1 (tL_law 330) 330 lv st w nx K Rt = (z_li lv 4 (fun x => nx 332 lv (.int x :: st) w)) := id rfl
theorem sL_law_332 (lv : zL) (st : List Value) (w : zW) (nx K : Nat → zL → List Value → zW → Prop) (Rt : Option Value → zW → Prop) : z_st1 (tL_law 332) 332 lv st w nx K Rt = (nx 333 lv (.int (3 : Int32) :: st) w) := id rfl
theorem sL_law_333 (lv : zL) (st : List Value) (w : zW) (nx K : Nat → zL → List Value → zW → Prop) (Rt : Option Value → zW → Prop) : z_st1 (tL_law 333) 333 lv st w nx K Rt = (z_2i st (fun x y r => nx 334 lv (.int (x + y) :: r) w)) := id rfl
theorem sL_law_338 (lv : zL) (st : List Value) (w : zW) (nx K : Nat → zL → List Value → zW → Prop) (Rt : Option Value → zW → Prop) : z_st1 (tL_law 338) 338 lv st w nx K Rt = (z_d1 st (fun _ r => nx 339 lv r w)) := id rfl
theorem sL_law_339 (lv : zL) (st : List Value) (w : zW) (nx K : Nat → zL → List Value → zW → Prop) (Rt : Option Value → zW → Prop) : z_st1 (tL_law 339) 339 lv st w nx K Rt = (z_la lv 2 (fun x => nx 340 lv (.ref x :: st) w)) := id rfl
theorem sL_law_340 (lv : zL) (st : List Value) (w : zW) (nx K : Nat → zL → List Value → zW → Prop) (Rt : Option Value → zW → Prop) : z_st1 (tL_law 340) 340 lv st w nx K Rt = (z_la lv 0 (fun x => nx 341 lv (.ref x :: st) w)) := id rfl
theorem sL_law_341 (lv : zL) (st : List Value) (w : zW) (nx K : Nat → zL → List Value → zW → Prop) (Rt : Option Value → zW → Prop) : z_st1 (tL_law 341) 341 lv st w nx K Rt = (z_li lv 4 (fun x => nx 343 lv (.int x :: st) w)) := id rfl
theorem sL_law_343 (lv : zL) (st : List Value) (w : zW) (nx K : Nat → zL → List Value → zW → Prop) (Rt : Option Value → zW → Prop) : z_st1 (tL_law 343) 343 lv st w nx K Rt = (nx 344 lv (.int (1 : Int32) :: st) w) := id rfl
theorem sL_law_344 (lv : zL) (st : List Value) (w : zW) (nx K : Nat → zL → List Value → zW → Prop) (Rt : Option Value → zW → Prop) : z_st1 (tL_law 344) 344 lv st w nx K Rt = (z_2i st (fun x y r => nx 345 lv (.int (x + y) :: r) w)) := id rfl
theorem sL_law_346 (lv : zL) (st : List Value) (w : zW) (nx K : Nat → zL → List Value → zW → Prop) (Rt : Option Value → zW → Prop) : z_st1 (tL_law 346) 346 lv st w nx K Rt = (z_la lv 0 (fun x => nx 347 lv (.ref x :: st) w)) := id rfl
theorem sL_law_347 (lv : zL) (st : List Value) (w : zW) (nx K : Nat → zL → List Value → zW → Prop) (Rt : Option Value → zW → Prop) : z_st1 (tL_law 347) 347 lv st w nx K Rt = (z_li lv 4 (fun x => nx 349 lv (.int x :: st) w)) := id rfl
theorem sL_law_349 (lv : zL) (st : List Value) (w : zW) (nx K : Nat → zL → List Value → zW → Prop) (Rt : Option Value → zW → Prop) : z_st1 (tL_law 349) 349 lv st w nx K Rt = (nx 350 lv (.int (2 : Int32) :: st) w) := id rfl
theorem sL_law_350 (lv : zL) (st : List Value) (w : zW) (nx K : Nat → zL → List Value → zW → Prop) (Rt : Option Value → zW → Prop) : z_st1 (tL_law 350) 350 lv st w nx K Rt = (z_2i st (fun x y r => nx 351 lv (.int (x + y) :: r) w)) := id rfl
theorem sL_law_352 (lv : zL) (st : List Value) (w : zW) (nx K : Nat → zL → List Value → zW → Prop) (Rt : Option Value → zW → Prop) : z_st1 (tL_law 352) 352 lv st w nx K Rt = (z_la lv 0 (fun x => nx 353 lv (.ref x :: st) w)) := id rfl
theorem sL_law_353 (lv : zL) (st : List Value) (w : zW) (nx K : Nat → zL → List Value → zW → Prop) (Rt : Option Value → zW → Prop) : z_st1 (tL_law 353) 353 lv st w nx K Rt = (z_li lv 4 (fun x => nx 355 lv (.int x :: st) w)) := id rfl
theorem sL_law_355 (lv : zL) (st : List Value) (w : zW) (nx K : Nat → zL → List Value → zW → Prop) (Rt : Option Value → zW → Prop) : z_st1 (tL_law 355) 355 lv st w nx K Rt = (nx 356 lv (.int (3 : Int32) :: st) w) := id rfl
theorem sL_law_356 (lv : zL) (st : List Value) (w : zW) (nx K : Nat → zL → List Value → zW → Prop) (Rt : Option Value → zW → Prop) : z_st1 (tL_law 356) 356 lv st w nx K Rt = (z_2i st (fun x y r => nx 357 lv (.int (x + y) :: r) w)) := id rfl
theorem sL_law_361 (lv : zL) (st : List Value) (w : zW) (nx K : Nat → zL → List Value → zW → Prop) (Rt : Option Value → zW → Prop) : z_st1 (tL_law 361) 361 lv st w nx K Rt = (z_d1 st (fun _ r => nx 362 lv r w)) := id rfl
theorem sL_law_362 (lv : zL) (st : List Value) (w : zW) (nx K : Nat → zL → List Value → zW → Prop) (Rt : Option Value → zW → Prop) : z_st1 (tL_law 362) 362 lv st w nx K Rt = (nx 699 lv st w) := id rfl
theorem sL_law_365 (lv : zL) (st : List Value) (w : zW) (nx K : Nat → zL → List Value → zW → Prop) (Rt : Option Value → zW → Prop) : z_st1 (tL_law 365) 365 lv st w nx K Rt = (z_la lv 1 (fun x => nx 366 lv (.ref x :: st) w)) := id rfl
theorem sL_law_366 (lv : zL) (st : List Value) (w : zW) (nx K : Nat → zL → List Value → zW → Prop) (Rt : Option Value → zW → Prop) : z_st1 (tL_law 366) 366 lv st w nx K Rt = (z_la lv 0 (fun x => nx 367 lv (.ref x :: st) w)) := id rfl
theorem sL_law_367 (lv : zL) (st : List Value) (w : zW) (nx K : Nat → zL → List Value → zW → Prop) (Rt : Option Value → zW → Prop) : z_st1 (tL_law 367) 367 lv st w nx K Rt = (z_li lv 4 (fun x => nx 369 lv (.int x :: st) w)) := id rfl
theorem sL_law_369 (lv : zL) (st : List Value) (w : zW) (nx K : Nat → zL → List Value → zW → Prop) (Rt : Option Value → zW → Prop) : z_st1 (tL_law 369) 369 lv st w nx K Rt = (nx 370 lv (.int (1 : Int32) :: st) w) := id rfl
theorem sL_law_370 (lv : zL) (st : List Value) (w : zW) (nx K : Nat → zL → List Value → zW → Prop) (Rt : Option Value → zW → Prop) : z_st1 (tL_law 370) 370 lv st w nx K Rt = (z_2i st (fun x y r => nx 371 lv (.int (x + y) :: r) w)) := id rfl
theorem sL_law_372 (lv : zL) (st : List Value) (w : zW) (nx K : Nat → zL → List Value → zW → Prop) (Rt : Option Value → zW → Prop) : z_st1 (tL_law 372) 372 lv st w nx K Rt = (z_la lv 0 (fun x => nx 373 lv (.ref x :: st) w)) := id rfl
theorem sL_law_373 (lv : zL) (st : List Value) (w : zW) (nx K : Nat → zL → List Value → zW → Prop) (Rt : Option Value → zW → Prop) : z_st1 (tL_law 373) 373 lv st w nx K Rt = (z_li lv 4 (fun x => nx 375 lv (.int x :: st) w)) := id rfl
theorem sL_law_375 (lv : zL) (st : List Value) (w : zW) (nx K : Nat → zL → List Value → zW → Prop) (Rt : Option Value → zW → Prop) : z_st1 (tL_law 375) 375 lv st w nx K Rt = (nx 376 lv (.int (2 : Int32) :: st) w) := id rfl
theorem sL_law_376 (lv : zL) (st : List Value) (w : zW) (nx K : Nat → zL → List Value → zW → Prop) (Rt : Option Value → zW → Prop) : z_st1 (tL_law 376) 376 lv st w nx K Rt = (z_2i st (fun x y r => nx 377 lv (.int (x + y) :: r) w)) := id rfl
theorem sL_law_381 (lv : zL) (st : List Value) (w : zW) (nx K : Nat → zL → List Value → zW → Prop) (Rt : Option Value → zW → Prop) : z_st1 (tL_law 381) 381 lv st w nx K Rt = (z_d1 st (fun _ r => nx 382 lv r w)) := id rfl
theorem sL_law_382 (lv : zL) (st : List Value) (w : zW) (nx K : Nat → zL → List Value → zW → Prop) (Rt : Option Value → zW → Prop) : z_st1 (tL_law 382) 382 lv st w nx K Rt = (z_la lv 2 (fun x => nx 383 lv (.ref x :: st) w)) := id rfl
theorem sL_law_383 (lv : zL) (st : List Value) (w : zW) (nx K : Nat → zL → List Value → zW → Prop) (Rt : Option Value → zW → Prop) : z_st1 (tL_law 383) 383 lv st w nx K Rt = (z_la lv 0 (fun x => nx 384 lv (.ref x :: st) w)) := id rfl
theorem sL_law_384 (lv : zL) (st : List Value) (w : zW) (nx K : Nat → zL → List Value → zW → Prop) (Rt : Option Value → zW → Prop) : z_st1 (tL_law 384) 384 lv st w nx K Rt = (z_li lv 4 (fun x => nx 386 lv (.int x :: st) w)) := id rfl
theorem sL_law_386 (lv : zL) (st : List Value) (w : zW) (nx K : Nat → zL → List Value → zW → Prop) (Rt : Option Value → zW → Prop) : z_st1 (tL_law 386) 386 lv st w nx K Rt = (nx 387 lv (.int (1 : Int32) :: st) w) := id rfl
theorem sL_law_387 (lv : zL) (st : List Value) (w : zW) (nx K : Nat → zL → List Value → zW → Prop) (Rt : Option Value → zW → Prop) : z_st1 (tL_law 387) 387 lv st w nx K Rt = (z_2i st (fun x y r => nx 388 lv (.int (x + y) :: r) w)) := id rfl
theorem sL_law_389 (lv : zL) (st : List Value) (w : zW) (nx K : Nat → zL → List Value → zW → Prop) (Rt : Option Value → zW → Prop) : z_st1 (tL_law 389) 389 lv st w nx K Rt = (z_la lv 0 (fun x => nx 390 lv (.ref x :: st) w)) := id rfl
theorem sL_law_390 (lv : zL) (st : List Value) (w : zW) (nx K : Nat → zL → List Value → zW → Prop) (Rt : Option Value → zW → Prop) : z_st1 (tL_law 390) 390 lv st w nx K Rt = (z_li lv 4 (fun x => nx 392 lv (.int x :: st) w)) := id rfl
theorem sL_law_392 (lv : zL) (st : List Value) (w : zW) (nx K : Nat → zL → List Value → zW → Prop) (Rt : Option Value → zW → Prop) : z_st1 (tL_law 392) 392 lv st w nx K Rt = (nx 393 lv (.int (2 : Int32) :: st) w) := id rfl
theorem sL_law_393 (lv : zL) (st : List Value) (w : zW) (nx K : Nat → zL → List Value → zW → Prop) (Rt : Option Value → zW → Prop) : z_st1 (tL_law 393) 393 lv st w nx K Rt = (z_2i st (fun x y r => nx 394 lv (.int (x + y) :: r) w)) := id rfl
theorem sL_law_398 (lv : zL) (st : List Value) (w : zW) (nx K : Nat → zL → List Value → zW → Prop) (Rt : Option Value → zW → Prop) : z_st1 (tL_law 398) 398 lv st w nx K Rt = (z_d1 st (fun _ r => nx 399 lv r w)) := id rfl
theorem sL_law_399 (lv : zL) (st : List Value) (w : zW) (nx K : Nat → zL → List Value → zW → Prop) (Rt : Option Value → zW → Prop) : z_st1 (tL_law 399) 399 lv st w nx K Rt = (nx 699 lv st w) := id rfl
theorem sL_law_402 (lv : zL) (st : List Value) (w : zW) (nx K : Nat → zL → List Value → zW → Prop) (Rt : Option Value → zW → Prop) : z_st1 (tL_law 402) 402 lv st w nx K Rt = (z_la lv 1 (fun x => nx 403 lv (.ref x :: st) w)) := id rfl
theorem sL_law_403 (lv : zL) (st : List Value) (w : zW) (nx K : Nat → zL → List Value → zW → Prop) (Rt : Option Value → zW → Prop) : z_st1 (tL_law 403) 403 lv st w nx K Rt = (z_la lv 0 (fun x => nx 404 lv (.ref x :: st) w)) := id rfl
theorem sL_law_404 (lv : zL) (st : List Value) (w : zW) (nx K : Nat → zL → List Value → zW → Prop) (Rt : Option Value → zW → Prop) : z_st1 (tL_law 404) 404 lv st w nx K Rt = (z_li lv 4 (fun x => nx 406 lv (.int x :: st) w)) := id rfl
theorem sL_law_406 (lv : zL) (st : List Value) (w : zW) (nx K : Nat → zL → List Value → zW → Prop) (Rt : Option Value → zW → Prop) : z_st1 (tL_law 406) 406 lv st w nx K Rt = (nx 407 lv (.int (1 : Int32) :: st) w) := id rfl
theorem sL_law_407 (lv : zL) (st : List Value) (w : zW) (nx K : Nat → zL → List Value → zW → Prop) (Rt : Option Value → zW → Prop) : z_st1 (tL_law 407) 407 lv st w nx K Rt = (z_2i st (fun x y r => nx 408 lv (.int (x + y) :: r) w)) := id rfl
theorem sL_law_409 (lv : zL) (st : List Value) (w : zW) (nx K : Nat → zL → List Value → zW → Prop) (Rt : Option Value → zW → Prop) : z_st1 (tL_law 409) 409 lv st w nx K Rt = (z_la lv 0 (fun x => nx 410 lv (.ref x :: st) w)) := id rfl
theorem sL_law_410 (lv : zL) (st : List Value) (w : zW) (nx K : Nat → zL → List Value → zW → Prop) (Rt : Option Value → zW → Prop) : z_st1 (tL_law 410) 410 lv st w nx K Rt = (z_li lv 4 (fun x => nx 412 lv (.int x :: st) w)) := id rfl
theorem sL_law_412 (lv : zL) (st : List Value) (w : zW) (nx K : Nat → zL → List Value → zW → Prop) (Rt : Option Value → zW → Prop) : z_st1 (tL_law 412) 412 lv st w nx K Rt = (nx 413 lv (.int (2 : Int32) :: st) w) := id rfl
theorem sL_law_413 (lv : zL) (st : List Value) (w : zW) (nx K : Nat → zL → List Value → zW → Prop) (Rt : Option Value → zW → Prop) : z_st1 (tL_law 413) 413 lv st w nx K Rt = (z_2i st (fun x y r => nx 414 lv (.int (x + y) :: r) w)) := id rfl
theorem sL_law_415 (lv : zL) (st : List Value) (w : zW) (nx K : Nat → zL → List Value → zW → Prop) (Rt : Option Value → zW → Prop) : z_st1 (tL_law 415) 415 lv st w nx K Rt = (z_la lv 0 (fun x => nx 416 lv (.ref x :: st) w)) := id rfl
theorem sL_law_416 (lv : zL) (st : List Value) (w : zW) (nx K : Nat → zL → List Value → zW → Prop) (Rt : Option Value → zW → Prop) : z_st1 (tL_law 416) 416 lv st w nx K Rt = (z_li lv 4 (fun x => nx 418 lv (.int x :: st) w)) := id rfl
theorem sL_law_418 (lv : zL) (st : List Value) (w : zW) (nx K : Nat → zL → List Value → zW → Prop) (Rt : Option Value → zW → Prop) : z_st1 (tL_law 418) 418 lv st w nx K Rt = (nx 419 lv (.int (3 : Int32) :: st) w) := id rfl
theorem sL_law_419 (lv : zL) (st : List Value) (w : zW) (nx K : Nat → zL → List Value → zW → Prop) (Rt : Option Value → zW → Prop) : z_st1 (tL_law 419) 419 lv st w nx K Rt = (z_2i st (fun x y r => nx 420 lv (.int (x + y) :: r) w)) := id rfl
theorem sL_law_424 (lv : zL) (st : List Value) (w : zW) (nx K : Nat → zL → List Value → zW → Prop) (Rt : Option Value → zW → Prop) : z_st1 (tL_law 424) 424 lv st w nx K Rt = (z_la lv 2 (fun x => nx 425 lv (.ref x :: st) w)) := id rfl
theorem sL_law_425 (lv : zL) (st : List Value) (w : zW) (nx K : Nat → zL → List Value → zW → Prop) (Rt : Option Value → zW → Prop) : z_st1 (tL_law 425) 425 lv st w nx K Rt = (z_la lv 0 (fun x => nx 426 lv (.ref x :: st) w)) := id rfl
theorem sL_law_426 (lv : zL) (st : List Value) (w : zW) (nx K : Nat → zL → List Value → zW → Prop) (Rt : Option Value → zW → Prop) : z_st1 (tL_law 426) 426 lv st w nx K Rt = (z_li lv 4 (fun x => nx 428 lv (.int x :: st) w)) := id rfl
theorem sL_law_428 (lv : zL) (st : List Value) (w : zW) (nx K : Nat → zL → List Value → zW → Prop) (Rt : Option Value → zW → Prop) : z_st1 (tL_law 428) 428 lv st w nx K Rt = (nx 429 lv (.int (1 : Int32) :: st) w) := id rfl
theorem sL_law_429 (lv : zL) (st : List Value) (w : zW) (nx K : Nat → zL → List Value → zW → Prop) (Rt : Option Value → zW → Prop) : z_st1 (tL_law 429) 429 lv st w nx K Rt = (z_2i st (fun x y r => nx 430 lv (.int (x + y) :: r) w)) := id rfl
theorem sL_law_431 (lv : zL) (st : List Value) (w : zW) (nx K : Nat → zL → List Value → zW → Prop) (Rt : Option Value → zW → Prop) : z_st1 (tL_law 431) 431 lv st w nx K Rt = (z_la lv 0 (fun x => nx 432 lv (.ref x :: st) w)) := id rfl
theorem sL_law_432 (lv : zL) (st : List Value) (w : zW) (nx K : Nat → zL → List Value → zW → Prop) (Rt : Option Value → zW → Prop) : z_st1 (tL_law 432) 432 lv st w nx K Rt = (z_li lv 4 (fun x => nx 434 lv (.int x :: st) w)) := id rfl
theorem sL_law_434 (lv : zL) (st : List Value) (w : zW) (nx K : Nat → zL → List Value → zW → Prop) (Rt : Option Value → zW → Prop) : z_st1 (tL_law 434) 434 lv st w nx K Rt = (nx 435 lv (.int (2 : Int32) :: st) w) := id rfl
theorem sL_law_435 (lv : zL) (st : List Value) (w : zW) (nx K : Nat → zL → List Value → zW → Prop) (Rt : Option Value → zW → Prop) : z_st1 (tL_law 435) 435 lv st w nx K Rt = (z_2i st (fun x y r => nx 436 lv (.int (x + y) :: r) w)) := id rfl
theorem sL_law_437 (lv : zL) (st : List Value) (w : zW) (nx K : Nat → zL → List Value → zW → Prop) (Rt : Option Value → zW → Prop) : z_st1 (tL_law 437) 437 lv st w nx K Rt = (z_la lv 0 (fun x => nx 438 lv (.ref x :: st) w)) := id rfl
theorem sL_law_438 (lv : zL) (st : List Value) (w : zW) (nx K : Nat → zL → List Value → zW → Prop) (Rt : Option Value → zW → Prop) : z_st1 (tL_law 438) 438 lv st w nx K Rt = (z_li lv 4 (fun x => nx 440 lv (.int x :: st) w)) := id rfl
theorem sL_law_440 (lv : zL) (st : List Value) (w : zW) (nx K : Nat → zL → List Value → zW → Prop) (Rt : Option Value → zW → Prop) : z_st1 (tL_law 440) 440 lv st w nx K Rt = (nx 441 lv (.int (3 : Int32) :: st) w) := id rfl
theorem sL_law_441 (lv : zL) (st : List Value) (w : zW) (nx K : Nat → zL → List Value → zW → Prop) (Rt : Option Value → zW → Prop) : z_st1 (tL_law 441) 441 lv st w nx K Rt = (z_2i st (fun x y r => nx 442 lv (.int (x + y) :: r) w)) := id rfl
theorem sL_law_446 (lv : zL) (st : List Value) (w : zW) (nx K : Nat → zL → List Value → zW → Prop) (Rt : Option Value → zW → Prop) : z_st1 (tL_law 446) 446 lv st w nx K Rt = (z_2i st (fun x y r => (x = y → nx 699 lv r w) ∧ (¬ x = y → nx 449 lv r w))) := id rfl
theorem sL_law_449 (lv : zL) (st : List Value) (w : zW) (nx K : Nat → zL → List Value → zW → Prop) (Rt : Option Value → zW → Prop) : z_st1 (tL_law 449) 449 lv st w nx K Rt = (nx 450 lv (.int (0 : Int32) :: st) w) := id rfl
theorem sL_law_450 (lv : zL) (st : List Value) (w : zW) (nx K : Nat → zL → List Value → zW → Prop) (Rt : Option Value → zW → Prop) : z_st1 (tL_law 450) 450 lv st w nx K Rt = (z_e1 st (fun x => (x = 0 ∨ x = 1) ∧ Rt (some (.int x)) w)) := id rfl
theorem sL_law_451 (lv : zL) (st : List Value) (w : zW) (nx K : Nat → zL → List Value → zW → Prop) (Rt : Option Value → zW → Prop) : z_st1 (tL_law 451) 451 lv st w nx K Rt = (z_la lv 1 (fun x => nx 452 lv (.ref x :: st) w)) := id rfl
theorem sL_law_455 (lv : zL) (st : List Value) (w : zW) (nx K : Nat → zL → List Value → zW → Prop) (Rt : Option Value → zW → Prop) : z_st1 (tL_law 455) 455 lv st w nx K Rt = (z_d1 st (fun _ r => nx 456 lv r w)) := id rfl
theorem sL_law_456 (lv : zL) (st : List Value) (w : zW) (nx K : Nat → zL → List Value → zW → Prop) (Rt : Option Value → zW → Prop) : z_st1 (tL_law 456) 456 lv st w nx K Rt = (z_la lv 2 (fun x => nx 457 lv (.ref x :: st) w)) := id rfl
theorem sL_law_460 (lv : zL) (st : List Value) (w : zW) (nx K : Nat → zL → List Value → zW → Prop) (Rt : Option Value → zW → Prop) : z_st1 (tL_law 460) 460 lv st w nx K Rt = (z_d1 st (fun _ r => nx 461 lv r w)) := id rfl
theorem sL_law_461 (lv : zL) (st : List Value) (w : zW) (nx K : Nat → zL → List Value → zW → Prop) (Rt : Option Value → zW → Prop) : z_st1 (tL_law 461) 461 lv st w nx K Rt = (nx 699 lv st w) := id rfl
theorem sL_law_464 (lv : zL) (st : List Value) (w : zW) (nx K : Nat → zL → List Value → zW → Prop) (Rt : Option Value → zW → Prop) : z_st1 (tL_law 464) 464 lv st w nx K Rt = (z_la lv 1 (fun x => nx 465 lv (.ref x :: st) w)) := id rfl
theorem sL_law_465 (lv : zL) (st : List Value) (w : zW) (nx K : Nat → zL → List Value → zW → Prop) (Rt : Option Value → zW → Prop) : z_st1 (tL_law 465) 465 lv st w nx K Rt = (z_la lv 0 (fun x => nx 466 lv (.ref x :: st) w)) := id rfl
theorem sL_law_466 (lv : zL) (st : List Value) (w : zW) (nx K : Nat → zL → List Value → zW → Prop) (Rt : Option Value → zW → Prop) : z_st1 (tL_law 466) 466 lv st w nx K Rt = (z_li lv 4 (fun x => nx 468 lv (.int x :: st) w)) := id rfl
theorem sL_law_468 (lv : zL) (st : List Value) (w : zW) (nx K : Nat → zL → List Value → zW → Prop) (Rt : Option Value → zW → Prop) : z_st1 (tL_law 468) 468 lv st w nx K Rt = (nx 469 lv (.int (1 : Int32) :: st) w) := id rfl
theorem sL_law_469 (lv : zL) (st : List Value) (w : zW) (nx K : Nat → zL → List Value → zW → Prop) (Rt : Option Value → zW → Prop) : z_st1 (tL_law 469) 469 lv st w nx K Rt = (z_2i st (fun x y r => nx 470 lv (.int (x + y) :: r) w)) := id rfl
theorem sL_law_474 (lv : zL) (st : List Value) (w : zW) (nx K : Nat → zL → List Value → zW → Prop) (Rt : Option Value → zW → Prop) : z_st1 (tL_law 474) 474 lv st w nx K Rt = (z_d1 st (fun _ r => nx 475 lv r w)) := id rfl
theorem sL_law_475 (lv : zL) (st : List Value) (w : zW) (nx K : Nat → zL → List Value → zW → Prop) (Rt : Option Value → zW → Prop) : z_st1 (tL_law 475) 475 lv st w nx K Rt = (z_la lv 2 (fun x => nx 476 lv (.ref x :: st) w)) := id rfl
theorem sL_law_476 (lv : zL) (st : List Value) (w : zW) (nx K : Nat → zL → List Value → zW → Prop) (Rt : Option Value → zW → Prop) : z_st1 (tL_law 476) 476 lv st w nx K Rt = (z_la lv 0 (fun x => nx 477 lv (.ref x :: st) w)) := id rfl
theorem sL_law_477 (lv : zL) (st : List Value) (w : zW) (nx K : Nat → zL → List Value → zW → Prop) (Rt : Option Value → zW → Prop) : z_st1 (tL_law 477) 477 lv st w nx K Rt = (z_li lv 4 (fun x => nx 479 lv (.int x :: st) w)) := id rfl
theorem sL_law_479 (lv : zL) (st : List Value) (w : zW) (nx K : Nat → zL → List Value → zW → Prop) (Rt : Option Value → zW → Prop) : z_st1 (tL_law 479) 479 lv st w nx K Rt = (nx 480 lv (.int (1 : Int32) :: st) w) := id rfl
theorem sL_law_480 (lv : zL) (st : List Value) (w : zW) (nx K : Nat → zL → List Value → zW → Prop) (Rt : Option Value → zW → Prop) : z_st1 (tL_law 480) 480 lv st w nx K Rt = (z_2i st (fun x y r => nx 481 lv (.int (x + y) :: r) w)) := id rfl
theorem sL_law_485 (lv : zL) (st : List Value) (w : zW) (nx K : Nat → zL → List Value → zW → Prop) (Rt : Option Value → zW → Prop) : z_st1 (tL_law 485) 485 lv st w nx K Rt = (z_d1 st (fun _ r => nx 486 lv r w)) := id rfl
theorem sL_law_486 (lv : zL) (st : List Value) (w : zW) (nx K : Nat → zL → List Value → zW → Prop) (Rt : Option Value → zW → Prop) : z_st1 (tL_law 486) 486 lv st w nx K Rt = (nx 699 lv st w) := id rfl
theorem sL_law_489 (lv : zL) (st : List Value) (w : zW) (nx K : Nat → zL → List Value → zW → Prop) (Rt : Option Value → zW → Prop) : z_st1 (tL_law 489) 489 lv st w nx K Rt = (z_la lv 1 (fun x => nx 490 lv (.ref x :: st) w)) := id rfl
theorem sL_law_490 (lv : zL) (st : List Value) (w : zW) (nx K : Nat → zL → List Value → zW → Prop) (Rt : Option Value → zW → Prop) : z_st1 (tL_law 490) 490 lv st w nx K Rt = (z_la lv 0 (fun x => nx 491 lv (.ref x :: st) w)) := id rfl
theorem sL_law_491 (lv : zL) (st : List Value) (w : zW) (nx K : Nat → zL → List Value → zW → Prop) (Rt : Option Value → zW → Prop) : z_st1 (tL_law 491) 491 lv st w nx K Rt = (z_li lv 4 (fun x => nx 493 lv (.int x :: st) w)) := id rfl
theorem sL_law_493 (lv : zL) (st : List Value) (w : zW) (nx K : Nat → zL → List Value → zW → Prop) (Rt : Option Value → zW → Prop) : z_st1 (tL_law 493) 493 lv st w nx K Rt = (nx 494 lv (.int (1 : Int32) :: st) w) := id rfl
theorem sL_law_494 (lv : zL) (st : List Value) (w : zW) (nx K : Nat → zL → List Value → zW → Prop) (Rt : Option Value → zW → Prop) : z_st1 (tL_law 494) 494 lv st w nx K Rt = (z_2i st (fun x y r => nx 495 lv (.int (x + y) :: r) w)) := id rfl
theorem sL_law_496 (lv : zL) (st : List Value) (w : zW) (nx K : Nat → zL → List Value → zW → Prop) (Rt : Option Value → zW → Prop) : z_st1 (tL_law 496) 496 lv st w nx K Rt = (z_1i st (fun x r => (x = 0 → nx 503 lv r w) ∧ (¬ x = 0 → nx 499 lv r w))) := id rfl
theorem sL_law_499 (lv : zL) (st : List Value) (w : zW) (nx K : Nat → zL → List Value → zW → Prop) (Rt : Option Value → zW → Prop) : z_st1 (tL_law 499) 499 lv st w nx K Rt = (nx 500 lv (.int (1 : Int32) :: st) w) := id rfl
theorem sL_law_500 (lv : zL) (st : List Value) (w : zW) (nx K : Nat → zL → List Value → zW → Prop) (Rt : Option Value → zW → Prop) : z_st1 (tL_law 500) 500 lv st w nx K Rt = (nx 504 lv st w) := id rfl
theorem sL_law_503 (lv : zL) (st : List Value) (w : zW) (nx K : Nat → zL → List Value → zW → Prop) (Rt : Option Value → zW → Prop) : z_st1 (tL_law 503) 503 lv st w nx K Rt = (nx 504 lv (.int (0 : Int32) :: st) w) := id rfl
theorem sL_law_504 (lv : zL) (st : List Value) (w : zW) (nx K : Nat → zL → List Value → zW → Prop) (Rt : Option Value → zW → Prop) : z_st1 (tL_law 504) 504 lv st w nx K Rt = (z_la lv 3 (fun x => nx 505 lv (.ref x :: st) w)) := id rfl
theorem sL_law_508 (lv : zL) (st : List Value) (w : zW) (nx K : Nat → zL → List Value → zW → Prop) (Rt : Option Value → zW → Prop) : z_st1 (tL_law 508) 508 lv st w nx K Rt = (z_1i st (fun x r => z_ok1 lv 5 = true ∧ nx 510 (lv.set 5 (some (.int x))) r w)) := id rfl
theorem sL_law_510 (lv : zL) (st : List Value) (w : zW) (nx K : Nat → zL → List Value → zW → Prop) (Rt : Option Value → zW → Prop) : z_st1 (tL_law 510) 510 lv st w nx K Rt = (z_la lv 2 (fun x => nx 511 lv (.ref x :: st) w)) := id rfl
theorem sL_law_511 (lv : zL) (st : List Value) (w : zW) (nx K : Nat → zL → List Value → zW → Prop) (Rt : Option Value → zW → Prop) : z_st1 (tL_law 511) 511 lv st w nx K Rt = (z_la lv 0 (fun x => nx 512 lv (.ref x :: st) w)) := id rfl
theorem sL_law_512 (lv : zL) (st : List Value) (w : zW) (nx K : Nat → zL → List Value → zW → Prop) (Rt : Option Value → zW → Prop) : z_st1 (tL_law 512) 512 lv st w nx K Rt = (z_li lv 4 (fun x => nx 514 lv (.int x :: st) w)) := id rfl
theorem sL_law_514 (lv : zL) (st : List Value) (w : zW) (nx K : Nat → zL → List Value → zW → Prop) (Rt : Option Value → zW → Prop) : z_st1 (tL_law 514) 514 lv st w nx K Rt = (nx 515 lv (.int (1 : Int32) :: st) w) := id rfl
theorem sL_law_515 (lv : zL) (st : List Value) (w : zW) (nx K : Nat → zL → List Value → zW → Prop) (Rt : Option Value → zW → Prop) : z_st1 (tL_law 515) 515 lv st w nx K Rt = (z_2i st (fun x y r => nx 516 lv (.int (x + y) :: r) w)) := id rfl
theorem sL_law_517 (lv : zL) (st : List Value) (w : zW) (nx K : Nat → zL → List Value → zW → Prop) (Rt : Option Value → zW → Prop) : z_st1 (tL_law 517) 517 lv st w nx K Rt = (z_1i st (fun x r => (x = 0 → nx 524 lv r w) ∧ (¬ x = 0 → nx 520 lv r w))) := id rfl
theorem sL_law_520 (lv : zL) (st : List Value) (w : zW) (nx K : Nat → zL → List Value → zW → Prop) (Rt : Option Value → zW → Prop) : z_st1 (tL_law 520) 520 lv st w nx K Rt = (nx 521 lv (.int (1 : Int32) :: st) w) := id rfl
theorem sL_law_521 (lv : zL) (st : List Value) (w : zW) (nx K : Nat → zL → List Value → zW → Prop) (Rt : Option Value → zW → Prop) : z_st1 (tL_law 521) 521 lv st w nx K Rt = (nx 525 lv st w) := id rfl
theorem sL_law_524 (lv : zL) (st : List Value) (w : zW) (nx K : Nat → zL → List Value → zW → Prop) (Rt : Option Value → zW → Prop) : z_st1 (tL_law 524) 524 lv st w nx K Rt = (nx 525 lv (.int (0 : Int32) :: st) w) := id rfl
theorem sL_law_528 (lv : zL) (st : List Value) (w : zW) (nx K : Nat → zL → List Value → zW → Prop) (Rt : Option Value → zW → Prop) : z_st1 (tL_law 528) 528 lv st w nx K Rt = (z_1i st (fun x r => z_ok1 lv 6 = true ∧ nx 530 (lv.set 6 (some (.int x))) r w)) := id rfl
theorem sL_law_530 (lv : zL) (st : List Value) (w : zW) (nx K : Nat → zL → List Value → zW → Prop) (Rt : Option Value → zW → Prop) : z_st1 (tL_law 530) 530 lv st w nx K Rt = (nx 699 lv st w) := id rfl
theorem sL_law_533 (lv : zL) (st : List Value) (w : zW) (nx K : Nat → zL → List Value → zW → Prop) (Rt : Option Value → zW → Prop) : z_st1 (tL_law 533) 533 lv st w nx K Rt = (z_la lv 1 (fun x => nx 534 lv (.ref x :: st) w)) := id rfl
theorem sL_law_537 (lv : zL) (st : List Value) (w : zW) (nx K : Nat → zL → List Value → zW → Prop) (Rt : Option Value → zW → Prop) : z_st1 (tL_law 537) 537 lv st w nx K Rt = (z_d1 st (fun _ r => nx 538 lv r w)) := id rfl
theorem sL_law_538 (lv : zL) (st : List Value) (w : zW) (nx K : Nat → zL → List Value → zW → Prop) (Rt : Option Value → zW → Prop) : z_st1 (tL_law 538) 538 lv st w nx K Rt = (z_la lv 2 (fun x => nx 539 lv (.ref x :: st) w)) := id rfl
theorem sL_law_542 (lv : zL) (st : List Value) (w : zW) (nx K : Nat → zL → List Value → zW → Prop) (Rt : Option Value → zW → Prop) : z_st1 (tL_law 542) 542 lv st w nx K Rt = (z_d1 st (fun _ r => nx 543 lv r w)) := id rfl
theorem sL_law_543 (lv : zL) (st : List Value) (w : zW) (nx K : Nat → zL → List Value → zW → Prop) (Rt : Option Value → zW → Prop) : z_st1 (tL_law 543) 543 lv st w nx K Rt = (nx 699 lv st w) := id rfl
theorem sL_law_546 (lv : zL) (st : List Value) (w : zW) (nx K : Nat → zL → List Value → zW → Prop) (Rt : Option Value → zW → Prop) : z_st1 (tL_law 546) 546 lv st w nx K Rt = (z_la lv 1 (fun x => nx 547 lv (.ref x :: st) w)) := id rfl
theorem sL_law_547 (lv : zL) (st : List Value) (w : zW) (nx K : Nat → zL → List Value → zW → Prop) (Rt : Option Value → zW → Prop) : z_st1 (tL_law 547) 547 lv st w nx K Rt = (z_la lv 0 (fun x => nx 548 lv (.ref x :: st) w)) := id rfl
theorem sL_law_548 (lv : zL) (st : List Value) (w : zW) (nx K : Nat → zL → List Value → zW → Prop) (Rt : Option Value → zW → Prop) : z_st1 (tL_law 548) 548 lv st w nx K Rt = (z_li lv 4 (fun x => nx 550 lv (.int x :: st) w)) := id rfl
theorem sL_law_550 (lv : zL) (st : List Value) (w : zW) (nx K : Nat → zL → List Value → zW → Prop) (Rt : Option Value → zW → Prop) : z_st1 (tL_law 550) 550 lv st w nx K Rt = (nx 551 lv (.int (1 : Int32) :: st) w) := id rfl
theorem sL_law_551 (lv : zL) (st : List Value) (w : zW) (nx K : Nat → zL → List Value → zW → Prop) (Rt : Option Value → zW → Prop) : z_st1 (tL_law 551) 551 lv st w nx K Rt = (z_2i st (fun x y r => nx 552 lv (.int (x + y) :: r) w)) := id rfl
theorem sL_law_556 (lv : zL) (st : List Value) (w : zW) (nx K : Nat → zL → List Value → zW → Prop) (Rt : Option Value → zW → Prop) : z_st1 (tL_law 556) 556 lv st w nx K Rt = (z_d1 st (fun _ r => nx 557 lv r w)) := id rfl
theorem sL_law_557 (lv : zL) (st : List Value) (w : zW) (nx K : Nat → zL → List Value → zW → Prop) (Rt : Option Value → zW → Prop) : z_st1 (tL_law 557) 557 lv st w nx K Rt = (z_la lv 2 (fun x => nx 558 lv (.ref x :: st) w)) := id rfl
theorem sL_law_558 (lv : zL) (st : List Value) (w : zW) (nx K : Nat → zL → List Value → zW → Prop) (Rt : Option Value → zW → Prop) : z_st1 (tL_law 558) 558 lv st w nx K Rt = (z_la lv 0 (fun x => nx 559 lv (.ref x :: st) w)) := id rfl
theorem sL_law_559 (lv : zL) (st : List Value) (w : zW) (nx K : Nat → zL → List Value → zW → Prop) (Rt : Option Value → zW → Prop) : z_st1 (tL_law 559) 559 lv st w nx K Rt = (z_li lv 4 (fun x => nx 561 lv (.int x :: st) w)) := id rfl
theorem sL_law_561 (lv : zL) (st : List Value) (w : zW) (nx K : Nat → zL → List Value → zW → Prop) (Rt : Option Value → zW → Prop) : z_st1 (tL_law 561) 561 lv st w nx K Rt = (nx 562 lv (.int (1 : Int32) :: st) w) := id rfl
theorem sL_law_562 (lv : zL) (st : List Value) (w : zW) (nx K : Nat → zL → List Value → zW → Prop) (Rt : Option Value → zW → Prop) : z_st1 (tL_law 562) 562 lv st w nx K Rt = (z_2i st (fun x y r => nx 563 lv (.int (x + y) :: r) w)) := id rfl
theorem sL_law_567 (lv : zL) (st : List Value) (w : zW) (nx K : Nat → zL → List Value → zW → Prop) (Rt : Option Value → zW → Prop) : z_st1 (tL_law 567) 567 lv st w nx K Rt = (z_d1 st (fun _ r => nx 568 lv r w)) := id rfl
theorem sL_law_568 (lv : zL) (st : List Value) (w : zW) (nx K : Nat → zL → List Value → zW → Prop) (Rt : Option Value → zW → Prop) : z_st1 (tL_law 568) 568 lv st w nx K Rt = (nx 699 lv st w) := id rfl
theorem sL_law_571 (lv : zL) (st : List Value) (w : zW) (nx K : Nat → zL → List Value → zW → Prop) (Rt : Option Value → zW → Prop) : z_st1 (tL_law 571) 571 lv st w nx K Rt = (z_la lv 1 (fun x => nx 572 lv (.ref x :: st) w)) := id rfl
theorem sL_law_572 (lv : zL) (st : List Value) (w : zW) (nx K : Nat → zL → List Value → zW → Prop) (Rt : Option Value → zW → Prop) : z_st1 (tL_law 572) 572 lv st w nx K Rt = (z_la lv 0 (fun x => nx 573 lv (.ref x :: st) w)) := id rfl
theorem sL_law_573 (lv : zL) (st : List Value) (w : zW) (nx K : Nat → zL → List Value → zW → Prop) (Rt : Option Value → zW → Prop) : z_st1 (tL_law 573) 573 lv st w nx K Rt = (z_li lv 4 (fun x => nx 575 lv (.int x :: st) w)) := id rfl
theorem sL_law_575 (lv : zL) (st : List Value) (w : zW) (nx K : Nat → zL → List Value → zW → Prop) (Rt : Option Value → zW → Prop) : z_st1 (tL_law 575) 575 lv st w nx K Rt = (nx 576 lv (.int (1 : Int32) :: st) w) := id rfl
theorem sL_law_576 (lv : zL) (st : List Value) (w : zW) (nx K : Nat → zL → List Value → zW → Prop) (Rt : Option Value → zW → Prop) : z_st1 (tL_law 576) 576 lv st w nx K Rt = (z_2i st (fun x y r => nx 577 lv (.int (x + y) :: r) w)) := id rfl
theorem sL_law_578 (lv : zL) (st : List Value) (w : zW) (nx K : Nat → zL → List Value → zW → Prop) (Rt : Option Value → zW → Prop) : z_st1 (tL_law 578) 578 lv st w nx K Rt = (z_la lv 0 (fun x => nx 579 lv (.ref x :: st) w)) := id rfl
theorem sL_law_579 (lv : zL) (st : List Value) (w : zW) (nx K : Nat → zL → List Value → zW → Prop) (Rt : Option Value → zW → Prop) : z_st1 (tL_law 579) 579 lv st w nx K Rt = (z_li lv 4 (fun x => nx 581 lv (.int x :: st) w)) := id rfl
theorem sL_law_581 (lv : zL) (st : List Value) (w : zW) (nx K : Nat → zL → List Value → zW → Prop) (Rt : Option Value → zW → Prop) : z_st1 (tL_law 581) 581 lv st w nx K Rt = (nx 582 lv (.int (2 : Int32) :: st) w) := id rfl
theorem sL_law_582 (lv : zL) (st : List Value) (w : zW) (nx K : Nat → zL → List Value → zW → Prop) (Rt : Option Value → zW → Prop) : z_st1 (tL_law 582) 582 lv st w nx K Rt = (z_2i st (fun x y r => nx 583 lv (.int (x + y) :: r) w)) := id rfl
theorem sL_law_587 (lv : zL) (st : List Value) (w : zW) (nx K : Nat → zL → List Value → zW → Prop) (Rt : Option Value → zW → Prop) : z_st1 (tL_law 587) 587 lv st w nx K Rt = (z_d1 st (fun _ r => nx 588 lv r w)) := id rfl
theorem sL_law_588 (lv : zL) (st : List Value) (w : zW) (nx K : Nat → zL → List Value → zW → Prop) (Rt : Option Value → zW → Prop) : z_st1 (tL_law 588) 588 lv st w nx K Rt = (z_la lv 2 (fun x => nx 589 lv (.ref x :: st) w)) := id rfl
theorem sL_law_589 (lv : zL) (st : List Value) (w : zW) (nx K : Nat → zL → List Value → zW → Prop) (Rt : Option Value → zW → Prop) : z_st1 (tL_law 589) 589 lv st w nx K Rt = (z_la lv 0 (fun x => nx 590 lv (.ref x :: st) w)) := id rfl
theorem sL_law_590 (lv : zL) (st : List Value) (w : zW) (nx K : Nat → zL → List Value → zW → Prop) (Rt : Option Value → zW → Prop) : z_st1 (tL_law 590) 590 lv st w nx K Rt = (z_li lv 4 (fun x => nx 592 lv (.int x :: st) w)) := id rfl
theorem sL_law_592 (lv : zL) (st : List Value) (w : zW) (nx K : Nat → zL → List Value → zW → Prop) (Rt : Option Value → zW → Prop) : z_st1 (tL_law 592) 592 lv st w nx K Rt = (nx 593 lv (.int (1 : Int32) :: st) w) := id rfl
theorem sL_law_593 (lv : zL) (st : List Value) (w : zW) (nx K : Nat → zL → List Value → zW → Prop) (Rt : Option Value → zW → Prop) : z_st1 (tL_law 593) 593 lv st w nx K Rt = (z_2i st (fun x y r => nx 594 lv (.int (x + y) :: r) w)) := id rfl
theorem sL_law_595 (lv : zL) (st : List Value) (w : zW) (nx K : Nat → zL → List Value → zW → Prop) (Rt : Option Value → zW → Prop) : z_st1 (tL_law 595) 595 lv st w nx K Rt = (z_la lv 0 (fun x => nx 596 lv (.ref x :: st) w)) := id rfl
theorem sL_law_596 (lv : zL) (st : List Value) (w : zW) (nx K : Nat → zL → List Value → zW → Prop) (Rt : Option Value → zW → Prop) : z_st1 (tL_law 596) 596 lv st w nx K Rt = (z_li lv 4 (fun x => nx 598 lv (.int x :: st) w)) := id rfl
theorem sL_law_598 (lv : zL) (st : List Value) (w : zW) (nx K : Nat → zL → List Value → zW → Prop) (Rt : Option Value → zW → Prop) : z_st1 (tL_law 598) 598 lv st w nx K Rt = (nx 599 lv (.int (2 : Int32) :: st) w) := id rfl
theorem sL_law_599 (lv : zL) (st : List Value) (w : zW) (nx K : Nat → zL → List Value → zW → Prop) (Rt : Option Value → zW → Prop) : z_st1 (tL_law 599) 599 lv st w nx K Rt = (z_2i st (fun x y r => nx 600 lv (.int (x + y) :: r) w)) := id rfl
theorem sL_law_604 (lv : zL) (st : List Value) (w : zW) (nx K : Nat → zL → List Value → zW → Prop) (Rt : Option Value → zW → Prop) : z_st1 (tL_law 604) 604 lv st w nx K Rt = (z_d1 st (fun _ r => nx 605 lv r w)) := id rfl
theorem sL_law_605 (lv : zL) (st : List Value) (w : zW) (nx K : Nat → zL → List Value → zW → Prop) (Rt : Option Value → zW → Prop) : z_st1 (tL_law 605) 605 lv st w nx K Rt = (nx 699 lv st w) := id rfl
theorem sL_law_608 (lv : zL) (st : List Value) (w : zW) (nx K : Nat → zL → List Value → zW → Prop) (Rt : Option Value → zW → Prop) : z_st1 (tL_law 608) 608 lv st w nx K Rt = (z_la lv 1 (fun x => nx 609 lv (.ref x :: st) w)) := id rfl
theorem sL_law_612 (lv : zL) (st : List Value) (w : zW) (nx K : Nat → zL → List Value → zW → Prop) (Rt : Option Value → zW → Prop) : z_st1 (tL_law 612) 612 lv st w nx K Rt = (z_d1 st (fun _ r => nx 613 lv r w)) := id rfl
theorem sL_law_613 (lv : zL) (st : List Value) (w : zW) (nx K : Nat → zL → List Value → zW → Prop) (Rt : Option Value → zW → Prop) : z_st1 (tL_law 613) 613 lv st w nx K Rt = (z_la lv 2 (fun x => nx 614 lv (.ref x :: st) w)) := id rfl
theorem sL_law_617 (lv : zL) (st : List Value) (w : zW) (nx K : Nat → zL → List Value → zW → Prop) (Rt : Option Value → zW → Prop) : z_st1 (tL_law 617) 617 lv st w nx K Rt = (z_d1 st (fun _ r => nx 618 lv r w)) := id rfl
theorem sL_law_618 (lv : zL) (st : List Value) (w : zW) (nx K : Nat → zL → List Value → zW → Prop) (Rt : Option Value → zW → Prop) : z_st1 (tL_law 618) 618 lv st w nx K Rt = (nx 699 lv st w) := id rfl
theorem sL_law_621 (lv : zL) (st : List Value) (w : zW) (nx K : Nat → zL → List Value → zW → Prop) (Rt : Option Value → zW → Prop) : z_st1 (tL_law 621) 621 lv st w nx K Rt = (z_la lv 1 (fun x => nx 622 lv (.ref x :: st) w)) := id rfl
theorem sL_law_622 (lv : zL) (st : List Value) (w : zW) (nx K : Nat → zL → List Value → zW → Prop) (Rt : Option Value → zW → Prop) : z_st1 (tL_law 622) 622 lv st w nx K Rt = (z_la lv 0 (fun x => nx 623 lv (.ref x :: st) w)) := id rfl
theorem sL_law_623 (lv : zL) (st : List Value) (w : zW) (nx K : Nat → zL → List Value → zW → Prop) (Rt : Option Value → zW → Prop) : z_st1 (tL_law 623) 623 lv st w nx K Rt = (z_li lv 4 (fun x => nx 625 lv (.int x :: st) w)) := id rfl
theorem sL_law_625 (lv : zL) (st : List Value) (w : zW) (nx K : Nat → zL → List Value → zW → Prop) (Rt : Option Value → zW → Prop) : z_st1 (tL_law 625) 625 lv st w nx K Rt = (nx 626 lv (.int (1 : Int32) :: st) w) := id rfl
theorem sL_law_626 (lv : zL) (st : List Value) (w : zW) (nx K : Nat → zL → List Value → zW → Prop) (Rt : Option Value → zW → Prop) : z_st1 (tL_law 626) 626 lv st w nx K Rt = (z_2i st (fun x y r => nx 627 lv (.int (x + y) :: r) w)) := id rfl
theorem sL_law_628 (lv : zL) (st : List Value) (w : zW) (nx K : Nat → zL → List Value → zW → Prop) (Rt : Option Value → zW → Prop) : z_st1 (tL_law 628) 628 lv st w nx K Rt = (z_la lv 0 (fun x => nx 629 lv (.ref x :: st) w)) := id rfl
theorem sL_law_629 (lv : zL) (st : List Value) (w : zW) (nx K : Nat → zL → List Value → zW → Prop) (Rt : Option Value → zW → Prop) : z_st1 (tL_law 629) 629 lv st w nx K Rt = (z_li lv 4 (fun x => nx 631 lv (.int x :: st) w)) := id rfl
theorem sL_law_631 (lv : zL) (st : List Value) (w : zW) (nx K : Nat → zL → List Value → zW → Prop) (Rt : Option Value → zW → Prop) : z_st1 (tL_law 631) 631 lv st w nx K Rt = (nx 632 lv (.int (2 : Int32) :: st) w) := id rfl
theorem sL_law_632 (lv : zL) (st : List Value) (w : zW) (nx K : Nat → zL → List Value → zW → Prop) (Rt : Option Value → zW → Prop) : z_st1 (tL_law 632) 632 lv st w nx K Rt = (z_2i st (fun x y r => nx 633 lv (.int (x + y) :: r) w)) := id rfl
theorem sL_law_634 (lv : zL) (st : List Value) (w : zW) (nx K : Nat → zL → List Value → zW → Prop) (Rt : Option Value → zW → Prop) : z_st1 (tL_law 634) 634 lv st w nx K Rt = (z_la lv 3 (fun x => nx 635 lv (.ref x :: st) w)) := id rfl
theorem sL_law_638 (lv : zL) (st : List Value) (w : zW) (nx K : Nat → zL → List Value → zW → Prop) (Rt : Option Value → zW → Prop) : z_st1 (tL_law 638) 638 lv st w nx K Rt = (z_1i st (fun x r => z_ok1 lv 5 = true ∧ nx 640 (lv.set 5 (some (.int x))) r w)) := id rfl
theorem sL_law_640 (lv : zL) (st : List Value) (w : zW) (nx K : Nat → zL → List Value → zW → Prop) (Rt : Option Value → zW → Prop) : z_st1 (tL_law 640) 640 lv st w nx K Rt = (z_la lv 2 (fun x => nx 641 lv (.ref x :: st) w)) := id rfl
theorem sL_law_641 (lv : zL) (st : List Value) (w : zW) (nx K : Nat → zL → List Value → zW → Prop) (Rt : Option Value → zW → Prop) : z_st1 (tL_law 641) 641 lv st w nx K Rt = (z_la lv 0 (fun x => nx 642 lv (.ref x :: st) w)) := id rfl
theorem sL_law_642 (lv : zL) (st : List Value) (w : zW) (nx K : Nat → zL → List Value → zW → Prop) (Rt : Option Value → zW → Prop) : z_st1 (tL_law 642) 642 lv st w nx K Rt = (z_li lv 4 (fun x => nx 644 lv (.int x :: st) w)) := id rfl
theorem sL_law_644 (lv : zL) (st : List Value) (w : zW) (nx K : Nat → zL → List Value → zW → Prop) (Rt : Option Value → zW → Prop) : z_st1 (tL_law 644) 644 lv st w nx K Rt = (nx 645 lv (.int (1 : Int32) :: st) w) := id rfl
theorem sL_law_645 (lv : zL) (st : List Value) (w : zW) (nx K : Nat → zL → List Value → zW → Prop) (Rt : Option Value → zW → Prop) : z_st1 (tL_law 645) 645 lv st w nx K Rt = (z_2i st (fun x y r => nx 646 lv (.int (x + y) :: r) w)) := id rfl
theorem sL_law_647 (lv : zL) (st : List Value) (w : zW) (nx K : Nat → zL → List Value → zW → Prop) (Rt : Option Value → zW → Prop) : z_st1 (tL_law 647) 647 lv st w nx K Rt = (z_la lv 0 (fun x => nx 648 lv (.ref x :: st) w)) := id rfl
theorem sL_law_648 (lv : zL) (st : List Value) (w : zW) (nx K : Nat → zL → List Value → zW → Prop) (Rt : Option Value → zW → Prop) : z_st1 (tL_law 648) 648 lv st w nx K Rt = (z_li lv 4 (fun x => nx 650 lv (.int x :: st) w)) := id rfl
theorem sL_law_650 (lv : zL) (st : List Value) (w : zW) (nx K : Nat → zL → List Value → zW → Prop) (Rt : Option Value → zW → Prop) : z_st1 (tL_law 650) 650 lv st w nx K Rt = (nx 651 lv (.int (2 : Int32) :: st) w) := id rfl
theorem sL_law_651 (lv : zL) (st : List Value) (w : zW) (nx K : Nat → zL → List Value → zW → Prop) (Rt : Option Value → zW → Prop) : z_st1 (tL_law 651) 651 lv st w nx K Rt = (z_2i st (fun x y r => nx 652 lv (.int (x + y) :: r) w)) := id rfl
theorem sL_law_656 (lv : zL) (st : List Value) (w : zW) (nx K : Nat → zL → List Value → zW → Prop) (Rt : Option Value → zW → Prop) : z_st1 (tL_law 656) 656 lv st w nx K Rt = (z_1i st (fun x r => z_ok1 lv 6 = true ∧ nx 658 (lv.set 6 (some (.int x))) r w)) := id rfl
theorem sL_law_658 (lv : zL) (st : List Value) (w : zW) (nx K : Nat → zL → List Value → zW → Prop) (Rt : Option Value → zW → Prop) : z_st1 (tL_law 658) 658 lv st w nx K Rt = (nx 699 lv st w) := id rfl
theorem sL_law_661 (lv : zL) (st : List Value) (w : zW) (nx K : Nat → zL → List Value → zW → Prop) (Rt : Option Value → zW → Prop) : z_st1 (tL_law 661) 661 lv st w nx K Rt = (z_la lv 1 (fun x => nx 662 lv (.ref x :: st) w)) := id rfl
theorem sL_law_665 (lv : zL) (st : List Value) (w : zW) (nx K : Nat → zL → List Value → zW → Prop) (Rt : Option Value → zW → Prop) : z_st1 (tL_law 665) 665 lv st w nx K Rt = (z_d1 st (fun _ r => nx 666 lv r w)) := id rfl
theorem sL_law_666 (lv : zL) (st : List Value) (w : zW) (nx K : Nat → zL → List Value → zW → Prop) (Rt : Option Value → zW → Prop) : z_st1 (tL_law 666) 666 lv st w nx K Rt = (z_la lv 2 (fun x => nx 667 lv (.ref x :: st) w)) := id rfl
theorem sL_law_670 (lv : zL) (st : List Value) (w : zW) (nx K : Nat → zL → List Value → zW → Prop) (Rt : Option Value → zW → Prop) : z_st1 (tL_law 670) 670 lv st w nx K Rt = (z_d1 st (fun _ r => nx 671 lv r w)) := id rfl
theorem sL_law_671 (lv : zL) (st : List Value) (w : zW) (nx K : Nat → zL → List Value → zW → Prop) (Rt : Option Value → zW → Prop) : z_st1 (tL_law 671) 671 lv st w nx K Rt = (nx 699 lv st w) := id rfl
theorem sL_law_674 (lv : zL) (st : List Value) (w : zW) (nx K : Nat → zL → List Value → zW → Prop) (Rt : Option Value → zW → Prop) : z_st1 (tL_law 674) 674 lv st w nx K Rt = (z_la lv 1 (fun x => nx 675 lv (.ref x :: st) w)) := id rfl
theorem sL_law_675 (lv : zL) (st : List Value) (w : zW) (nx K : Nat → zL → List Value → zW → Prop) (Rt : Option Value → zW → Prop) : z_st1 (tL_law 675) 675 lv st w nx K Rt = (z_la lv 0 (fun x => nx 676 lv (.ref x :: st) w)) := id rfl
theorem sL_law_676 (lv : zL) (st : List Value) (w : zW) (nx K : Nat → zL → List Value → zW → Prop) (Rt : Option Value → zW → Prop) : z_st1 (tL_law 676) 676 lv st w nx K Rt = (z_li lv 4 (fun x => nx 678 lv (.int x :: st) w)) := id rfl
theorem sL_law_678 (lv : zL) (st : List Value) (w : zW) (nx K : Nat → zL → List Value → zW → Prop) (Rt : Option Value → zW → Prop) : z_st1 (tL_law 678) 678 lv st w nx K Rt = (nx 679 lv (.int (1 : Int32) :: st) w) := id rfl
theorem sL_law_679 (lv : zL) (st : List Value) (w : zW) (nx K : Nat → zL → List Value → zW → Prop) (Rt : Option Value → zW → Prop) : z_st1 (tL_law 679) 679 lv st w nx K Rt = (z_2i st (fun x y r => nx 680 lv (.int (x + y) :: r) w)) := id rfl
theorem sL_law_684 (lv : zL) (st : List Value) (w : zW) (nx K : Nat → zL → List Value → zW → Prop) (Rt : Option Value → zW → Prop) : z_st1 (tL_law 684) 684 lv st w nx K Rt = (z_d1 st (fun _ r => nx 685 lv r w)) := id rfl
theorem sL_law_685 (lv : zL) (st : List Value) (w : zW) (nx K : Nat → zL → List Value → zW → Prop) (Rt : Option Value → zW → Prop) : z_st1 (tL_law 685) 685 lv st w nx K Rt = (z_la lv 2 (fun x => nx 686 lv (.ref x :: st) w)) := id rfl
theorem sL_law_686 (lv : zL) (st : List Value) (w : zW) (nx K : Nat → zL → List Value → zW → Prop) (Rt : Option Value → zW → Prop) : z_st1 (tL_law 686) 686 lv st w nx K Rt = (z_la lv 0 (fun x => nx 687 lv (.ref x :: st) w)) := id rfl
theorem sL_law_687 (lv : zL) (st : List Value) (w : zW) (nx K : Nat → zL → List Value → zW → Prop) (Rt : Option Value → zW → Prop) : z_st1 (tL_law 687) 687 lv st w nx K Rt = (z_li lv 4 (fun x => nx 689 lv (.int x :: st) w)) := id rfl
theorem sL_law_689 (lv : zL) (st : List Value) (w : zW) (nx K : Nat → zL → List Value → zW → Prop) (Rt : Option Value → zW → Prop) : z_st1 (tL_law 689) 689 lv st w nx K Rt = (nx 690 lv (.int (1 : Int32) :: st) w) := id rfl
theorem sL_law_690 (lv : zL) (st : List Value) (w : zW) (nx K : Nat → zL → List Value → zW → Prop) (Rt : Option Value → zW → Prop) : z_st1 (tL_law 690) 690 lv st w nx K Rt = (z_2i st (fun x y r => nx 691 lv (.int (x + y) :: r) w)) := id rfl
theorem sL_law_695 (lv : zL) (st : List Value) (w : zW) (nx K : Nat → zL → List Value → zW → Prop) (Rt : Option Value → zW → Prop) : z_st1 (tL_law 695) 695 lv st w nx K Rt = (z_d1 st (fun _ r => nx 696 lv r w)) := id rfl
theorem sL_law_696 (lv : zL) (st : List Value) (w : zW) (nx K : Nat → zL → List Value → zW → Prop) (Rt : Option Value → zW → Prop) : z_st1 (tL_law 696) 696 lv st w nx K Rt = (nx 699 lv st w) := id rfl
theorem sL_law_699 (lv : zL) (st : List Value) (w : zW) (nx K : Nat → zL → List Value → zW → Prop) (Rt : Option Value → zW → Prop) : z_st1 (tL_law 699) 699 lv st w nx K Rt = (z_li lv 4 (fun x => z_ok1 lv 4 = true ∧ nx 702 (lv.set 4 (some (.int (x + (5 : Int32))))) st w)) := id rfl
theorem sL_law_702 (lv : zL) (st : List Value) (w : zW) (nx K : Nat → zL → List Value → zW → Prop) (Rt : Option Value → zW → Prop) : z_st1 (tL_law 702) 702 lv st w nx K Rt = (nx 23 lv st w) := id rfl
theorem sL_law_705 (lv : zL) (st : List Value) (w : zW) (nx K : Nat → zL → List Value → zW → Prop) (Rt : Option Value → zW → Prop) : z_st1 (tL_law 705) 705 lv st w nx K Rt = (nx 706 lv (.int (1 : Int32) :: st) w) := id rfl
theorem sL_law_706 (lv : zL) (st : List Value) (w : zW) (nx K : Nat → zL → List Value → zW → Prop) (Rt : Option Value → zW → Prop) : z_st1 (tL_law 706) 706 lv st w nx K Rt = (z_e1 st (fun x => (x = 0 ∨ x = 1) ∧ Rt (some (.int x)) w)) := id rfl
theorem sL_law_0 (lv : zL) (st : List Value) (w : zW) (nx K : Nat → zL → List Value → zW → Prop) (Rt : Option Value → zW → Prop) : z_st1 (tL_law 0) 0 lv st w nx K Rt = K 0 lv st w := id rfl
theorem sL_law_4 (lv : zL) (st : List Value) (w : zW) (nx K : Nat → zL → List Value → zW → Prop) (Rt : Option Value → zW → Prop) : z_st1 (tL_law 4) 4 lv st w nx K Rt = K 4 lv st w := id rfl
theorem sL_law_8 (lv : zL) (st : List Value) (w : zW) (nx K : Nat → zL → List Value → zW → Prop) (Rt : Option Value → zW → Prop) : z_st1 (tL_law 8) 8 lv st w nx K Rt = K 8 lv st w := id rfl
theorem sL_law_12 (lv : zL) (st : List Value) (w : zW) (nx K : Nat → zL → List Value → zW → Prop) (Rt : Option Value → zW → Prop) : z_st1 (tL_law 12) 12 lv st w nx K Rt = K 12 lv st w := id rfl
theorem sL_law_17 (lv : zL) (st : List Value) (w : zW) (nx K : Nat → zL → List Value → zW → Prop) (Rt : Option Value → zW → Prop) : z_st1 (tL_law 17) 17 lv st w nx K Rt = K 17 lv st w := id rfl
theorem sL_law_26 (lv : zL) (st : List Value) (w : zW) (nx K : Nat → zL → List Value → zW → Prop) (Rt : Option Value → zW → Prop) : z_st1 (tL_law 26) 26 lv st w nx K Rt = K 26 lv st w := id rfl
theorem sL_law_35 (lv : zL) (st : List Value) (w : zW) (nx K : Nat → zL → List Value → zW → Prop) (Rt : Option Value → zW → Prop) : z_st1 (tL_law 35) 35 lv st w nx K Rt = K 35 lv st w := id rfl
theorem sL_law_39 (lv : zL) (st : List Value) (w : zW) (nx K : Nat → zL → List Value → zW → Prop) (Rt : Option Value → zW → Prop) : z_st1 (tL_law 39) 39 lv st w nx K Rt = K 39 lv st w := id rfl
theorem sL_law_130 (lv : zL) (st : List Value) (w : zW) (nx K : Nat → zL → List Value → zW → Prop) (Rt : Option Value → zW → Prop) : z_st1 (tL_law 130) 130 lv st w nx K Rt = K 130 lv st w := id rfl
theorem sL_law_132 (lv : zL) (st : List Value) (w : zW) (nx K : Nat → zL → List Value → zW → Prop) (Rt : Option Value → zW → Prop) : z_st1 (tL_law 132) 132 lv st w nx K Rt = K 132 lv st w := id rfl
theorem sL_law_143 (lv : zL) (st : List Value) (w : zW) (nx K : Nat → zL → List Value → zW → Prop) (Rt : Option Value → zW → Prop) : z_st1 (tL_law 143) 143 lv st w nx K Rt = K 143 lv st w := id rfl
theorem sL_law_144 (lv : zL) (st : List Value) (w : zW) (nx K : Nat → zL → List Value → zW → Prop) (Rt : Option Value → zW → Prop) : z_st1 (tL_law 144) 144 lv st w nx K Rt = K 144 lv st w := id rfl
theorem sL_law_158 (lv : zL) (st : List Value) (w : zW) (nx K : Nat → zL → List Value → zW → Prop) (Rt : Option Value → zW → Prop) : z_st1 (tL_law 158) 158 lv st w nx K Rt = K 158 lv st w := id rfl
theorem sL_law_159 (lv : zL) (st : List Value) (w : zW) (nx K : Nat → zL → List Value → zW → Prop) (Rt : Option Value → zW → Prop) : z_st1 (tL_law 159) 159 lv st w nx K Rt = K 159 lv st w := id rfl
theorem sL_law_169 (lv : zL) (st : List Value) (w : zW) (nx K : Nat → zL → List Value → zW → Prop) (Rt : Option Value → zW → Prop) : z_st1 (tL_law 169) 169 lv st w nx K Rt = K 169 lv st w := id rfl
theorem sL_law_170 (lv : zL) (st : List Value) (w : zW) (nx K : Nat → zL → List Value → zW → Prop) (Rt : Option Value → zW → Prop) : z_st1 (tL_law 170) 170 lv st w nx K Rt = K 170 lv st w := id rfl
theorem sL_law_183 (lv : zL) (st : List Value) (w : zW) (nx K : Nat → zL → List Value → zW → Prop) (Rt : Option Value → zW → Prop) : z_st1 (tL_law 183) 183 lv st w nx K Rt = K 183 lv st w := id rfl
theorem sL_law_189 (lv : zL) (st : List Value) (w : zW) (nx K : Nat → zL → List Value → zW → Prop) (Rt : Option Value → zW → Prop) : z_st1 (tL_law 189) 189 lv st w nx K Rt = K 189 lv st w := id rfl
theorem sL_law_195 (lv : zL) (st : List Value) (w : zW) (nx K : Nat → zL → List Value → zW → Prop) (Rt : Option Value → zW → Prop) : z_st1 (tL_law 195) 195 lv st w nx K Rt = K 195 lv st w := id rfl
theorem sL_law_201 (lv : zL) (st : List Value) (w : zW) (nx K : Nat → zL → List Value → zW → Prop) (Rt : Option Value → zW → Prop) : z_st1 (tL_law 201) 201 lv st w nx K Rt = K 201 lv st w := id rfl
theorem sL_law_210 (lv : zL) (st : List Value) (w : zW) (nx K : Nat → zL → List Value → zW → Prop) (Rt : Option Value → zW → Prop) : z_st1 (tL_law 210) 210 lv st w nx K Rt = K 210 lv st w := id rfl
theorem sL_law_220 (lv : zL) (st : List Value) (w : zW) (nx K : Nat → zL → List Value → zW → Prop) (Rt : Option Value → zW → Prop) : z_st1 (tL_law 220) 220 lv st w nx K Rt = K 220 lv st w := id rfl
theorem sL_law_226 (lv : zL) (st : List Value) (w : zW) (nx K : Nat → zL → List Value → zW → Prop) (Rt : Option Value → zW → Prop) : z_st1 (tL_law 226) 226 lv st w nx K Rt = K 226 lv st w := id rfl
theorem sL_law_232 (lv : zL) (st : List Value) (w : zW) (nx K : Nat → zL → List Value → zW → Prop) (Rt : Option Value → zW → Prop) : z_st1 (tL_law 232) 232 lv st w nx K Rt = K 232 lv st w := id rfl
theorem sL_law_238 (lv : zL) (st : List Value) (w : zW) (nx K : Nat → zL → List Value → zW → Prop) (Rt : Option Value → zW → Prop) : z_st1 (tL_law 238) 238 lv st w nx K Rt = K 238 lv st w := id rfl
theorem sL_law_247 (lv : zL) (st : List Value) (w : zW) (nx K : Nat → zL → List Value → zW → Prop) (Rt : Option Value → zW → Prop) : z_st1 (tL_law 247) 247 lv st w nx K Rt = K 247 lv st w := id rfl
theorem sL_law_255 (lv : zL) (st : List Value) (w : zW) (nx K : Nat → zL → List Value → zW → Prop) (Rt : Option Value → zW → Prop) : z_st1 (tL_law 255) 255 lv st w nx K Rt = K 255 lv st w := id rfl
theorem sL_law_260 (lv : zL) (st : List Value) (w : zW) (nx K : Nat → zL → List Value → zW → Prop) (Rt : Option Value → zW → Prop) : z_st1 (tL_law 260) 260 lv st w nx K Rt = K 260 lv st w := id rfl
theorem sL_law_273 (lv : zL) (st : List Value) (w : zW) (nx K : Nat → zL → List Value → zW → Prop) (Rt : Option Value → zW → Prop) : z_st1 (tL_law 273) 273 lv st w nx K Rt = K 273 lv st w := id rfl
theorem sL_law_279 (lv : zL) (st : List Value) (w : zW) (nx K : Nat → zL → List Value → zW → Prop) (Rt : Option Value → zW → Prop) : z_st1 (tL_law 279) 279 lv st w nx K Rt = K 279 lv st w := id rfl
theorem sL_law_285 (lv : zL) (st : List Value) (w : zW) (nx K : Nat → zL → List Value → zW → Prop) (Rt : Option Value → zW → Prop) : z_st1 (tL_law 285) 285 lv st w nx K Rt = K 285 lv st w := id rfl
theorem sL_law_286 (lv : zL) (st : List Value) (w : zW) (nx K : Nat → zL → List Value → zW → Prop) (Rt : Option Value → zW → Prop) : z_st1 (tL_law 286) 286 lv st w nx K Rt = K 286 lv st w := id rfl
theorem sL_law_296 (lv : zL) (st : List Value) (w : zW) (nx K : Nat → zL → List Value → zW → Prop) (Rt : Option Value → zW → Prop) : z_st1 (tL_law 296) 296 lv st w nx K Rt = K 296 lv st w := id rfl
theorem sL_law_302 (lv : zL) (st : List Value) (w : zW) (nx K : Nat → zL → List Value → zW → Prop) (Rt : Option Value → zW → Prop) : z_st1 (tL_law 302) 302 lv st w nx K Rt = K 302 lv st w := id rfl
theorem sL_law_308 (lv : zL) (st : List Value) (w : zW) (nx K : Nat → zL → List Value → zW → Prop) (Rt : Option Value → zW → Prop) : z_st1 (tL_law 308) 308 lv st w nx K Rt = K 308 lv st w := id rfl
theorem sL_law_309 (lv : zL) (st : List Value) (w : zW) (nx K : Nat → zL → List Value → zW → Prop) (Rt : Option Value → zW → Prop) : z_st1 (tL_law 309) 309 lv st w nx K Rt = K 309 lv st w := id rfl
theorem sL_law_322 (lv : zL) (st : List Value) (w : zW) (nx K : Nat → zL → List Value → zW → Prop) (Rt : Option Value → zW → Prop) : z_st1 (tL_law 322) 322 lv st w nx K Rt = K 322 lv st w := id rfl
theorem sL_law_328 (lv : zL) (st : List Value) (w : zW) (nx K : Nat → zL → List Value → zW → Prop) (Rt : Option Value → zW → Prop) : z_st1 (tL_law 328) 328 lv st w nx K Rt = K 328 lv st w := id rfl
theorem sL_law_334 (lv : zL) (st : List Value) (w : zW) (nx K : Nat → zL → List Value → zW → Prop) (Rt : Option Value → zW → Prop) : z_st1 (tL_law 334) 334 lv st w nx K Rt = K 334 lv st w := id rfl
theorem sL_law_335 (lv : zL) (st : List Value) (w : zW) (nx K : Nat → zL → List Value → zW → Prop) (Rt : Option Value → zW → Prop) : z_st1 (tL_law 335) 335 lv st w nx K Rt = K 335 lv st w := id rfl
theorem sL_law_345 (lv : zL) (st : List Value) (w : zW) (nx K : Nat → zL → List Value → zW → Prop) (Rt : Option Value → zW → Prop) : z_st1 (tL_law 345) 345 lv st w nx K Rt = K 345 lv st w := id rfl
theorem sL_law_351 (lv : zL) (st : List Value) (w : zW) (nx K : Nat → zL → List Value → zW → Prop) (Rt : Option Value → zW → Prop) : z_st1 (tL_law 351) 351 lv st w nx K Rt = K 351 lv st w := id rfl
theorem sL_law_357 (lv : zL) (st : List Value) (w : zW) (nx K : Nat → zL → List Value → zW → Prop) (Rt : Option Value → zW → Prop) : z_st1 (tL_law 357) 357 lv st w nx K Rt = K 357 lv st w := id rfl
theorem sL_law_358 (lv : zL) (st : List Value) (w : zW) (nx K : Nat → zL → List Value → zW → Prop) (Rt : Option Value → zW → Prop) : z_st1 (tL_law 358) 358 lv st w nx K Rt = K 358 lv st w := id rfl
theorem sL_law_371 (lv : zL) (st : List Value) (w : zW) (nx K : Nat → zL → List Value → zW → Prop) (Rt : Option Value → zW → Prop) : z_st1 (tL_law 371) 371 lv st w nx K Rt = K 371 lv st w := id rfl
theorem sL_law_377 (lv : zL) (st : List Value) (w : zW) (nx K : Nat → zL → List Value → zW → Prop) (Rt : Option Value → zW → Prop) : z_st1 (tL_law 377) 377 lv st w nx K Rt = K 377 lv st w := id rfl
theorem sL_law_378 (lv : zL) (st : List Value) (w : zW) (nx K : Nat → zL → List Value → zW → Prop) (Rt : Option Value → zW → Prop) : z_st1 (tL_law 378) 378 lv st w nx K Rt = K 378 lv st w := id rfl
theorem sL_law_388 (lv : zL) (st : List Value) (w : zW) (nx K : Nat → zL → List Value → zW → Prop) (Rt : Option Value → zW → Prop) : z_st1 (tL_law 388) 388 lv st w nx K Rt = K 388 lv st w := id rfl
theorem sL_law_394 (lv : zL) (st : List Value) (w : zW) (nx K : Nat → zL → List Value → zW → Prop) (Rt : Option Value → zW → Prop) : z_st1 (tL_law 394) 394 lv st w nx K Rt = K 394 lv st w := id rfl
theorem sL_law_395 (lv : zL) (st : List Value) (w : zW) (nx K : Nat → zL → List Value → zW → Prop) (Rt : Option Value → zW → Prop) : z_st1 (tL_law 395) 395 lv st w nx K Rt = K 395 lv st w := id rfl
theorem sL_law_408 (lv : zL) (st : List Value) (w : zW) (nx K : Nat → zL → List Value → zW → Prop) (Rt : Option Value → zW → Prop) : z_st1 (tL_law 408) 408 lv st w nx K Rt = K 408 lv st w := id rfl
theorem sL_law_414 (lv : zL) (st : List Value) (w : zW) (nx K : Nat → zL → List Value → zW → Prop) (Rt : Option Value → zW → Prop) : z_st1 (tL_law 414) 414 lv st w nx K Rt = K 414 lv st w := id rfl
theorem sL_law_420 (lv : zL) (st : List Value) (w : zW) (nx K : Nat → zL → List Value → zW → Prop) (Rt : Option Value → zW → Prop) : z_st1 (tL_law 420) 420 lv st w nx K Rt = K 420 lv st w := id rfl
theorem sL_law_421 (lv : zL) (st : List Value) (w : zW) (nx K : Nat → zL → List Value → zW → Prop) (Rt : Option Value → zW → Prop) : z_st1 (tL_law 421) 421 lv st w nx K Rt = K 421 lv st w := id rfl
theorem sL_law_430 (lv : zL) (st : List Value) (w : zW) (nx K : Nat → zL → List Value → zW → Prop) (Rt : Option Value → zW → Prop) : z_st1 (tL_law 430) 430 lv st w nx K Rt = K 430 lv st w := id rfl
theorem sL_law_436 (lv : zL) (st : List Value) (w : zW) (nx K : Nat → zL → List Value → zW → Prop) (Rt : Option Value → zW → Prop) : z_st1 (tL_law 436) 436 lv st w nx K Rt = K 436 lv st w := id rfl
theorem sL_law_442 (lv : zL) (st : List Value) (w : zW) (nx K : Nat → zL → List Value → zW → Prop) (Rt : Option Value → zW → Prop) : z_st1 (tL_law 442) 442 lv st w nx K Rt = K 442 lv st w := id rfl
theorem sL_law_443 (lv : zL) (st : List Value) (w : zW) (nx K : Nat → zL → List Value → zW → Prop) (Rt : Option Value → zW → Prop) : z_st1 (tL_law 443) 443 lv st w nx K Rt = K 443 lv st w := id rfl
theorem sL_law_452 (lv : zL) (st : List Value) (w : zW) (nx K : Nat → zL → List Value → zW → Prop) (Rt : Option Value → zW → Prop) : z_st1 (tL_law 452) 452 lv st w nx K Rt = K 452 lv st w := id rfl
theorem sL_law_457 (lv : zL) (st : List Value) (w : zW) (nx K : Nat → zL → List Value → zW → Prop) (Rt : Option Value → zW → Prop) : z_st1 (tL_law 457) 457 lv st w nx K Rt = K 457 lv st w := id rfl
theorem sL_law_470 (lv : zL) (st : List Value) (w : zW) (nx K : Nat → zL → List Value → zW → Prop) (Rt : Option Value → zW → Prop) : z_st1 (tL_law 470) 470 lv st w nx K Rt = K 470 lv st w := id rfl
theorem sL_law_471 (lv : zL) (st : List Value) (w : zW) (nx K : Nat → zL → List Value → zW → Prop) (Rt : Option Value → zW → Prop) : z_st1 (tL_law 471) 471 lv st w nx K Rt = K 471 lv st w := id rfl
theorem sL_law_481 (lv : zL) (st : List Value) (w : zW) (nx K : Nat → zL → List Value → zW → Prop) (Rt : Option Value → zW → Prop) : z_st1 (tL_law 481) 481 lv st w nx K Rt = K 481 lv st w := id rfl
theorem sL_law_482 (lv : zL) (st : List Value) (w : zW) (nx K : Nat → zL → List Value → zW → Prop) (Rt : Option Value → zW → Prop) : z_st1 (tL_law 482) 482 lv st w nx K Rt = K 482 lv st w := id rfl
theorem sL_law_495 (lv : zL) (st : List Value) (w : zW) (nx K : Nat → zL → List Value → zW → Prop) (Rt : Option Value → zW → Prop) : z_st1 (tL_law 495) 495 lv st w nx K Rt = K 495 lv st w := id rfl
theorem sL_law_505 (lv : zL) (st : List Value) (w : zW) (nx K : Nat → zL → List Value → zW → Prop) (Rt : Option Value → zW → Prop) : z_st1 (tL_law 505) 505 lv st w nx K Rt = K 505 lv st w := id rfl
theorem sL_law_516 (lv : zL) (st : List Value) (w : zW) (nx K : Nat → zL → List Value → zW → Prop) (Rt : Option Value → zW → Prop) : z_st1 (tL_law 516) 516 lv st w nx K Rt = K 516 lv st w := id rfl
theorem sL_law_525 (lv : zL) (st : List Value) (w : zW) (nx K : Nat → zL → List Value → zW → Prop) (Rt : Option Value → zW → Prop) : z_st1 (tL_law 525) 525 lv st w nx K Rt = K 525 lv st w := id rfl
theorem sL_law_534 (lv : zL) (st : List Value) (w : zW) (nx K : Nat → zL → List Value → zW → Prop) (Rt : Option Value → zW → Prop) : z_st1 (tL_law 534) 534 lv st w nx K Rt = K 534 lv st w := id rfl
theorem sL_law_539 (lv : zL) (st : List Value) (w : zW) (nx K : Nat → zL → List Value → zW → Prop) (Rt : Option Value → zW → Prop) : z_st1 (tL_law 539) 539 lv st w nx K Rt = K 539 lv st w := id rfl
theorem sL_law_552 (lv : zL) (st : List Value) (w : zW) (nx K : Nat → zL → List Value → zW → Prop) (Rt : Option Value → zW → Prop) : z_st1 (tL_law 552) 552 lv st w nx K Rt = K 552 lv st w := id rfl
theorem sL_law_553 (lv : zL) (st : List Value) (w : zW) (nx K : Nat → zL → List Value → zW → Prop) (Rt : Option Value → zW → Prop) : z_st1 (tL_law 553) 553 lv st w nx K Rt = K 553 lv st w := id rfl
theorem sL_law_563 (lv : zL) (st : List Value) (w : zW) (nx K : Nat → zL → List Value → zW → Prop) (Rt : Option Value → zW → Prop) : z_st1 (tL_law 563) 563 lv st w nx K Rt = K 563 lv st w := id rfl
theorem sL_law_564 (lv : zL) (st : List Value) (w : zW) (nx K : Nat → zL → List Value → zW → Prop) (Rt : Option Value → zW → Prop) : z_st1 (tL_law 564) 564 lv st w nx K Rt = K 564 lv st w := id rfl
theorem sL_law_577 (lv : zL) (st : List Value) (w : zW) (nx K : Nat → zL → List Value → zW → Prop) (Rt : Option Value → zW → Prop) : z_st1 (tL_law 577) 577 lv st w nx K Rt = K 577 lv st w := id rfl
theorem sL_law_583 (lv : zL) (st : List Value) (w : zW) (nx K : Nat → zL → List Value → zW → Prop) (Rt : Option Value → zW → Prop) : z_st1 (tL_law 583) 583 lv st w nx K Rt = K 583 lv st w := id rfl
theorem sL_law_584 (lv : zL) (st : List Value) (w : zW) (nx K : Nat → zL → List Value → zW → Prop) (Rt : Option Value → zW → Prop) : z_st1 (tL_law 584) 584 lv st w nx K Rt = K 584 lv st w := id rfl
theorem sL_law_594 (lv : zL) (st : List Value) (w : zW) (nx K : Nat → zL → List Value → zW → Prop) (Rt : Option Value → zW → Prop) : z_st1 (tL_law 594) 594 lv st w nx K Rt = K 594 lv st w := id rfl
theorem sL_law_600 (lv : zL) (st : List Value) (w : zW) (nx K : Nat → zL → List Value → zW → Prop) (Rt : Option Value → zW → Prop) : z_st1 (tL_law 600) 600 lv st w nx K Rt = K 600 lv st w := id rfl
theorem sL_law_601 (lv : zL) (st : List Value) (w : zW) (nx K : Nat → zL → List Value → zW → Prop) (Rt : Option Value → zW → Prop) : z_st1 (tL_law 601) 601 lv st w nx K Rt = K 601 lv st w := id rfl
theorem sL_law_609 (lv : zL) (st : List Value) (w : zW) (nx K : Nat → zL → List Value → zW → Prop) (Rt : Option Value → zW → Prop) : z_st1 (tL_law 609) 609 lv st w nx K Rt = K 609 lv st w := id rfl
theorem sL_law_614 (lv : zL) (st : List Value) (w : zW) (nx K : Nat → zL → List Value → zW → Prop) (Rt : Option Value → zW → Prop) : z_st1 (tL_law 614) 614 lv st w nx K Rt = K 614 lv st w := id rfl
theorem sL_law_627 (lv : zL) (st : List Value) (w : zW) (nx K : Nat → zL → List Value → zW → Prop) (Rt : Option Value → zW → Prop) : z_st1 (tL_law 627) 627 lv st w nx K Rt = K 627 lv st w := id rfl
theorem sL_law_633 (lv : zL) (st : List Value) (w : zW) (nx K : Nat → zL → List Value → zW → Prop) (Rt : Option Value → zW → Prop) : z_st1 (tL_law 633) 633 lv st w nx K Rt = K 633 lv st w := id rfl
theorem sL_law_635 (lv : zL) (st : List Value) (w : zW) (nx K : Nat → zL → List Value → zW → Prop) (Rt : Option Value → zW → Prop) : z_st1 (tL_law 635) 635 lv st w nx K Rt = K 635 lv st w := id rfl
theorem sL_law_646 (lv : zL) (st : List Value) (w : zW) (nx K : Nat → zL → List Value → zW → Prop) (Rt : Option Value → zW → Prop) : z_st1 (tL_law 646) 646 lv st w nx K Rt = K 646 lv st w := id rfl
theorem sL_law_652 (lv : zL) (st : List Value) (w : zW) (nx K : Nat → zL → List Value → zW → Prop) (Rt : Option Value → zW → Prop) : z_st1 (tL_law 652) 652 lv st w nx K Rt = K 652 lv st w := id rfl
theorem sL_law_653 (lv : zL) (st : List Value) (w : zW) (nx K : Nat → zL → List Value → zW → Prop) (Rt : Option Value → zW → Prop) : z_st1 (tL_law 653) 653 lv st w nx K Rt = K 653 lv st w := id rfl
theorem sL_law_662 (lv : zL) (st : List Value) (w : zW) (nx K : Nat → zL → List Value → zW → Prop) (Rt : Option Value → zW → Prop) : z_st1 (tL_law 662) 662 lv st w nx K Rt = K 662 lv st w := id rfl
theorem sL_law_667 (lv : zL) (st : List Value) (w : zW) (nx K : Nat → zL → List Value → zW → Prop) (Rt : Option Value → zW → Prop) : z_st1 (tL_law 667) 667 lv st w nx K Rt = K 667 lv st w := id rfl
theorem sL_law_680 (lv : zL) (st : List Value) (w : zW) (nx K : Nat → zL → List Value → zW → Prop) (Rt : Option Value → zW → Prop) : z_st1 (tL_law 680) 680 lv st w nx K Rt = K 680 lv st w := id rfl
theorem sL_law_681 (lv : zL) (st : List Value) (w : zW) (nx K : Nat → zL → List Value → zW → Prop) (Rt : Option Value → zW → Prop) : z_st1 (tL_law 681) 681 lv st w nx K Rt = K 681 lv st w := id rfl
theorem sL_law_691 (lv : zL) (st : List Value) (w : zW) (nx K : Nat → zL → List Value → zW → Prop) (Rt : Option Value → zW → Prop) : z_st1 (tL_law 691) 691 lv st w nx K Rt = K 691 lv st w := id rfl
theorem sL_law_692 (lv : zL) (st : List Value) (w : zW) (nx K : Nat → zL → List Value → zW → Prop) (Rt : Option Value → zW → Prop) : z_st1 (tL_law 692) 692 lv st w nx K Rt = K 692 lv st w := id rfl
theorem dL_law_0 : decode cL_law 0 = .ok (.new 8, 3) := by decide +kernel
theorem dL_law_4 : decode cL_law 4 = .ok (.invokespecial 27, 3) := by decide +kernel
theorem dL_law_8 : decode cL_law 8 = .ok (.new 28, 3) := by decide +kernel
theorem dL_law_12 : decode cL_law 12 = .ok (.invokespecial 30, 3) := by decide +kernel
theorem dL_law_17 : decode cL_law 17 = .ok (.newarray .long, 2) := by decide +kernel
theorem dL_law_26 : decode cL_law 26 = .ok (.arraylength, 1) := by decide +kernel
theorem dL_law_35 : decode cL_law 35 = .ok (.iaload, 1) := by decide +kernel
theorem dL_law_39 : decode cL_law 39 = .ok (.tableswitch 660 0 17 #[85, 113, 138, 215, 228, 277, 326, 363, 412, 425, 450, 494, 507, 532, 569, 582, 622, 635], 85) := by decide +kernel
theorem dL_law_130 : decode cL_law 130 = .ok (.iaload, 1) := by decide +kernel
theorem dL_law_132 : decode cL_law 132 = .ok (.invokestatic 31, 3) := by decide +kernel
theorem dL_law_143 : decode cL_law 143 = .ok (.iaload, 1) := by decide +kernel
theorem dL_law_144 : decode cL_law 144 = .ok (.invokevirtual 36, 3) := by decide +kernel
theorem dL_law_158 : decode cL_law 158 = .ok (.iaload, 1) := by decide +kernel
theorem dL_law_159 : decode cL_law 159 = .ok (.invokevirtual 37, 3) := by decide +kernel
theorem dL_law_169 : decode cL_law 169 = .ok (.iaload, 1) := by decide +kernel
theorem dL_law_170 : decode cL_law 170 = .ok (.invokevirtual 40, 3) := by decide +kernel
theorem dL_law_183 : decode cL_law 183 = .ok (.iaload, 1) := by decide +kernel
theorem dL_law_189 : decode cL_law 189 = .ok (.iaload, 1) := by decide +kernel
theorem dL_law_195 : decode cL_law 195 = .ok (.iaload, 1) := by decide +kernel
theorem dL_law_201 : decode cL_law 201 = .ok (.iaload, 1) := by decide +kernel
theorem dL_law_210 : decode cL_law 210 = .ok (.invokevirtual 41, 3) := by decide +kernel
theorem dL_law_220 : decode cL_law 220 = .ok (.iaload, 1) := by decide +kernel
theorem dL_law_226 : decode cL_law 226 = .ok (.iaload, 1) := by decide +kernel
theorem dL_law_232 : decode cL_law 232 = .ok (.iaload, 1) := by decide +kernel
theorem dL_law_238 : decode cL_law 238 = .ok (.iaload, 1) := by decide +kernel
theorem dL_law_247 : decode cL_law 247 = .ok (.invokevirtual 45, 3) := by decide +kernel
theorem dL_law_255 : decode cL_law 255 = .ok (.invokevirtual 46, 3) := by decide +kernel
theorem dL_law_260 : decode cL_law 260 = .ok (.invokevirtual 50, 3) := by decide +kernel
theorem dL_law_273 : decode cL_law 273 = .ok (.iaload, 1) := by decide +kernel
theorem dL_law_279 : decode cL_law 279 = .ok (.iaload, 1) := by decide +kernel
theorem dL_law_285 : decode cL_law 285 = .ok (.iaload, 1) := by decide +kernel
theorem dL_law_286 : decode cL_law 286 = .ok (.invokevirtual 51, 3) := by decide +kernel
theorem dL_law_296 : decode cL_law 296 = .ok (.iaload, 1) := by decide +kernel
theorem dL_law_302 : decode cL_law 302 = .ok (.iaload, 1) := by decide +kernel
theorem dL_law_308 : decode cL_law 308 = .ok (.iaload, 1) := by decide +kernel
theorem dL_law_309 : decode cL_law 309 = .ok (.invokevirtual 55, 3) := by decide +kernel
theorem dL_law_322 : decode cL_law 322 = .ok (.iaload, 1) := by decide +kernel
theorem dL_law_328 : decode cL_law 328 = .ok (.iaload, 1) := by decide +kernel
theorem dL_law_334 : decode cL_law 334 = .ok (.iaload, 1) := by decide +kernel
theorem dL_law_335 : decode cL_law 335 = .ok (.invokevirtual 56, 3) := by decide +kernel
theorem dL_law_345 : decode cL_law 345 = .ok (.iaload, 1) := by decide +kernel
theorem dL_law_351 : decode cL_law 351 = .ok (.iaload, 1) := by decide +kernel
theorem dL_law_357 : decode cL_law 357 = .ok (.iaload, 1) := by decide +kernel
theorem dL_law_358 : decode cL_law 358 = .ok (.invokevirtual 59, 3) := by decide +kernel
theorem dL_law_371 : decode cL_law 371 = .ok (.iaload, 1) := by decide +kernel
theorem dL_law_377 : decode cL_law 377 = .ok (.iaload, 1) := by decide +kernel
theorem dL_law_378 : decode cL_law 378 = .ok (.invokevirtual 60, 3) := by decide +kernel
theorem dL_law_388 : decode cL_law 388 = .ok (.iaload, 1) := by decide +kernel
theorem dL_law_394 : decode cL_law 394 = .ok (.iaload, 1) := by decide +kernel
theorem dL_law_395 : decode cL_law 395 = .ok (.invokevirtual 63, 3) := by decide +kernel
theorem dL_law_408 : decode cL_law 408 = .ok (.iaload, 1) := by decide +kernel
theorem dL_law_414 : decode cL_law 414 = .ok (.iaload, 1) := by decide +kernel
theorem dL_law_420 : decode cL_law 420 = .ok (.iaload, 1) := by decide +kernel
theorem dL_law_421 : decode cL_law 421 = .ok (.invokevirtual 64, 3) := by decide +kernel
theorem dL_law_430 : decode cL_law 430 = .ok (.iaload, 1) := by decide +kernel
theorem dL_law_436 : decode cL_law 436 = .ok (.iaload, 1) := by decide +kernel
theorem dL_law_442 : decode cL_law 442 = .ok (.iaload, 1) := by decide +kernel
theorem dL_law_443 : decode cL_law 443 = .ok (.invokevirtual 67, 3) := by decide +kernel
theorem dL_law_452 : decode cL_law 452 = .ok (.invokevirtual 68, 3) := by decide +kernel
theorem dL_law_457 : decode cL_law 457 = .ok (.invokevirtual 71, 3) := by decide +kernel
theorem dL_law_470 : decode cL_law 470 = .ok (.iaload, 1) := by decide +kernel
theorem dL_law_471 : decode cL_law 471 = .ok (.invokevirtual 72, 3) := by decide +kernel
theorem dL_law_481 : decode cL_law 481 = .ok (.iaload, 1) := by decide +kernel
theorem dL_law_482 : decode cL_law 482 = .ok (.invokevirtual 75, 3) := by decide +kernel
theorem dL_law_495 : decode cL_law 495 = .ok (.iaload, 1) := by decide +kernel
theorem dL_law_505 : decode cL_law 505 = .ok (.invokestatic 76, 3) := by decide +kernel
theorem dL_law_516 : decode cL_law 516 = .ok (.iaload, 1) := by decide +kernel
theorem dL_law_525 : decode cL_law 525 = .ok (.invokevirtual 79, 3) := by decide +kernel
theorem dL_law_534 : decode cL_law 534 = .ok (.invokevirtual 80, 3) := by decide +kernel
theorem dL_law_539 : decode cL_law 539 = .ok (.invokevirtual 83, 3) := by decide +kernel
theorem dL_law_552 : decode cL_law 552 = .ok (.iaload, 1) := by decide +kernel
theorem dL_law_553 : decode cL_law 553 = .ok (.invokevirtual 84, 3) := by decide +kernel
theorem dL_law_563 : decode cL_law 563 = .ok (.iaload, 1) := by decide +kernel
theorem dL_law_564 : decode cL_law 564 = .ok (.invokevirtual 87, 3) := by decide +kernel
theorem dL_law_577 : decode cL_law 577 = .ok (.iaload, 1) := by decide +kernel
theorem dL_law_583 : decode cL_law 583 = .ok (.iaload, 1) := by decide +kernel
theorem dL_law_584 : decode cL_law 584 = .ok (.invokevirtual 88, 3) := by decide +kernel
theorem dL_law_594 : decode cL_law 594 = .ok (.iaload, 1) := by decide +kernel
theorem dL_law_600 : decode cL_law 600 = .ok (.iaload, 1) := by decide +kernel
theorem dL_law_601 : decode cL_law 601 = .ok (.invokevirtual 91, 3) := by decide +kernel
theorem dL_law_609 : decode cL_law 609 = .ok (.invokevirtual 92, 3) := by decide +kernel
theorem dL_law_614 : decode cL_law 614 = .ok (.invokevirtual 95, 3) := by decide +kernel
theorem dL_law_627 : decode cL_law 627 = .ok (.iaload, 1) := by decide +kernel
theorem dL_law_633 : decode cL_law 633 = .ok (.iaload, 1) := by decide +kernel
theorem dL_law_635 : decode cL_law 635 = .ok (.invokestatic 96, 3) := by decide +kernel
theorem dL_law_646 : decode cL_law 646 = .ok (.iaload, 1) := by decide +kernel
theorem dL_law_652 : decode cL_law 652 = .ok (.iaload, 1) := by decide +kernel
theorem dL_law_653 : decode cL_law 653 = .ok (.invokevirtual 99, 3) := by decide +kernel
theorem dL_law_662 : decode cL_law 662 = .ok (.invokevirtual 100, 3) := by decide +kernel
theorem dL_law_667 : decode cL_law 667 = .ok (.invokevirtual 103, 3) := by decide +kernel
theorem dL_law_680 : decode cL_law 680 = .ok (.iaload, 1) := by decide +kernel
theorem dL_law_681 : decode cL_law 681 = .ok (.invokevirtual 104, 3) := by decide +kernel
theorem dL_law_691 : decode cL_law 691 = .ok (.iaload, 1) := by decide +kernel
theorem dL_law_692 : decode cL_law 692 = .ok (.invokevirtual 107, 3) := by decide +kernel
