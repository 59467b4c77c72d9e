def tmX9_isLet (pc : Nat) : zI := match pc with
  | 0 => (1, 0, 0, 1, 0)
  | 1 => (46, 10, 25, 4, 0)
  | 4 => (6, 0, 0, 6, 32)
  | 6 => (0, 1, 0, 7, 0)
  | 7 => (10, 0, 0, 8, 0)
  | 8 => (1, 0, 0, 9, 0)
  | 9 => (46, 10, 12, 12, 0)
  | 12 => (8, 0, 0, 13, 0)
  | 13 => (48, 0, 0, 14, 0)
  | 14 => (3, 2, 0, 15, 0)
  | 15 => (1, 0, 0, 16, 0)
  | 16 => (46, 10, 13, 19, 0)
  | 48 => (0, 2, 0, 49, 0)
  | 49 => (1, 0, 0, 50, 0)
  | 50 => (46, 10, 14, 53, 0)
  | 53 => (41, 60, 0, 56, 0)
  | 56 => (6, 0, 0, 57, 1)
  | 57 => (33, 61, 0, 60, 0)
  | 60 => (6, 0, 0, 61, 0)
  | 61 => (58, 0, 0, 62, 0)
  | 62 => (0, 2, 0, 63, 0)
  | 63 => (1, 0, 0, 64, 0)
  | 64 => (46, 10, 14, 67, 0)
  | 67 => (40, 74, 0, 70, 0)
  | 70 => (6, 0, 0, 71, 1)
  | 71 => (33, 75, 0, 74, 0)
  | 74 => (6, 0, 0, 75, 0)
  | 75 => (58, 0, 0, 76, 0)
  | 76 => (0, 2, 0, 77, 0)
  | 77 => (1, 0, 0, 78, 0)
  | 78 => (46, 10, 14, 81, 0)
  | 81 => (43, 88, 0, 84, 0)
  | 84 => (6, 0, 0, 85, 1)
  | 85 => (33, 89, 0, 88, 0)
  | 88 => (6, 0, 0, 89, 0)
  | 89 => (58, 0, 0, 90, 0)
  | 90 => (0, 2, 0, 91, 0)
  | 91 => (1, 0, 0, 92, 0)
  | 92 => (46, 10, 14, 95, 0)
  | 95 => (45, 102, 0, 98, 0)
  | 98 => (6, 0, 0, 99, 1)
  | 99 => (33, 103, 0, 102, 0)
  | 102 => (6, 0, 0, 103, 0)
  | 103 => (58, 0, 0, 104, 0)
  | 104 => (6, 0, 0, 105, 1)
  | 105 => (58, 0, 0, 106, 0)
  | _ => (99, 0, 0, 0, 0)
def tX9_isLet (pc : Nat) : zI := if pc < 106 then tmX9_isLet pc else (99, 0, 0, 0, 0)
theorem tkX9_isLet : z_tab RX9 wsX9_isLet 3 (some .boolean) cX9_isLet 106 tX9_isLet := z_tab_of (tm := tmX9_isLet) (by decide +kernel)
theorem sX9_isLet_0 (lv : zL) (st : List Value) (w : zW) (nx K : Nat → zL → List Value → zW → Prop) (Rt : Option Value → zW → Prop) : z_st1 (tX9_isLet 0) 0 lv st w nx K Rt = (z_la lv 0 (fun x => nx 1 lv (.ref x :: st) w)) := id rfl
theorem sX9_isLet_1 (lv : zL) (st : List Value) (w : zW) (nx K : Nat → zL → List Value → zW → Prop) (Rt : Option Value → zW → Prop) : z_st1 (tX9_isLet 1) 1 lv st w nx K Rt = (z_1a st (fun x r => z_ob w x 10 (fun fs => z_fl fs 25 (fun u => nx 4 lv (u :: r) w)))) := id rfl
theorem sX9_isLet_4 (lv : zL) (st : List Value) (w : zW) (nx K : Nat → zL → List Value → zW → Prop) (Rt : Option Value → zW → Prop) : z_st1 (tX9_isLet 4) 4 lv st w nx K Rt = (nx 6 lv (.int (32 : Int32) :: st) w) := id rfl
theorem sX9_isLet_6 (lv : zL) (st : List Value) (w : zW) (nx K : Nat → zL → List Value → zW → Prop) (Rt : Option Value → zW → Prop) : z_st1 (tX9_isLet 6) 6 lv st w nx K Rt = (z_li lv 1 (fun x => nx 7 lv (.int x :: st) w)) := id rfl
theorem sX9_isLet_7 (lv : zL) (st : List Value) (w : zW) (nx K : Nat → zL → List Value → zW → Prop) (Rt : Option Value → zW → Prop) : z_st1 (tX9_isLet 7) 7 lv st w nx K Rt = (z_2i st (fun x y r => nx 8 lv (.int (x * y) :: r) w)) := id rfl
theorem sX9_isLet_8 (lv : zL) (st : List Value) (w : zW) (nx K : Nat → zL → List Value → zW → Prop) (Rt : Option Value → zW → Prop) : z_st1 (tX9_isLet 8) 8 lv st w nx K Rt = (z_la lv 0 (fun x => nx 9 lv (.ref x :: st) w)) := id rfl
theorem sX9_isLet_9 (lv : zL) (st : List Value) (w : zW) (nx K : Nat → zL → List Value → zW → Prop) (Rt : Option Value → zW → Prop) : z_st1 (tX9_isLet 9) 9 lv st w nx K Rt = (z_1a st (fun x r => z_ob w x 10 (fun fs => z_fl fs 12 (fun u => nx 12 lv (u :: r) w)))) := id rfl
theorem sX9_isLet_12 (lv : zL) (st : List Value) (w : zW) (nx K : Nat → zL → List Value → zW → Prop) (Rt : Option Value → zW → Prop) : z_st1 (tX9_isLet 12) 12 lv st w nx K Rt = (z_2i st (fun x y r => nx 13 lv (.int (x + y) :: r) w)) := id rfl
theorem sX9_isLet_13 (lv : zL) (st : List Value) (w : zW) (nx K : Nat → zL → List Value → zW → Prop) (Rt : Option Value → zW → Prop) : z_st1 (tX9_isLet 13) 13 lv st w nx K Rt = (z_ia st (fun x i r => z_ar0 w x (fun m g => vp_in i m ∧ nx 14 lv (.int (g i.toNatClampNeg) :: r) w))) := id rfl
theorem sX9_isLet_14 (lv : zL) (st : List Value) (w : zW) (nx K : Nat → zL → List Value → zW → Prop) (Rt : Option Value → zW → Prop) : z_st1 (tX9_isLet 14) 14 lv st w nx K Rt = (z_1i st (fun x r => z_ok1 lv 2 = true ∧ nx 15 (lv.set 2 (some (.int x))) r w)) := id rfl
theorem sX9_isLet_15 (lv : zL) (st : List Value) (w : zW) (nx K : Nat → zL → List Value → zW → Prop) (Rt : Option Value → zW → Prop) : z_st1 (tX9_isLet 15) 15 lv st w nx K Rt = (z_la lv 0 (fun x => nx 16 lv (.ref x :: st) w)) := id rfl
theorem sX9_isLet_16 (lv : zL) (st : List Value) (w : zW) (nx K : Nat → zL → List Value → zW → Prop) (Rt : Option Value → zW → Prop) : z_st1 (tX9_isLet 16) 16 lv st w nx K Rt = (z_1a st (fun x r => z_ob w x 10 (fun fs => z_fl fs 13 (fun u => nx 19 lv (u :: r) w)))) := id rfl
theorem sX9_isLet_48 (lv : zL) (st : List Value) (w : zW) (nx K : Nat → zL → List Value → zW → Prop) (Rt : Option Value → zW → Prop) : z_st1 (tX9_isLet 48) 48 lv st w nx K Rt = (z_li lv 2 (fun x => nx 49 lv (.int x :: st) w)) := id rfl
theorem sX9_isLet_49 (lv : zL) (st : List Value) (w : zW) (nx K : Nat → zL → List Value → zW → Prop) (Rt : Option Value → zW → Prop) : z_st1 (tX9_isLet 49) 49 lv st w nx K Rt = (z_la lv 0 (fun x => nx 50 lv (.ref x :: st) w)) := id rfl
theorem sX9_isLet_50 (lv : zL) (st : List Value) (w : zW) (nx K : Nat → zL → List Value → zW → Prop) (Rt : Option Value → zW → Prop) : z_st1 (tX9_isLet 50) 50 lv st w nx K Rt = (z_1a st (fun x r => z_ob w x 10 (fun fs => z_fl fs 14 (fun u => nx 53 lv (u :: r) w)))) := id rfl
theorem sX9_isLet_53 (lv : zL) (st : List Value) (w : zW) (nx K : Nat → zL → List Value → zW → Prop) (Rt : Option Value → zW → Prop) : z_st1 (tX9_isLet 53) 53 lv st w nx K Rt = (z_2i st (fun x y r => (¬ x = y → nx 60 lv r w) ∧ (x = y → nx 56 lv r w))) := id rfl
theorem sX9_isLet_56 (lv : zL) (st : List Value) (w : zW) (nx K : Nat → zL → List Value → zW → Prop) (Rt : Option Value → zW → Prop) : z_st1 (tX9_isLet 56) 56 lv st w nx K Rt = (nx 57 lv (.int (1 : Int32) :: st) w) := id rfl
theorem sX9_isLet_57 (lv : zL) (st : List Value) (w : zW) (nx K : Nat → zL → List Value → zW → Prop) (Rt : Option Value → zW → Prop) : z_st1 (tX9_isLet 57) 57 lv st w nx K Rt = (nx 61 lv st w) := id rfl
theorem sX9_isLet_60 (lv : zL) (st : List Value) (w : zW) (nx K : Nat → zL → List Value → zW → Prop) (Rt : Option Value → zW → Prop) : z_st1 (tX9_isLet 60) 60 lv st w nx K Rt = (nx 61 lv (.int (0 : Int32) :: st) w) := id rfl
theorem sX9_isLet_61 (lv : zL) (st : List Value) (w : zW) (nx K : Nat → zL → List Value → zW → Prop) (Rt : Option Value → zW → Prop) : z_st1 (tX9_isLet 61) 61 lv st w nx K Rt = (z_e1 st (fun x => (x = 0 ∨ x = 1) ∧ Rt (some (.int x)) w)) := id rfl
theorem sX9_isLet_62 (lv : zL) (st : List Value) (w : zW) (nx K : Nat → zL → List Value → zW → Prop) (Rt : Option Value → zW → Prop) : z_st1 (tX9_isLet 62) 62 lv st w nx K Rt = (z_li lv 2 (fun x => nx 63 lv (.int x :: st) w)) := id rfl
theorem sX9_isLet_63 (lv : zL) (st : List Value) (w : zW) (nx K : Nat → zL → List Value → zW → Prop) (Rt : Option Value → zW → Prop) : z_st1 (tX9_isLet 63) 63 lv st w nx K Rt = (z_la lv 0 (fun x => nx 64 lv (.ref x :: st) w)) := id rfl
theorem sX9_isLet_64 (lv : zL) (st : List Value) (w : zW) (nx K : Nat → zL → List Value → zW → Prop) (Rt : Option Value → zW → Prop) : z_st1 (tX9_isLet 64) 64 lv st w nx K Rt = (z_1a st (fun x r => z_ob w x 10 (fun fs => z_fl fs 14 (fun u => nx 67 lv (u :: r) w)))) := id rfl
theorem sX9_isLet_67 (lv : zL) (st : List Value) (w : zW) (nx K : Nat → zL → List Value → zW → Prop) (Rt : Option Value → zW → Prop) : z_st1 (tX9_isLet 67) 67 lv st w nx K Rt = (z_2i st (fun x y r => (x = y → nx 74 lv r w) ∧ (¬ x = y → nx 70 lv r w))) := id rfl
theorem sX9_isLet_70 (lv : zL) (st : List Value) (w : zW) (nx K : Nat → zL → List Value → zW → Prop) (Rt : Option Value → zW → Prop) : z_st1 (tX9_isLet 70) 70 lv st w nx K Rt = (nx 71 lv (.int (1 : Int32) :: st) w) := id rfl
theorem sX9_isLet_71 (lv : zL) (st : List Value) (w : zW) (nx K : Nat → zL → List Value → zW → Prop) (Rt : Option Value → zW → Prop) : z_st1 (tX9_isLet 71) 71 lv st w nx K Rt = (nx 75 lv st w) := id rfl
theorem sX9_isLet_74 (lv : zL) (st : List Value) (w : zW) (nx K : Nat → zL → List Value → zW → Prop) (Rt : Option Value → zW → Prop) : z_st1 (tX9_isLet 74) 74 lv st w nx K Rt = (nx 75 lv (.int (0 : Int32) :: st) w) := id rfl
theorem sX9_isLet_75 (lv : zL) (st : List Value) (w : zW) (nx K : Nat → zL → List Value → zW → Prop) (Rt : Option Value → zW → Prop) : z_st1 (tX9_isLet 75) 75 lv st w nx K Rt = (z_e1 st (fun x => (x = 0 ∨ x = 1) ∧ Rt (some (.int x)) w)) := id rfl
theorem sX9_isLet_76 (lv : zL) (st : List Value) (w : zW) (nx K : Nat → zL → List Value → zW → Prop) (Rt : Option Value → zW → Prop) : z_st1 (tX9_isLet 76) 76 lv st w nx K Rt = (z_li lv 2 (fun x => nx 77 lv (.int x :: st) w)) := id rfl
theorem sX9_isLet_77 (lv : zL) (st : List Value) (w : zW) (nx K : Nat → zL → List Value → zW → Prop) (Rt : Option Value → zW → Prop) : z_st1 (tX9_isLet 77) 77 lv st w nx K Rt = (z_la lv 0 (fun x => nx 78 lv (.ref x :: st) w)) := id rfl
theorem sX9_isLet_78 (lv : zL) (st : List Value) (w : zW) (nx K : Nat → zL → List Value → zW → Prop) (Rt : Option Value → zW → Prop) : z_st1 (tX9_isLet 78) 78 lv st w nx K Rt = (z_1a st (fun x r => z_ob w x 10 (fun fs => z_fl fs 14 (fun u => nx 81 lv (u :: r) w)))) := id rfl
theorem sX9_isLet_81 (lv : zL) (st : List Value) (w : zW) (nx K : Nat → zL → List Value → zW → Prop) (Rt : Option Value → zW → Prop) : z_st1 (tX9_isLet 81) 81 lv st w nx K Rt = (z_2i st (fun x y r => (y ≤ x → nx 88 lv r w) ∧ (¬ y ≤ x → nx 84 lv r w))) := id rfl
theorem sX9_isLet_84 (lv : zL) (st : List Value) (w : zW) (nx K : Nat → zL → List Value → zW → Prop) (Rt : Option Value → zW → Prop) : z_st1 (tX9_isLet 84) 84 lv st w nx K Rt = (nx 85 lv (.int (1 : Int32) :: st) w) := id rfl
theorem sX9_isLet_85 (lv : zL) (st : List Value) (w : zW) (nx K : Nat → zL → List Value → zW → Prop) (Rt : Option Value → zW → Prop) : z_st1 (tX9_isLet 85) 85 lv st w nx K Rt = (nx 89 lv st w) := id rfl
theorem sX9_isLet_88 (lv : zL) (st : List Value) (w : zW) (nx K : Nat → zL → List Value → zW → Prop) (Rt : Option Value → zW → Prop) : z_st1 (tX9_isLet 88) 88 lv st w nx K Rt = (nx 89 lv (.int (0 : Int32) :: st) w) := id rfl
theorem sX9_isLet_89 (lv : zL) (st : List Value) (w : zW) (nx K : Nat → zL → List Value → zW → Prop) (Rt : Option Value → zW → Prop) : z_st1 (tX9_isLet 89) 89 lv st w nx K Rt = (z_e1 st (fun x => (x = 0 ∨ x = 1) ∧ Rt (some (.int x)) w)) := id rfl
theorem sX9_isLet_90 (lv : zL) (st : List Value) (w : zW) (nx K : Nat → zL → List Value → zW → Prop) (Rt : Option Value → zW → Prop) : z_st1 (tX9_isLet 90) 90 lv st w nx K Rt = (z_li lv 2 (fun x => nx 91 lv (.int x :: st) w)) := id rfl
theorem sX9_isLet_91 (lv : zL) (st : List Value) (w : zW) (nx K : Nat → zL → List Value → zW → Prop) (Rt : Option Value → zW → Prop) : z_st1 (tX9_isLet 91) 91 lv st w nx K Rt = (z_la lv 0 (fun x => nx 92 lv (.ref x :: st) w)) := id rfl
theorem sX9_isLet_92 (lv : zL) (st : List Value) (w : zW) (nx K : Nat → zL → List Value → zW → Prop) (Rt : Option Value → zW → Prop) : z_st1 (tX9_isLet 92) 92 lv st w nx K Rt = (z_1a st (fun x r => z_ob w x 10 (fun fs => z_fl fs 14 (fun u => nx 95 lv (u :: r) w)))) := id rfl
theorem sX9_isLet_95 (lv : zL) (st : List Value) (w : zW) (nx K : Nat → zL → List Value → zW → Prop) (Rt : Option Value → zW → Prop) : z_st1 (tX9_isLet 95) 95 lv st w nx K Rt = (z_2i st (fun x y r => (x ≤ y → nx 102 lv r w) ∧ (¬ x ≤ y → nx 98 lv r w))) := id rfl
theorem sX9_isLet_98 (lv : zL) (st : List Value) (w : zW) (nx K : Nat → zL → List Value → zW → Prop) (Rt : Option Value → zW → Prop) : z_st1 (tX9_isLet 98) 98 lv st w nx K Rt = (nx 99 lv (.int (1 : Int32) :: st) w) := id rfl
theorem sX9_isLet_99 (lv : zL) (st : List Value) (w : zW) (nx K : Nat → zL → List Value → zW → Prop) (Rt : Option Value → zW → Prop) : z_st1 (tX9_isLet 99) 99 lv st w nx K Rt = (nx 103 lv st w) := id rfl
theorem sX9_isLet_102 (lv : zL) (st : List Value) (w : zW) (nx K : Nat → zL → List Value → zW → Prop) (Rt : Option Value → zW → Prop) : z_st1 (tX9_isLet 102) 102 lv st w nx K Rt = (nx 103 lv (.int (0 : Int32) :: st) w) := id rfl
theorem sX9_isLet_103 (lv : zL) (st : List Value) (w : zW) (nx K : Nat → zL → List Value → zW → Prop) (Rt : Option Value → zW → Prop) : z_st1 (tX9_isLet 103) 103 lv st w nx K Rt = (z_e1 st (fun x => (x = 0 ∨ x = 1) ∧ Rt (some (.int x)) w)) := id rfl
theorem sX9_isLet_104 (lv : zL) (st : List Value) (w : zW) (nx K : Nat → zL → List Value → zW → Prop) (Rt : Option Value → zW → Prop) : z_st1 (tX9_isLet 104) 104 lv st w nx K Rt = (nx 105 lv (.int (1 : Int32) :: st) w) := id rfl
theorem sX9_isLet_105 (lv : zL) (st : List Value) (w : zW) (nx K : Nat → zL → List Value → zW → Prop) (Rt : Option Value → zW → Prop) : z_st1 (tX9_isLet 105) 105 lv st w nx K Rt = (z_e1 st (fun x => (x = 0 ∨ x = 1) ∧ Rt (some (.int x)) w)) := id rfl
theorem sX9_isLet_19 (lv : zL) (st : List Value) (w : zW) (nx K : Nat → zL → List Value → zW → Prop) (Rt : Option Value → zW → Prop) : z_st1 (tX9_isLet 19) 19 lv st w nx K Rt = K 19 lv st w := id rfl
theorem dX9_isLet_19 : decode cX9_isLet 19 = .ok (.tableswitch 85 0 3 #[29, 43, 57, 71], 29) := by decide +kernel

def tmX9_passes (pc : Nat) : zI := match pc with
  | 0 => (1, 0, 0, 1, 0)
  | 1 => (46, 10, 19, 4, 0)
  | 4 => (0, 1, 0, 5, 0)
  | 5 => (32, 0, 0, 6, 0)
  | 6 => (48, 0, 0, 7, 0)
  | 7 => (6, 0, 0, 8, 1)
  | 8 => (8, 0, 0, 9, 0)
  | 9 => (49, 0, 0, 10, 0)
  | 10 => (1, 0, 0, 11, 0)
  | 11 => (46, 10, 19, 14, 0)
  | 14 => (0, 1, 0, 15, 0)
  | 15 => (48, 0, 0, 16, 0)
  | 16 => (1, 0, 0, 17, 0)
  | 17 => (46, 10, 18, 20, 0)
  | 20 => (0, 1, 0, 21, 0)
  | 21 => (48, 0, 0, 22, 0)
  | 22 => (41, 37, 0, 25, 0)
  | 25 => (1, 0, 0, 26, 0)
  | 26 => (1, 0, 0, 27, 0)
  | 27 => (46, 10, 27, 30, 0)
  | 30 => (0, 2, 0, 31, 0)
  | 31 => (48, 0, 0, 32, 0)
  | 32 => (47, 10, 34, 35, 0)
  | 35 => (6, 0, 0, 36, (-1))
  | 36 => (53, 0, 0, 37, 0)
  | 37 => (1, 0, 0, 38, 0)
  | 38 => (46, 10, 17, 41, 0)
  | 41 => (0, 1, 0, 42, 0)
  | 42 => (48, 0, 0, 43, 0)
  | 43 => (6, 0, 0, 44, 2)
  | 44 => (41, 80, 0, 47, 0)
  | 47 => (1, 0, 0, 48, 0)
  | 48 => (46, 10, 26, 51, 0)
  | 51 => (0, 2, 0, 52, 0)
  | 52 => (48, 0, 0, 53, 0)
  | 53 => (39, 80, 0, 56, 0)
  | 56 => (1, 0, 0, 57, 0)
  | 57 => (46, 10, 25, 60, 0)
  | 60 => (6, 0, 0, 62, 32)
  | 62 => (0, 2, 0, 63, 0)
  | 63 => (10, 0, 0, 64, 0)
  | 64 => (1, 0, 0, 65, 0)
  | 65 => (46, 10, 25, 68, 0)
  | 68 => (6, 0, 0, 70, 32)
  | 70 => (0, 2, 0, 71, 0)
  | 71 => (10, 0, 0, 72, 0)
  | 72 => (48, 0, 0, 73, 0)
  | 73 => (6, 0, 0, 74, 1)
  | 74 => (8, 0, 0, 75, 0)
  | 75 => (6, 0, 0, 78, 255)
  | 78 => (11, 0, 0, 79, 0)
  | 79 => (49, 0, 0, 80, 0)
  | 80 => (1, 0, 0, 81, 0)
  | 81 => (46, 10, 17, 84, 0)
  | 84 => (0, 1, 0, 85, 0)
  | 85 => (48, 0, 0, 86, 0)
  | 86 => (6, 0, 0, 87, 1)
  | 87 => (41, 101, 0, 90, 0)
  | 90 => (1, 0, 0, 91, 0)
  | 91 => (46, 10, 19, 94, 0)
  | 94 => (0, 1, 0, 95, 0)
  | 95 => (48, 0, 0, 96, 0)
  | 96 => (6, 0, 0, 97, 2)
  | 97 => (16, 0, 0, 98, 0)
  | 98 => (34, 120, 0, 101, 0)
  | 101 => (1, 0, 0, 102, 0)
  | 102 => (46, 10, 17, 105, 0)
  | 105 => (0, 1, 0, 106, 0)
  | 106 => (48, 0, 0, 107, 0)
  | 107 => (6, 0, 0, 108, 3)
  | 108 => (41, 124, 0, 111, 0)
  | 111 => (1, 0, 0, 112, 0)
  | 112 => (46, 10, 26, 115, 0)
  | 115 => (0, 2, 0, 116, 0)
  | 116 => (48, 0, 0, 117, 0)
  | 117 => (35, 124, 0, 120, 0)
  | 120 => (6, 0, 0, 121, 1)
  | 121 => (33, 125, 0, 124, 0)
  | 124 => (6, 0, 0, 125, 0)
  | 125 => (3, 3, 0, 126, 0)
  | 126 => (0, 3, 0, 127, 0)
  | 127 => (34, 134, 0, 130, 0)
  | 130 => (6, 0, 0, 131, 0)
  | 131 => (33, 135, 0, 134, 0)
  | 134 => (6, 0, 0, 135, 1)
  | 135 => (53, 0, 0, 136, 0)
  | _ => (99, 0, 0, 0, 0)
def tX9_passes (pc : Nat) : zI := if pc < 136 then tmX9_passes pc else (99, 0, 0, 0, 0)
theorem tkX9_passes : z_tab RX9 wsX9_passes 4 (some .int) cX9_passes 136 tX9_passes := z_tab_of (tm := tmX9_passes) (by decide +kernel)
theorem sX9_passes_0 (lv : zL) (st : List Value) (w : zW) (nx K : Nat → zL → List Value → zW → Prop) (Rt : Option Value → zW → Prop) : z_st1 (tX9_passes 0) 0 lv st w nx K Rt = (z_la lv 0 (fun x => nx 1 lv (.ref x :: st) w)) := id rfl
theorem sX9_passes_1 (lv : zL) (st : List Value) (w : zW) (nx K : Nat → zL → List Value → zW → Prop) (Rt : Option Value → zW → Prop) : z_st1 (tX9_passes 1) 1 lv st w nx K Rt = (z_1a st (fun x r => z_ob w x 10 (fun fs => z_fl fs 19 (fun u => nx 4 lv (u :: r) w)))) := id rfl
theorem sX9_passes_4 (lv : zL) (st : List Value) (w : zW) (nx K : Nat → zL → List Value → zW → Prop) (Rt : Option Value → zW → Prop) : z_st1 (tX9_passes 4) 4 lv st w nx K Rt = (z_li lv 1 (fun x => nx 5 lv (.int x :: st) w)) := id rfl
theorem sX9_passes_5 (lv : zL) (st : List Value) (w : zW) (nx K : Nat → zL → List Value → zW → Prop) (Rt : Option Value → zW → Prop) : z_st1 (tX9_passes 5) 5 lv st w nx K Rt = (z_dia st (fun x i r => nx 6 lv (.int i :: .ref x :: .int i :: .ref x :: r) w)) := id rfl
theorem sX9_passes_6 (lv : zL) (st : List Value) (w : zW) (nx K : Nat → zL → List Value → zW → Prop) (Rt : Option Value → zW → Prop) : z_st1 (tX9_passes 6) 6 lv st w nx K Rt = (z_ia st (fun x i r => z_ar0 w x (fun m g => vp_in i m ∧ nx 7 lv (.int (g i.toNatClampNeg) :: r) w))) := id rfl
theorem sX9_passes_7 (lv : zL) (st : List Value) (w : zW) (nx K : Nat → zL → List Value → zW → Prop) (Rt : Option Value → zW → Prop) : z_st1 (tX9_passes 7) 7 lv st w nx K Rt = (nx 8 lv (.int (1 : Int32) :: st) w) := id rfl
theorem sX9_passes_8 (lv : zL) (st : List Value) (w : zW) (nx K : Nat → zL → List Value → zW → Prop) (Rt : Option Value → zW → Prop) : z_st1 (tX9_passes 8) 8 lv st w nx K Rt = (z_2i st (fun x y r => nx 9 lv (.int (x + y) :: r) w)) := id rfl
theorem sX9_passes_9 (lv : zL) (st : List Value) (w : zW) (nx K : Nat → zL → List Value → zW → Prop) (Rt : Option Value → zW → Prop) : z_st1 (tX9_passes 9) 9 lv st w nx K Rt = (z_iia st (fun x i u r => z_ar0 w x (fun m g => vp_in i m ∧ nx 10 lv r (z_up w x (.inl (0, m, .inl (upd g i.toNatClampNeg u))))))) := id rfl
theorem sX9_passes_10 (lv : zL) (st : List Value) (w : zW) (nx K : Nat → zL → List Value → zW → Prop) (Rt : Option Value → zW → Prop) : z_st1 (tX9_passes 10) 10 lv st w nx K Rt = (z_la lv 0 (fun x => nx 11 lv (.ref x :: st) w)) := id rfl
theorem sX9_passes_11 (lv : zL) (st : List Value) (w : zW) (nx K : Nat → zL → List Value → zW → Prop) (Rt : Option Value → zW → Prop) : z_st1 (tX9_passes 11) 11 lv st w nx K Rt = (z_1a st (fun x r => z_ob w x 10 (fun fs => z_fl fs 19 (fun u => nx 14 lv (u :: r) w)))) := id rfl
theorem sX9_passes_14 (lv : zL) (st : List Value) (w : zW) (nx K : Nat → zL → List Value → zW → Prop) (Rt : Option Value → zW → Prop) : z_st1 (tX9_passes 14) 14 lv st w nx K Rt = (z_li lv 1 (fun x => nx 15 lv (.int x :: st) w)) := id rfl
theorem sX9_passes_15 (lv : zL) (st : List Value) (w : zW) (nx K : Nat → zL → List Value → zW → Prop) (Rt : Option Value → zW → Prop) : z_st1 (tX9_passes 15) 15 lv st w nx K Rt = (z_ia st (fun x i r => z_ar0 w x (fun m g => vp_in i m ∧ nx 16 lv (.int (g i.toNatClampNeg) :: r) w))) := id rfl
theorem sX9_passes_16 (lv : zL) (st : List Value) (w : zW) (nx K : Nat → zL → List Value → zW → Prop) (Rt : Option Value → zW → Prop) : z_st1 (tX9_passes 16) 16 lv st w nx K Rt = (z_la lv 0 (fun x => nx 17 lv (.ref x :: st) w)) := id rfl
theorem sX9_passes_17 (lv : zL) (st : List Value) (w : zW) (nx K : Nat → zL → List Value → zW → Prop) (Rt : Option Value → zW → Prop) : z_st1 (tX9_passes 17) 17 lv st w nx K Rt = (z_1a st (fun x r => z_ob w x 10 (fun fs => z_fl fs 18 (fun u => nx 20 lv (u :: r) w)))) := id rfl
theorem sX9_passes_20 (lv : zL) (st : List Value) (w : zW) (nx K : Nat → zL → List Value → zW → Prop) (Rt : Option Value → zW → Prop) : z_st1 (tX9_passes 20) 20 lv st w nx K Rt = (z_li lv 1 (fun x => nx 21 lv (.int x :: st) w)) := id rfl
theorem sX9_passes_21 (lv : zL) (st : List Value) (w : zW) (nx K : Nat → zL → List Value → zW → Prop) (Rt : Option Value → zW → Prop) : z_st1 (tX9_passes 21) 21 lv st w nx K Rt = (z_ia st (fun x i r => z_ar0 w x (fun m g => vp_in i m ∧ nx 22 lv (.int (g i.toNatClampNeg) :: r) w))) := id rfl
theorem sX9_passes_22 (lv : zL) (st : List Value) (w : zW) (nx K : Nat → zL → List Value → zW → Prop) (Rt : Option Value → zW → Prop) : z_st1 (tX9_passes 22) 22 lv st w nx K Rt = (z_2i st (fun x y r => (¬ x = y → nx 37 lv r w) ∧ (x = y → nx 25 lv r w))) := id rfl
theorem sX9_passes_25 (lv : zL) (st : List Value) (w : zW) (nx K : Nat → zL → List Value → zW → Prop) (Rt : Option Value → zW → Prop) : z_st1 (tX9_passes 25) 25 lv st w nx K Rt = (z_la lv 0 (fun x => nx 26 lv (.ref x :: st) w)) := id rfl
theorem sX9_passes_26 (lv : zL) (st : List Value) (w : zW) (nx K : Nat → zL → List Value → zW → Prop) (Rt : Option Value → zW → Prop) : z_st1 (tX9_passes 26) 26 lv st w nx K Rt = (z_la lv 0 (fun x => nx 27 lv (.ref x :: st) w)) := id rfl
theorem sX9_passes_27 (lv : zL) (st : List Value) (w : zW) (nx K : Nat → zL → List Value → zW → Prop) (Rt : Option Value → zW → Prop) : z_st1 (tX9_passes 27) 27 lv st w nx K Rt = (z_1a st (fun x r => z_ob w x 10 (fun fs => z_fl fs 27 (fun u => nx 30 lv (u :: r) w)))) := id rfl
theorem sX9_passes_30 (lv : zL) (st : List Value) (w : zW) (nx K : Nat → zL → List Value → zW → Prop) (Rt : Option Value → zW → Prop) : z_st1 (tX9_passes 30) 30 lv st w nx K Rt = (z_li lv 2 (fun x => nx 31 lv (.int x :: st) w)) := id rfl
theorem sX9_passes_31 (lv : zL) (st : List Value) (w : zW) (nx K : Nat → zL → List Value → zW → Prop) (Rt : Option Value → zW → Prop) : z_st1 (tX9_passes 31) 31 lv st w nx K Rt = (z_ia st (fun x i r => z_ar0 w x (fun m g => vp_in i m ∧ nx 32 lv (.int (g i.toNatClampNeg) :: r) w))) := id rfl
theorem sX9_passes_32 (lv : zL) (st : List Value) (w : zW) (nx K : Nat → zL → List Value → zW → Prop) (Rt : Option Value → zW → Prop) : z_st1 (tX9_passes 32) 32 lv st w nx K Rt = (z_ia st (fun x i r => z_ob w x 10 (fun fs => 34 < fs.length ∧ nx 35 lv r (z_up w x (.inr (10, fs.set 34 (.int i))))))) := id rfl
theorem sX9_passes_35 (lv : zL) (st : List Value) (w : zW) (nx K : Nat → zL → List Value → zW → Prop) (Rt : Option Value → zW → Prop) : z_st1 (tX9_passes 35) 35 lv st w nx K Rt = (nx 36 lv (.int (-1 : Int32) :: st) w) := id rfl
theorem sX9_passes_36 (lv : zL) (st : List Value) (w : zW) (nx K : Nat → zL → List Value → zW → Prop) (Rt : Option Value → zW → Prop) : z_st1 (tX9_passes 36) 36 lv st w nx K Rt = (z_e1 st (fun x => Rt (some (.int x)) w)) := id rfl
theorem sX9_passes_37 (lv : zL) (st : List Value) (w : zW) (nx K : Nat → zL → List Value → zW → Prop) (Rt : Option Value → zW → Prop) : z_st1 (tX9_passes 37) 37 lv st w nx K Rt = (z_la lv 0 (fun x => nx 38 lv (.ref x :: st) w)) := id rfl
theorem sX9_passes_38 (lv : zL) (st : List Value) (w : zW) (nx K : Nat → zL → List Value → zW → Prop) (Rt : Option Value → zW → Prop) : z_st1 (tX9_passes 38) 38 lv st w nx K Rt = (z_1a st (fun x r => z_ob w x 10 (fun fs => z_fl fs 17 (fun u => nx 41 lv (u :: r) w)))) := id rfl
theorem sX9_passes_41 (lv : zL) (st : List Value) (w : zW) (nx K : Nat → zL → List Value → zW → Prop) (Rt : Option Value → zW → Prop) : z_st1 (tX9_passes 41) 41 lv st w nx K Rt = (z_li lv 1 (fun x => nx 42 lv (.int x :: st) w)) := id rfl
theorem sX9_passes_42 (lv : zL) (st : List Value) (w : zW) (nx K : Nat → zL → List Value → zW → Prop) (Rt : Option Value → zW → Prop) : z_st1 (tX9_passes 42) 42 lv st w nx K Rt = (z_ia st (fun x i r => z_ar0 w x (fun m g => vp_in i m ∧ nx 43 lv (.int (g i.toNatClampNeg) :: r) w))) := id rfl
theorem sX9_passes_43 (lv : zL) (st : List Value) (w : zW) (nx K : Nat → zL → List Value → zW → Prop) (Rt : Option Value → zW → Prop) : z_st1 (tX9_passes 43) 43 lv st w nx K Rt = (nx 44 lv (.int (2 : Int32) :: st) w) := id rfl
theorem sX9_passes_44 (lv : zL) (st : List Value) (w : zW) (nx K : Nat → zL → List Value → zW → Prop) (Rt : Option Value → zW → Prop) : z_st1 (tX9_passes 44) 44 lv st w nx K Rt = (z_2i st (fun x y r => (¬ x = y → nx 80 lv r w) ∧ (x = y → nx 47 lv r w))) := id rfl
theorem sX9_passes_47 (lv : zL) (st : List Value) (w : zW) (nx K : Nat → zL → List Value → zW → Prop) (Rt : Option Value → zW → Prop) : z_st1 (tX9_passes 47) 47 lv st w nx K Rt = (z_la lv 0 (fun x => nx 48 lv (.ref x :: st) w)) := id rfl
theorem sX9_passes_48 (lv : zL) (st : List Value) (w : zW) (nx K : Nat → zL → List Value → zW → Prop) (Rt : Option Value → zW → Prop) : z_st1 (tX9_passes 48) 48 lv st w nx K Rt = (z_1a st (fun x r => z_ob w x 10 (fun fs => z_fl fs 26 (fun u => nx 51 lv (u :: r) w)))) := id rfl
theorem sX9_passes_51 (lv : zL) (st : List Value) (w : zW) (nx K : Nat → zL → List Value → zW → Prop) (Rt : Option Value → zW → Prop) : z_st1 (tX9_passes 51) 51 lv st w nx K Rt = (z_li lv 2 (fun x => nx 52 lv (.int x :: st) w)) := id rfl
theorem sX9_passes_52 (lv : zL) (st : List Value) (w : zW) (nx K : Nat → zL → List Value → zW → Prop) (Rt : Option Value → zW → Prop) : z_st1 (tX9_passes 52) 52 lv st w nx K Rt = (z_ia st (fun x i r => z_ar0 w x (fun m g => vp_in i m ∧ nx 53 lv (.int (g i.toNatClampNeg) :: r) w))) := id rfl
theorem sX9_passes_53 (lv : zL) (st : List Value) (w : zW) (nx K : Nat → zL → List Value → zW → Prop) (Rt : Option Value → zW → Prop) : z_st1 (tX9_passes 53) 53 lv st w nx K Rt = (z_1i st (fun x r => (x ≤ 0 → nx 80 lv r w) ∧ (¬ x ≤ 0 → nx 56 lv r w))) := id rfl
theorem sX9_passes_56 (lv : zL) (st : List Value) (w : zW) (nx K : Nat → zL → List Value → zW → Prop) (Rt : Option Value → zW → Prop) : z_st1 (tX9_passes 56) 56 lv st w nx K Rt = (z_la lv 0 (fun x => nx 57 lv (.ref x :: st) w)) := id rfl
theorem sX9_passes_57 (lv : zL) (st : List Value) (w : zW) (nx K : Nat → zL → List Value → zW → Prop) (Rt : Option Value → zW → Prop) : z_st1 (tX9_passes 57) 57 lv st w nx K Rt = (z_1a st (fun x r => z_ob w x 10 (fun fs => z_fl fs 25 (fun u => nx 60 lv (u :: r) w)))) := id rfl
theorem sX9_passes_60 (lv : zL) (st : List Value) (w : zW) (nx K : Nat → zL → List Value → zW → Prop) (Rt : Option Value → zW → Prop) : z_st1 (tX9_passes 60) 60 lv st w nx K Rt = (nx 62 lv (.int (32 : Int32) :: st) w) := id rfl
theorem sX9_passes_62 (lv : zL) (st : List Value) (w : zW) (nx K : Nat → zL → List Value → zW → Prop) (Rt : Option Value → zW → Prop) : z_st1 (tX9_passes 62) 62 lv st w nx K Rt = (z_li lv 2 (fun x => nx 63 lv (.int x :: st) w)) := id rfl
theorem sX9_passes_63 (lv : zL) (st : List Value) (w : zW) (nx K : Nat → zL → List Value → zW → Prop) (Rt : Option Value → zW → Prop) : z_st1 (tX9_passes 63) 63 lv st w nx K Rt = (z_2i st (fun x y r => nx 64 lv (.int (x * y) :: r) w)) := id rfl
theorem sX9_passes_64 (lv : zL) (st : List Value) (w : zW) (nx K : Nat → zL → List Value → zW → Prop) (Rt : Option Value → zW → Prop) : z_st1 (tX9_passes 64) 64 lv st w nx K Rt = (z_la lv 0 (fun x => nx 65 lv (.ref x :: st) w)) := id rfl
theorem sX9_passes_65 (lv : zL) (st : List Value) (w : zW) (nx K : Nat → zL → List Value → zW → Prop) (Rt : Option Value → zW → Prop) : z_st1 (tX9_passes 65) 65 lv st w nx K Rt = (z_1a st (fun x r => z_ob w x 10 (fun fs => z_fl fs 25 (fun u => nx 68 lv (u :: r) w)))) := id rfl
theorem sX9_passes_68 (lv : zL) (st : List Value) (w : zW) (nx K : Nat → zL → List Value → zW → Prop) (Rt : Option Value → zW → Prop) : z_st1 (tX9_passes 68) 68 lv st w nx K Rt = (nx 70 lv (.int (32 : Int32) :: st) w) := id rfl
theorem sX9_passes_70 (lv : zL) (st : List Value) (w : zW) (nx K : Nat → zL → List Value → zW → Prop) (Rt : Option Value → zW → Prop) : z_st1 (tX9_passes 70) 70 lv st w nx K Rt = (z_li lv 2 (fun x => nx 71 lv (.int x :: st) w)) := id rfl
theorem sX9_passes_71 (lv : zL) (st : List Value) (w : zW) (nx K : Nat → zL → List Value → zW → Prop) (Rt : Option Value → zW → Prop) : z_st1 (tX9_passes 71) 71 lv st w nx K Rt = (z_2i st (fun x y r => nx 72 lv (.int (x * y) :: r) w)) := id rfl
theorem sX9_passes_72 (lv : zL) (st : List Value) (w : zW) (nx K : Nat → zL → List Value → zW → Prop) (Rt : Option Value → zW → Prop) : z_st1 (tX9_passes 72) 72 lv st w nx K Rt = (z_ia st (fun x i r => z_ar0 w x (fun m g => vp_in i m ∧ nx 73 lv (.int (g i.toNatClampNeg) :: r) w))) := id rfl
theorem sX9_passes_73 (lv : zL) (st : List Value) (w : zW) (nx K : Nat → zL → List Value → zW → Prop) (Rt : Option Value → zW → Prop) : z_st1 (tX9_passes 73) 73 lv st w nx K Rt = (nx 74 lv (.int (1 : Int32) :: st) w) := id rfl
theorem sX9_passes_74 (lv : zL) (st : List Value) (w : zW) (nx K : Nat → zL → List Value → zW → Prop) (Rt : Option Value → zW → Prop) : z_st1 (tX9_passes 74) 74 lv st w nx K Rt = (z_2i st (fun x y r => nx 75 lv (.int (x + y) :: r) w)) := id rfl
theorem sX9_passes_75 (lv : zL) (st : List Value) (w : zW) (nx K : Nat → zL → List Value → zW → Prop) (Rt : Option Value → zW → Prop) : z_st1 (tX9_passes 75) 75 lv st w nx K Rt = (nx 78 lv (.int (255 : Int32) :: st) w) := id rfl
theorem sX9_passes_78 (lv : zL) (st : List Value) (w : zW) (nx K : Nat → zL → List Value → zW → Prop) (Rt : Option Value → zW → Prop) : z_st1 (tX9_passes 78) 78 lv st w nx K Rt = (z_2i st (fun x y r => nx 79 lv (.int (x &&& y) :: r) w)) := id rfl
theorem sX9_passes_79 (lv : zL) (st : List Value) (w : zW) (nx K : Nat → zL → List Value → zW → Prop) (Rt : Option Value → zW → Prop) : z_st1 (tX9_passes 79) 79 lv st w nx K Rt = (z_iia st (fun x i u r => z_ar0 w x (fun m g => vp_in i m ∧ nx 80 lv r (z_up w x (.inl (0, m, .inl (upd g i.toNatClampNeg u))))))) := id rfl
theorem sX9_passes_80 (lv : zL) (st : List Value) (w : zW) (nx K : Nat → zL → List Value → zW → Prop) (Rt : Option Value → zW → Prop) : z_st1 (tX9_passes 80) 80 lv st w nx K Rt = (z_la lv 0 (fun x => nx 81 lv (.ref x :: st) w)) := id rfl
theorem sX9_passes_81 (lv : zL) (st : List Value) (w : zW) (nx K : Nat → zL → List Value → zW → Prop) (Rt : Option Value → zW → Prop) : z_st1 (tX9_passes 81) 81 lv st w nx K Rt = (z_1a st (fun x r => z_ob w x 10 (fun fs => z_fl fs 17 (fun u => nx 84 lv (u :: r) w)))) := id rfl
theorem sX9_passes_84 (lv : zL) (st : List Value) (w : zW) (nx K : Nat → zL → List Value → zW → Prop) (Rt : Option Value → zW → Prop) : z_st1 (tX9_passes 84) 84 lv st w nx K Rt = (z_li lv 1 (fun x => nx 85 lv (.int x :: st) w)) := id rfl
theorem sX9_passes_85 (lv : zL) (st : List Value) (w : zW) (nx K : Nat → zL → List Value → zW → Prop) (Rt : Option Value → zW → Prop) : z_st1 (tX9_passes 85) 85 lv st w nx K Rt = (z_ia st (fun x i r => z_ar0 w x (fun m g => vp_in i m ∧ nx 86 lv (.int (g i.toNatClampNeg) :: r) w))) := id rfl
theorem sX9_passes_86 (lv : zL) (st : List Value) (w : zW) (nx K : Nat → zL → List Value → zW → Prop) (Rt : Option Value → zW → Prop) : z_st1 (tX9_passes 86) 86 lv st w nx K Rt = (nx 87 lv (.int (1 : Int32) :: st) w) := id rfl
theorem sX9_passes_87 (lv : zL) (st : List Value) (w : zW) (nx K : Nat → zL → List Value → zW → Prop) (Rt : Option Value → zW → Prop) : z_st1 (tX9_passes 87) 87 lv st w nx K Rt = (z_2i st (fun x y r => (¬ x = y → nx 101 lv r w) ∧ (x = y → nx 90 lv r w))) := id rfl
theorem sX9_passes_90 (lv : zL) (st : List Value) (w : zW) (nx K : Nat → zL → List Value → zW → Prop) (Rt : Option Value → zW → Prop) : z_st1 (tX9_passes 90) 90 lv st w nx K Rt = (z_la lv 0 (fun x => nx 91 lv (.ref x :: st) w)) := id rfl
theorem sX9_passes_91 (lv : zL) (st : List Value) (w : zW) (nx K : Nat → zL → List Value → zW → Prop) (Rt : Option Value → zW → Prop) : z_st1 (tX9_passes 91) 91 lv st w nx K Rt = (z_1a st (fun x r => z_ob w x 10 (fun fs => z_fl fs 19 (fun u => nx 94 lv (u :: r) w)))) := id rfl
theorem sX9_passes_94 (lv : zL) (st : List Value) (w : zW) (nx K : Nat → zL → List Value → zW → Prop) (Rt : Option Value → zW → Prop) : z_st1 (tX9_passes 94) 94 lv st w nx K Rt = (z_li lv 1 (fun x => nx 95 lv (.int x :: st) w)) := id rfl
theorem sX9_passes_95 (lv : zL) (st : List Value) (w : zW) (nx K : Nat → zL → List Value → zW → Prop) (Rt : Option Value → zW → Prop) : z_st1 (tX9_passes 95) 95 lv st w nx K Rt = (z_ia st (fun x i r => z_ar0 w x (fun m g => vp_in i m ∧ nx 96 lv (.int (g i.toNatClampNeg) :: r) w))) := id rfl
theorem sX9_passes_96 (lv : zL) (st : List Value) (w : zW) (nx K : Nat → zL → List Value → zW → Prop) (Rt : Option Value → zW → Prop) : z_st1 (tX9_passes 96) 96 lv st w nx K Rt = (nx 97 lv (.int (2 : Int32) :: st) w) := id rfl
theorem sX9_passes_97 (lv : zL) (st : List Value) (w : zW) (nx K : Nat → zL → List Value → zW → Prop) (Rt : Option Value → zW → Prop) : z_st1 (tX9_passes 97) 97 lv st w nx K Rt = (z_2i st (fun x y r => ¬ y = 0 ∧ nx 98 lv (.int (x - x / y * y) :: r) w)) := id rfl
theorem sX9_passes_98 (lv : zL) (st : List Value) (w : zW) (nx K : Nat → zL → List Value → zW → Prop) (Rt : Option Value → zW → Prop) : z_st1 (tX9_passes 98) 98 lv st w nx K Rt = (z_1i st (fun x r => (x = 0 → nx 120 lv r w) ∧ (¬ x = 0 → nx 101 lv r w))) := id rfl
theorem sX9_passes_101 (lv : zL) (st : List Value) (w : zW) (nx K : Nat → zL → List Value → zW → Prop) (Rt : Option Value → zW → Prop) : z_st1 (tX9_passes 101) 101 lv st w nx K Rt = (z_la lv 0 (fun x => nx 102 lv (.ref x :: st) w)) := id rfl
theorem sX9_passes_102 (lv : zL) (st : List Value) (w : zW) (nx K : Nat → zL → List Value → zW → Prop) (Rt : Option Value → zW → Prop) : z_st1 (tX9_passes 102) 102 lv st w nx K Rt = (z_1a st (fun x r => z_ob w x 10 (fun fs => z_fl fs 17 (fun u => nx 105 lv (u :: r) w)))) := id rfl
theorem sX9_passes_105 (lv : zL) (st : List Value) (w : zW) (nx K : Nat → zL → List Value → zW → Prop) (Rt : Option Value → zW → Prop) : z_st1 (tX9_passes 105) 105 lv st w nx K Rt = (z_li lv 1 (fun x => nx 106 lv (.int x :: st) w)) := id rfl
theorem sX9_passes_106 (lv : zL) (st : List Value) (w : zW) (nx K : Nat → zL → List Value → zW → Prop) (Rt : Option Value → zW → Prop) : z_st1 (tX9_passes 106) 106 lv st w nx K Rt = (z_ia st (fun x i r => z_ar0 w x (fun m g => vp_in i m ∧ nx 107 lv (.int (g i.toNatClampNeg) :: r) w))) := id rfl
theorem sX9_passes_107 (lv : zL) (st : List Value) (w : zW) (nx K : Nat → zL → List Value → zW → Prop) (Rt : Option Value → zW → Prop) : z_st1 (tX9_passes 107) 107 lv st w nx K Rt = (nx 108 lv (.int (3 : Int32) :: st) w) := id rfl
theorem sX9_passes_108 (lv : zL) (st : List Value) (w : zW) (nx K : Nat → zL → List Value → zW → Prop) (Rt : Option Value → zW → Prop) : z_st1 (tX9_passes 108) 108 lv st w nx K Rt = (z_2i st (fun x y r => (¬ x = y → nx 124 lv r w) ∧ (x = y → nx 111 lv r w))) := id rfl
theorem sX9_passes_111 (lv : zL) (st : List Value) (w : zW) (nx K : Nat → zL → List Value → zW → Prop) (Rt : Option Value → zW → Prop) : z_st1 (tX9_passes 111) 111 lv st w nx K Rt = (z_la lv 0 (fun x => nx 112 lv (.ref x :: st) w)) := id rfl
theorem sX9_passes_112 (lv : zL) (st : List Value) (w : zW) (nx K : Nat → zL → List Value → zW → Prop) (Rt : Option Value → zW → Prop) : z_st1 (tX9_passes 112) 112 lv st w nx K Rt = (z_1a st (fun x r => z_ob w x 10 (fun fs => z_fl fs 26 (fun u => nx 115 lv (u :: r) w)))) := id rfl
theorem sX9_passes_115 (lv : zL) (st : List Value) (w : zW) (nx K : Nat → zL → List Value → zW → Prop) (Rt : Option Value → zW → Prop) : z_st1 (tX9_passes 115) 115 lv st w nx K Rt = (z_li lv 2 (fun x => nx 116 lv (.int x :: st) w)) := id rfl
theorem sX9_passes_116 (lv : zL) (st : List Value) (w : zW) (nx K : Nat → zL → List Value → zW → Prop) (Rt : Option Value → zW → Prop) : z_st1 (tX9_passes 116) 116 lv st w nx K Rt = (z_ia st (fun x i r => z_ar0 w x (fun m g => vp_in i m ∧ nx 117 lv (.int (g i.toNatClampNeg) :: r) w))) := id rfl
theorem sX9_passes_117 (lv : zL) (st : List Value) (w : zW) (nx K : Nat → zL → List Value → zW → Prop) (Rt : Option Value → zW → Prop) : z_st1 (tX9_passes 117) 117 lv st w nx K Rt = (z_1i st (fun x r => (¬ x = 0 → nx 124 lv r w) ∧ (x = 0 → nx 120 lv r w))) := id rfl
theorem sX9_passes_120 (lv : zL) (st : List Value) (w : zW) (nx K : Nat → zL → List Value → zW → Prop) (Rt : Option Value → zW → Prop) : z_st1 (tX9_passes 120) 120 lv st w nx K Rt = (nx 121 lv (.int (1 : Int32) :: st) w) := id rfl
theorem sX9_passes_121 (lv : zL) (st : List Value) (w : zW) (nx K : Nat → zL → List Value → zW → Prop) (Rt : Option Value → zW → Prop) : z_st1 (tX9_passes 121) 121 lv st w nx K Rt = (nx 125 lv st w) := id rfl
theorem sX9_passes_124 (lv : zL) (st : List Value) (w : zW) (nx K : Nat → zL → List Value → zW → Prop) (Rt : Option Value → zW → Prop) : z_st1 (tX9_passes 124) 124 lv st w nx K Rt = (nx 125 lv (.int (0 : Int32) :: st) w) := id rfl
theorem sX9_passes_125 (lv : zL) (st : List Value) (w : zW) (nx K : Nat → zL → List Value → zW → Prop) (Rt : Option Value → zW → Prop) : z_st1 (tX9_passes 125) 125 lv st w nx K Rt = (z_1i st (fun x r => z_ok1 lv 3 = true ∧ nx 126 (lv.set 3 (some (.int x))) r w)) := id rfl
theorem sX9_passes_126 (lv : zL) (st : List Value) (w : zW) (nx K : Nat → zL → List Value → zW → Prop) (Rt : Option Value → zW → Prop) : z_st1 (tX9_passes 126) 126 lv st w nx K Rt = (z_li lv 3 (fun x => nx 127 lv (.int x :: st) w)) := id rfl
theorem sX9_passes_127 (lv : zL) (st : List Value) (w : zW) (nx K : Nat → zL → List Value → zW → Prop) (Rt : Option Value → zW → Prop) : z_st1 (tX9_passes 127) 127 lv st w nx K Rt = (z_1i st (fun x r => (x = 0 → nx 134 lv r w) ∧ (¬ x = 0 → nx 130 lv r w))) := id rfl
theorem sX9_passes_130 (lv : zL) (st : List Value) (w : zW) (nx K : Nat → zL → List Value → zW → Prop) (Rt : Option Value → zW → Prop) : z_st1 (tX9_passes 130) 130 lv st w nx K Rt = (nx 131 lv (.int (0 : Int32) :: st) w) := id rfl
theorem sX9_passes_131 (lv : zL) (st : List Value) (w : zW) (nx K : Nat → zL → List Value → zW → Prop) (Rt : Option Value → zW → Prop) : z_st1 (tX9_passes 131) 131 lv st w nx K Rt = (nx 135 lv st w) := id rfl
theorem sX9_passes_134 (lv : zL) (st : List Value) (w : zW) (nx K : Nat → zL → List Value → zW → Prop) (Rt : Option Value → zW → Prop) : z_st1 (tX9_passes 134) 134 lv st w nx K Rt = (nx 135 lv (.int (1 : Int32) :: st) w) := id rfl
theorem sX9_passes_135 (lv : zL) (st : List Value) (w : zW) (nx K : Nat → zL → List Value → zW → Prop) (Rt : Option Value → zW → Prop) : z_st1 (tX9_passes 135) 135 lv st w nx K Rt = (z_e1 st (fun x => Rt (some (.int x)) w)) := id rfl

def tmX9_arrange (pc : Nat) : zI := match pc with
  | 0 => (6, 0, 0, 1, 0)
  | 1 => (3, 2, 0, 2, 0)
  | 2 => (0, 2, 0, 3, 0)
  | 3 => (1, 0, 0, 4, 0)
  | 4 => (46, 10, 30, 7, 0)
  | 7 => (43, 146, 0, 10, 0)
  | 10 => (0, 2, 0, 11, 0)
  | 11 => (3, 3, 0, 12, 0)
  | 12 => (0, 3, 0, 13, 0)
  | 13 => (39, 20, 0, 16, 0)
  | 16 => (6, 0, 0, 17, 1)
  | 17 => (33, 21, 0, 20, 0)
  | 20 => (6, 0, 0, 21, 0)
  | 21 => (3, 4, 0, 23, 0)
  | 23 => (0, 4, 0, 25, 0)
  | 25 => (34, 133, 0, 28, 0)
  | 28 => (1, 0, 0, 29, 0)
  | 29 => (46, 10, 28, 32, 0)
  | 32 => (0, 3, 0, 33, 0)
  | 33 => (6, 0, 0, 34, 1)
  | 34 => (9, 0, 0, 35, 0)
  | 35 => (48, 0, 0, 36, 0)
  | 36 => (3, 5, 0, 38, 0)
  | 38 => (1, 0, 0, 39, 0)
  | 39 => (1, 0, 0, 40, 0)
  | 40 => (46, 10, 25, 43, 0)
  | 43 => (6, 0, 0, 45, 32)
  | 45 => (0, 5, 0, 47, 0)
  | 47 => (10, 0, 0, 48, 0)
  | 48 => (1, 0, 0, 49, 0)
  | 49 => (46, 10, 25, 52, 0)
  | 52 => (6, 0, 0, 54, 32)
  | 54 => (0, 2, 0, 55, 0)
  | 55 => (10, 0, 0, 56, 0)
  | 59 => (3, 6, 0, 61, 0)
  | 61 => (0, 6, 0, 63, 0)
  | 63 => (38, 91, 0, 66, 0)
  | 66 => (0, 6, 0, 68, 0)
  | 68 => (35, 95, 0, 71, 0)
  | 71 => (0, 1, 0, 72, 0)
  | 72 => (34, 95, 0, 75, 0)
  | 75 => (1, 0, 0, 76, 0)
  | 76 => (46, 10, 27, 79, 0)
  | 79 => (0, 5, 0, 81, 0)
  | 81 => (48, 0, 0, 82, 0)
  | 82 => (1, 0, 0, 83, 0)
  | 83 => (46, 10, 27, 86, 0)
  | 86 => (0, 2, 0, 87, 0)
  | 87 => (48, 0, 0, 88, 0)
  | 88 => (45, 95, 0, 91, 0)
  | 91 => (6, 0, 0, 92, 1)
  | 92 => (33, 96, 0, 95, 0)
  | 95 => (6, 0, 0, 96, 0)
  | 96 => (3, 7, 0, 98, 0)
  | 98 => (0, 7, 0, 100, 0)
  | 100 => (34, 114, 0, 103, 0)
  | 103 => (1, 0, 0, 104, 0)
  | 104 => (46, 10, 28, 107, 0)
  | 107 => (0, 3, 0, 108, 0)
  | 108 => (0, 5, 0, 110, 0)
  | 110 => (49, 0, 0, 111, 0)
  | 111 => (7, 3, 0, 114, (-1))
  | 114 => (0, 7, 0, 116, 0)
  | 116 => (34, 127, 0, 119, 0)
  | 119 => (0, 3, 0, 120, 0)
  | 120 => (39, 127, 0, 123, 0)
  | 123 => (6, 0, 0, 124, 1)
  | 124 => (33, 128, 0, 127, 0)
  | 127 => (6, 0, 0, 128, 0)
  | 128 => (3, 4, 0, 130, 0)
  | 130 => (33, 23, 0, 133, 0)
  | 133 => (1, 0, 0, 134, 0)
  | 134 => (46, 10, 28, 137, 0)
  | 137 => (0, 3, 0, 138, 0)
  | 138 => (0, 2, 0, 139, 0)
  | 139 => (49, 0, 0, 140, 0)
  | 140 => (7, 2, 0, 143, 1)
  | 143 => (33, 2, 0, 146, 0)
  | 146 => (55, 0, 0, 147, 0)
  | _ => (99, 0, 0, 0, 0)
def tX9_arrange (pc : Nat) : zI := if pc < 147 then tmX9_arrange pc else (99, 0, 0, 0, 0)
theorem tkX9_arrange : z_tab RX9 wsX9_arrange 8 none cX9_arrange 147 tX9_arrange := z_tab_of (tm := tmX9_arrange) (by decide +kernel)
theorem sX9_arrange_0 (lv : zL) (st : List Value) (w : zW) (nx K : Nat → zL → List Value → zW → Prop) (Rt : Option Value → zW → Prop) : z_st1 (tX9_arrange 0) 0 lv st w nx K Rt = (nx 1 lv (.int (0 : Int32) :: st) w) := id rfl
theorem sX9_arrange_1 (lv : zL) (st : List Value) (w : zW) (nx K : Nat → zL → List Value → zW → Prop) (Rt : Option Value → zW → Prop) : z_st1 (tX9_arrange 1) 1 lv st w nx K Rt = (z_1i st (fun x r => z_ok1 lv 2 = true ∧ nx 2 (lv.set 2 (some (.int x))) r w)) := id rfl
theorem sX9_arrange_2 (lv : zL) (st : List Value) (w : zW) (nx K : Nat → zL → List Value → zW → Prop) (Rt : Option Value → zW → Prop) : z_st1 (tX9_arrange 2) 2 lv st w nx K Rt = (z_li lv 2 (fun x => nx 3 lv (.int x :: st) w)) := id rfl
theorem sX9_arrange_3 (lv : zL) (st : List Value) (w : zW) (nx K : Nat → zL → List Value → zW → Prop) (Rt : Option Value → zW → Prop) : z_st1 (tX9_arrange 3) 3 lv st w nx K Rt = (z_la lv 0 (fun x => nx 4 lv (.ref x :: st) w)) := id rfl
theorem sX9_arrange_4 (lv : zL) (st : List Value) (w : zW) (nx K : Nat → zL → List Value → zW → Prop) (Rt : Option Value → zW → Prop) : z_st1 (tX9_arrange 4) 4 lv st w nx K Rt = (z_1a st (fun x r => z_ob w x 10 (fun fs => z_fl fs 30 (fun u => nx 7 lv (u :: r) w)))) := id rfl
theorem sX9_arrange_7 (lv : zL) (st : List Value) (w : zW) (nx K : Nat → zL → List Value → zW → Prop) (Rt : Option Value → zW → Prop) : z_st1 (tX9_arrange 7) 7 lv st w nx K Rt = (z_2i st (fun x y r => (y ≤ x → nx 146 lv r w) ∧ (¬ y ≤ x → nx 10 lv r w))) := id rfl
theorem sX9_arrange_10 (lv : zL) (st : List Value) (w : zW) (nx K : Nat → zL → List Value → zW → Prop) (Rt : Option Value → zW → Prop) : z_st1 (tX9_arrange 10) 10 lv st w nx K Rt = (z_li lv 2 (fun x => nx 11 lv (.int x :: st) w)) := id rfl
theorem sX9_arrange_11 (lv : zL) (st : List Value) (w : zW) (nx K : Nat → zL → List Value → zW → Prop) (Rt : Option Value → zW → Prop) : z_st1 (tX9_arrange 11) 11 lv st w nx K Rt = (z_1i st (fun x r => z_ok1 lv 3 = true ∧ nx 12 (lv.set 3 (some (.int x))) r w)) := id rfl
theorem sX9_arrange_12 (lv : zL) (st : List Value) (w : zW) (nx K : Nat → zL → List Value → zW → Prop) (Rt : Option Value → zW → Prop) : z_st1 (tX9_arrange 12) 12 lv st w nx K Rt = (z_li lv 3 (fun x => nx 13 lv (.int x :: st) w)) := id rfl
theorem sX9_arrange_13 (lv : zL) (st : List Value) (w : zW) (nx K : Nat → zL → List Value → zW → Prop) (Rt : Option Value → zW → Prop) : z_st1 (tX9_arrange 13) 13 lv st w nx K Rt = (z_1i st (fun x r => (x ≤ 0 → nx 20 lv r w) ∧ (¬ x ≤ 0 → nx 16 lv r w))) := id rfl
theorem sX9_arrange_16 (lv : zL) (st : List Value) (w : zW) (nx K : Nat → zL → List Value → zW → Prop) (Rt : Option Value → zW → Prop) : z_st1 (tX9_arrange 16) 16 lv st w nx K Rt = (nx 17 lv (.int (1 : Int32) :: st) w) := id rfl
theorem sX9_arrange_17 (lv : zL) (st : List Value) (w : zW) (nx K : Nat → zL → List Value → zW → Prop) (Rt : Option Value → zW → Prop) : z_st1 (tX9_arrange 17) 17 lv st w nx K Rt = (nx 21 lv st w) := id rfl
theorem sX9_arrange_20 (lv : zL) (st : List Value) (w : zW) (nx K : Nat → zL → List Value → zW → Prop) (Rt : Option Value → zW → Prop) : z_st1 (tX9_arrange 20) 20 lv st w nx K Rt = (nx 21 lv (.int (0 : Int32) :: st) w) := id rfl
theorem sX9_arrange_21 (lv : zL) (st : List Value) (w : zW) (nx K : Nat → zL → List Value → zW → Prop) (Rt : Option Value → zW → Prop) : z_st1 (tX9_arrange 21) 21 lv st w nx K Rt = (z_1i st (fun x r => z_ok1 lv 4 = true ∧ nx 23 (lv.set 4 (some (.int x))) r w)) := id rfl
theorem sX9_arrange_23 (lv : zL) (st : List Value) (w : zW) (nx K : Nat → zL → List Value → zW → Prop) (Rt : Option Value → zW → Prop) : z_st1 (tX9_arrange 23) 23 lv st w nx K Rt = (z_li lv 4 (fun x => nx 25 lv (.int x :: st) w)) := id rfl
theorem sX9_arrange_25 (lv : zL) (st : List Value) (w : zW) (nx K : Nat → zL → List Value → zW → Prop) (Rt : Option Value → zW → Prop) : z_st1 (tX9_arrange 25) 25 lv st w nx K Rt = (z_1i st (fun x r => (x = 0 → nx 133 lv r w) ∧ (¬ x = 0 → nx 28 lv r w))) := id rfl
theorem sX9_arrange_28 (lv : zL) (st : List Value) (w : zW) (nx K : Nat → zL → List Value → zW → Prop) (Rt : Option Value → zW → Prop) : z_st1 (tX9_arrange 28) 28 lv st w nx K Rt = (z_la lv 0 (fun x => nx 29 lv (.ref x :: st) w)) := id rfl
theorem sX9_arrange_29 (lv : zL) (st : List Value) (w : zW) (nx K : Nat → zL → List Value → zW → Prop) (Rt : Option Value → zW → Prop) : z_st1 (tX9_arrange 29) 29 lv st w nx K Rt = (z_1a st (fun x r => z_ob w x 10 (fun fs => z_fl fs 28 (fun u => nx 32 lv (u :: r) w)))) := id rfl
theorem sX9_arrange_32 (lv : zL) (st : List Value) (w : zW) (nx K : Nat → zL → List Value → zW → Prop) (Rt : Option Value → zW → Prop) : z_st1 (tX9_arrange 32) 32 lv st w nx K Rt = (z_li lv 3 (fun x => nx 33 lv (.int x :: st) w)) := id rfl
theorem sX9_arrange_33 (lv : zL) (st : List Value) (w : zW) (nx K : Nat → zL → List Value → zW → Prop) (Rt : Option Value → zW → Prop) : z_st1 (tX9_arrange 33) 33 lv st w nx K Rt = (nx 34 lv (.int (1 : Int32) :: st) w) := id rfl
theorem sX9_arrange_34 (lv : zL) (st : List Value) (w : zW) (nx K : Nat → zL → List Value → zW → Prop) (Rt : Option Value → zW → Prop) : z_st1 (tX9_arrange 34) 34 lv st w nx K Rt = (z_2i st (fun x y r => nx 35 lv (.int (x - y) :: r) w)) := id rfl
theorem sX9_arrange_35 (lv : zL) (st : List Value) (w : zW) (nx K : Nat → zL → List Value → zW → Prop) (Rt : Option Value → zW → Prop) : z_st1 (tX9_arrange 35) 35 lv st w nx K Rt = (z_ia st (fun x i r => z_ar0 w x (fun m g => vp_in i m ∧ nx 36 lv (.int (g i.toNatClampNeg) :: r) w))) := id rfl
theorem sX9_arrange_36 (lv : zL) (st : List Value) (w : zW) (nx K : Nat → zL → List Value → zW → Prop) (Rt : Option Value → zW → Prop) : z_st1 (tX9_arrange 36) 36 lv st w nx K Rt = (z_1i st (fun x r => z_ok1 lv 5 = true ∧ nx 38 (lv.set 5 (some (.int x))) r w)) := id rfl
theorem sX9_arrange_38 (lv : zL) (st : List Value) (w : zW) (nx K : Nat → zL → List Value → zW → Prop) (Rt : Option Value → zW → Prop) : z_st1 (tX9_arrange 38) 38 lv st w nx K Rt = (z_la lv 0 (fun x => nx 39 lv (.ref x :: st) w)) := id rfl
theorem sX9_arrange_39 (lv : zL) (st : List Value) (w : zW) (nx K : Nat → zL → List Value → zW → Prop) (Rt : Option Value → zW → Prop) : z_st1 (tX9_arrange 39) 39 lv st w nx K Rt = (z_la lv 0 (fun x => nx 40 lv (.ref x :: st) w)) := id rfl
theorem sX9_arrange_40 (lv : zL) (st : List Value) (w : zW) (nx K : Nat → zL → List Value → zW → Prop) (Rt : Option Value → zW → Prop) : z_st1 (tX9_arrange 40) 40 lv st w nx K Rt = (z_1a st (fun x r => z_ob w x 10 (fun fs => z_fl fs 25 (fun u => nx 43 lv (u :: r) w)))) := id rfl
theorem sX9_arrange_43 (lv : zL) (st : List Value) (w : zW) (nx K : Nat → zL → List Value → zW → Prop) (Rt : Option Value → zW → Prop) : z_st1 (tX9_arrange 43) 43 lv st w nx K Rt = (nx 45 lv (.int (32 : Int32) :: st) w) := id rfl
theorem sX9_arrange_45 (lv : zL) (st : List Value) (w : zW) (nx K : Nat → zL → List Value → zW → Prop) (Rt : Option Value → zW → Prop) : z_st1 (tX9_arrange 45) 45 lv st w nx K Rt = (z_li lv 5 (fun x => nx 47 lv (.int x :: st) w)) := id rfl
theorem sX9_arrange_47 (lv : zL) (st : List Value) (w : zW) (nx K : Nat → zL → List Value → zW → Prop) (Rt : Option Value → zW → Prop) : z_st1 (tX9_arrange 47) 47 lv st w nx K Rt = (z_2i st (fun x y r => nx 48 lv (.int (x * y) :: r) w)) := id rfl
theorem sX9_arrange_48 (lv : zL) (st : List Value) (w : zW) (nx K : Nat → zL → List Value → zW → Prop) (Rt : Option Value → zW → Prop) : z_st1 (tX9_arrange 48) 48 lv st w nx K Rt = (z_la lv 0 (fun x => nx 49 lv (.ref x :: st) w)) := id rfl
theorem sX9_arrange_49 (lv : zL) (st : List Value) (w : zW) (nx K : Nat → zL → List Value → zW → Prop) (Rt : Option Value → zW → Prop) : z_st1 (tX9_arrange 49) 49 lv st w nx K Rt = (z_1a st (fun x r => z_ob w x 10 (fun fs => z_fl fs 25 (fun u => nx 52 lv (u :: r) w)))) := id rfl
theorem sX9_arrange_52 (lv : zL) (st : List Value) (w : zW) (nx K : Nat → zL → List Value → zW → Prop) (Rt : Option Value → zW → Prop) : z_st1 (tX9_arrange 52) 52 lv st w nx K Rt = (nx 54 lv (.int (32 : Int32) :: st) w) := id rfl
theorem sX9_arrange_54 (lv : zL) (st : List Value) (w : zW) (nx K : Nat → zL → List Value → zW → Prop) (Rt : Option Value → zW → Prop) : z_st1 (tX9_arrange 54) 54 lv st w nx K Rt = (z_li lv 2 (fun x => nx 55 lv (.int x :: st) w)) := id rfl
theorem sX9_arrange_55 (lv : zL) (st : List Value) (w : zW) (nx K : Nat → zL → List Value → zW → Prop) (Rt : Option Value → zW → Prop) : z_st1 (tX9_arrange 55) 55 lv st w nx K Rt = (z_2i st (fun x y r => nx 56 lv (.int (x * y) :: r) w)) := id rfl
theorem sX9_arrange_59 (lv : zL) (st : List Value) (w : zW) (nx K : Nat → zL → List Value → zW → Prop) (Rt : Option Value → zW → Prop) : z_st1 (tX9_arrange 59) 59 lv st w nx K Rt = (z_1i st (fun x r => z_ok1 lv 6 = true ∧ nx 61 (lv.set 6 (some (.int x))) r w)) := id rfl
theorem sX9_arrange_61 (lv : zL) (st : List Value) (w : zW) (nx K : Nat → zL → List Value → zW → Prop) (Rt : Option Value → zW → Prop) : z_st1 (tX9_arrange 61) 61 lv st w nx K Rt = (z_li lv 6 (fun x => nx 63 lv (.int x :: st) w)) := id rfl
theorem sX9_arrange_63 (lv : zL) (st : List Value) (w : zW) (nx K : Nat → zL → List Value → zW → Prop) (Rt : Option Value → zW → Prop) : z_st1 (tX9_arrange 63) 63 lv st w nx K Rt = (z_1i st (fun x r => (0 < x → nx 91 lv r w) ∧ (¬ 0 < x → nx 66 lv r w))) := id rfl
theorem sX9_arrange_66 (lv : zL) (st : List Value) (w : zW) (nx K : Nat → zL → List Value → zW → Prop) (Rt : Option Value → zW → Prop) : z_st1 (tX9_arrange 66) 66 lv st w nx K Rt = (z_li lv 6 (fun x => nx 68 lv (.int x :: st) w)) := id rfl
theorem sX9_arrange_68 (lv : zL) (st : List Value) (w : zW) (nx K : Nat → zL → List Value → zW → Prop) (Rt : Option Value → zW → Prop) : z_st1 (tX9_arrange 68) 68 lv st w nx K Rt = (z_1i st (fun x r => (¬ x = 0 → nx 95 lv r w) ∧ (x = 0 → nx 71 lv r w))) := id rfl
theorem sX9_arrange_71 (lv : zL) (st : List Value) (w : zW) (nx K : Nat → zL → List Value → zW → Prop) (Rt : Option Value → zW → Prop) : z_st1 (tX9_arrange 71) 71 lv st w nx K Rt = (z_li lv 1 (fun x => nx 72 lv (.int x :: st) w)) := id rfl
theorem sX9_arrange_72 (lv : zL) (st : List Value) (w : zW) (nx K : Nat → zL → List Value → zW → Prop) (Rt : Option Value → zW → Prop) : z_st1 (tX9_arrange 72) 72 lv st w nx K Rt = (z_1i st (fun x r => (x = 0 → nx 95 lv r w) ∧ (¬ x = 0 → nx 75 lv r w))) := id rfl
theorem sX9_arrange_75 (lv : zL) (st : List Value) (w : zW) (nx K : Nat → zL → List Value → zW → Prop) (Rt : Option Value → zW → Prop) : z_st1 (tX9_arrange 75) 75 lv st w nx K Rt = (z_la lv 0 (fun x => nx 76 lv (.ref x :: st) w)) := id rfl
theorem sX9_arrange_76 (lv : zL) (st : List Value) (w : zW) (nx K : Nat → zL → List Value → zW → Prop) (Rt : Option Value → zW → Prop) : z_st1 (tX9_arrange 76) 76 lv st w nx K Rt = (z_1a st (fun x r => z_ob w x 10 (fun fs => z_fl fs 27 (fun u => nx 79 lv (u :: r) w)))) := id rfl
theorem sX9_arrange_79 (lv : zL) (st : List Value) (w : zW) (nx K : Nat → zL → List Value → zW → Prop) (Rt : Option Value → zW → Prop) : z_st1 (tX9_arrange 79) 79 lv st w nx K Rt = (z_li lv 5 (fun x => nx 81 lv (.int x :: st) w)) := id rfl
theorem sX9_arrange_81 (lv : zL) (st : List Value) (w : zW) (nx K : Nat → zL → List Value → zW → Prop) (Rt : Option Value → zW → Prop) : z_st1 (tX9_arrange 81) 81 lv st w nx K Rt = (z_ia st (fun x i r => z_ar0 w x (fun m g => vp_in i m ∧ nx 82 lv (.int (g i.toNatClampNeg) :: r) w))) := id rfl
theorem sX9_arrange_82 (lv : zL) (st : List Value) (w : zW) (nx K : Nat → zL → List Value → zW → Prop) (Rt : Option Value → zW → Prop) : z_st1 (tX9_arrange 82) 82 lv st w nx K Rt = (z_la lv 0 (fun x => nx 83 lv (.ref x :: st) w)) := id rfl
theorem sX9_arrange_83 (lv : zL) (st : List Value) (w : zW) (nx K : Nat → zL → List Value → zW → Prop) (Rt : Option Value → zW → Prop) : z_st1 (tX9_arrange 83) 83 lv st w nx K Rt = (z_1a st (fun x r => z_ob w x 10 (fun fs => z_fl fs 27 (fun u => nx 86 lv (u :: r) w)))) := id rfl
theorem sX9_arrange_86 (lv : zL) (st : List Value) (w : zW) (nx K : Nat → zL → List Value → zW → Prop) (Rt : Option Value → zW → Prop) : z_st1 (tX9_arrange 86) 86 lv st w nx K Rt = (z_li lv 2 (fun x => nx 87 lv (.int x :: st) w)) := id rfl
theorem sX9_arrange_87 (lv : zL) (st : List Value) (w : zW) (nx K : Nat → zL → List Value → zW → Prop) (Rt : Option Value → zW → Prop) : z_st1 (tX9_arrange 87) 87 lv st w nx K Rt = (z_ia st (fun x i r => z_ar0 w x (fun m g => vp_in i m ∧ nx 88 lv (.int (g i.toNatClampNeg) :: r) w))) := id rfl
theorem sX9_arrange_88 (lv : zL) (st : List Value) (w : zW) (nx K : Nat → zL → List Value → zW → Prop) (Rt : Option Value → zW → Prop) : z_st1 (tX9_arrange 88) 88 lv st w nx K Rt = (z_2i st (fun x y r => (x ≤ y → nx 95 lv r w) ∧ (¬ x ≤ y → nx 91 lv r w))) := id rfl
theorem sX9_arrange_91 (lv : zL) (st : List Value) (w : zW) (nx K : Nat → zL → List Value → zW → Prop) (Rt : Option Value → zW → Prop) : z_st1 (tX9_arrange 91) 91 lv st w nx K Rt = (nx 92 lv (.int (1 : Int32) :: st) w) := id rfl
theorem sX9_arrange_92 (lv : zL) (st : List Value) (w : zW) (nx K : Nat → zL → List Value → zW → Prop) (Rt : Option Value → zW → Prop) : z_st1 (tX9_arrange 92) 92 lv st w nx K Rt = (nx 96 lv st w) := id rfl
theorem sX9_arrange_95 (lv : zL) (st : List Value) (w : zW) (nx K : Nat → zL → List Value → zW → Prop) (Rt : Option Value → zW → Prop) : z_st1 (tX9_arrange 95) 95 lv st w nx K Rt = (nx 96 lv (.int (0 : Int32) :: st) w) := id rfl
theorem sX9_arrange_96 (lv : zL) (st : List Value) (w : zW) (nx K : Nat → zL → List Value → zW → Prop) (Rt : Option Value → zW → Prop) : z_st1 (tX9_arrange 96) 96 lv st w nx K Rt = (z_1i st (fun x r => z_ok1 lv 7 = true ∧ nx 98 (lv.set 7 (some (.int x))) r w)) := id rfl
theorem sX9_arrange_98 (lv : zL) (st : List Value) (w : zW) (nx K : Nat → zL → List Value → zW → Prop) (Rt : Option Value → zW → Prop) : z_st1 (tX9_arrange 98) 98 lv st w nx K Rt = (z_li lv 7 (fun x => nx 100 lv (.int x :: st) w)) := id rfl
theorem sX9_arrange_100 (lv : zL) (st : List Value) (w : zW) (nx K : Nat → zL → List Value → zW → Prop) (Rt : Option Value → zW → Prop) : z_st1 (tX9_arrange 100) 100 lv st w nx K Rt = (z_1i st (fun x r => (x = 0 → nx 114 lv r w) ∧ (¬ x = 0 → nx 103 lv r w))) := id rfl
theorem sX9_arrange_103 (lv : zL) (st : List Value) (w : zW) (nx K : Nat → zL → List Value → zW → Prop) (Rt : Option Value → zW → Prop) : z_st1 (tX9_arrange 103) 103 lv st w nx K Rt = (z_la lv 0 (fun x => nx 104 lv (.ref x :: st) w)) := id rfl
theorem sX9_arrange_104 (lv : zL) (st : List Value) (w : zW) (nx K : Nat → zL → List Value → zW → Prop) (Rt : Option Value → zW → Prop) : z_st1 (tX9_arrange 104) 104 lv st w nx K Rt = (z_1a st (fun x r => z_ob w x 10 (fun fs => z_fl fs 28 (fun u => nx 107 lv (u :: r) w)))) := id rfl
theorem sX9_arrange_107 (lv : zL) (st : List Value) (w : zW) (nx K : Nat → zL → List Value → zW → Prop) (Rt : Option Value → zW → Prop) : z_st1 (tX9_arrange 107) 107 lv st w nx K Rt = (z_li lv 3 (fun x => nx 108 lv (.int x :: st) w)) := id rfl
theorem sX9_arrange_108 (lv : zL) (st : List Value) (w : zW) (nx K : Nat → zL → List Value → zW → Prop) (Rt : Option Value → zW → Prop) : z_st1 (tX9_arrange 108) 108 lv st w nx K Rt = (z_li lv 5 (fun x => nx 110 lv (.int x :: st) w)) := id rfl
theorem sX9_arrange_110 (lv : zL) (st : List Value) (w : zW) (nx K : Nat → zL → List Value → zW → Prop) (Rt : Option Value → zW → Prop) : z_st1 (tX9_arrange 110) 110 lv st w nx K Rt = (z_iia st (fun x i u r => z_ar0 w x (fun m g => vp_in i m ∧ nx 111 lv r (z_up w x (.inl (0, m, .inl (upd g i.toNatClampNeg u))))))) := id rfl
theorem sX9_arrange_111 (lv : zL) (st : List Value) (w : zW) (nx K : Nat → zL → List Value → zW → Prop) (Rt : Option Value → zW → Prop) : z_st1 (tX9_arrange 111) 111 lv st w nx K Rt = (z_li lv 3 (fun x => z_ok1 lv 3 = true ∧ nx 114 (lv.set 3 (some (.int (x + (-1 : Int32))))) st w)) := id rfl
theorem sX9_arrange_114 (lv : zL) (st : List Value) (w : zW) (nx K : Nat → zL → List Value → zW → Prop) (Rt : Option Value → zW → Prop) : z_st1 (tX9_arrange 114) 114 lv st w nx K Rt = (z_li lv 7 (fun x => nx 116 lv (.int x :: st) w)) := id rfl
theorem sX9_arrange_116 (lv : zL) (st : List Value) (w : zW) (nx K : Nat → zL → List Value → zW → Prop) (Rt : Option Value → zW → Prop) : z_st1 (tX9_arrange 116) 116 lv st w nx K Rt = (z_1i st (fun x r => (x = 0 → nx 127 lv r w) ∧ (¬ x = 0 → nx 119 lv r w))) := id rfl
theorem sX9_arrange_119 (lv : zL) (st : List Value) (w : zW) (nx K : Nat → zL → List Value → zW → Prop) (Rt : Option Value → zW → Prop) : z_st1 (tX9_arrange 119) 119 lv st w nx K Rt = (z_li lv 3 (fun x => nx 120 lv (.int x :: st) w)) := id rfl
theorem sX9_arrange_120 (lv : zL) (st : List Value) (w : zW) (nx K : Nat → zL → List Value → zW → Prop) (Rt : Option Value → zW → Prop) : z_st1 (tX9_arrange 120) 120 lv st w nx K Rt = (z_1i st (fun x r => (x ≤ 0 → nx 127 lv r w) ∧ (¬ x ≤ 0 → nx 123 lv r w))) := id rfl
theorem sX9_arrange_123 (lv : zL) (st : List Value) (w : zW) (nx K : Nat → zL → List Value → zW → Prop) (Rt : Option Value → zW → Prop) : z_st1 (tX9_arrange 123) 123 lv st w nx K Rt = (nx 124 lv (.int (1 : Int32) :: st) w) := id rfl
theorem sX9_arrange_124 (lv : zL) (st : List Value) (w : zW) (nx K : Nat → zL → List Value → zW → Prop) (Rt : Option Value → zW → Prop) : z_st1 (tX9_arrange 124) 124 lv st w nx K Rt = (nx 128 lv st w) := id rfl
theorem sX9_arrange_127 (lv : zL) (st : List Value) (w : zW) (nx K : Nat → zL → List Value → zW → Prop) (Rt : Option Value → zW → Prop) : z_st1 (tX9_arrange 127) 127 lv st w nx K Rt = (nx 128 lv (.int (0 : Int32) :: st) w) := id rfl
theorem sX9_arrange_128 (lv : zL) (st : List Value) (w : zW) (nx K : Nat → zL → List Value → zW → Prop) (Rt : Option Value → zW → Prop) : z_st1 (tX9_arrange 128) 128 lv st w nx K Rt = (z_1i st (fun x r => z_ok1 lv 4 = true ∧ nx 130 (lv.set 4 (some (.int x))) r w)) := id rfl
theorem sX9_arrange_130 (lv : zL) (st : List Value) (w : zW) (nx K : Nat → zL → List Value → zW → Prop) (Rt : Option Value → zW → Prop) : z_st1 (tX9_arrange 130) 130 lv st w nx K Rt = (nx 23 lv st w) := id rfl
theorem sX9_arrange_133 (lv : zL) (st : List Value) (w : zW) (nx K : Nat → zL → List Value → zW → Prop) (Rt : Option Value → zW → Prop) : z_st1 (tX9_arrange 133) 133 lv st w nx K Rt = (z_la lv 0 (fun x => nx 134 lv (.ref x :: st) w)) := id rfl
theorem sX9_arrange_134 (lv : zL) (st : List Value) (w : zW) (nx K : Nat → zL → List Value → zW → Prop) (Rt : Option Value → zW → Prop) : z_st1 (tX9_arrange 134) 134 lv st w nx K Rt = (z_1a st (fun x r => z_ob w x 10 (fun fs => z_fl fs 28 (fun u => nx 137 lv (u :: r) w)))) := id rfl
theorem sX9_arrange_137 (lv : zL) (st : List Value) (w : zW) (nx K : Nat → zL → List Value → zW → Prop) (Rt : Option Value → zW → Prop) : z_st1 (tX9_arrange 137) 137 lv st w nx K Rt = (z_li lv 3 (fun x => nx 138 lv (.int x :: st) w)) := id rfl
theorem sX9_arrange_138 (lv : zL) (st : List Value) (w : zW) (nx K : Nat → zL → List Value → zW → Prop) (Rt : Option Value → zW → Prop) : z_st1 (tX9_arrange 138) 138 lv st w nx K Rt = (z_li lv 2 (fun x => nx 139 lv (.int x :: st) w)) := id rfl
theorem sX9_arrange_139 (lv : zL) (st : List Value) (w : zW) (nx K : Nat → zL → List Value → zW → Prop) (Rt : Option Value → zW → Prop) : z_st1 (tX9_arrange 139) 139 lv st w nx K Rt = (z_iia st (fun x i u r => z_ar0 w x (fun m g => vp_in i m ∧ nx 140 lv r (z_up w x (.inl (0, m, .inl (upd g i.toNatClampNeg u))))))) := id rfl
theorem sX9_arrange_140 (lv : zL) (st : List Value) (w : zW) (nx K : Nat → zL → List Value → zW → Prop) (Rt : Option Value → zW → Prop) : z_st1 (tX9_arrange 140) 140 lv st w nx K Rt = (z_li lv 2 (fun x => z_ok1 lv 2 = true ∧ nx 143 (lv.set 2 (some (.int (x + (1 : Int32))))) st w)) := id rfl
theorem sX9_arrange_143 (lv : zL) (st : List Value) (w : zW) (nx K : Nat → zL → List Value → zW → Prop) (Rt : Option Value → zW → Prop) : z_st1 (tX9_arrange 143) 143 lv st w nx K Rt = (nx 2 lv st w) := id rfl
theorem sX9_arrange_146 (lv : zL) (st : List Value) (w : zW) (nx K : Nat → zL → List Value → zW → Prop) (Rt : Option Value → zW → Prop) : z_st1 (tX9_arrange 146) 146 lv st w nx K Rt = (z_e0 st (Rt none w)) := id rfl
theorem sX9_arrange_56 (lv : zL) (st : List Value) (w : zW) (nx K : Nat → zL → List Value → zW → Prop) (Rt : Option Value → zW → Prop) : z_st1 (tX9_arrange 56) 56 lv st w nx K Rt = K 56 lv st w := id rfl
theorem dX9_arrange_56 : decode cX9_arrange 56 = .ok (.invokevirtual 123, 3) := by decide +kernel

def tmX9_has (pc : Nat) : zI := match pc with
  | 0 => (1, 0, 0, 1, 0)
  | 1 => (46, 10, 26, 4, 0)
  | 4 => (0, 2, 0, 5, 0)
  | 5 => (48, 0, 0, 6, 0)
  | 6 => (1, 0, 0, 7, 0)
  | 7 => (46, 10, 15, 10, 0)
  | 10 => (0, 1, 0, 11, 0)
  | 11 => (48, 0, 0, 12, 0)
  | 12 => (1, 0, 0, 13, 0)
  | 13 => (46, 10, 16, 16, 0)
  | 16 => (0, 1, 0, 17, 0)
  | 17 => (48, 0, 0, 18, 0)
  | 18 => (8, 0, 0, 19, 0)
  | 19 => (42, 26, 0, 22, 0)
  | 22 => (6, 0, 0, 23, 1)
  | 23 => (33, 27, 0, 26, 0)
  | 26 => (6, 0, 0, 27, 0)
  | 27 => (58, 0, 0, 28, 0)
  | _ => (99, 0, 0, 0, 0)
def tX9_has (pc : Nat) : zI := if pc < 28 then tmX9_has pc else (99, 0, 0, 0, 0)
theorem tkX9_has : z_tab RX9 wsX9_has 3 (some .boolean) cX9_has 28 tX9_has := z_tab_of (tm := tmX9_has) (by decide +kernel)
theorem sX9_has_0 (lv : zL) (st : List Value) (w : zW) (nx K : Nat → zL → List Value → zW → Prop) (Rt : Option Value → zW → Prop) : z_st1 (tX9_has 0) 0 lv st w nx K Rt = (z_la lv 0 (fun x => nx 1 lv (.ref x :: st) w)) := id rfl
theorem sX9_has_1 (lv : zL) (st : List Value) (w : zW) (nx K : Nat → zL → List Value → zW → Prop) (Rt : Option Value → zW → Prop) : z_st1 (tX9_has 1) 1 lv st w nx K Rt = (z_1a st (fun x r => z_ob w x 10 (fun fs => z_fl fs 26 (fun u => nx 4 lv (u :: r) w)))) := id rfl
theorem sX9_has_4 (lv : zL) (st : List Value) (w : zW) (nx K : Nat → zL → List Value → zW → Prop) (Rt : Option Value → zW → Prop) : z_st1 (tX9_has 4) 4 lv st w nx K Rt = (z_li lv 2 (fun x => nx 5 lv (.int x :: st) w)) := id rfl
theorem sX9_has_5 (lv : zL) (st : List Value) (w : zW) (nx K : Nat → zL → List Value → zW → Prop) (Rt : Option Value → zW → Prop) : z_st1 (tX9_has 5) 5 lv st w nx K Rt = (z_ia st (fun x i r => z_ar0 w x (fun m g => vp_in i m ∧ nx 6 lv (.int (g i.toNatClampNeg) :: r) w))) := id rfl
theorem sX9_has_6 (lv : zL) (st : List Value) (w : zW) (nx K : Nat → zL → List Value → zW → Prop) (Rt : Option Value → zW → Prop) : z_st1 (tX9_has 6) 6 lv st w nx K Rt = (z_la lv 0 (fun x => nx 7 lv (.ref x :: st) w)) := id rfl
theorem sX9_has_7 (lv : zL) (st : List Value) (w : zW) (nx K : Nat → zL → List Value → zW → Prop) (Rt : Option Value → zW → Prop) : z_st1 (tX9_has 7) 7 lv st w nx K Rt = (z_1a st (fun x r => z_ob w x 10 (fun fs => z_fl fs 15 (fun u => nx 10 lv (u :: r) w)))) := id rfl
theorem sX9_has_10 (lv : zL) (st : List Value) (w : zW) (nx K : Nat → zL → List Value → zW → Prop) (Rt : Option Value → zW → Prop) : z_st1 (tX9_has 10) 10 lv st w nx K Rt = (z_li lv 1 (fun x => nx 11 lv (.int x :: st) w)) := id rfl
theorem sX9_has_11 (lv : zL) (st : List Value) (w : zW) (nx K : Nat → zL → List Value → zW → Prop) (Rt : Option Value → zW → Prop) : z_st1 (tX9_has 11) 11 lv st w nx K Rt = (z_ia st (fun x i r => z_ar0 w x (fun m g => vp_in i m ∧ nx 12 lv (.int (g i.toNatClampNeg) :: r) w))) := id rfl
theorem sX9_has_12 (lv : zL) (st : List Value) (w : zW) (nx K : Nat → zL → List Value → zW → Prop) (Rt : Option Value → zW → Prop) : z_st1 (tX9_has 12) 12 lv st w nx K Rt = (z_la lv 0 (fun x => nx 13 lv (.ref x :: st) w)) := id rfl
theorem sX9_has_13 (lv : zL) (st : List Value) (w : zW) (nx K : Nat → zL → List Value → zW → Prop) (Rt : Option Value → zW → Prop) : z_st1 (tX9_has 13) 13 lv st w nx K Rt = (z_1a st (fun x r => z_ob w x 10 (fun fs => z_fl fs 16 (fun u => nx 16 lv (u :: r) w)))) := id rfl
theorem sX9_has_16 (lv : zL) (st : List Value) (w : zW) (nx K : Nat → zL → List Value → zW → Prop) (Rt : Option Value → zW → Prop) : z_st1 (tX9_has 16) 16 lv st w nx K Rt = (z_li lv 1 (fun x => nx 17 lv (.int x :: st) w)) := id rfl
theorem sX9_has_17 (lv : zL) (st : List Value) (w : zW) (nx K : Nat → zL → List Value → zW → Prop) (Rt : Option Value → zW → Prop) : z_st1 (tX9_has 17) 17 lv st w nx K Rt = (z_ia st (fun x i r => z_ar0 w x (fun m g => vp_in i m ∧ nx 18 lv (.int (g i.toNatClampNeg) :: r) w))) := id rfl
theorem sX9_has_18 (lv : zL) (st : List Value) (w : zW) (nx K : Nat → zL → List Value → zW → Prop) (Rt : Option Value → zW → Prop) : z_st1 (tX9_has 18) 18 lv st w nx K Rt = (z_2i st (fun x y r => nx 19 lv (.int (x + y) :: r) w)) := id rfl
theorem sX9_has_19 (lv : zL) (st : List Value) (w : zW) (nx K : Nat → zL → List Value → zW → Prop) (Rt : Option Value → zW → Prop) : z_st1 (tX9_has 19) 19 lv st w nx K Rt = (z_2i st (fun x y r => (x < y → nx 26 lv r w) ∧ (¬ x < y → nx 22 lv r w))) := id rfl
theorem sX9_has_22 (lv : zL) (st : List Value) (w : zW) (nx K : Nat → zL → List Value → zW → Prop) (Rt : Option Value → zW → Prop) : z_st1 (tX9_has 22) 22 lv st w nx K Rt = (nx 23 lv (.int (1 : Int32) :: st) w) := id rfl
theorem sX9_has_23 (lv : zL) (st : List Value) (w : zW) (nx K : Nat → zL → List Value → zW → Prop) (Rt : Option Value → zW → Prop) : z_st1 (tX9_has 23) 23 lv st w nx K Rt = (nx 27 lv st w) := id rfl
theorem sX9_has_26 (lv : zL) (st : List Value) (w : zW) (nx K : Nat → zL → List Value → zW → Prop) (Rt : Option Value → zW → Prop) : z_st1 (tX9_has 26) 26 lv st w nx K Rt = (nx 27 lv (.int (0 : Int32) :: st) w) := id rfl
theorem sX9_has_27 (lv : zL) (st : List Value) (w : zW) (nx K : Nat → zL → List Value → zW → Prop) (Rt : Option Value → zW → Prop) : z_st1 (tX9_has 27) 27 lv st w nx K Rt = (z_e1 st (fun x => (x = 0 ∨ x = 1) ∧ Rt (some (.int x)) w)) := id rfl

def tmX9_overflows (pc : Nat) : zI := match pc with
  | 0 => (6, 0, 0, 1, 0)
  | 1 => (3, 4, 0, 3, 0)
  | 3 => (1, 0, 0, 4, 0)
  | 4 => (46, 10, 16, 7, 0)
  | 7 => (0, 1, 0, 8, 0)
  | 8 => (48, 0, 0, 9, 0)
  | 9 => (6, 0, 0, 10, 1)
  | 10 => (9, 0, 0, 11, 0)
  | 11 => (3, 5, 0, 13, 0)
  | 13 => (0, 5, 0, 15, 0)
  | 15 => (36, 71, 0, 18, 0)
  | 18 => (1, 0, 0, 19, 0)
  | 19 => (46, 10, 25, 22, 0)
  | 22 => (6, 0, 0, 24, 32)
  | 24 => (0, 2, 0, 25, 0)
  | 25 => (10, 0, 0, 26, 0)
  | 26 => (1, 0, 0, 27, 0)
  | 27 => (46, 10, 15, 30, 0)
  | 30 => (0, 1, 0, 31, 0)
  | 31 => (48, 0, 0, 32, 0)
  | 32 => (8, 0, 0, 33, 0)
  | 33 => (0, 5, 0, 35, 0)
  | 35 => (8, 0, 0, 36, 0)
  | 36 => (48, 0, 0, 37, 0)
  | 37 => (1, 0, 0, 38, 0)
  | 38 => (46, 10, 25, 41, 0)
  | 41 => (6, 0, 0, 43, 32)
  | 43 => (0, 3, 0, 44, 0)
  | 44 => (10, 0, 0, 45, 0)
  | 45 => (1, 0, 0, 46, 0)
  | 46 => (46, 10, 15, 49, 0)
  | 49 => (0, 1, 0, 50, 0)
  | 50 => (48, 0, 0, 51, 0)
  | 51 => (8, 0, 0, 52, 0)
  | 52 => (0, 5, 0, 54, 0)
  | 54 => (8, 0, 0, 55, 0)
  | 55 => (48, 0, 0, 56, 0)
  | 56 => (8, 0, 0, 57, 0)
  | 57 => (0, 4, 0, 59, 0)
  | 59 => (8, 0, 0, 60, 0)
  | 60 => (6, 0, 0, 62, 8)
  | 62 => (22, 0, 0, 63, 0)
  | 63 => (3, 4, 0, 65, 0)
  | 65 => (7, 5, 0, 68, (-1))
  | 68 => (33, 13, 0, 71, 0)
  | 71 => (0, 4, 0, 73, 0)
  | 73 => (39, 80, 0, 76, 0)
  | 76 => (6, 0, 0, 77, 1)
  | 77 => (33, 81, 0, 80, 0)
  | 80 => (6, 0, 0, 81, 0)
  | 81 => (58, 0, 0, 82, 0)
  | _ => (99, 0, 0, 0, 0)
def tX9_overflows (pc : Nat) : zI := if pc < 82 then tmX9_overflows pc else (99, 0, 0, 0, 0)
theorem tkX9_overflows : z_tab RX9 wsX9_overflows 6 (some .boolean) cX9_overflows 82 tX9_overflows := z_tab_of (tm := tmX9_overflows) (by decide +kernel)
theorem sX9_overflows_0 (lv : zL) (st : List Value) (w : zW) (nx K : Nat → zL → List Value → zW → Prop) (Rt : Option Value → zW → Prop) : z_st1 (tX9_overflows 0) 0 lv st w nx K Rt = (nx 1 lv (.int (0 : Int32) :: st) w) := id rfl
theorem sX9_overflows_1 (lv : zL) (st : List Value) (w : zW) (nx K : Nat → zL → List Value → zW → Prop) (Rt : Option Value → zW → Prop) : z_st1 (tX9_overflows 1) 1 lv st w nx K Rt = (z_1i st (fun x r => z_ok1 lv 4 = true ∧ nx 3 (lv.set 4 (some (.int x))) r w)) := id rfl
theorem sX9_overflows_3 (lv : zL) (st : List Value) (w : zW) (nx K : Nat → zL → List Value → zW → Prop) (Rt : Option Value → zW → Prop) : z_st1 (tX9_overflows 3) 3 lv st w nx K Rt = (z_la lv 0 (fun x => nx 4 lv (.ref x :: st) w)) := id rfl
theorem sX9_overflows_4 (lv : zL) (st : List Value) (w : zW) (nx K : Nat → zL → List Value → zW → Prop) (Rt : Option Value → zW → Prop) : z_st1 (tX9_overflows 4) 4 lv st w nx K Rt = (z_1a st (fun x r => z_ob w x 10 (fun fs => z_fl fs 16 (fun u => nx 7 lv (u :: r) w)))) := id rfl
theorem sX9_overflows_7 (lv : zL) (st : List Value) (w : zW) (nx K : Nat → zL → List Value → zW → Prop) (Rt : Option Value → zW → Prop) : z_st1 (tX9_overflows 7) 7 lv st w nx K Rt = (z_li lv 1 (fun x => nx 8 lv (.int x :: st) w)) := id rfl
theorem sX9_overflows_8 (lv : zL) (st : List Value) (w : zW) (nx K : Nat → zL → List Value → zW → Prop) (Rt : Option Value → zW → Prop) : z_st1 (tX9_overflows 8) 8 lv st w nx K Rt = (z_ia st (fun x i r => z_ar0 w x (fun m g => vp_in i m ∧ nx 9 lv (.int (g i.toNatClampNeg) :: r) w))) := id rfl
theorem sX9_overflows_9 (lv : zL) (st : List Value) (w : zW) (nx K : Nat → zL → List Value → zW → Prop) (Rt : Option Value → zW → Prop) : z_st1 (tX9_overflows 9) 9 lv st w nx K Rt = (nx 10 lv (.int (1 : Int32) :: st) w) := id rfl
theorem sX9_overflows_10 (lv : zL) (st : List Value) (w : zW) (nx K : Nat → zL → List Value → zW → Prop) (Rt : Option Value → zW → Prop) : z_st1 (tX9_overflows 10) 10 lv st w nx K Rt = (z_2i st (fun x y r => nx 11 lv (.int (x - y) :: r) w)) := id rfl
theorem sX9_overflows_11 (lv : zL) (st : List Value) (w : zW) (nx K : Nat → zL → List Value → zW → Prop) (Rt : Option Value → zW → Prop) : z_st1 (tX9_overflows 11) 11 lv st w nx K Rt = (z_1i st (fun x r => z_ok1 lv 5 = true ∧ nx 13 (lv.set 5 (some (.int x))) r w)) := id rfl
theorem sX9_overflows_13 (lv : zL) (st : List Value) (w : zW) (nx K : Nat → zL → List Value → zW → Prop) (Rt : Option Value → zW → Prop) : z_st1 (tX9_overflows 13) 13 lv st w nx K Rt = (z_li lv 5 (fun x => nx 15 lv (.int x :: st) w)) := id rfl
theorem sX9_overflows_15 (lv : zL) (st : List Value) (w : zW) (nx K : Nat → zL → List Value → zW → Prop) (Rt : Option Value → zW → Prop) : z_st1 (tX9_overflows 15) 15 lv st w nx K Rt = (z_1i st (fun x r => (x < 0 → nx 71 lv r w) ∧ (¬ x < 0 → nx 18 lv r w))) := id rfl
theorem sX9_overflows_18 (lv : zL) (st : List Value) (w : zW) (nx K : Nat → zL → List Value → zW → Prop) (Rt : Option Value → zW → Prop) : z_st1 (tX9_overflows 18) 18 lv st w nx K Rt = (z_la lv 0 (fun x => nx 19 lv (.ref x :: st) w)) := id rfl
theorem sX9_overflows_19 (lv : zL) (st : List Value) (w : zW) (nx K : Nat → zL → List Value → zW → Prop) (Rt : Option Value → zW → Prop) : z_st1 (tX9_overflows 19) 19 lv st w nx K Rt = (z_1a st (fun x r => z_ob w x 10 (fun fs => z_fl fs 25 (fun u => nx 22 lv (u :: r) w)))) := id rfl
theorem sX9_overflows_22 (lv : zL) (st : List Value) (w : zW) (nx K : Nat → zL → List Value → zW → Prop) (Rt : Option Value → zW → Prop) : z_st1 (tX9_overflows 22) 22 lv st w nx K Rt = (nx 24 lv (.int (32 : Int32) :: st) w) := id rfl
theorem sX9_overflows_24 (lv : zL) (st : List Value) (w : zW) (nx K : Nat → zL → List Value → zW → Prop) (Rt : Option Value → zW → Prop) : z_st1 (tX9_overflows 24) 24 lv st w nx K Rt = (z_li lv 2 (fun x => nx 25 lv (.int x :: st) w)) := id rfl
theorem sX9_overflows_25 (lv : zL) (st : List Value) (w : zW) (nx K : Nat → zL → List Value → zW → Prop) (Rt : Option Value → zW → Prop) : z_st1 (tX9_overflows 25) 25 lv st w nx K Rt = (z_2i st (fun x y r => nx 26 lv (.int (x * y) :: r) w)) := id rfl
theorem sX9_overflows_26 (lv : zL) (st : List Value) (w : zW) (nx K : Nat → zL → List Value → zW → Prop) (Rt : Option Value → zW → Prop) : z_st1 (tX9_overflows 26) 26 lv st w nx K Rt = (z_la lv 0 (fun x => nx 27 lv (.ref x :: st) w)) := id rfl
theorem sX9_overflows_27 (lv : zL) (st : List Value) (w : zW) (nx K : Nat → zL → List Value → zW → Prop) (Rt : Option Value → zW → Prop) : z_st1 (tX9_overflows 27) 27 lv st w nx K Rt = (z_1a st (fun x r => z_ob w x 10 (fun fs => z_fl fs 15 (fun u => nx 30 lv (u :: r) w)))) := id rfl
theorem sX9_overflows_30 (lv : zL) (st : List Value) (w : zW) (nx K : Nat → zL → List Value → zW → Prop) (Rt : Option Value → zW → Prop) : z_st1 (tX9_overflows 30) 30 lv st w nx K Rt = (z_li lv 1 (fun x => nx 31 lv (.int x :: st) w)) := id rfl
theorem sX9_overflows_31 (lv : zL) (st : List Value) (w : zW) (nx K : Nat → zL → List Value → zW → Prop) (Rt : Option Value → zW → Prop) : z_st1 (tX9_overflows 31) 31 lv st w nx K Rt = (z_ia st (fun x i r => z_ar0 w x (fun m g => vp_in i m ∧ nx 32 lv (.int (g i.toNatClampNeg) :: r) w))) := id rfl
theorem sX9_overflows_32 (lv : zL) (st : List Value) (w : zW) (nx K : Nat → zL → List Value → zW → Prop) (Rt : Option Value → zW → Prop) : z_st1 (tX9_overflows 32) 32 lv st w nx K Rt = (z_2i st (fun x y r => nx 33 lv (.int (x + y) :: r) w)) := id rfl
theorem sX9_overflows_33 (lv : zL) (st : List Value) (w : zW) (nx K : Nat → zL → List Value → zW → Prop) (Rt : Option Value → zW → Prop) : z_st1 (tX9_overflows 33) 33 lv st w nx K Rt = (z_li lv 5 (fun x => nx 35 lv (.int x :: st) w)) := id rfl
theorem sX9_overflows_35 (lv : zL) (st : List Value) (w : zW) (nx K : Nat → zL → List Value → zW → Prop) (Rt : Option Value → zW → Prop) : z_st1 (tX9_overflows 35) 35 lv st w nx K Rt = (z_2i st (fun x y r => nx 36 lv (.int (x + y) :: r) w)) := id rfl
theorem sX9_overflows_36 (lv : zL) (st : List Value) (w : zW) (nx K : Nat → zL → List Value → zW → Prop) (Rt : Option Value → zW → Prop) : z_st1 (tX9_overflows 36) 36 lv st w nx K Rt = (z_ia st (fun x i r => z_ar0 w x (fun m g => vp_in i m ∧ nx 37 lv (.int (g i.toNatClampNeg) :: r) w))) := id rfl
theorem sX9_overflows_37 (lv : zL) (st : List Value) (w : zW) (nx K : Nat → zL → List Value → zW → Prop) (Rt : Option Value → zW → Prop) : z_st1 (tX9_overflows 37) 37 lv st w nx K Rt = (z_la lv 0 (fun x => nx 38 lv (.ref x :: st) w)) := id rfl
theorem sX9_overflows_38 (lv : zL) (st : List Value) (w : zW) (nx K : Nat → zL → List Value → zW → Prop) (Rt : Option Value → zW → Prop) : z_st1 (tX9_overflows 38) 38 lv st w nx K Rt = (z_1a st (fun x r => z_ob w x 10 (fun fs => z_fl fs 25 (fun u => nx 41 lv (u :: r) w)))) := id rfl
theorem sX9_overflows_41 (lv : zL) (st : List Value) (w : zW) (nx K : Nat → zL → List Value → zW → Prop) (Rt : Option Value → zW → Prop) : z_st1 (tX9_overflows 41) 41 lv st w nx K Rt = (nx 43 lv (.int (32 : Int32) :: st) w) := id rfl
theorem sX9_overflows_43 (lv : zL) (st : List Value) (w : zW) (nx K : Nat → zL → List Value → zW → Prop) (Rt : Option Value → zW → Prop) : z_st1 (tX9_overflows 43) 43 lv st w nx K Rt = (z_li lv 3 (fun x => nx 44 lv (.int x :: st) w)) := id rfl
theorem sX9_overflows_44 (lv : zL) (st : List Value) (w : zW) (nx K : Nat → zL → List Value → zW → Prop) (Rt : Option Value → zW → Prop) : z_st1 (tX9_overflows 44) 44 lv st w nx K Rt = (z_2i st (fun x y r => nx 45 lv (.int (x * y) :: r) w)) := id rfl
theorem sX9_overflows_45 (lv : zL) (st : List Value) (w : zW) (nx K : Nat → zL → List Value → zW → Prop) (Rt : Option Value → zW → Prop) : z_st1 (tX9_overflows 45) 45 lv st w nx K Rt = (z_la lv 0 (fun x => nx 46 lv (.ref x :: st) w)) := id rfl
theorem sX9_overflows_46 (lv : zL) (st : List Value) (w : zW) (nx K : Nat → zL → List Value → zW → Prop) (Rt : Option Value → zW → Prop) : z_st1 (tX9_overflows 46) 46 lv st w nx K Rt = (z_1a st (fun x r => z_ob w x 10 (fun fs => z_fl fs 15 (fun u => nx 49 lv (u :: r) w)))) := id rfl
theorem sX9_overflows_49 (lv : zL) (st : List Value) (w : zW) (nx K : Nat → zL → List Value → zW → Prop) (Rt : Option Value → zW → Prop) : z_st1 (tX9_overflows 49) 49 lv st w nx K Rt = (z_li lv 1 (fun x => nx 50 lv (.int x :: st) w)) := id rfl
theorem sX9_overflows_50 (lv : zL) (st : List Value) (w : zW) (nx K : Nat → zL → List Value → zW → Prop) (Rt : Option Value → zW → Prop) : z_st1 (tX9_overflows 50) 50 lv st w nx K Rt = (z_ia st (fun x i r => z_ar0 w x (fun m g => vp_in i m ∧ nx 51 lv (.int (g i.toNatClampNeg) :: r) w))) := id rfl
theorem sX9_overflows_51 (lv : zL) (st : List Value) (w : zW) (nx K : Nat → zL → List Value → zW → Prop) (Rt : Option Value → zW → Prop) : z_st1 (tX9_overflows 51) 51 lv st w nx K Rt = (z_2i st (fun x y r => nx 52 lv (.int (x + y) :: r) w)) := id rfl
theorem sX9_overflows_52 (lv : zL) (st : List Value) (w : zW) (nx K : Nat → zL → List Value → zW → Prop) (Rt : Option Value → zW → Prop) : z_st1 (tX9_overflows 52) 52 lv st w nx K Rt = (z_li lv 5 (fun x => nx 54 lv (.int x :: st) w)) := id rfl
theorem sX9_overflows_54 (lv : zL) (st : List Value) (w : zW) (nx K : Nat → zL → List Value → zW → Prop) (Rt : Option Value → zW → Prop) : z_st1 (tX9_overflows 54) 54 lv st w nx K Rt = (z_2i st (fun x y r => nx 55 lv (.int (x + y) :: r) w)) := id rfl
theorem sX9_overflows_55 (lv : zL) (st : List Value) (w : zW) (nx K : Nat → zL → List Value → zW → Prop) (Rt : Option Value → zW → Prop) : z_st1 (tX9_overflows 55) 55 lv st w nx K Rt = (z_ia st (fun x i r => z_ar0 w x (fun m g => vp_in i m ∧ nx 56 lv (.int (g i.toNatClampNeg) :: r) w))) := id rfl
theorem sX9_overflows_56 (lv : zL) (st : List Value) (w : zW) (nx K : Nat → zL → List Value → zW → Prop) (Rt : Option Value → zW → Prop) : z_st1 (tX9_overflows 56) 56 lv st w nx K Rt = (z_2i st (fun x y r => nx 57 lv (.int (x + y) :: r) w)) := id rfl
theorem sX9_overflows_57 (lv : zL) (st : List Value) (w : zW) (nx K : Nat → zL → List Value → zW → Prop) (Rt : Option Value → zW → Prop) : z_st1 (tX9_overflows 57) 57 lv st w nx K Rt = (z_li lv 4 (fun x => nx 59 lv (.int x :: st) w)) := id rfl
theorem sX9_overflows_59 (lv : zL) (st : List Value) (w : zW) (nx K : Nat → zL → List Value → zW → Prop) (Rt : Option Value → zW → Prop) : z_st1 (tX9_overflows 59) 59 lv st w nx K Rt = (z_2i st (fun x y r => nx 60 lv (.int (x + y) :: r) w)) := id rfl
theorem sX9_overflows_60 (lv : zL) (st : List Value) (w : zW) (nx K : Nat → zL → List Value → zW → Prop) (Rt : Option Value → zW → Prop) : z_st1 (tX9_overflows 60) 60 lv st w nx K Rt = (nx 62 lv (.int (8 : Int32) :: st) w) := id rfl
theorem sX9_overflows_62 (lv : zL) (st : List Value) (w : zW) (nx K : Nat → zL → List Value → zW → Prop) (Rt : Option Value → zW → Prop) : z_st1 (tX9_overflows 62) 62 lv st w nx K Rt = (z_2i st (fun x y r => nx 63 lv (.int (x >>> (y &&& 31)) :: r) w)) := id rfl
theorem sX9_overflows_63 (lv : zL) (st : List Value) (w : zW) (nx K : Nat → zL → List Value → zW → Prop) (Rt : Option Value → zW → Prop) : z_st1 (tX9_overflows 63) 63 lv st w nx K Rt = (z_1i st (fun x r => z_ok1 lv 4 = true ∧ nx 65 (lv.set 4 (some (.int x))) r w)) := id rfl
theorem sX9_overflows_65 (lv : zL) (st : List Value) (w : zW) (nx K : Nat → zL → List Value → zW → Prop) (Rt : Option Value → zW → Prop) : z_st1 (tX9_overflows 65) 65 lv st w nx K Rt = (z_li lv 5 (fun x => z_ok1 lv 5 = true ∧ nx 68 (lv.set 5 (some (.int (x + (-1 : Int32))))) st w)) := id rfl
theorem sX9_overflows_68 (lv : zL) (st : List Value) (w : zW) (nx K : Nat → zL → List Value → zW → Prop) (Rt : Option Value → zW → Prop) : z_st1 (tX9_overflows 68) 68 lv st w nx K Rt = (nx 13 lv st w) := id rfl
theorem sX9_overflows_71 (lv : zL) (st : List Value) (w : zW) (nx K : Nat → zL → List Value → zW → Prop) (Rt : Option Value → zW → Prop) : z_st1 (tX9_overflows 71) 71 lv st w nx K Rt = (z_li lv 4 (fun x => nx 73 lv (.int x :: st) w)) := id rfl
theorem sX9_overflows_73 (lv : zL) (st : List Value) (w : zW) (nx K : Nat → zL → List Value → zW → Prop) (Rt : Option Value → zW → Prop) : z_st1 (tX9_overflows 73) 73 lv st w nx K Rt = (z_1i st (fun x r => (x ≤ 0 → nx 80 lv r w) ∧ (¬ x ≤ 0 → nx 76 lv r w))) := id rfl
theorem sX9_overflows_76 (lv : zL) (st : List Value) (w : zW) (nx K : Nat → zL → List Value → zW → Prop) (Rt : Option Value → zW → Prop) : z_st1 (tX9_overflows 76) 76 lv st w nx K Rt = (nx 77 lv (.int (1 : Int32) :: st) w) := id rfl
theorem sX9_overflows_77 (lv : zL) (st : List Value) (w : zW) (nx K : Nat → zL → List Value → zW → Prop) (Rt : Option Value → zW → Prop) : z_st1 (tX9_overflows 77) 77 lv st w nx K Rt = (nx 81 lv st w) := id rfl
theorem sX9_overflows_80 (lv : zL) (st : List Value) (w : zW) (nx K : Nat → zL → List Value → zW → Prop) (Rt : Option Value → zW → Prop) : z_st1 (tX9_overflows 80) 80 lv st w nx K Rt = (nx 81 lv (.int (0 : Int32) :: st) w) := id rfl
theorem sX9_overflows_81 (lv : zL) (st : List Value) (w : zW) (nx K : Nat → zL → List Value → zW → Prop) (Rt : Option Value → zW → Prop) : z_st1 (tX9_overflows 81) 81 lv st w nx K Rt = (z_e1 st (fun x => (x = 0 ∨ x = 1) ∧ Rt (some (.int x)) w)) := id rfl

def tmX9_add (pc : Nat) : zI := match pc with
  | 0 => (6, 0, 0, 1, 0)
  | 1 => (3, 4, 0, 3, 0)
  | 3 => (1, 0, 0, 4, 0)
  | 4 => (46, 10, 16, 7, 0)
  | 7 => (0, 1, 0, 8, 0)
  | 8 => (48, 0, 0, 9, 0)
  | 9 => (6, 0, 0, 10, 1)
  | 10 => (9, 0, 0, 11, 0)
  | 11 => (3, 5, 0, 13, 0)
  | 13 => (0, 5, 0, 15, 0)
  | 15 => (36, 92, 0, 18, 0)
  | 18 => (6, 0, 0, 20, 32)
  | 20 => (0, 2, 0, 21, 0)
  | 21 => (10, 0, 0, 22, 0)
  | 22 => (1, 0, 0, 23, 0)
  | 23 => (46, 10, 15, 26, 0)
  | 26 => (0, 1, 0, 27, 0)
  | 27 => (48, 0, 0, 28, 0)
  | 28 => (8, 0, 0, 29, 0)
  | 29 => (0, 5, 0, 31, 0)
  | 31 => (8, 0, 0, 32, 0)
  | 32 => (3, 6, 0, 34, 0)
  | 34 => (1, 0, 0, 35, 0)
  | 35 => (46, 10, 25, 38, 0)
  | 38 => (0, 6, 0, 40, 0)
  | 40 => (48, 0, 0, 41, 0)
  | 41 => (1, 0, 0, 42, 0)
  | 42 => (46, 10, 25, 45, 0)
  | 45 => (6, 0, 0, 47, 32)
  | 47 => (0, 3, 0, 48, 0)
  | 48 => (10, 0, 0, 49, 0)
  | 49 => (1, 0, 0, 50, 0)
  | 50 => (46, 10, 15, 53, 0)
  | 53 => (0, 1, 0, 54, 0)
  | 54 => (48, 0, 0, 55, 0)
  | 55 => (8, 0, 0, 56, 0)
  | 56 => (0, 5, 0, 58, 0)
  | 58 => (8, 0, 0, 59, 0)
  | 59 => (48, 0, 0, 60, 0)
  | 60 => (8, 0, 0, 61, 0)
  | 61 => (0, 4, 0, 63, 0)
  | 63 => (8, 0, 0, 64, 0)
  | 64 => (3, 7, 0, 66, 0)
  | 66 => (1, 0, 0, 67, 0)
  | 67 => (46, 10, 25, 70, 0)
  | 70 => (0, 6, 0, 72, 0)
  | 72 => (0, 7, 0, 74, 0)
  | 74 => (6, 0, 0, 77, 255)
  | 77 => (11, 0, 0, 78, 0)
  | 78 => (49, 0, 0, 79, 0)
  | 79 => (0, 7, 0, 81, 0)
  | 81 => (6, 0, 0, 83, 8)
  | 83 => (22, 0, 0, 84, 0)
  | 84 => (3, 4, 0, 86, 0)
  | 86 => (7, 5, 0, 89, (-1))
  | 89 => (33, 13, 0, 92, 0)
  | 92 => (55, 0, 0, 93, 0)
  | _ => (99, 0, 0, 0, 0)
def tX9_add (pc : Nat) : zI := if pc < 93 then tmX9_add pc else (99, 0, 0, 0, 0)
theorem tkX9_add : z_tab RX9 wsX9_add 8 none cX9_add 93 tX9_add := z_tab_of (tm := tmX9_add) (by decide +kernel)
theorem sX9_add_0 (lv : zL) (st : List Value) (w : zW) (nx K : Nat → zL → List Value → zW → Prop) (Rt : Option Value → zW → Prop) : z_st1 (tX9_add 0) 0 lv st w nx K Rt = (nx 1 lv (.int (0 : Int32) :: st) w) := id rfl
theorem sX9_add_1 (lv : zL) (st : List Value) (w : zW) (nx K : Nat → zL → List Value → zW → Prop) (Rt : Option Value → zW → Prop) : z_st1 (tX9_add 1) 1 lv st w nx K Rt = (z_1i st (fun x r => z_ok1 lv 4 = true ∧ nx 3 (lv.set 4 (some (.int x))) r w)) := id rfl
theorem sX9_add_3 (lv : zL) (st : List Value) (w : zW) (nx K : Nat → zL → List Value → zW → Prop) (Rt : Option Value → zW → Prop) : z_st1 (tX9_add 3) 3 lv st w nx K Rt = (z_la lv 0 (fun x => nx 4 lv (.ref x :: st) w)) := id rfl
theorem sX9_add_4 (lv : zL) (st : List Value) (w : zW) (nx K : Nat → zL → List Value → zW → Prop) (Rt : Option Value → zW → Prop) : z_st1 (tX9_add 4) 4 lv st w nx K Rt = (z_1a st (fun x r => z_ob w x 10 (fun fs => z_fl fs 16 (fun u => nx 7 lv (u :: r) w)))) := id rfl
theorem sX9_add_7 (lv : zL) (st : List Value) (w : zW) (nx K : Nat → zL → List Value → zW → Prop) (Rt : Option Value → zW → Prop) : z_st1 (tX9_add 7) 7 lv st w nx K Rt = (z_li lv 1 (fun x => nx 8 lv (.int x :: st) w)) := id rfl
theorem sX9_add_8 (lv : zL) (st : List Value) (w : zW) (nx K : Nat → zL → List Value → zW → Prop) (Rt : Option Value → zW → Prop) : z_st1 (tX9_add 8) 8 lv st w nx K Rt = (z_ia st (fun x i r => z_ar0 w x (fun m g => vp_in i m ∧ nx 9 lv (.int (g i.toNatClampNeg) :: r) w))) := id rfl
theorem sX9_add_9 (lv : zL) (st : List Value) (w : zW) (nx K : Nat → zL → List Value → zW → Prop) (Rt : Option Value → zW → Prop) : z_st1 (tX9_add 9) 9 lv st w nx K Rt = (nx 10 lv (.int (1 : Int32) :: st) w) := id rfl
theorem sX9_add_10 (lv : zL) (st : List Value) (w : zW) (nx K : Nat → zL → List Value → zW → Prop) (Rt : Option Value → zW → Prop) : z_st1 (tX9_add 10) 10 lv st w nx K Rt = (z_2i st (fun x y r => nx 11 lv (.int (x - y) :: r) w)) := id rfl
theorem sX9_add_11 (lv : zL) (st : List Value) (w : zW) (nx K : Nat → zL → List Value → zW → Prop) (Rt : Option Value → zW → Prop) : z_st1 (tX9_add 11) 11 lv st w nx K Rt = (z_1i st (fun x r => z_ok1 lv 5 = true ∧ nx 13 (lv.set 5 (some (.int x))) r w)) := id rfl
theorem sX9_add_13 (lv : zL) (st : List Value) (w : zW) (nx K : Nat → zL → List Value → zW → Prop) (Rt : Option Value → zW → Prop) : z_st1 (tX9_add 13) 13 lv st w nx K Rt = (z_li lv 5 (fun x => nx 15 lv (.int x :: st) w)) := id rfl
theorem sX9_add_15 (lv : zL) (st : List Value) (w : zW) (nx K : Nat → zL → List Value → zW → Prop) (Rt : Option Value → zW → Prop) : z_st1 (tX9_add 15) 15 lv st w nx K Rt = (z_1i st (fun x r => (x < 0 → nx 92 lv r w) ∧ (¬ x < 0 → nx 18 lv r w))) := id rfl
theorem sX9_add_18 (lv : zL) (st : List Value) (w : zW) (nx K : Nat → zL → List Value → zW → Prop) (Rt : Option Value → zW → Prop) : z_st1 (tX9_add 18) 18 lv st w nx K Rt = (nx 20 lv (.int (32 : Int32) :: st) w) := id rfl
theorem sX9_add_20 (lv : zL) (st : List Value) (w : zW) (nx K : Nat → zL → List Value → zW → Prop) (Rt : Option Value → zW → Prop) : z_st1 (tX9_add 20) 20 lv st w nx K Rt = (z_li lv 2 (fun x => nx 21 lv (.int x :: st) w)) := id rfl
theorem sX9_add_21 (lv : zL) (st : List Value) (w : zW) (nx K : Nat → zL → List Value → zW → Prop) (Rt : Option Value → zW → Prop) : z_st1 (tX9_add 21) 21 lv st w nx K Rt = (z_2i st (fun x y r => nx 22 lv (.int (x * y) :: r) w)) := id rfl
theorem sX9_add_22 (lv : zL) (st : List Value) (w : zW) (nx K : Nat → zL → List Value → zW → Prop) (Rt : Option Value → zW → Prop) : z_st1 (tX9_add 22) 22 lv st w nx K Rt = (z_la lv 0 (fun x => nx 23 lv (.ref x :: st) w)) := id rfl
theorem sX9_add_23 (lv : zL) (st : List Value) (w : zW) (nx K : Nat → zL → List Value → zW → Prop) (Rt : Option Value → zW → Prop) : z_st1 (tX9_add 23) 23 lv st w nx K Rt = (z_1a st (fun x r => z_ob w x 10 (fun fs => z_fl fs 15 (fun u => nx 26 lv (u :: r) w)))) := id rfl
theorem sX9_add_26 (lv : zL) (st : List Value) (w : zW) (nx K : Nat → zL → List Value → zW → Prop) (Rt : Option Value → zW → Prop) : z_st1 (tX9_add 26) 26 lv st w nx K Rt = (z_li lv 1 (fun x => nx 27 lv (.int x :: st) w)) := id rfl
theorem sX9_add_27 (lv : zL) (st : List Value) (w : zW) (nx K : Nat → zL → List Value → zW → Prop) (Rt : Option Value → zW → Prop) : z_st1 (tX9_add 27) 27 lv st w nx K Rt = (z_ia st (fun x i r => z_ar0 w x (fun m g => vp_in i m ∧ nx 28 lv (.int (g i.toNatClampNeg) :: r) w))) := id rfl
theorem sX9_add_28 (lv : zL) (st : List Value) (w : zW) (nx K : Nat → zL → List Value → zW → Prop) (Rt : Option Value → zW → Prop) : z_st1 (tX9_add 28) 28 lv st w nx K Rt = (z_2i st (fun x y r => nx 29 lv (.int (x + y) :: r) w)) := id rfl
theorem sX9_add_29 (lv : zL) (st : List Value) (w : zW) (nx K : Nat → zL → List Value → zW → Prop) (Rt : Option Value → zW → Prop) : z_st1 (tX9_add 29) 29 lv st w nx K Rt = (z_li lv 5 (fun x => nx 31 lv (.int x :: st) w)) := id rfl
theorem sX9_add_31 (lv : zL) (st : List Value) (w : zW) (nx K : Nat → zL → List Value → zW → Prop) (Rt : Option Value → zW → Prop) : z_st1 (tX9_add 31) 31 lv st w nx K Rt = (z_2i st (fun x y r => nx 32 lv (.int (x + y) :: r) w)) := id rfl
theorem sX9_add_32 (lv : zL) (st : List Value) (w : zW) (nx K : Nat → zL → List Value → zW → Prop) (Rt : Option Value → zW → Prop) : z_st1 (tX9_add 32) 32 lv st w nx K Rt = (z_1i st (fun x r => z_ok1 lv 6 = true ∧ nx 34 (lv.set 6 (some (.int x))) r w)) := id rfl
theorem sX9_add_34 (lv : zL) (st : List Value) (w : zW) (nx K : Nat → zL → List Value → zW → Prop) (Rt : Option Value → zW → Prop) : z_st1 (tX9_add 34) 34 lv st w nx K Rt = (z_la lv 0 (fun x => nx 35 lv (.ref x :: st) w)) := id rfl
theorem sX9_add_35 (lv : zL) (st : List Value) (w : zW) (nx K : Nat → zL → List Value → zW → Prop) (Rt : Option Value → zW → Prop) : z_st1 (tX9_add 35) 35 lv st w nx K Rt = (z_1a st (fun x r => z_ob w x 10 (fun fs => z_fl fs 25 (fun u => nx 38 lv (u :: r) w)))) := id rfl
theorem sX9_add_38 (lv : zL) (st : List Value) (w : zW) (nx K : Nat → zL → List Value → zW → Prop) (Rt : Option Value → zW → Prop) : z_st1 (tX9_add 38) 38 lv st w nx K Rt = (z_li lv 6 (fun x => nx 40 lv (.int x :: st) w)) := id rfl
theorem sX9_add_40 (lv : zL) (st : List Value) (w : zW) (nx K : Nat → zL → List Value → zW → Prop) (Rt : Option Value → zW → Prop) : z_st1 (tX9_add 40) 40 lv st w nx K Rt = (z_ia st (fun x i r => z_ar0 w x (fun m g => vp_in i m ∧ nx 41 lv (.int (g i.toNatClampNeg) :: r) w))) := id rfl
theorem sX9_add_41 (lv : zL) (st : List Value) (w : zW) (nx K : Nat → zL → List Value → zW → Prop) (Rt : Option Value → zW → Prop) : z_st1 (tX9_add 41) 41 lv st w nx K Rt = (z_la lv 0 (fun x => nx 42 lv (.ref x :: st) w)) := id rfl
theorem sX9_add_42 (lv : zL) (st : List Value) (w : zW) (nx K : Nat → zL → List Value → zW → Prop) (Rt : Option Value → zW → Prop) : z_st1 (tX9_add 42) 42 lv st w nx K Rt = (z_1a st (fun x r => z_ob w x 10 (fun fs => z_fl fs 25 (fun u => nx 45 lv (u :: r) w)))) := id rfl
theorem sX9_add_45 (lv : zL) (st : List Value) (w : zW) (nx K : Nat → zL → List Value → zW → Prop) (Rt : Option Value → zW → Prop) : z_st1 (tX9_add 45) 45 lv st w nx K Rt = (nx 47 lv (.int (32 : Int32) :: st) w) := id rfl
theorem sX9_add_47 (lv : zL) (st : List Value) (w : zW) (nx K : Nat → zL → List Value → zW → Prop) (Rt : Option Value → zW → Prop) : z_st1 (tX9_add 47) 47 lv st w nx K Rt = (z_li lv 3 (fun x => nx 48 lv (.int x :: st) w)) := id rfl
theorem sX9_add_48 (lv : zL) (st : List Value) (w : zW) (nx K : Nat → zL → List Value → zW → Prop) (Rt : Option Value → zW → Prop) : z_st1 (tX9_add 48) 48 lv st w nx K Rt = (z_2i st (fun x y r => nx 49 lv (.int (x * y) :: r) w)) := id rfl
theorem sX9_add_49 (lv : zL) (st : List Value) (w : zW) (nx K : Nat → zL → List Value → zW → Prop) (Rt : Option Value → zW → Prop) : z_st1 (tX9_add 49) 49 lv st w nx K Rt = (z_la lv 0 (fun x => nx 50 lv (.ref x :: st) w)) := id rfl
theorem sX9_add_50 (lv : zL) (st : List Value) (w : zW) (nx K : Nat → zL → List Value → zW → Prop) (Rt : Option Value → zW → Prop) : z_st1 (tX9_add 50) 50 lv st w nx K Rt = (z_1a st (fun x r => z_ob w x 10 (fun fs => z_fl fs 15 (fun u => nx 53 lv (u :: r) w)))) := id rfl
theorem sX9_add_53 (lv : zL) (st : List Value) (w : zW) (nx K : Nat → zL → List Value → zW → Prop) (Rt : Option Value → zW → Prop) : z_st1 (tX9_add 53) 53 lv st w nx K Rt = (z_li lv 1 (fun x => nx 54 lv (.int x :: st) w)) := id rfl
theorem sX9_add_54 (lv : zL) (st : List Value) (w : zW) (nx K : Nat → zL → List Value → zW → Prop) (Rt : Option Value → zW → Prop) : z_st1 (tX9_add 54) 54 lv st w nx K Rt = (z_ia st (fun x i r => z_ar0 w x (fun m g => vp_in i m ∧ nx 55 lv (.int (g i.toNatClampNeg) :: r) w))) := id rfl
theorem sX9_add_55 (lv : zL) (st : List Value) (w : zW) (nx K : Nat → zL → List Value → zW → Prop) (Rt : Option Value → zW → Prop) : z_st1 (tX9_add 55) 55 lv st w nx K Rt = (z_2i st (fun x y r => nx 56 lv (.int (x + y) :: r) w)) := id rfl
theorem sX9_add_56 (lv : zL) (st : List Value) (w : zW) (nx K : Nat → zL → List Value → zW → Prop) (Rt : Option Value → zW → Prop) : z_st1 (tX9_add 56) 56 lv st w nx K Rt = (z_li lv 5 (fun x => nx 58 lv (.int x :: st) w)) := id rfl
theorem sX9_add_58 (lv : zL) (st : List Value) (w : zW) (nx K : Nat → zL → List Value → zW → Prop) (Rt : Option Value → zW → Prop) : z_st1 (tX9_add 58) 58 lv st w nx K Rt = (z_2i st (fun x y r => nx 59 lv (.int (x + y) :: r) w)) := id rfl
theorem sX9_add_59 (lv : zL) (st : List Value) (w : zW) (nx K : Nat → zL → List Value → zW → Prop) (Rt : Option Value → zW → Prop) : z_st1 (tX9_add 59) 59 lv st w nx K Rt = (z_ia st (fun x i r => z_ar0 w x (fun m g => vp_in i m ∧ nx 60 lv (.int (g i.toNatClampNeg) :: r) w))) := id rfl
theorem sX9_add_60 (lv : zL) (st : List Value) (w : zW) (nx K : Nat → zL → List Value → zW → Prop) (Rt : Option Value → zW → Prop) : z_st1 (tX9_add 60) 60 lv st w nx K Rt = (z_2i st (fun x y r => nx 61 lv (.int (x + y) :: r) w)) := id rfl
theorem sX9_add_61 (lv : zL) (st : List Value) (w : zW) (nx K : Nat → zL → List Value → zW → Prop) (Rt : Option Value → zW → Prop) : z_st1 (tX9_add 61) 61 lv st w nx K Rt = (z_li lv 4 (fun x => nx 63 lv (.int x :: st) w)) := id rfl
theorem sX9_add_63 (lv : zL) (st : List Value) (w : zW) (nx K : Nat → zL → List Value → zW → Prop) (Rt : Option Value → zW → Prop) : z_st1 (tX9_add 63) 63 lv st w nx K Rt = (z_2i st (fun x y r => nx 64 lv (.int (x + y) :: r) w)) := id rfl
theorem sX9_add_64 (lv : zL) (st : List Value) (w : zW) (nx K : Nat → zL → List Value → zW → Prop) (Rt : Option Value → zW → Prop) : z_st1 (tX9_add 64) 64 lv st w nx K Rt = (z_1i st (fun x r => z_ok1 lv 7 = true ∧ nx 66 (lv.set 7 (some (.int x))) r w)) := id rfl
theorem sX9_add_66 (lv : zL) (st : List Value) (w : zW) (nx K : Nat → zL → List Value → zW → Prop) (Rt : Option Value → zW → Prop) : z_st1 (tX9_add 66) 66 lv st w nx K Rt = (z_la lv 0 (fun x => nx 67 lv (.ref x :: st) w)) := id rfl
theorem sX9_add_67 (lv : zL) (st : List Value) (w : zW) (nx K : Nat → zL → List Value → zW → Prop) (Rt : Option Value → zW → Prop) : z_st1 (tX9_add 67) 67 lv st w nx K Rt = (z_1a st (fun x r => z_ob w x 10 (fun fs => z_fl fs 25 (fun u => nx 70 lv (u :: r) w)))) := id rfl
theorem sX9_add_70 (lv : zL) (st : List Value) (w : zW) (nx K : Nat → zL → List Value → zW → Prop) (Rt : Option Value → zW → Prop) : z_st1 (tX9_add 70) 70 lv st w nx K Rt = (z_li lv 6 (fun x => nx 72 lv (.int x :: st) w)) := id rfl
theorem sX9_add_72 (lv : zL) (st : List Value) (w : zW) (nx K : Nat → zL → List Value → zW → Prop) (Rt : Option Value → zW → Prop) : z_st1 (tX9_add 72) 72 lv st w nx K Rt = (z_li lv 7 (fun x => nx 74 lv (.int x :: st) w)) := id rfl
theorem sX9_add_74 (lv : zL) (st : List Value) (w : zW) (nx K : Nat → zL → List Value → zW → Prop) (Rt : Option Value → zW → Prop) : z_st1 (tX9_add 74) 74 lv st w nx K Rt = (nx 77 lv (.int (255 : Int32) :: st) w) := id rfl
theorem sX9_add_77 (lv : zL) (st : List Value) (w : zW) (nx K : Nat → zL → List Value → zW → Prop) (Rt : Option Value → zW → Prop) : z_st1 (tX9_add 77) 77 lv st w nx K Rt = (z_2i st (fun x y r => nx 78 lv (.int (x &&& y) :: r) w)) := id rfl
theorem sX9_add_78 (lv : zL) (st : List Value) (w : zW) (nx K : Nat → zL → List Value → zW → Prop) (Rt : Option Value → zW → Prop) : z_st1 (tX9_add 78) 78 lv st w nx K Rt = (z_iia st (fun x i u r => z_ar0 w x (fun m g => vp_in i m ∧ nx 79 lv r (z_up w x (.inl (0, m, .inl (upd g i.toNatClampNeg u))))))) := id rfl
theorem sX9_add_79 (lv : zL) (st : List Value) (w : zW) (nx K : Nat → zL → List Value → zW → Prop) (Rt : Option Value → zW → Prop) : z_st1 (tX9_add 79) 79 lv st w nx K Rt = (z_li lv 7 (fun x => nx 81 lv (.int x :: st) w)) := id rfl
theorem sX9_add_81 (lv : zL) (st : List Value) (w : zW) (nx K : Nat → zL → List Value → zW → Prop) (Rt : Option Value → zW → Prop) : z_st1 (tX9_add 81) 81 lv st w nx K Rt = (nx 83 lv (.int (8 : Int32) :: st) w) := id rfl
theorem sX9_add_83 (lv : zL) (st : List Value) (w : zW) (nx K : Nat → zL → List Value → zW → Prop) (Rt : Option Value → zW → Prop) : z_st1 (tX9_add 83) 83 lv st w nx K Rt = (z_2i st (fun x y r => nx 84 lv (.int (x >>> (y &&& 31)) :: r) w)) := id rfl
theorem sX9_add_84 (lv : zL) (st : List Value) (w : zW) (nx K : Nat → zL → List Value → zW → Prop) (Rt : Option Value → zW → Prop) : z_st1 (tX9_add 84) 84 lv st w nx K Rt = (z_1i st (fun x r => z_ok1 lv 4 = true ∧ nx 86 (lv.set 4 (some (.int x))) r w)) := id rfl
theorem sX9_add_86 (lv : zL) (st : List Value) (w : zW) (nx K : Nat → zL → List Value → zW → Prop) (Rt : Option Value → zW → Prop) : z_st1 (tX9_add 86) 86 lv st w nx K Rt = (z_li lv 5 (fun x => z_ok1 lv 5 = true ∧ nx 89 (lv.set 5 (some (.int (x + (-1 : Int32))))) st w)) := id rfl
theorem sX9_add_89 (lv : zL) (st : List Value) (w : zW) (nx K : Nat → zL → List Value → zW → Prop) (Rt : Option Value → zW → Prop) : z_st1 (tX9_add 89) 89 lv st w nx K Rt = (nx 13 lv st w) := id rfl
theorem sX9_add_92 (lv : zL) (st : List Value) (w : zW) (nx K : Nat → zL → List Value → zW → Prop) (Rt : Option Value → zW → Prop) : z_st1 (tX9_add 92) 92 lv st w nx K Rt = (z_e0 st (Rt none w)) := id rfl

def tmX9_isAdded (pc : Nat) : zI := match pc with
  | 0 => (1, 0, 0, 1, 0)
  | 1 => (46, 10, 20, 4, 0)
  | 4 => (34, 30, 0, 7, 0)
  | 7 => (1, 0, 0, 8, 0)
  | 8 => (1, 0, 0, 9, 0)
  | 9 => (46, 10, 25, 12, 0)
  | 12 => (6, 0, 0, 14, 32)
  | 14 => (0, 1, 0, 15, 0)
  | 15 => (10, 0, 0, 16, 0)
  | 16 => (1, 0, 0, 17, 0)
  | 17 => (46, 10, 25, 20, 0)
  | 20 => (6, 0, 0, 22, 32)
  | 22 => (0, 2, 0, 23, 0)
  | 23 => (10, 0, 0, 24, 0)
  | 27 => (34, 32, 0, 30, 0)
  | 30 => (6, 0, 0, 31, 0)
  | 31 => (58, 0, 0, 32, 0)
  | 32 => (6, 0, 0, 33, 1)
  | 33 => (3, 3, 0, 34, 0)
  | 34 => (6, 0, 0, 35, 0)
  | 35 => (3, 4, 0, 37, 0)
  | 37 => (0, 4, 0, 39, 0)
  | 39 => (1, 0, 0, 40, 0)
  | 40 => (46, 10, 20, 43, 0)
  | 43 => (43, 93, 0, 46, 0)
  | 46 => (0, 3, 0, 47, 0)
  | 47 => (34, 85, 0, 50, 0)
  | 50 => (1, 0, 0, 51, 0)
  | 51 => (0, 4, 0, 53, 0)
  | 53 => (0, 1, 0, 54, 0)
  | 57 => (34, 81, 0, 60, 0)
  | 60 => (1, 0, 0, 61, 0)
  | 61 => (0, 4, 0, 63, 0)
  | 63 => (0, 2, 0, 64, 0)
  | 67 => (34, 81, 0, 70, 0)
  | 70 => (1, 0, 0, 71, 0)
  | 71 => (0, 4, 0, 73, 0)
  | 73 => (0, 1, 0, 74, 0)
  | 74 => (0, 2, 0, 75, 0)
  | 78 => (35, 85, 0, 81, 0)
  | 81 => (6, 0, 0, 82, 1)
  | 82 => (33, 86, 0, 85, 0)
  | 85 => (6, 0, 0, 86, 0)
  | 86 => (3, 3, 0, 87, 0)
  | 87 => (7, 4, 0, 90, 1)
  | 90 => (33, 37, 0, 93, 0)
  | 93 => (6, 0, 0, 94, 0)
  | 94 => (3, 4, 0, 96, 0)
  | 96 => (0, 4, 0, 98, 0)
  | 98 => (1, 0, 0, 99, 0)
  | 99 => (46, 10, 20, 102, 0)
  | 102 => (43, 143, 0, 105, 0)
  | 105 => (0, 3, 0, 106, 0)
  | 106 => (34, 143, 0, 109, 0)
  | 109 => (1, 0, 0, 110, 0)
  | 110 => (0, 4, 0, 112, 0)
  | 112 => (0, 1, 0, 113, 0)
  | 116 => (34, 137, 0, 119, 0)
  | 119 => (1, 0, 0, 120, 0)
  | 120 => (0, 4, 0, 122, 0)
  | 122 => (0, 2, 0, 123, 0)
  | 126 => (34, 137, 0, 129, 0)
  | 129 => (1, 0, 0, 130, 0)
  | 130 => (0, 4, 0, 132, 0)
  | 132 => (0, 1, 0, 133, 0)
  | 133 => (0, 2, 0, 134, 0)
  | 137 => (7, 4, 0, 140, 1)
  | 140 => (33, 96, 0, 143, 0)
  | 143 => (0, 3, 0, 144, 0)
  | 144 => (58, 0, 0, 145, 0)
  | _ => (99, 0, 0, 0, 0)
def tX9_isAdded (pc : Nat) : zI := if pc < 145 then tmX9_isAdded pc else (99, 0, 0, 0, 0)
theorem tkX9_isAdded : z_tab RX9 wsX9_isAdded 5 (some .boolean) cX9_isAdded 145 tX9_isAdded := z_tab_of (tm := tmX9_isAdded) (by decide +kernel)
theorem sX9_isAdded_0 (lv : zL) (st : List Value) (w : zW) (nx K : Nat → zL → List Value → zW → Prop) (Rt : Option Value → zW → Prop) : z_st1 (tX9_isAdded 0) 0 lv st w nx K Rt = (z_la lv 0 (fun x => nx 1 lv (.ref x :: st) w)) := id rfl
theorem sX9_isAdded_1 (lv : zL) (st : List Value) (w : zW) (nx K : Nat → zL → List Value → zW → Prop) (Rt : Option Value → zW → Prop) : z_st1 (tX9_isAdded 1) 1 lv st w nx K Rt = (z_1a st (fun x r => z_ob w x 10 (fun fs => z_fl fs 20 (fun u => nx 4 lv (u :: r) w)))) := id rfl
theorem sX9_isAdded_4 (lv : zL) (st : List Value) (w : zW) (nx K : Nat → zL → List Value → zW → Prop) (Rt : Option Value → zW → Prop) : z_st1 (tX9_isAdded 4) 4 lv st w nx K Rt = (z_1i st (fun x r => (x = 0 → nx 30 lv r w) ∧ (¬ x = 0 → nx 7 lv r w))) := id rfl
theorem sX9_isAdded_7 (lv : zL) (st : List Value) (w : zW) (nx K : Nat → zL → List Value → zW → Prop) (Rt : Option Value → zW → Prop) : z_st1 (tX9_isAdded 7) 7 lv st w nx K Rt = (z_la lv 0 (fun x => nx 8 lv (.ref x :: st) w)) := id rfl
theorem sX9_isAdded_8 (lv : zL) (st : List Value) (w : zW) (nx K : Nat → zL → List Value → zW → Prop) (Rt : Option Value → zW → Prop) : z_st1 (tX9_isAdded 8) 8 lv st w nx K Rt = (z_la lv 0 (fun x => nx 9 lv (.ref x :: st) w)) := id rfl
theorem sX9_isAdded_9 (lv : zL) (st : List Value) (w : zW) (nx K : Nat → zL → List Value → zW → Prop) (Rt : Option Value → zW → Prop) : z_st1 (tX9_isAdded 9) 9 lv st w nx K Rt = (z_1a st (fun x r => z_ob w x 10 (fun fs => z_fl fs 25 (fun u => nx 12 lv (u :: r) w)))) := id rfl
theorem sX9_isAdded_12 (lv : zL) (st : List Value) (w : zW) (nx K : Nat → zL → List Value → zW → Prop) (Rt : Option Value → zW → Prop) : z_st1 (tX9_isAdded 12) 12 lv st w nx K Rt = (nx 14 lv (.int (32 : Int32) :: st) w) := id rfl
theorem sX9_isAdded_14 (lv : zL) (st : List Value) (w : zW) (nx K : Nat → zL → List Value → zW → Prop) (Rt : Option Value → zW → Prop) : z_st1 (tX9_isAdded 14) 14 lv st w nx K Rt = (z_li lv 1 (fun x => nx 15 lv (.int x :: st) w)) := id rfl
theorem sX9_isAdded_15 (lv : zL) (st : List Value) (w : zW) (nx K : Nat → zL → List Value → zW → Prop) (Rt : Option Value → zW → Prop) : z_st1 (tX9_isAdded 15) 15 lv st w nx K Rt = (z_2i st (fun x y r => nx 16 lv (.int (x * y) :: r) w)) := id rfl
theorem sX9_isAdded_16 (lv : zL) (st : List Value) (w : zW) (nx K : Nat → zL → List Value → zW → Prop) (Rt : Option Value → zW → Prop) : z_st1 (tX9_isAdded 16) 16 lv st w nx K Rt = (z_la lv 0 (fun x => nx 17 lv (.ref x :: st) w)) := id rfl
theorem sX9_isAdded_17 (lv : zL) (st : List Value) (w : zW) (nx K : Nat → zL → List Value → zW → Prop) (Rt : Option Value → zW → Prop) : z_st1 (tX9_isAdded 17) 17 lv st w nx K Rt = (z_1a st (fun x r => z_ob w x 10 (fun fs => z_fl fs 25 (fun u => nx 20 lv (u :: r) w)))) := id rfl
theorem sX9_isAdded_20 (lv : zL) (st : List Value) (w : zW) (nx K : Nat → zL → List Value → zW → Prop) (Rt : Option Value → zW → Prop) : z_st1 (tX9_isAdded 20) 20 lv st w nx K Rt = (nx 22 lv (.int (32 : Int32) :: st) w) := id rfl
theorem sX9_isAdded_22 (lv : zL) (st : List Value) (w : zW) (nx K : Nat → zL → List Value → zW → Prop) (Rt : Option Value → zW → Prop) : z_st1 (tX9_isAdded 22) 22 lv st w nx K Rt = (z_li lv 2 (fun x => nx 23 lv (.int x :: st) w)) := id rfl
theorem sX9_isAdded_23 (lv : zL) (st : List Value) (w : zW) (nx K : Nat → zL → List Value → zW → Prop) (Rt : Option Value → zW → Prop) : z_st1 (tX9_isAdded 23) 23 lv st w nx K Rt = (z_2i st (fun x y r => nx 24 lv (.int (x * y) :: r) w)) := id rfl
theorem sX9_isAdded_27 (lv : zL) (st : List Value) (w : zW) (nx K : Nat → zL → List Value → zW → Prop) (Rt : Option Value → zW → Prop) : z_st1 (tX9_isAdded 27) 27 lv st w nx K Rt = (z_1i st (fun x r => (x = 0 → nx 32 lv r w) ∧ (¬ x = 0 → nx 30 lv r w))) := id rfl
theorem sX9_isAdded_30 (lv : zL) (st : List Value) (w : zW) (nx K : Nat → zL → List Value → zW → Prop) (Rt : Option Value → zW → Prop) : z_st1 (tX9_isAdded 30) 30 lv st w nx K Rt = (nx 31 lv (.int (0 : Int32) :: st) w) := id rfl
theorem sX9_isAdded_31 (lv : zL) (st : List Value) (w : zW) (nx K : Nat → zL → List Value → zW → Prop) (Rt : Option Value → zW → Prop) : z_st1 (tX9_isAdded 31) 31 lv st w nx K Rt = (z_e1 st (fun x => (x = 0 ∨ x = 1) ∧ Rt (some (.int x)) w)) := id rfl
theorem sX9_isAdded_32 (lv : zL) (st : List Value) (w : zW) (nx K : Nat → zL → List Value → zW → Prop) (Rt : Option Value → zW → Prop) : z_st1 (tX9_isAdded 32) 32 lv st w nx K Rt = (nx 33 lv (.int (1 : Int32) :: st) w) := id rfl
theorem sX9_isAdded_33 (lv : zL) (st : List Value) (w : zW) (nx K : Nat → zL → List Value → zW → Prop) (Rt : Option Value → zW → Prop) : z_st1 (tX9_isAdded 33) 33 lv st w nx K Rt = (z_1i st (fun x r => z_ok1 lv 3 = true ∧ nx 34 (lv.set 3 (some (.int x))) r w)) := id rfl
theorem sX9_isAdded_34 (lv : zL) (st : List Value) (w : zW) (nx K : Nat → zL → List Value → zW → Prop) (Rt : Option Value → zW → Prop) : z_st1 (tX9_isAdded 34) 34 lv st w nx K Rt = (nx 35 lv (.int (0 : Int32) :: st) w) := id rfl
theorem sX9_isAdded_35 (lv : zL) (st : List Value) (w : zW) (nx K : Nat → zL → List Value → zW → Prop) (Rt : Option Value → zW → Prop) : z_st1 (tX9_isAdded 35) 35 lv st w nx K Rt = (z_1i st (fun x r => z_ok1 lv 4 = true ∧ nx 37 (lv.set 4 (some (.int x))) r w)) := id rfl
theorem sX9_isAdded_37 (lv : zL) (st : List Value) (w : zW) (nx K : Nat → zL → List Value → zW → Prop) (Rt : Option Value → zW → Prop) : z_st1 (tX9_isAdded 37) 37 lv st w nx K Rt = (z_li lv 4 (fun x => nx 39 lv (.int x :: st) w)) := id rfl
theorem sX9_isAdded_39 (lv : zL) (st : List Value) (w : zW) (nx K : Nat → zL → List Value → zW → Prop) (Rt : Option Value → zW → Prop) : z_st1 (tX9_isAdded 39) 39 lv st w nx K Rt = (z_la lv 0 (fun x => nx 40 lv (.ref x :: st) w)) := id rfl
theorem sX9_isAdded_40 (lv : zL) (st : List Value) (w : zW) (nx K : Nat → zL → List Value → zW → Prop) (Rt : Option Value → zW → Prop) : z_st1 (tX9_isAdded 40) 40 lv st w nx K Rt = (z_1a st (fun x r => z_ob w x 10 (fun fs => z_fl fs 20 (fun u => nx 43 lv (u :: r) w)))) := id rfl
theorem sX9_isAdded_43 (lv : zL) (st : List Value) (w : zW) (nx K : Nat → zL → List Value → zW → Prop) (Rt : Option Value → zW → Prop) : z_st1 (tX9_isAdded 43) 43 lv st w nx K Rt = (z_2i st (fun x y r => (y ≤ x → nx 93 lv r w) ∧ (¬ y ≤ x → nx 46 lv r w))) := id rfl
theorem sX9_isAdded_46 (lv : zL) (st : List Value) (w : zW) (nx K : Nat → zL → List Value → zW → Prop) (Rt : Option Value → zW → Prop) : z_st1 (tX9_isAdded 46) 46 lv st w nx K Rt = (z_li lv 3 (fun x => nx 47 lv (.int x :: st) w)) := id rfl
theorem sX9_isAdded_47 (lv : zL) (st : List Value) (w : zW) (nx K : Nat → zL → List Value → zW → Prop) (Rt : Option Value → zW → Prop) : z_st1 (tX9_isAdded 47) 47 lv st w nx K Rt = (z_1i st (fun x r => (x = 0 → nx 85 lv r w) ∧ (¬ x = 0 → nx 50 lv r w))) := id rfl
theorem sX9_isAdded_50 (lv : zL) (st : List Value) (w : zW) (nx K : Nat → zL → List Value → zW → Prop) (Rt : Option Value → zW → Prop) : z_st1 (tX9_isAdded 50) 50 lv st w nx K Rt = (z_la lv 0 (fun x => nx 51 lv (.ref x :: st) w)) := id rfl
theorem sX9_isAdded_51 (lv : zL) (st : List Value) (w : zW) (nx K : Nat → zL → List Value → zW → Prop) (Rt : Option Value → zW → Prop) : z_st1 (tX9_isAdded 51) 51 lv st w nx K Rt = (z_li lv 4 (fun x => nx 53 lv (.int x :: st) w)) := id rfl
theorem sX9_isAdded_53 (lv : zL) (st : List Value) (w : zW) (nx K : Nat → zL → List Value → zW → Prop) (Rt : Option Value → zW → Prop) : z_st1 (tX9_isAdded 53) 53 lv st w nx K Rt = (z_li lv 1 (fun x => nx 54 lv (.int x :: st) w)) := id rfl
theorem sX9_isAdded_57 (lv : zL) (st : List Value) (w : zW) (nx K : Nat → zL → List Value → zW → Prop) (Rt : Option Value → zW → Prop) : z_st1 (tX9_isAdded 57) 57 lv st w nx K Rt = (z_1i st (fun x r => (x = 0 → nx 81 lv r w) ∧ (¬ x = 0 → nx 60 lv r w))) := id rfl
theorem sX9_isAdded_60 (lv : zL) (st : List Value) (w : zW) (nx K : Nat → zL → List Value → zW → Prop) (Rt : Option Value → zW → Prop) : z_st1 (tX9_isAdded 60) 60 lv st w nx K Rt = (z_la lv 0 (fun x => nx 61 lv (.ref x :: st) w)) := id rfl
theorem sX9_isAdded_61 (lv : zL) (st : List Value) (w : zW) (nx K : Nat → zL → List Value → zW → Prop) (Rt : Option Value → zW → Prop) : z_st1 (tX9_isAdded 61) 61 lv st w nx K Rt = (z_li lv 4 (fun x => nx 63 lv (.int x :: st) w)) := id rfl
theorem sX9_isAdded_63 (lv : zL) (st : List Value) (w : zW) (nx K : Nat → zL → List Value → zW → Prop) (Rt : Option Value → zW → Prop) : z_st1 (tX9_isAdded 63) 63 lv st w nx K Rt = (z_li lv 2 (fun x => nx 64 lv (.int x :: st) w)) := id rfl
theorem sX9_isAdded_67 (lv : zL) (st : List Value) (w : zW) (nx K : Nat → zL → List Value → zW → Prop) (Rt : Option Value → zW → Prop) : z_st1 (tX9_isAdded 67) 67 lv st w nx K Rt = (z_1i st (fun x r => (x = 0 → nx 81 lv r w) ∧ (¬ x = 0 → nx 70 lv r w))) := id rfl
theorem sX9_isAdded_70 (lv : zL) (st : List Value) (w : zW) (nx K : Nat → zL → List Value → zW → Prop) (Rt : Option Value → zW → Prop) : z_st1 (tX9_isAdded 70) 70 lv st w nx K Rt = (z_la lv 0 (fun x => nx 71 lv (.ref x :: st) w)) := id rfl
theorem sX9_isAdded_71 (lv : zL) (st : List Value) (w : zW) (nx K : Nat → zL → List Value → zW → Prop) (Rt : Option Value → zW → Prop) : z_st1 (tX9_isAdded 71) 71 lv st w nx K Rt = (z_li lv 4 (fun x => nx 73 lv (.int x :: st) w)) := id rfl
theorem sX9_isAdded_73 (lv : zL) (st : List Value) (w : zW) (nx K : Nat → zL → List Value → zW → Prop) (Rt : Option Value → zW → Prop) : z_st1 (tX9_isAdded 73) 73 lv st w nx K Rt = (z_li lv 1 (fun x => nx 74 lv (.int x :: st) w)) := id rfl
theorem sX9_isAdded_74 (lv : zL) (st : List Value) (w : zW) (nx K : Nat → zL → List Value → zW → Prop) (Rt : Option Value → zW → Prop) : z_st1 (tX9_isAdded 74) 74 lv st w nx K Rt = (z_li lv 2 (fun x => nx 75 lv (.int x :: st) w)) := id rfl
theorem sX9_isAdded_78 (lv : zL) (st : List Value) (w : zW) (nx K : Nat → zL → List Value → zW → Prop) (Rt : Option Value → zW → Prop) : z_st1 (tX9_isAdded 78) 78 lv st w nx K Rt = (z_1i st (fun x r => (¬ x = 0 → nx 85 lv r w) ∧ (x = 0 → nx 81 lv r w))) := id rfl
theorem sX9_isAdded_81 (lv : zL) (st : List Value) (w : zW) (nx K : Nat → zL → List Value → zW → Prop) (Rt : Option Value → zW → Prop) : z_st1 (tX9_isAdded 81) 81 lv st w nx K Rt = (nx 82 lv (.int (1 : Int32) :: st) w) := id rfl
theorem sX9_isAdded_82 (lv : zL) (st : List Value) (w : zW) (nx K : Nat → zL → List Value → zW → Prop) (Rt : Option Value → zW → Prop) : z_st1 (tX9_isAdded 82) 82 lv st w nx K Rt = (nx 86 lv st w) := id rfl
theorem sX9_isAdded_85 (lv : zL) (st : List Value) (w : zW) (nx K : Nat → zL → List Value → zW → Prop) (Rt : Option Value → zW → Prop) : z_st1 (tX9_isAdded 85) 85 lv st w nx K Rt = (nx 86 lv (.int (0 : Int32) :: st) w) := id rfl
theorem sX9_isAdded_86 (lv : zL) (st : List Value) (w : zW) (nx K : Nat → zL → List Value → zW → Prop) (Rt : Option Value → zW → Prop) : z_st1 (tX9_isAdded 86) 86 lv st w nx K Rt = (z_1i st (fun x r => z_ok1 lv 3 = true ∧ nx 87 (lv.set 3 (some (.int x))) r w)) := id rfl
theorem sX9_isAdded_87 (lv : zL) (st : List Value) (w : zW) (nx K : Nat → zL → List Value → zW → Prop) (Rt : Option Value → zW → Prop) : z_st1 (tX9_isAdded 87) 87 lv st w nx K Rt = (z_li lv 4 (fun x => z_ok1 lv 4 = true ∧ nx 90 (lv.set 4 (some (.int (x + (1 : Int32))))) st w)) := id rfl
theorem sX9_isAdded_90 (lv : zL) (st : List Value) (w : zW) (nx K : Nat → zL → List Value → zW → Prop) (Rt : Option Value → zW → Prop) : z_st1 (tX9_isAdded 90) 90 lv st w nx K Rt = (nx 37 lv st w) := id rfl
theorem sX9_isAdded_93 (lv : zL) (st : List Value) (w : zW) (nx K : Nat → zL → List Value → zW → Prop) (Rt : Option Value → zW → Prop) : z_st1 (tX9_isAdded 93) 93 lv st w nx K Rt = (nx 94 lv (.int (0 : Int32) :: st) w) := id rfl
theorem sX9_isAdded_94 (lv : zL) (st : List Value) (w : zW) (nx K : Nat → zL → List Value → zW → Prop) (Rt : Option Value → zW → Prop) : z_st1 (tX9_isAdded 94) 94 lv st w nx K Rt = (z_1i st (fun x r => z_ok1 lv 4 = true ∧ nx 96 (lv.set 4 (some (.int x))) r w)) := id rfl
theorem sX9_isAdded_96 (lv : zL) (st : List Value) (w : zW) (nx K : Nat → zL → List Value → zW → Prop) (Rt : Option Value → zW → Prop) : z_st1 (tX9_isAdded 96) 96 lv st w nx K Rt = (z_li lv 4 (fun x => nx 98 lv (.int x :: st) w)) := id rfl
theorem sX9_isAdded_98 (lv : zL) (st : List Value) (w : zW) (nx K : Nat → zL → List Value → zW → Prop) (Rt : Option Value → zW → Prop) : z_st1 (tX9_isAdded 98) 98 lv st w nx K Rt = (z_la lv 0 (fun x => nx 99 lv (.ref x :: st) w)) := id rfl
theorem sX9_isAdded_99 (lv : zL) (st : List Value) (w : zW) (nx K : Nat → zL → List Value → zW → Prop) (Rt : Option Value → zW → Prop) : z_st1 (tX9_isAdded 99) 99 lv st w nx K Rt = (z_1a st (fun x r => z_ob w x 10 (fun fs => z_fl fs 20 (fun u => nx 102 lv (u :: r) w)))) := id rfl
theorem sX9_isAdded_102 (lv : zL) (st : List Value) (w : zW) (nx K : Nat → zL → List Value → zW → Prop) (Rt : Option Value → zW → Prop) : z_st1 (tX9_isAdded 102) 102 lv st w nx K Rt = (z_2i st (fun x y r => (y ≤ x → nx 143 lv r w) ∧ (¬ y ≤ x → nx 105 lv r w))) := id rfl
theorem sX9_isAdded_105 (lv : zL) (st : List Value) (w : zW) (nx K : Nat → zL → List Value → zW → Prop) (Rt : Option Value → zW → Prop) : z_st1 (tX9_isAdded 105) 105 lv st w nx K Rt = (z_li lv 3 (fun x => nx 106 lv (.int x :: st) w)) := id rfl
theorem sX9_isAdded_106 (lv : zL) (st : List Value) (w : zW) (nx K : Nat → zL → List Value → zW → Prop) (Rt : Option Value → zW → Prop) : z_st1 (tX9_isAdded 106) 106 lv st w nx K Rt = (z_1i st (fun x r => (x = 0 → nx 143 lv r w) ∧ (¬ x = 0 → nx 109 lv r w))) := id rfl
theorem sX9_isAdded_109 (lv : zL) (st : List Value) (w : zW) (nx K : Nat → zL → List Value → zW → Prop) (Rt : Option Value → zW → Prop) : z_st1 (tX9_isAdded 109) 109 lv st w nx K Rt = (z_la lv 0 (fun x => nx 110 lv (.ref x :: st) w)) := id rfl
theorem sX9_isAdded_110 (lv : zL) (st : List Value) (w : zW) (nx K : Nat → zL → List Value → zW → Prop) (Rt : Option Value → zW → Prop) : z_st1 (tX9_isAdded 110) 110 lv st w nx K Rt = (z_li lv 4 (fun x => nx 112 lv (.int x :: st) w)) := id rfl
theorem sX9_isAdded_112 (lv : zL) (st : List Value) (w : zW) (nx K : Nat → zL → List Value → zW → Prop) (Rt : Option Value → zW → Prop) : z_st1 (tX9_isAdded 112) 112 lv st w nx K Rt = (z_li lv 1 (fun x => nx 113 lv (.int x :: st) w)) := id rfl
theorem sX9_isAdded_116 (lv : zL) (st : List Value) (w : zW) (nx K : Nat → zL → List Value → zW → Prop) (Rt : Option Value → zW → Prop) : z_st1 (tX9_isAdded 116) 116 lv st w nx K Rt = (z_1i st (fun x r => (x = 0 → nx 137 lv r w) ∧ (¬ x = 0 → nx 119 lv r w))) := id rfl
theorem sX9_isAdded_119 (lv : zL) (st : List Value) (w : zW) (nx K : Nat → zL → List Value → zW → Prop) (Rt : Option Value → zW → Prop) : z_st1 (tX9_isAdded 119) 119 lv st w nx K Rt = (z_la lv 0 (fun x => nx 120 lv (.ref x :: st) w)) := id rfl
theorem sX9_isAdded_120 (lv : zL) (st : List Value) (w : zW) (nx K : Nat → zL → List Value → zW → Prop) (Rt : Option Value → zW → Prop) : z_st1 (tX9_isAdded 120) 120 lv st w nx K Rt = (z_li lv 4 (fun x => nx 122 lv (.int x :: st) w)) := id rfl
theorem sX9_isAdded_122 (lv : zL) (st : List Value) (w : zW) (nx K : Nat → zL → List Value → zW → Prop) (Rt : Option Value → zW → Prop) : z_st1 (tX9_isAdded 122) 122 lv st w nx K Rt = (z_li lv 2 (fun x => nx 123 lv (.int x :: st) w)) := id rfl
theorem sX9_isAdded_126 (lv : zL) (st : List Value) (w : zW) (nx K : Nat → zL → List Value → zW → Prop) (Rt : Option Value → zW → Prop) : z_st1 (tX9_isAdded 126) 126 lv st w nx K Rt = (z_1i st (fun x r => (x = 0 → nx 137 lv r w) ∧ (¬ x = 0 → nx 129 lv r w))) := id rfl
theorem sX9_isAdded_129 (lv : zL) (st : List Value) (w : zW) (nx K : Nat → zL → List Value → zW → Prop) (Rt : Option Value → zW → Prop) : z_st1 (tX9_isAdded 129) 129 lv st w nx K Rt = (z_la lv 0 (fun x => nx 130 lv (.ref x :: st) w)) := id rfl
theorem sX9_isAdded_130 (lv : zL) (st : List Value) (w : zW) (nx K : Nat → zL → List Value → zW → Prop) (Rt : Option Value → zW → Prop) : z_st1 (tX9_isAdded 130) 130 lv st w nx K Rt = (z_li lv 4 (fun x => nx 132 lv (.int x :: st) w)) := id rfl
theorem sX9_isAdded_132 (lv : zL) (st : List Value) (w : zW) (nx K : Nat → zL → List Value → zW → Prop) (Rt : Option Value → zW → Prop) : z_st1 (tX9_isAdded 132) 132 lv st w nx K Rt = (z_li lv 1 (fun x => nx 133 lv (.int x :: st) w)) := id rfl
theorem sX9_isAdded_133 (lv : zL) (st : List Value) (w : zW) (nx K : Nat → zL → List Value → zW → Prop) (Rt : Option Value → zW → Prop) : z_st1 (tX9_isAdded 133) 133 lv st w nx K Rt = (z_li lv 2 (fun x => nx 134 lv (.int x :: st) w)) := id rfl
theorem sX9_isAdded_137 (lv : zL) (st : List Value) (w : zW) (nx K : Nat → zL → List Value → zW → Prop) (Rt : Option Value → zW → Prop) : z_st1 (tX9_isAdded 137) 137 lv st w nx K Rt = (z_li lv 4 (fun x => z_ok1 lv 4 = true ∧ nx 140 (lv.set 4 (some (.int (x + (1 : Int32))))) st w)) := id rfl
theorem sX9_isAdded_140 (lv : zL) (st : List Value) (w : zW) (nx K : Nat → zL → List Value → zW → Prop) (Rt : Option Value → zW → Prop) : z_st1 (tX9_isAdded 140) 140 lv st w nx K Rt = (nx 96 lv st w) := id rfl
theorem sX9_isAdded_143 (lv : zL) (st : List Value) (w : zW) (nx K : Nat → zL → List Value → zW → Prop) (Rt : Option Value → zW → Prop) : z_st1 (tX9_isAdded 143) 143 lv st w nx K Rt = (z_li lv 3 (fun x => nx 144 lv (.int x :: st) w)) := id rfl
theorem sX9_isAdded_144 (lv : zL) (st : List Value) (w : zW) (nx K : Nat → zL → List Value → zW → Prop) (Rt : Option Value → zW → Prop) : z_st1 (tX9_isAdded 144) 144 lv st w nx K Rt = (z_e1 st (fun x => (x = 0 ∨ x = 1) ∧ Rt (some (.int x)) w)) := id rfl
theorem sX9_isAdded_24 (lv : zL) (st : List Value) (w : zW) (nx K : Nat → zL → List Value → zW → Prop) (Rt : Option Value → zW → Prop) : z_st1 (tX9_isAdded 24) 24 lv st w nx K Rt = K 24 lv st w := id rfl
theorem sX9_isAdded_54 (lv : zL) (st : List Value) (w : zW) (nx K : Nat → zL → List Value → zW → Prop) (Rt : Option Value → zW → Prop) : z_st1 (tX9_isAdded 54) 54 lv st w nx K Rt = K 54 lv st w := id rfl
theorem sX9_isAdded_64 (lv : zL) (st : List Value) (w : zW) (nx K : Nat → zL → List Value → zW → Prop) (Rt : Option Value → zW → Prop) : z_st1 (tX9_isAdded 64) 64 lv st w nx K Rt = K 64 lv st w := id rfl
theorem sX9_isAdded_75 (lv : zL) (st : List Value) (w : zW) (nx K : Nat → zL → List Value → zW → Prop) (Rt : Option Value → zW → Prop) : z_st1 (tX9_isAdded 75) 75 lv st w nx K Rt = K 75 lv st w := id rfl
theorem sX9_isAdded_113 (lv : zL) (st : List Value) (w : zW) (nx K : Nat → zL → List Value → zW → Prop) (Rt : Option Value → zW → Prop) : z_st1 (tX9_isAdded 113) 113 lv st w nx K Rt = K 113 lv st w := id rfl
theorem sX9_isAdded_123 (lv : zL) (st : List Value) (w : zW) (nx K : Nat → zL → List Value → zW → Prop) (Rt : Option Value → zW → Prop) : z_st1 (tX9_isAdded 123) 123 lv st w nx K Rt = K 123 lv st w := id rfl
theorem sX9_isAdded_134 (lv : zL) (st : List Value) (w : zW) (nx K : Nat → zL → List Value → zW → Prop) (Rt : Option Value → zW → Prop) : z_st1 (tX9_isAdded 134) 134 lv st w nx K Rt = K 134 lv st w := id rfl
theorem dX9_isAdded_24 : decode cX9_isAdded 24 = .ok (.invokevirtual 123, 3) := by decide +kernel
theorem dX9_isAdded_54 : decode cX9_isAdded 54 = .ok (.invokevirtual 133, 3) := by decide +kernel
theorem dX9_isAdded_64 : decode cX9_isAdded 64 = .ok (.invokevirtual 133, 3) := by decide +kernel
theorem dX9_isAdded_75 : decode cX9_isAdded 75 = .ok (.invokevirtual 137, 3) := by decide +kernel
theorem dX9_isAdded_113 : decode cX9_isAdded 113 = .ok (.invokevirtual 133, 3) := by decide +kernel
theorem dX9_isAdded_123 : decode cX9_isAdded 123 = .ok (.invokevirtual 133, 3) := by decide +kernel
theorem dX9_isAdded_134 : decode cX9_isAdded 134 = .ok (.invokevirtual 140, 3) := by decide +kernel

def tmX9_summed (pc : Nat) : zI := match pc with
  | 0 => (6, 0, 0, 1, 0)
  | 1 => (3, 1, 0, 2, 0)
  | 2 => (1, 0, 0, 3, 0)
  | 3 => (6, 0, 0, 4, 0)
  | 4 => (47, 10, 31, 7, 0)
  | 7 => (6, 0, 0, 8, 0)
  | 8 => (3, 2, 0, 9, 0)
  | 9 => (0, 2, 0, 10, 0)
  | 10 => (1, 0, 0, 11, 0)
  | 11 => (46, 10, 30, 14, 0)
  | 14 => (43, 85, 0, 17, 0)
  | 17 => (1, 0, 0, 18, 0)
  | 18 => (46, 10, 31, 21, 0)
  | 21 => (39, 54, 0, 24, 0)
  | 24 => (1, 0, 0, 25, 0)
  | 25 => (1, 0, 0, 26, 0)
  | 26 => (46, 10, 29, 29, 0)
  | 29 => (1, 0, 0, 30, 0)
  | 30 => (46, 10, 31, 33, 0)
  | 33 => (6, 0, 0, 34, 1)
  | 34 => (9, 0, 0, 35, 0)
  | 35 => (48, 0, 0, 36, 0)
  | 36 => (1, 0, 0, 37, 0)
  | 37 => (46, 10, 28, 40, 0)
  | 40 => (0, 2, 0, 41, 0)
  | 41 => (48, 0, 0, 42, 0)
  | 45 => (34, 54, 0, 48, 0)
  | 48 => (7, 1, 0, 51, 1)
  | 51 => (33, 79, 0, 54, 0)
  | 54 => (1, 0, 0, 55, 0)
  | 55 => (46, 10, 29, 58, 0)
  | 58 => (1, 0, 0, 59, 0)
  | 59 => (46, 10, 31, 62, 0)
  | 62 => (1, 0, 0, 63, 0)
  | 63 => (46, 10, 28, 66, 0)
  | 66 => (0, 2, 0, 67, 0)
  | 67 => (48, 0, 0, 68, 0)
  | 68 => (49, 0, 0, 69, 0)
  | 69 => (1, 0, 0, 70, 0)
  | 70 => (29, 0, 0, 71, 0)
  | 71 => (46, 10, 31, 74, 0)
  | 74 => (6, 0, 0, 75, 1)
  | 75 => (8, 0, 0, 76, 0)
  | 76 => (47, 10, 31, 79, 0)
  | 79 => (7, 2, 0, 82, 1)
  | 82 => (33, 9, 0, 85, 0)
  | 85 => (0, 1, 0, 86, 0)
  | 86 => (53, 0, 0, 87, 0)
  | _ => (99, 0, 0, 0, 0)
def tX9_summed (pc : Nat) : zI := if pc < 87 then tmX9_summed pc else (99, 0, 0, 0, 0)
theorem tkX9_summed : z_tab RX9 wsX9_summed 3 (some .int) cX9_summed 87 tX9_summed := z_tab_of (tm := tmX9_summed) (by decide +kernel)
theorem sX9_summed_0 (lv : zL) (st : List Value) (w : zW) (nx K : Nat → zL → List Value → zW → Prop) (Rt : Option Value → zW → Prop) : z_st1 (tX9_summed 0) 0 lv st w nx K Rt = (nx 1 lv (.int (0 : Int32) :: st) w) := id rfl
theorem sX9_summed_1 (lv : zL) (st : List Value) (w : zW) (nx K : Nat → zL → List Value → zW → Prop) (Rt : Option Value → zW → Prop) : z_st1 (tX9_summed 1) 1 lv st w nx K Rt = (z_1i st (fun x r => z_ok1 lv 1 = true ∧ nx 2 (lv.set 1 (some (.int x))) r w)) := id rfl
theorem sX9_summed_2 (lv : zL) (st : List Value) (w : zW) (nx K : Nat → zL → List Value → zW → Prop) (Rt : Option Value → zW → Prop) : z_st1 (tX9_summed 2) 2 lv st w nx K Rt = (z_la lv 0 (fun x => nx 3 lv (.ref x :: st) w)) := id rfl
theorem sX9_summed_3 (lv : zL) (st : List Value) (w : zW) (nx K : Nat → zL → List Value → zW → Prop) (Rt : Option Value → zW → Prop) : z_st1 (tX9_summed 3) 3 lv st w nx K Rt = (nx 4 lv (.int (0 : Int32) :: st) w) := id rfl
theorem sX9_summed_4 (lv : zL) (st : List Value) (w : zW) (nx K : Nat → zL → List Value → zW → Prop) (Rt : Option Value → zW → Prop) : z_st1 (tX9_summed 4) 4 lv st w nx K Rt = (z_ia st (fun x i r => z_ob w x 10 (fun fs => 31 < fs.length ∧ nx 7 lv r (z_up w x (.inr (10, fs.set 31 (.int i))))))) := id rfl
theorem sX9_summed_7 (lv : zL) (st : List Value) (w : zW) (nx K : Nat → zL → List Value → zW → Prop) (Rt : Option Value → zW → Prop) : z_st1 (tX9_summed 7) 7 lv st w nx K Rt = (nx 8 lv (.int (0 : Int32) :: st) w) := id rfl
theorem sX9_summed_8 (lv : zL) (st : List Value) (w : zW) (nx K : Nat → zL → List Value → zW → Prop) (Rt : Option Value → zW → Prop) : z_st1 (tX9_summed 8) 8 lv st w nx K Rt = (z_1i st (fun x r => z_ok1 lv 2 = true ∧ nx 9 (lv.set 2 (some (.int x))) r w)) := id rfl
theorem sX9_summed_9 (lv : zL) (st : List Value) (w : zW) (nx K : Nat → zL → List Value → zW → Prop) (Rt : Option Value → zW → Prop) : z_st1 (tX9_summed 9) 9 lv st w nx K Rt = (z_li lv 2 (fun x => nx 10 lv (.int x :: st) w)) := id rfl
theorem sX9_summed_10 (lv : zL) (st : List Value) (w : zW) (nx K : Nat → zL → List Value → zW → Prop) (Rt : Option Value → zW → Prop) : z_st1 (tX9_summed 10) 10 lv st w nx K Rt = (z_la lv 0 (fun x => nx 11 lv (.ref x :: st) w)) := id rfl
theorem sX9_summed_11 (lv : zL) (st : List Value) (w : zW) (nx K : Nat → zL → List Value → zW → Prop) (Rt : Option Value → zW → Prop) : z_st1 (tX9_summed 11) 11 lv st w nx K Rt = (z_1a st (fun x r => z_ob w x 10 (fun fs => z_fl fs 30 (fun u => nx 14 lv (u :: r) w)))) := id rfl
theorem sX9_summed_14 (lv : zL) (st : List Value) (w : zW) (nx K : Nat → zL → List Value → zW → Prop) (Rt : Option Value → zW → Prop) : z_st1 (tX9_summed 14) 14 lv st w nx K Rt = (z_2i st (fun x y r => (y ≤ x → nx 85 lv r w) ∧ (¬ y ≤ x → nx 17 lv r w))) := id rfl
theorem sX9_summed_17 (lv : zL) (st : List Value) (w : zW) (nx K : Nat → zL → List Value → zW → Prop) (Rt : Option Value → zW → Prop) : z_st1 (tX9_summed 17) 17 lv st w nx K Rt = (z_la lv 0 (fun x => nx 18 lv (.ref x :: st) w)) := id rfl
theorem sX9_summed_18 (lv : zL) (st : List Value) (w : zW) (nx K : Nat → zL → List Value → zW → Prop) (Rt : Option Value → zW → Prop) : z_st1 (tX9_summed 18) 18 lv st w nx K Rt = (z_1a st (fun x r => z_ob w x 10 (fun fs => z_fl fs 31 (fun u => nx 21 lv (u :: r) w)))) := id rfl
theorem sX9_summed_21 (lv : zL) (st : List Value) (w : zW) (nx K : Nat → zL → List Value → zW → Prop) (Rt : Option Value → zW → Prop) : z_st1 (tX9_summed 21) 21 lv st w nx K Rt = (z_1i st (fun x r => (x ≤ 0 → nx 54 lv r w) ∧ (¬ x ≤ 0 → nx 24 lv r w))) := id rfl
theorem sX9_summed_24 (lv : zL) (st : List Value) (w : zW) (nx K : Nat → zL → List Value → zW → Prop) (Rt : Option Value → zW → Prop) : z_st1 (tX9_summed 24) 24 lv st w nx K Rt = (z_la lv 0 (fun x => nx 25 lv (.ref x :: st) w)) := id rfl
theorem sX9_summed_25 (lv : zL) (st : List Value) (w : zW) (nx K : Nat → zL → List Value → zW → Prop) (Rt : Option Value → zW → Prop) : z_st1 (tX9_summed 25) 25 lv st w nx K Rt = (z_la lv 0 (fun x => nx 26 lv (.ref x :: st) w)) := id rfl
theorem sX9_summed_26 (lv : zL) (st : List Value) (w : zW) (nx K : Nat → zL → List Value → zW → Prop) (Rt : Option Value → zW → Prop) : z_st1 (tX9_summed 26) 26 lv st w nx K Rt = (z_1a st (fun x r => z_ob w x 10 (fun fs => z_fl fs 29 (fun u => nx 29 lv (u :: r) w)))) := id rfl
theorem sX9_summed_29 (lv : zL) (st : List Value) (w : zW) (nx K : Nat → zL → List Value → zW → Prop) (Rt : Option Value → zW → Prop) : z_st1 (tX9_summed 29) 29 lv st w nx K Rt = (z_la lv 0 (fun x => nx 30 lv (.ref x :: st) w)) := id rfl
theorem sX9_summed_30 (lv : zL) (st : List Value) (w : zW) (nx K : Nat → zL → List Value → zW → Prop) (Rt : Option Value → zW → Prop) : z_st1 (tX9_summed 30) 30 lv st w nx K Rt = (z_1a st (fun x r => z_ob w x 10 (fun fs => z_fl fs 31 (fun u => nx 33 lv (u :: r) w)))) := id rfl
theorem sX9_summed_33 (lv : zL) (st : List Value) (w : zW) (nx K : Nat → zL → List Value → zW → Prop) (Rt : Option Value → zW → Prop) : z_st1 (tX9_summed 33) 33 lv st w nx K Rt = (nx 34 lv (.int (1 : Int32) :: st) w) := id rfl
theorem sX9_summed_34 (lv : zL) (st : List Value) (w : zW) (nx K : Nat → zL → List Value → zW → Prop) (Rt : Option Value → zW → Prop) : z_st1 (tX9_summed 34) 34 lv st w nx K Rt = (z_2i st (fun x y r => nx 35 lv (.int (x - y) :: r) w)) := id rfl
theorem sX9_summed_35 (lv : zL) (st : List Value) (w : zW) (nx K : Nat → zL → List Value → zW → Prop) (Rt : Option Value → zW → Prop) : z_st1 (tX9_summed 35) 35 lv st w nx K Rt = (z_ia st (fun x i r => z_ar0 w x (fun m g => vp_in i m ∧ nx 36 lv (.int (g i.toNatClampNeg) :: r) w))) := id rfl
theorem sX9_summed_36 (lv : zL) (st : List Value) (w : zW) (nx K : Nat → zL → List Value → zW → Prop) (Rt : Option Value → zW → Prop) : z_st1 (tX9_summed 36) 36 lv st w nx K Rt = (z_la lv 0 (fun x => nx 37 lv (.ref x :: st) w)) := id rfl
theorem sX9_summed_37 (lv : zL) (st : List Value) (w : zW) (nx K : Nat → zL → List Value → zW → Prop) (Rt : Option Value → zW → Prop) : z_st1 (tX9_summed 37) 37 lv st w nx K Rt = (z_1a st (fun x r => z_ob w x 10 (fun fs => z_fl fs 28 (fun u => nx 40 lv (u :: r) w)))) := id rfl
theorem sX9_summed_40 (lv : zL) (st : List Value) (w : zW) (nx K : Nat → zL → List Value → zW → Prop) (Rt : Option Value → zW → Prop) : z_st1 (tX9_summed 40) 40 lv st w nx K Rt = (z_li lv 2 (fun x => nx 41 lv (.int x :: st) w)) := id rfl
theorem sX9_summed_41 (lv : zL) (st : List Value) (w : zW) (nx K : Nat → zL → List Value → zW → Prop) (Rt : Option Value → zW → Prop) : z_st1 (tX9_summed 41) 41 lv st w nx K Rt = (z_ia st (fun x i r => z_ar0 w x (fun m g => vp_in i m ∧ nx 42 lv (.int (g i.toNatClampNeg) :: r) w))) := id rfl
theorem sX9_summed_45 (lv : zL) (st : List Value) (w : zW) (nx K : Nat → zL → List Value → zW → Prop) (Rt : Option Value → zW → Prop) : z_st1 (tX9_summed 45) 45 lv st w nx K Rt = (z_1i st (fun x r => (x = 0 → nx 54 lv r w) ∧ (¬ x = 0 → nx 48 lv r w))) := id rfl
theorem sX9_summed_48 (lv : zL) (st : List Value) (w : zW) (nx K : Nat → zL → List Value → zW → Prop) (Rt : Option Value → zW → Prop) : z_st1 (tX9_summed 48) 48 lv st w nx K Rt = (z_li lv 1 (fun x => z_ok1 lv 1 = true ∧ nx 51 (lv.set 1 (some (.int (x + (1 : Int32))))) st w)) := id rfl
theorem sX9_summed_51 (lv : zL) (st : List Value) (w : zW) (nx K : Nat → zL → List Value → zW → Prop) (Rt : Option Value → zW → Prop) : z_st1 (tX9_summed 51) 51 lv st w nx K Rt = (nx 79 lv st w) := id rfl
theorem sX9_summed_54 (lv : zL) (st : List Value) (w : zW) (nx K : Nat → zL → List Value → zW → Prop) (Rt : Option Value → zW → Prop) : z_st1 (tX9_summed 54) 54 lv st w nx K Rt = (z_la lv 0 (fun x => nx 55 lv (.ref x :: st) w)) := id rfl
theorem sX9_summed_55 (lv : zL) (st : List Value) (w : zW) (nx K : Nat → zL → List Value → zW → Prop) (Rt : Option Value → zW → Prop) : z_st1 (tX9_summed 55) 55 lv st w nx K Rt = (z_1a st (fun x r => z_ob w x 10 (fun fs => z_fl fs 29 (fun u => nx 58 lv (u :: r) w)))) := id rfl
theorem sX9_summed_58 (lv : zL) (st : List Value) (w : zW) (nx K : Nat → zL → List Value → zW → Prop) (Rt : Option Value → zW → Prop) : z_st1 (tX9_summed 58) 58 lv st w nx K Rt = (z_la lv 0 (fun x => nx 59 lv (.ref x :: st) w)) := id rfl
theorem sX9_summed_59 (lv : zL) (st : List Value) (w : zW) (nx K : Nat → zL → List Value → zW → Prop) (Rt : Option Value → zW → Prop) : z_st1 (tX9_summed 59) 59 lv st w nx K Rt = (z_1a st (fun x r => z_ob w x 10 (fun fs => z_fl fs 31 (fun u => nx 62 lv (u :: r) w)))) := id rfl
theorem sX9_summed_62 (lv : zL) (st : List Value) (w : zW) (nx K : Nat → zL → List Value → zW → Prop) (Rt : Option Value → zW → Prop) : z_st1 (tX9_summed 62) 62 lv st w nx K Rt = (z_la lv 0 (fun x => nx 63 lv (.ref x :: st) w)) := id rfl
theorem sX9_summed_63 (lv : zL) (st : List Value) (w : zW) (nx K : Nat → zL → List Value → zW → Prop) (Rt : Option Value → zW → Prop) : z_st1 (tX9_summed 63) 63 lv st w nx K Rt = (z_1a st (fun x r => z_ob w x 10 (fun fs => z_fl fs 28 (fun u => nx 66 lv (u :: r) w)))) := id rfl
theorem sX9_summed_66 (lv : zL) (st : List Value) (w : zW) (nx K : Nat → zL → List Value → zW → Prop) (Rt : Option Value → zW → Prop) : z_st1 (tX9_summed 66) 66 lv st w nx K Rt = (z_li lv 2 (fun x => nx 67 lv (.int x :: st) w)) := id rfl
theorem sX9_summed_67 (lv : zL) (st : List Value) (w : zW) (nx K : Nat → zL → List Value → zW → Prop) (Rt : Option Value → zW → Prop) : z_st1 (tX9_summed 67) 67 lv st w nx K Rt = (z_ia st (fun x i r => z_ar0 w x (fun m g => vp_in i m ∧ nx 68 lv (.int (g i.toNatClampNeg) :: r) w))) := id rfl
theorem sX9_summed_68 (lv : zL) (st : List Value) (w : zW) (nx K : Nat → zL → List Value → zW → Prop) (Rt : Option Value → zW → Prop) : z_st1 (tX9_summed 68) 68 lv st w nx K Rt = (z_iia st (fun x i u r => z_ar0 w x (fun m g => vp_in i m ∧ nx 69 lv r (z_up w x (.inl (0, m, .inl (upd g i.toNatClampNeg u))))))) := id rfl
theorem sX9_summed_69 (lv : zL) (st : List Value) (w : zW) (nx K : Nat → zL → List Value → zW → Prop) (Rt : Option Value → zW → Prop) : z_st1 (tX9_summed 69) 69 lv st w nx K Rt = (z_la lv 0 (fun x => nx 70 lv (.ref x :: st) w)) := id rfl
theorem sX9_summed_70 (lv : zL) (st : List Value) (w : zW) (nx K : Nat → zL → List Value → zW → Prop) (Rt : Option Value → zW → Prop) : z_st1 (tX9_summed 70) 70 lv st w nx K Rt = (z_d1 st (fun x r => nx 71 lv (x :: x :: r) w)) := id rfl
theorem sX9_summed_71 (lv : zL) (st : List Value) (w : zW) (nx K : Nat → zL → List Value → zW → Prop) (Rt : Option Value → zW → Prop) : z_st1 (tX9_summed 71) 71 lv st w nx K Rt = (z_1a st (fun x r => z_ob w x 10 (fun fs => z_fl fs 31 (fun u => nx 74 lv (u :: r) w)))) := id rfl
theorem sX9_summed_74 (lv : zL) (st : List Value) (w : zW) (nx K : Nat → zL → List Value → zW → Prop) (Rt : Option Value → zW → Prop) : z_st1 (tX9_summed 74) 74 lv st w nx K Rt = (nx 75 lv (.int (1 : Int32) :: st) w) := id rfl
theorem sX9_summed_75 (lv : zL) (st : List Value) (w : zW) (nx K : Nat → zL → List Value → zW → Prop) (Rt : Option Value → zW → Prop) : z_st1 (tX9_summed 75) 75 lv st w nx K Rt = (z_2i st (fun x y r => nx 76 lv (.int (x + y) :: r) w)) := id rfl
theorem sX9_summed_76 (lv : zL) (st : List Value) (w : zW) (nx K : Nat → zL → List Value → zW → Prop) (Rt : Option Value → zW → Prop) : z_st1 (tX9_summed 76) 76 lv st w nx K Rt = (z_ia st (fun x i r => z_ob w x 10 (fun fs => 31 < fs.length ∧ nx 79 lv r (z_up w x (.inr (10, fs.set 31 (.int i))))))) := id rfl
theorem sX9_summed_79 (lv : zL) (st : List Value) (w : zW) (nx K : Nat → zL → List Value → zW → Prop) (Rt : Option Value → zW → Prop) : z_st1 (tX9_summed 79) 79 lv st w nx K Rt = (z_li lv 2 (fun x => z_ok1 lv 2 = true ∧ nx 82 (lv.set 2 (some (.int (x + (1 : Int32))))) st w)) := id rfl
theorem sX9_summed_82 (lv : zL) (st : List Value) (w : zW) (nx K : Nat → zL → List Value → zW → Prop) (Rt : Option Value → zW → Prop) : z_st1 (tX9_summed 82) 82 lv st w nx K Rt = (nx 9 lv st w) := id rfl
theorem sX9_summed_85 (lv : zL) (st : List Value) (w : zW) (nx K : Nat → zL → List Value → zW → Prop) (Rt : Option Value → zW → Prop) : z_st1 (tX9_summed 85) 85 lv st w nx K Rt = (z_li lv 1 (fun x => nx 86 lv (.int x :: st) w)) := id rfl
theorem sX9_summed_86 (lv : zL) (st : List Value) (w : zW) (nx K : Nat → zL → List Value → zW → Prop) (Rt : Option Value → zW → Prop) : z_st1 (tX9_summed 86) 86 lv st w nx K Rt = (z_e1 st (fun x => Rt (some (.int x)) w)) := id rfl
theorem sX9_summed_42 (lv : zL) (st : List Value) (w : zW) (nx K : Nat → zL → List Value → zW → Prop) (Rt : Option Value → zW → Prop) : z_st1 (tX9_summed 42) 42 lv st w nx K Rt = K 42 lv st w := id rfl
theorem dX9_summed_42 : decode cX9_summed 42 = .ok (.invokevirtual 147, 3) := by decide +kernel

def tmX9_sort (pc : Nat) : zI := match pc with
  | 0 => (1, 0, 0, 1, 0)
  | 1 => (6, 0, 0, 2, 0)
  | 2 => (47, 10, 0, 5, 0)
  | 5 => (1, 0, 0, 6, 0)
  | 6 => (46, 10, 3, 9, 0)
  | 9 => (6, 0, 0, 10, 1)
  | 10 => (40, 16, 0, 13, 0)
  | 13 => (6, 0, 0, 15, (-5))
  | 15 => (53, 0, 0, 16, 0)
  | 16 => (1, 0, 0, 17, 0)
  | 17 => (6, 0, 0, 18, 0)
  | 18 => (47, 10, 30, 21, 0)
  | 21 => (1, 0, 0, 22, 0)
  | 22 => (46, 10, 19, 25, 0)
  | 25 => (6, 0, 0, 26, 0)
  | 26 => (6, 0, 0, 27, 0)
  | 27 => (49, 0, 0, 28, 0)
  | 28 => (1, 0, 0, 29, 0)
  | 29 => (46, 10, 19, 32, 0)
  | 32 => (6, 0, 0, 33, 1)
  | 33 => (6, 0, 0, 34, 0)
  | 34 => (49, 0, 0, 35, 0)
  | 35 => (6, 0, 0, 36, 0)
  | 36 => (3, 2, 0, 37, 0)
  | 37 => (6, 0, 0, 38, 0)
  | 38 => (3, 3, 0, 39, 0)
  | 39 => (0, 3, 0, 40, 0)
  | 40 => (1, 0, 0, 41, 0)
  | 41 => (46, 10, 22, 44, 0)
  | 44 => (43, 137, 0, 47, 0)
  | 47 => (1, 0, 0, 48, 0)
  | 48 => (1, 0, 0, 49, 0)
  | 49 => (46, 10, 21, 52, 0)
  | 52 => (0, 3, 0, 53, 0)
  | 53 => (48, 0, 0, 54, 0)
  | 57 => (1, 0, 0, 58, 0)
  | 58 => (1, 0, 0, 59, 0)
  | 59 => (46, 10, 30, 62, 0)
  | 62 => (6, 0, 0, 63, 1)
  | 63 => (9, 0, 0, 64, 0)
  | 67 => (34, 84, 0, 70, 0)
  | 70 => (1, 0, 0, 71, 0)
  | 71 => (6, 0, 0, 72, 0)
  | 72 => (1, 0, 0, 73, 0)
  | 73 => (46, 10, 30, 76, 0)
  | 76 => (6, 0, 0, 77, 1)
  | 77 => (9, 0, 0, 78, 0)
  | 81 => (33, 85, 0, 84, 0)
  | 84 => (6, 0, 0, 85, 0)
  | 85 => (3, 4, 0, 87, 0)
  | 87 => (0, 4, 0, 89, 0)
  | 89 => (37, 99, 0, 92, 0)
  | 92 => (1, 0, 0, 93, 0)
  | 93 => (6, 0, 0, 94, 1)
  | 94 => (47, 10, 0, 97, 0)
  | 97 => (6, 0, 0, 98, 0)
  | 98 => (53, 0, 0, 99, 0)
  | 99 => (1, 0, 0, 100, 0)
  | 100 => (29, 0, 0, 101, 0)
  | 101 => (46, 10, 30, 104, 0)
  | 104 => (0, 4, 0, 106, 0)
  | 106 => (35, 113, 0, 109, 0)
  | 109 => (6, 0, 0, 110, 1)
  | 110 => (33, 114, 0, 113, 0)
  | 113 => (6, 0, 0, 114, 0)
  | 114 => (9, 0, 0, 115, 0)
  | 115 => (47, 10, 30, 118, 0)
  | 118 => (0, 2, 0, 119, 0)
  | 119 => (0, 4, 0, 121, 0)
  | 121 => (35, 128, 0, 124, 0)
  | 124 => (6, 0, 0, 125, 1)
  | 125 => (33, 129, 0, 128, 0)
  | 128 => (6, 0, 0, 129, 0)
  | 129 => (8, 0, 0, 130, 0)
  | 130 => (3, 2, 0, 131, 0)
  | 131 => (7, 3, 0, 134, 1)
  | 134 => (33, 39, 0, 137, 0)
  | 137 => (1, 0, 0, 138, 0)
  | 138 => (0, 1, 0, 139, 0)
  | 139 => (35, 146, 0, 142, 0)
  | 142 => (6, 0, 0, 143, 1)
  | 143 => (33, 147, 0, 146, 0)
  | 146 => (6, 0, 0, 147, 0)
  | 150 => (1, 0, 0, 151, 0)
  | 154 => (3, 3, 0, 155, 0)
  | 155 => (6, 0, 0, 156, 0)
  | 156 => (3, 4, 0, 158, 0)
  | 158 => (6, 0, 0, 159, 0)
  | 159 => (3, 5, 0, 161, 0)
  | 161 => (0, 5, 0, 163, 0)
  | 163 => (1, 0, 0, 164, 0)
  | 164 => (46, 10, 31, 167, 0)
  | 167 => (43, 223, 0, 170, 0)
  | 170 => (1, 0, 0, 171, 0)
  | 171 => (6, 0, 0, 172, 1)
  | 172 => (1, 0, 0, 173, 0)
  | 173 => (46, 10, 29, 176, 0)
  | 176 => (0, 5, 0, 178, 0)
  | 178 => (48, 0, 0, 179, 0)
  | 182 => (3, 6, 0, 184, 0)
  | 184 => (0, 6, 0, 186, 0)
  | 186 => (37, 196, 0, 189, 0)
  | 189 => (1, 0, 0, 190, 0)
  | 190 => (6, 0, 0, 191, 1)
  | 191 => (47, 10, 0, 194, 0)
  | 194 => (6, 0, 0, 195, 0)
  | 195 => (53, 0, 0, 196, 0)
  | 196 => (1, 0, 0, 197, 0)
  | 197 => (46, 10, 29, 200, 0)
  | 200 => (0, 4, 0, 202, 0)
  | 202 => (1, 0, 0, 203, 0)
  | 203 => (46, 10, 29, 206, 0)
  | 206 => (0, 5, 0, 208, 0)
  | 208 => (48, 0, 0, 209, 0)
  | 209 => (49, 0, 0, 210, 0)
  | 210 => (0, 4, 0, 212, 0)
  | 212 => (0, 6, 0, 214, 0)
  | 214 => (8, 0, 0, 215, 0)
  | 215 => (3, 4, 0, 217, 0)
  | 217 => (7, 5, 0, 220, 1)
  | 220 => (33, 161, 0, 223, 0)
  | 223 => (1, 0, 0, 224, 0)
  | 224 => (46, 10, 35, 227, 0)
  | 227 => (6, 0, 0, 229, 8)
  | 229 => (1, 0, 0, 230, 0)
  | 230 => (46, 10, 31, 233, 0)
  | 233 => (0, 4, 0, 235, 0)
  | 235 => (9, 0, 0, 236, 0)
  | 236 => (49, 0, 0, 237, 0)
  | 237 => (1, 0, 0, 238, 0)
  | 238 => (46, 10, 35, 241, 0)
  | 241 => (6, 0, 0, 243, 7)
  | 243 => (0, 3, 0, 244, 0)
  | 244 => (49, 0, 0, 245, 0)
  | 245 => (1, 0, 0, 246, 0)
  | 246 => (46, 10, 35, 249, 0)
  | 249 => (6, 0, 0, 251, 6)
  | 251 => (0, 2, 0, 252, 0)
  | 252 => (49, 0, 0, 253, 0)
  | 253 => (1, 0, 0, 254, 0)
  | 254 => (46, 10, 35, 257, 0)
  | 257 => (6, 0, 0, 258, 4)
  | 258 => (1, 0, 0, 259, 0)
  | 259 => (46, 10, 30, 262, 0)
  | 262 => (1, 0, 0, 263, 0)
  | 263 => (46, 10, 1, 266, 0)
  | 266 => (8, 0, 0, 267, 0)
  | 267 => (6, 0, 0, 268, 1)
  | 268 => (9, 0, 0, 269, 0)
  | 269 => (1, 0, 0, 270, 0)
  | 270 => (46, 10, 1, 273, 0)
  | 273 => (15, 0, 0, 274, 0)
  | 274 => (49, 0, 0, 275, 0)
  | 275 => (1, 0, 0, 276, 0)
  | 276 => (46, 10, 35, 279, 0)
  | 279 => (6, 0, 0, 280, 5)
  | 280 => (6, 0, 0, 281, 0)
  | 281 => (49, 0, 0, 282, 0)
  | 282 => (1, 0, 0, 283, 0)
  | 283 => (46, 10, 35, 286, 0)
  | 286 => (6, 0, 0, 287, 4)
  | 287 => (48, 0, 0, 288, 0)
  | 288 => (3, 5, 0, 290, 0)
  | 290 => (0, 5, 0, 292, 0)
  | 292 => (6, 0, 0, 293, 1)
  | 293 => (45, 325, 0, 296, 0)
  | 296 => (1, 0, 0, 297, 0)
  | 297 => (46, 10, 35, 300, 0)
  | 300 => (6, 0, 0, 301, 5)
  | 301 => (32, 0, 0, 302, 0)
  | 302 => (48, 0, 0, 303, 0)
  | 303 => (6, 0, 0, 304, 1)
  | 304 => (8, 0, 0, 305, 0)
  | 305 => (49, 0, 0, 306, 0)
  | 306 => (0, 5, 0, 308, 0)
  | 308 => (1, 0, 0, 309, 0)
  | 309 => (46, 10, 2, 312, 0)
  | 312 => (8, 0, 0, 313, 0)
  | 313 => (6, 0, 0, 314, 1)
  | 314 => (9, 0, 0, 315, 0)
  | 315 => (1, 0, 0, 316, 0)
  | 316 => (46, 10, 2, 319, 0)
  | 319 => (15, 0, 0, 320, 0)
  | 320 => (3, 5, 0, 322, 0)
  | 322 => (33, 290, 0, 325, 0)
  | 325 => (1, 0, 0, 326, 0)
  | 326 => (0, 4, 0, 328, 0)
  | 328 => (47, 10, 31, 331, 0)
  | 331 => (1, 0, 0, 332, 0)
  | 332 => (6, 0, 0, 333, 0)
  | 333 => (47, 10, 22, 336, 0)
  | 336 => (1, 0, 0, 337, 0)
  | 340 => (53, 0, 0, 341, 0)
  | _ => (99, 0, 0, 0, 0)
def tX9_sort (pc : Nat) : zI := if pc < 341 then tmX9_sort pc else (99, 0, 0, 0, 0)
theorem tkX9_sort : z_tab RX9 wsX9_sort 7 (some .int) cX9_sort 341 tX9_sort := z_tab_of (tm := tmX9_sort) (by decide +kernel)
theorem sX9_sort_0 (lv : zL) (st : List Value) (w : zW) (nx K : Nat → zL → List Value → zW → Prop) (Rt : Option Value → zW → Prop) : z_st1 (tX9_sort 0) 0 lv st w nx K Rt = (z_la lv 0 (fun x => nx 1 lv (.ref x :: st) w)) := id rfl
theorem sX9_sort_1 (lv : zL) (st : List Value) (w : zW) (nx K : Nat → zL → List Value → zW → Prop) (Rt : Option Value → zW → Prop) : z_st1 (tX9_sort 1) 1 lv st w nx K Rt = (nx 2 lv (.int (0 : Int32) :: st) w) := id rfl
theorem sX9_sort_2 (lv : zL) (st : List Value) (w : zW) (nx K : Nat → zL → List Value → zW → Prop) (Rt : Option Value → zW → Prop) : z_st1 (tX9_sort 2) 2 lv st w nx K Rt = (z_ia st (fun x i r => z_ob w x 10 (fun fs => 0 < fs.length ∧ nx 5 lv r (z_up w x (.inr (10, fs.set 0 (.int i))))))) := id rfl
theorem sX9_sort_5 (lv : zL) (st : List Value) (w : zW) (nx K : Nat → zL → List Value → zW → Prop) (Rt : Option Value → zW → Prop) : z_st1 (tX9_sort 5) 5 lv st w nx K Rt = (z_la lv 0 (fun x => nx 6 lv (.ref x :: st) w)) := id rfl
theorem sX9_sort_6 (lv : zL) (st : List Value) (w : zW) (nx K : Nat → zL → List Value → zW → Prop) (Rt : Option Value → zW → Prop) : z_st1 (tX9_sort 6) 6 lv st w nx K Rt = (z_1a st (fun x r => z_ob w x 10 (fun fs => z_fl fs 3 (fun u => nx 9 lv (u :: r) w)))) := id rfl
theorem sX9_sort_9 (lv : zL) (st : List Value) (w : zW) (nx K : Nat → zL → List Value → zW → Prop) (Rt : Option Value → zW → Prop) : z_st1 (tX9_sort 9) 9 lv st w nx K Rt = (nx 10 lv (.int (1 : Int32) :: st) w) := id rfl
theorem sX9_sort_10 (lv : zL) (st : List Value) (w : zW) (nx K : Nat → zL → List Value → zW → Prop) (Rt : Option Value → zW → Prop) : z_st1 (tX9_sort 10) 10 lv st w nx K Rt = (z_2i st (fun x y r => (x = y → nx 16 lv r w) ∧ (¬ x = y → nx 13 lv r w))) := id rfl
theorem sX9_sort_13 (lv : zL) (st : List Value) (w : zW) (nx K : Nat → zL → List Value → zW → Prop) (Rt : Option Value → zW → Prop) : z_st1 (tX9_sort 13) 13 lv st w nx K Rt = (nx 15 lv (.int (-5 : Int32) :: st) w) := id rfl
theorem sX9_sort_15 (lv : zL) (st : List Value) (w : zW) (nx K : Nat → zL → List Value → zW → Prop) (Rt : Option Value → zW → Prop) : z_st1 (tX9_sort 15) 15 lv st w nx K Rt = (z_e1 st (fun x => Rt (some (.int x)) w)) := id rfl
theorem sX9_sort_16 (lv : zL) (st : List Value) (w : zW) (nx K : Nat → zL → List Value → zW → Prop) (Rt : Option Value → zW → Prop) : z_st1 (tX9_sort 16) 16 lv st w nx K Rt = (z_la lv 0 (fun x => nx 17 lv (.ref x :: st) w)) := id rfl
theorem sX9_sort_17 (lv : zL) (st : List Value) (w : zW) (nx K : Nat → zL → List Value → zW → Prop) (Rt : Option Value → zW → Prop) : z_st1 (tX9_sort 17) 17 lv st w nx K Rt = (nx 18 lv (.int (0 : Int32) :: st) w) := id rfl
theorem sX9_sort_18 (lv : zL) (st : List Value) (w : zW) (nx K : Nat → zL → List Value → zW → Prop) (Rt : Option Value → zW → Prop) : z_st1 (tX9_sort 18) 18 lv st w nx K Rt = (z_ia st (fun x i r => z_ob w x 10 (fun fs => 30 < fs.length ∧ nx 21 lv r (z_up w x (.inr (10, fs.set 30 (.int i))))))) := id rfl
theorem sX9_sort_21 (lv : zL) (st : List Value) (w : zW) (nx K : Nat → zL → List Value → zW → Prop) (Rt : Option Value → zW → Prop) : z_st1 (tX9_sort 21) 21 lv st w nx K Rt = (z_la lv 0 (fun x => nx 22 lv (.ref x :: st) w)) := id rfl
theorem sX9_sort_22 (lv : zL) (st : List Value) (w : zW) (nx K : Nat → zL → List Value → zW → Prop) (Rt : Option Value → zW → Prop) : z_st1 (tX9_sort 22) 22 lv st w nx K Rt = (z_1a st (fun x r => z_ob w x 10 (fun fs => z_fl fs 19 (fun u => nx 25 lv (u :: r) w)))) := id rfl
theorem sX9_sort_25 (lv : zL) (st : List Value) (w : zW) (nx K : Nat → zL → List Value → zW → Prop) (Rt : Option Value → zW → Prop) : z_st1 (tX9_sort 25) 25 lv st w nx K Rt = (nx 26 lv (.int (0 : Int32) :: st) w) := id rfl
theorem sX9_sort_26 (lv : zL) (st : List Value) (w : zW) (nx K : Nat → zL → List Value → zW → Prop) (Rt : Option Value → zW → Prop) : z_st1 (tX9_sort 26) 26 lv st w nx K Rt = (nx 27 lv (.int (0 : Int32) :: st) w) := id rfl
theorem sX9_sort_27 (lv : zL) (st : List Value) (w : zW) (nx K : Nat → zL → List Value → zW → Prop) (Rt : Option Value → zW → Prop) : z_st1 (tX9_sort 27) 27 lv st w nx K Rt = (z_iia st (fun x i u r => z_ar0 w x (fun m g => vp_in i m ∧ nx 28 lv r (z_up w x (.inl (0, m, .inl (upd g i.toNatClampNeg u))))))) := id rfl
theorem sX9_sort_28 (lv : zL) (st : List Value) (w : zW) (nx K : Nat → zL → List Value → zW → Prop) (Rt : Option Value → zW → Prop) : z_st1 (tX9_sort 28) 28 lv st w nx K Rt = (z_la lv 0 (fun x => nx 29 lv (.ref x :: st) w)) := id rfl
theorem sX9_sort_29 (lv : zL) (st : List Value) (w : zW) (nx K : Nat → zL → List Value → zW → Prop) (Rt : Option Value → zW → Prop) : z_st1 (tX9_sort 29) 29 lv st w nx K Rt = (z_1a st (fun x r => z_ob w x 10 (fun fs => z_fl fs 19 (fun u => nx 32 lv (u :: r) w)))) := id rfl
theorem sX9_sort_32 (lv : zL) (st : List Value) (w : zW) (nx K : Nat → zL → List Value → zW → Prop) (Rt : Option Value → zW → Prop) : z_st1 (tX9_sort 32) 32 lv st w nx K Rt = (nx 33 lv (.int (1 : Int32) :: st) w) := id rfl
theorem sX9_sort_33 (lv : zL) (st : List Value) (w : zW) (nx K : Nat → zL → List Value → zW → Prop) (Rt : Option Value → zW → Prop) : z_st1 (tX9_sort 33) 33 lv st w nx K Rt = (nx 34 lv (.int (0 : Int32) :: st) w) := id rfl
theorem sX9_sort_34 (lv : zL) (st : List Value) (w : zW) (nx K : Nat → zL → List Value → zW → Prop) (Rt : Option Value → zW → Prop) : z_st1 (tX9_sort 34) 34 lv st w nx K Rt = (z_iia st (fun x i u r => z_ar0 w x (fun m g => vp_in i m ∧ nx 35 lv r (z_up w x (.inl (0, m, .inl (upd g i.toNatClampNeg u))))))) := id rfl
theorem sX9_sort_35 (lv : zL) (st : List Value) (w : zW) (nx K : Nat → zL → List Value → zW → Prop) (Rt : Option Value → zW → Prop) : z_st1 (tX9_sort 35) 35 lv st w nx K Rt = (nx 36 lv (.int (0 : Int32) :: st) w) := id rfl
theorem sX9_sort_36 (lv : zL) (st : List Value) (w : zW) (nx K : Nat → zL → List Value → zW → Prop) (Rt : Option Value → zW → Prop) : z_st1 (tX9_sort 36) 36 lv st w nx K Rt = (z_1i st (fun x r => z_ok1 lv 2 = true ∧ nx 37 (lv.set 2 (some (.int x))) r w)) := id rfl
theorem sX9_sort_37 (lv : zL) (st : List Value) (w : zW) (nx K : Nat → zL → List Value → zW → Prop) (Rt : Option Value → zW → Prop) : z_st1 (tX9_sort 37) 37 lv st w nx K Rt = (nx 38 lv (.int (0 : Int32) :: st) w) := id rfl
theorem sX9_sort_38 (lv : zL) (st : List Value) (w : zW) (nx K : Nat → zL → List Value → zW → Prop) (Rt : Option Value → zW → Prop) : z_st1 (tX9_sort 38) 38 lv st w nx K Rt = (z_1i st (fun x r => z_ok1 lv 3 = true ∧ nx 39 (lv.set 3 (some (.int x))) r w)) := id rfl
theorem sX9_sort_39 (lv : zL) (st : List Value) (w : zW) (nx K : Nat → zL → List Value → zW → Prop) (Rt : Option Value → zW → Prop) : z_st1 (tX9_sort 39) 39 lv st w nx K Rt = (z_li lv 3 (fun x => nx 40 lv (.int x :: st) w)) := id rfl
theorem sX9_sort_40 (lv : zL) (st : List Value) (w : zW) (nx K : Nat → zL → List Value → zW → Prop) (Rt : Option Value → zW → Prop) : z_st1 (tX9_sort 40) 40 lv st w nx K Rt = (z_la lv 0 (fun x => nx 41 lv (.ref x :: st) w)) := id rfl
theorem sX9_sort_41 (lv : zL) (st : List Value) (w : zW) (nx K : Nat → zL → List Value → zW → Prop) (Rt : Option Value → zW → Prop) : z_st1 (tX9_sort 41) 41 lv st w nx K Rt = (z_1a st (fun x r => z_ob w x 10 (fun fs => z_fl fs 22 (fun u => nx 44 lv (u :: r) w)))) := id rfl
theorem sX9_sort_44 (lv : zL) (st : List Value) (w : zW) (nx K : Nat → zL → List Value → zW → Prop) (Rt : Option Value → zW → Prop) : z_st1 (tX9_sort 44) 44 lv st w nx K Rt = (z_2i st (fun x y r => (y ≤ x → nx 137 lv r w) ∧ (¬ y ≤ x → nx 47 lv r w))) := id rfl
theorem sX9_sort_47 (lv : zL) (st : List Value) (w : zW) (nx K : Nat → zL → List Value → zW → Prop) (Rt : Option Value → zW → Prop) : z_st1 (tX9_sort 47) 47 lv st w nx K Rt = (z_la lv 0 (fun x => nx 48 lv (.ref x :: st) w)) := id rfl
theorem sX9_sort_48 (lv : zL) (st : List Value) (w : zW) (nx K : Nat → zL → List Value → zW → Prop) (Rt : Option Value → zW → Prop) : z_st1 (tX9_sort 48) 48 lv st w nx K Rt = (z_la lv 0 (fun x => nx 49 lv (.ref x :: st) w)) := id rfl
theorem sX9_sort_49 (lv : zL) (st : List Value) (w : zW) (nx K : Nat → zL → List Value → zW → Prop) (Rt : Option Value → zW → Prop) : z_st1 (tX9_sort 49) 49 lv st w nx K Rt = (z_1a st (fun x r => z_ob w x 10 (fun fs => z_fl fs 21 (fun u => nx 52 lv (u :: r) w)))) := id rfl
theorem sX9_sort_52 (lv : zL) (st : List Value) (w : zW) (nx K : Nat → zL → List Value → zW → Prop) (Rt : Option Value → zW → Prop) : z_st1 (tX9_sort 52) 52 lv st w nx K Rt = (z_li lv 3 (fun x => nx 53 lv (.int x :: st) w)) := id rfl
theorem sX9_sort_53 (lv : zL) (st : List Value) (w : zW) (nx K : Nat → zL → List Value → zW → Prop) (Rt : Option Value → zW → Prop) : z_st1 (tX9_sort 53) 53 lv st w nx K Rt = (z_ia st (fun x i r => z_ar0 w x (fun m g => vp_in i m ∧ nx 54 lv (.int (g i.toNatClampNeg) :: r) w))) := id rfl
theorem sX9_sort_57 (lv : zL) (st : List Value) (w : zW) (nx K : Nat → zL → List Value → zW → Prop) (Rt : Option Value → zW → Prop) : z_st1 (tX9_sort 57) 57 lv st w nx K Rt = (z_la lv 0 (fun x => nx 58 lv (.ref x :: st) w)) := id rfl
theorem sX9_sort_58 (lv : zL) (st : List Value) (w : zW) (nx K : Nat → zL → List Value → zW → Prop) (Rt : Option Value → zW → Prop) : z_st1 (tX9_sort 58) 58 lv st w nx K Rt = (z_la lv 0 (fun x => nx 59 lv (.ref x :: st) w)) := id rfl
theorem sX9_sort_59 (lv : zL) (st : List Value) (w : zW) (nx K : Nat → zL → List Value → zW → Prop) (Rt : Option Value → zW → Prop) : z_st1 (tX9_sort 59) 59 lv st w nx K Rt = (z_1a st (fun x r => z_ob w x 10 (fun fs => z_fl fs 30 (fun u => nx 62 lv (u :: r) w)))) := id rfl
theorem sX9_sort_62 (lv : zL) (st : List Value) (w : zW) (nx K : Nat → zL → List Value → zW → Prop) (Rt : Option Value → zW → Prop) : z_st1 (tX9_sort 62) 62 lv st w nx K Rt = (nx 63 lv (.int (1 : Int32) :: st) w) := id rfl
theorem sX9_sort_63 (lv : zL) (st : List Value) (w : zW) (nx K : Nat → zL → List Value → zW → Prop) (Rt : Option Value → zW → Prop) : z_st1 (tX9_sort 63) 63 lv st w nx K Rt = (z_2i st (fun x y r => nx 64 lv (.int (x - y) :: r) w)) := id rfl
theorem sX9_sort_67 (lv : zL) (st : List Value) (w : zW) (nx K : Nat → zL → List Value → zW → Prop) (Rt : Option Value → zW → Prop) : z_st1 (tX9_sort 67) 67 lv st w nx K Rt = (z_1i st (fun x r => (x = 0 → nx 84 lv r w) ∧ (¬ x = 0 → nx 70 lv r w))) := id rfl
theorem sX9_sort_70 (lv : zL) (st : List Value) (w : zW) (nx K : Nat → zL → List Value → zW → Prop) (Rt : Option Value → zW → Prop) : z_st1 (tX9_sort 70) 70 lv st w nx K Rt = (z_la lv 0 (fun x => nx 71 lv (.ref x :: st) w)) := id rfl
theorem sX9_sort_71 (lv : zL) (st : List Value) (w : zW) (nx K : Nat → zL → List Value → zW → Prop) (Rt : Option Value → zW → Prop) : z_st1 (tX9_sort 71) 71 lv st w nx K Rt = (nx 72 lv (.int (0 : Int32) :: st) w) := id rfl
theorem sX9_sort_72 (lv : zL) (st : List Value) (w : zW) (nx K : Nat → zL → List Value → zW → Prop) (Rt : Option Value → zW → Prop) : z_st1 (tX9_sort 72) 72 lv st w nx K Rt = (z_la lv 0 (fun x => nx 73 lv (.ref x :: st) w)) := id rfl
theorem sX9_sort_73 (lv : zL) (st : List Value) (w : zW) (nx K : Nat → zL → List Value → zW → Prop) (Rt : Option Value → zW → Prop) : z_st1 (tX9_sort 73) 73 lv st w nx K Rt = (z_1a st (fun x r => z_ob w x 10 (fun fs => z_fl fs 30 (fun u => nx 76 lv (u :: r) w)))) := id rfl
theorem sX9_sort_76 (lv : zL) (st : List Value) (w : zW) (nx K : Nat → zL → List Value → zW → Prop) (Rt : Option Value → zW → Prop) : z_st1 (tX9_sort 76) 76 lv st w nx K Rt = (nx 77 lv (.int (1 : Int32) :: st) w) := id rfl
theorem sX9_sort_77 (lv : zL) (st : List Value) (w : zW) (nx K : Nat → zL → List Value → zW → Prop) (Rt : Option Value → zW → Prop) : z_st1 (tX9_sort 77) 77 lv st w nx K Rt = (z_2i st (fun x y r => nx 78 lv (.int (x - y) :: r) w)) := id rfl
theorem sX9_sort_81 (lv : zL) (st : List Value) (w : zW) (nx K : Nat → zL → List Value → zW → Prop) (Rt : Option Value → zW → Prop) : z_st1 (tX9_sort 81) 81 lv st w nx K Rt = (nx 85 lv st w) := id rfl
theorem sX9_sort_84 (lv : zL) (st : List Value) (w : zW) (nx K : Nat → zL → List Value → zW → Prop) (Rt : Option Value → zW → Prop) : z_st1 (tX9_sort 84) 84 lv st w nx K Rt = (nx 85 lv (.int (0 : Int32) :: st) w) := id rfl
theorem sX9_sort_85 (lv : zL) (st : List Value) (w : zW) (nx K : Nat → zL → List Value → zW → Prop) (Rt : Option Value → zW → Prop) : z_st1 (tX9_sort 85) 85 lv st w nx K Rt = (z_1i st (fun x r => z_ok1 lv 4 = true ∧ nx 87 (lv.set 4 (some (.int x))) r w)) := id rfl
theorem sX9_sort_87 (lv : zL) (st : List Value) (w : zW) (nx K : Nat → zL → List Value → zW → Prop) (Rt : Option Value → zW → Prop) : z_st1 (tX9_sort 87) 87 lv st w nx K Rt = (z_li lv 4 (fun x => nx 89 lv (.int x :: st) w)) := id rfl
theorem sX9_sort_89 (lv : zL) (st : List Value) (w : zW) (nx K : Nat → zL → List Value → zW → Prop) (Rt : Option Value → zW → Prop) : z_st1 (tX9_sort 89) 89 lv st w nx K Rt = (z_1i st (fun x r => (0 ≤ x → nx 99 lv r w) ∧ (¬ 0 ≤ x → nx 92 lv r w))) := id rfl
theorem sX9_sort_92 (lv : zL) (st : List Value) (w : zW) (nx K : Nat → zL → List Value → zW → Prop) (Rt : Option Value → zW → Prop) : z_st1 (tX9_sort 92) 92 lv st w nx K Rt = (z_la lv 0 (fun x => nx 93 lv (.ref x :: st) w)) := id rfl
theorem sX9_sort_93 (lv : zL) (st : List Value) (w : zW) (nx K : Nat → zL → List Value → zW → Prop) (Rt : Option Value → zW → Prop) : z_st1 (tX9_sort 93) 93 lv st w nx K Rt = (nx 94 lv (.int (1 : Int32) :: st) w) := id rfl
theorem sX9_sort_94 (lv : zL) (st : List Value) (w : zW) (nx K : Nat → zL → List Value → zW → Prop) (Rt : Option Value → zW → Prop) : z_st1 (tX9_sort 94) 94 lv st w nx K Rt = (z_ia st (fun x i r => z_ob w x 10 (fun fs => 0 < fs.length ∧ nx 97 lv r (z_up w x (.inr (10, fs.set 0 (.int i))))))) := id rfl
theorem sX9_sort_97 (lv : zL) (st : List Value) (w : zW) (nx K : Nat → zL → List Value → zW → Prop) (Rt : Option Value → zW → Prop) : z_st1 (tX9_sort 97) 97 lv st w nx K Rt = (nx 98 lv (.int (0 : Int32) :: st) w) := id rfl
theorem sX9_sort_98 (lv : zL) (st : List Value) (w : zW) (nx K : Nat → zL → List Value → zW → Prop) (Rt : Option Value → zW → Prop) : z_st1 (tX9_sort 98) 98 lv st w nx K Rt = (z_e1 st (fun x => Rt (some (.int x)) w)) := id rfl
theorem sX9_sort_99 (lv : zL) (st : List Value) (w : zW) (nx K : Nat → zL → List Value → zW → Prop) (Rt : Option Value → zW → Prop) : z_st1 (tX9_sort 99) 99 lv st w nx K Rt = (z_la lv 0 (fun x => nx 100 lv (.ref x :: st) w)) := id rfl
theorem sX9_sort_100 (lv : zL) (st : List Value) (w : zW) (nx K : Nat → zL → List Value → zW → Prop) (Rt : Option Value → zW → Prop) : z_st1 (tX9_sort 100) 100 lv st w nx K Rt = (z_d1 st (fun x r => nx 101 lv (x :: x :: r) w)) := id rfl
theorem sX9_sort_101 (lv : zL) (st : List Value) (w : zW) (nx K : Nat → zL → List Value → zW → Prop) (Rt : Option Value → zW → Prop) : z_st1 (tX9_sort 101) 101 lv st w nx K Rt = (z_1a st (fun x r => z_ob w x 10 (fun fs => z_fl fs 30 (fun u => nx 104 lv (u :: r) w)))) := id rfl
theorem sX9_sort_104 (lv : zL) (st : List Value) (w : zW) (nx K : Nat → zL → List Value → zW → Prop) (Rt : Option Value → zW → Prop) : z_st1 (tX9_sort 104) 104 lv st w nx K Rt = (z_li lv 4 (fun x => nx 106 lv (.int x :: st) w)) := id rfl
theorem sX9_sort_106 (lv : zL) (st : List Value) (w : zW) (nx K : Nat → zL → List Value → zW → Prop) (Rt : Option Value → zW → Prop) : z_st1 (tX9_sort 106) 106 lv st w nx K Rt = (z_1i st (fun x r => (¬ x = 0 → nx 113 lv r w) ∧ (x = 0 → nx 109 lv r w))) := id rfl
theorem sX9_sort_109 (lv : zL) (st : List Value) (w : zW) (nx K : Nat → zL → List Value → zW → Prop) (Rt : Option Value → zW → Prop) : z_st1 (tX9_sort 109) 109 lv st w nx K Rt = (nx 110 lv (.int (1 : Int32) :: st) w) := id rfl
theorem sX9_sort_110 (lv : zL) (st : List Value) (w : zW) (nx K : Nat → zL → List Value → zW → Prop) (Rt : Option Value → zW → Prop) : z_st1 (tX9_sort 110) 110 lv st w nx K Rt = (nx 114 lv st w) := id rfl
theorem sX9_sort_113 (lv : zL) (st : List Value) (w : zW) (nx K : Nat → zL → List Value → zW → Prop) (Rt : Option Value → zW → Prop) : z_st1 (tX9_sort 113) 113 lv st w nx K Rt = (nx 114 lv (.int (0 : Int32) :: st) w) := id rfl
theorem sX9_sort_114 (lv : zL) (st : List Value) (w : zW) (nx K : Nat → zL → List Value → zW → Prop) (Rt : Option Value → zW → Prop) : z_st1 (tX9_sort 114) 114 lv st w nx K Rt = (z_2i st (fun x y r => nx 115 lv (.int (x - y) :: r) w)) := id rfl
theorem sX9_sort_115 (lv : zL) (st : List Value) (w : zW) (nx K : Nat → zL → List Value → zW → Prop) (Rt : Option Value → zW → Prop) : z_st1 (tX9_sort 115) 115 lv st w nx K Rt = (z_ia st (fun x i r => z_ob w x 10 (fun fs => 30 < fs.length ∧ nx 118 lv r (z_up w x (.inr (10, fs.set 30 (.int i))))))) := id rfl
theorem sX9_sort_118 (lv : zL) (st : List Value) (w : zW) (nx K : Nat → zL → List Value → zW → Prop) (Rt : Option Value → zW → Prop) : z_st1 (tX9_sort 118) 118 lv st w nx K Rt = (z_li lv 2 (fun x => nx 119 lv (.int x :: st) w)) := id rfl
theorem sX9_sort_119 (lv : zL) (st : List Value) (w : zW) (nx K : Nat → zL → List Value → zW → Prop) (Rt : Option Value → zW → Prop) : z_st1 (tX9_sort 119) 119 lv st w nx K Rt = (z_li lv 4 (fun x => nx 121 lv (.int x :: st) w)) := id rfl
theorem sX9_sort_121 (lv : zL) (st : List Value) (w : zW) (nx K : Nat → zL → List Value → zW → Prop) (Rt : Option Value → zW → Prop) : z_st1 (tX9_sort 121) 121 lv st w nx K Rt = (z_1i st (fun x r => (¬ x = 0 → nx 128 lv r w) ∧ (x = 0 → nx 124 lv r w))) := id rfl
theorem sX9_sort_124 (lv : zL) (st : List Value) (w : zW) (nx K : Nat → zL → List Value → zW → Prop) (Rt : Option Value → zW → Prop) : z_st1 (tX9_sort 124) 124 lv st w nx K Rt = (nx 125 lv (.int (1 : Int32) :: st) w) := id rfl
theorem sX9_sort_125 (lv : zL) (st : List Value) (w : zW) (nx K : Nat → zL → List Value → zW → Prop) (Rt : Option Value → zW → Prop) : z_st1 (tX9_sort 125) 125 lv st w nx K Rt = (nx 129 lv st w) := id rfl
theorem sX9_sort_128 (lv : zL) (st : List Value) (w : zW) (nx K : Nat → zL → List Value → zW → Prop) (Rt : Option Value → zW → Prop) : z_st1 (tX9_sort 128) 128 lv st w nx K Rt = (nx 129 lv (.int (0 : Int32) :: st) w) := id rfl
theorem sX9_sort_129 (lv : zL) (st : List Value) (w : zW) (nx K : Nat → zL → List Value → zW → Prop) (Rt : Option Value → zW → Prop) : z_st1 (tX9_sort 129) 129 lv st w nx K Rt = (z_2i st (fun x y r => nx 130 lv (.int (x + y) :: r) w)) := id rfl
theorem sX9_sort_130 (lv : zL) (st : List Value) (w : zW) (nx K : Nat → zL → List Value → zW → Prop) (Rt : Option Value → zW → Prop) : z_st1 (tX9_sort 130) 130 lv st w nx K Rt = (z_1i st (fun x r => z_ok1 lv 2 = true ∧ nx 131 (lv.set 2 (some (.int x))) r w)) := id rfl
theorem sX9_sort_131 (lv : zL) (st : List Value) (w : zW) (nx K : Nat → zL → List Value → zW → Prop) (Rt : Option Value → zW → Prop) : z_st1 (tX9_sort 131) 131 lv st w nx K Rt = (z_li lv 3 (fun x => z_ok1 lv 3 = true ∧ nx 134 (lv.set 3 (some (.int (x + (1 : Int32))))) st w)) := id rfl
theorem sX9_sort_134 (lv : zL) (st : List Value) (w : zW) (nx K : Nat → zL → List Value → zW → Prop) (Rt : Option Value → zW → Prop) : z_st1 (tX9_sort 134) 134 lv st w nx K Rt = (nx 39 lv st w) := id rfl
theorem sX9_sort_137 (lv : zL) (st : List Value) (w : zW) (nx K : Nat → zL → List Value → zW → Prop) (Rt : Option Value → zW → Prop) : z_st1 (tX9_sort 137) 137 lv st w nx K Rt = (z_la lv 0 (fun x => nx 138 lv (.ref x :: st) w)) := id rfl
theorem sX9_sort_138 (lv : zL) (st : List Value) (w : zW) (nx K : Nat → zL → List Value → zW → Prop) (Rt : Option Value → zW → Prop) : z_st1 (tX9_sort 138) 138 lv st w nx K Rt = (z_li lv 1 (fun x => nx 139 lv (.int x :: st) w)) := id rfl
theorem sX9_sort_139 (lv : zL) (st : List Value) (w : zW) (nx K : Nat → zL → List Value → zW → Prop) (Rt : Option Value → zW → Prop) : z_st1 (tX9_sort 139) 139 lv st w nx K Rt = (z_1i st (fun x r => (¬ x = 0 → nx 146 lv r w) ∧ (x = 0 → nx 142 lv r w))) := id rfl
theorem sX9_sort_142 (lv : zL) (st : List Value) (w : zW) (nx K : Nat → zL → List Value → zW → Prop) (Rt : Option Value → zW → Prop) : z_st1 (tX9_sort 142) 142 lv st w nx K Rt = (nx 143 lv (.int (1 : Int32) :: st) w) := id rfl
theorem sX9_sort_143 (lv : zL) (st : List Value) (w : zW) (nx K : Nat → zL → List Value → zW → Prop) (Rt : Option Value → zW → Prop) : z_st1 (tX9_sort 143) 143 lv st w nx K Rt = (nx 147 lv st w) := id rfl
theorem sX9_sort_146 (lv : zL) (st : List Value) (w : zW) (nx K : Nat → zL → List Value → zW → Prop) (Rt : Option Value → zW → Prop) : z_st1 (tX9_sort 146) 146 lv st w nx K Rt = (nx 147 lv (.int (0 : Int32) :: st) w) := id rfl
theorem sX9_sort_150 (lv : zL) (st : List Value) (w : zW) (nx K : Nat → zL → List Value → zW → Prop) (Rt : Option Value → zW → Prop) : z_st1 (tX9_sort 150) 150 lv st w nx K Rt = (z_la lv 0 (fun x => nx 151 lv (.ref x :: st) w)) := id rfl
theorem sX9_sort_154 (lv : zL) (st : List Value) (w : zW) (nx K : Nat → zL → List Value → zW → Prop) (Rt : Option Value → zW → Prop) : z_st1 (tX9_sort 154) 154 lv st w nx K Rt = (z_1i st (fun x r => z_ok1 lv 3 = true ∧ nx 155 (lv.set 3 (some (.int x))) r w)) := id rfl
theorem sX9_sort_155 (lv : zL) (st : List Value) (w : zW) (nx K : Nat → zL → List Value → zW → Prop) (Rt : Option Value → zW → Prop) : z_st1 (tX9_sort 155) 155 lv st w nx K Rt = (nx 156 lv (.int (0 : Int32) :: st) w) := id rfl
theorem sX9_sort_156 (lv : zL) (st : List Value) (w : zW) (nx K : Nat → zL → List Value → zW → Prop) (Rt : Option Value → zW → Prop) : z_st1 (tX9_sort 156) 156 lv st w nx K Rt = (z_1i st (fun x r => z_ok1 lv 4 = true ∧ nx 158 (lv.set 4 (some (.int x))) r w)) := id rfl
theorem sX9_sort_158 (lv : zL) (st : List Value) (w : zW) (nx K : Nat → zL → List Value → zW → Prop) (Rt : Option Value → zW → Prop) : z_st1 (tX9_sort 158) 158 lv st w nx K Rt = (nx 159 lv (.int (0 : Int32) :: st) w) := id rfl
theorem sX9_sort_159 (lv : zL) (st : List Value) (w : zW) (nx K : Nat → zL → List Value → zW → Prop) (Rt : Option Value → zW → Prop) : z_st1 (tX9_sort 159) 159 lv st w nx K Rt = (z_1i st (fun x r => z_ok1 lv 5 = true ∧ nx 161 (lv.set 5 (some (.int x))) r w)) := id rfl
theorem sX9_sort_161 (lv : zL) (st : List Value) (w : zW) (nx K : Nat → zL → List Value → zW → Prop) (Rt : Option Value → zW → Prop) : z_st1 (tX9_sort 161) 161 lv st w nx K Rt = (z_li lv 5 (fun x => nx 163 lv (.int x :: st) w)) := id rfl
theorem sX9_sort_163 (lv : zL) (st : List Value) (w : zW) (nx K : Nat → zL → List Value → zW → Prop) (Rt : Option Value → zW → Prop) : z_st1 (tX9_sort 163) 163 lv st w nx K Rt = (z_la lv 0 (fun x => nx 164 lv (.ref x :: st) w)) := id rfl
theorem sX9_sort_164 (lv : zL) (st : List Value) (w : zW) (nx K : Nat → zL → List Value → zW → Prop) (Rt : Option Value → zW → Prop) : z_st1 (tX9_sort 164) 164 lv st w nx K Rt = (z_1a st (fun x r => z_ob w x 10 (fun fs => z_fl fs 31 (fun u => nx 167 lv (u :: r) w)))) := id rfl
theorem sX9_sort_167 (lv : zL) (st : List Value) (w : zW) (nx K : Nat → zL → List Value → zW → Prop) (Rt : Option Value → zW → Prop) : z_st1 (tX9_sort 167) 167 lv st w nx K Rt = (z_2i st (fun x y r => (y ≤ x → nx 223 lv r w) ∧ (¬ y ≤ x → nx 170 lv r w))) := id rfl
theorem sX9_sort_170 (lv : zL) (st : List Value) (w : zW) (nx K : Nat → zL → List Value → zW → Prop) (Rt : Option Value → zW → Prop) : z_st1 (tX9_sort 170) 170 lv st w nx K Rt = (z_la lv 0 (fun x => nx 171 lv (.ref x :: st) w)) := id rfl
theorem sX9_sort_171 (lv : zL) (st : List Value) (w : zW) (nx K : Nat → zL → List Value → zW → Prop) (Rt : Option Value → zW → Prop) : z_st1 (tX9_sort 171) 171 lv st w nx K Rt = (nx 172 lv (.int (1 : Int32) :: st) w) := id rfl
theorem sX9_sort_172 (lv : zL) (st : List Value) (w : zW) (nx K : Nat → zL → List Value → zW → Prop) (Rt : Option Value → zW → Prop) : z_st1 (tX9_sort 172) 172 lv st w nx K Rt = (z_la lv 0 (fun x => nx 173 lv (.ref x :: st) w)) := id rfl
theorem sX9_sort_173 (lv : zL) (st : List Value) (w : zW) (nx K : Nat → zL → List Value → zW → Prop) (Rt : Option Value → zW → Prop) : z_st1 (tX9_sort 173) 173 lv st w nx K Rt = (z_1a st (fun x r => z_ob w x 10 (fun fs => z_fl fs 29 (fun u => nx 176 lv (u :: r) w)))) := id rfl
theorem sX9_sort_176 (lv : zL) (st : List Value) (w : zW) (nx K : Nat → zL → List Value → zW → Prop) (Rt : Option Value → zW → Prop) : z_st1 (tX9_sort 176) 176 lv st w nx K Rt = (z_li lv 5 (fun x => nx 178 lv (.int x :: st) w)) := id rfl
theorem sX9_sort_178 (lv : zL) (st : List Value) (w : zW) (nx K : Nat → zL → List Value → zW → Prop) (Rt : Option Value → zW → Prop) : z_st1 (tX9_sort 178) 178 lv st w nx K Rt = (z_ia st (fun x i r => z_ar0 w x (fun m g => vp_in i m ∧ nx 179 lv (.int (g i.toNatClampNeg) :: r) w))) := id rfl
theorem sX9_sort_182 (lv : zL) (st : List Value) (w : zW) (nx K : Nat → zL → List Value → zW → Prop) (Rt : Option Value → zW → Prop) : z_st1 (tX9_sort 182) 182 lv st w nx K Rt = (z_1i st (fun x r => z_ok1 lv 6 = true ∧ nx 184 (lv.set 6 (some (.int x))) r w)) := id rfl
theorem sX9_sort_184 (lv : zL) (st : List Value) (w : zW) (nx K : Nat → zL → List Value → zW → Prop) (Rt : Option Value → zW → Prop) : z_st1 (tX9_sort 184) 184 lv st w nx K Rt = (z_li lv 6 (fun x => nx 186 lv (.int x :: st) w)) := id rfl
theorem sX9_sort_186 (lv : zL) (st : List Value) (w : zW) (nx K : Nat → zL → List Value → zW → Prop) (Rt : Option Value → zW → Prop) : z_st1 (tX9_sort 186) 186 lv st w nx K Rt = (z_1i st (fun x r => (0 ≤ x → nx 196 lv r w) ∧ (¬ 0 ≤ x → nx 189 lv r w))) := id rfl
theorem sX9_sort_189 (lv : zL) (st : List Value) (w : zW) (nx K : Nat → zL → List Value → zW → Prop) (Rt : Option Value → zW → Prop) : z_st1 (tX9_sort 189) 189 lv st w nx K Rt = (z_la lv 0 (fun x => nx 190 lv (.ref x :: st) w)) := id rfl
theorem sX9_sort_190 (lv : zL) (st : List Value) (w : zW) (nx K : Nat → zL → List Value → zW → Prop) (Rt : Option Value → zW → Prop) : z_st1 (tX9_sort 190) 190 lv st w nx K Rt = (nx 191 lv (.int (1 : Int32) :: st) w) := id rfl
theorem sX9_sort_191 (lv : zL) (st : List Value) (w : zW) (nx K : Nat → zL → List Value → zW → Prop) (Rt : Option Value → zW → Prop) : z_st1 (tX9_sort 191) 191 lv st w nx K Rt = (z_ia st (fun x i r => z_ob w x 10 (fun fs => 0 < fs.length ∧ nx 194 lv r (z_up w x (.inr (10, fs.set 0 (.int i))))))) := id rfl
theorem sX9_sort_194 (lv : zL) (st : List Value) (w : zW) (nx K : Nat → zL → List Value → zW → Prop) (Rt : Option Value → zW → Prop) : z_st1 (tX9_sort 194) 194 lv st w nx K Rt = (nx 195 lv (.int (0 : Int32) :: st) w) := id rfl
theorem sX9_sort_195 (lv : zL) (st : List Value) (w : zW) (nx K : Nat → zL → List Value → zW → Prop) (Rt : Option Value → zW → Prop) : z_st1 (tX9_sort 195) 195 lv st w nx K Rt = (z_e1 st (fun x => Rt (some (.int x)) w)) := id rfl
theorem sX9_sort_196 (lv : zL) (st : List Value) (w : zW) (nx K : Nat → zL → List Value → zW → Prop) (Rt : Option Value → zW → Prop) : z_st1 (tX9_sort 196) 196 lv st w nx K Rt = (z_la lv 0 (fun x => nx 197 lv (.ref x :: st) w)) := id rfl
theorem sX9_sort_197 (lv : zL) (st : List Value) (w : zW) (nx K : Nat → zL → List Value → zW → Prop) (Rt : Option Value → zW → Prop) : z_st1 (tX9_sort 197) 197 lv st w nx K Rt = (z_1a st (fun x r => z_ob w x 10 (fun fs => z_fl fs 29 (fun u => nx 200 lv (u :: r) w)))) := id rfl
theorem sX9_sort_200 (lv : zL) (st : List Value) (w : zW) (nx K : Nat → zL → List Value → zW → Prop) (Rt : Option Value → zW → Prop) : z_st1 (tX9_sort 200) 200 lv st w nx K Rt = (z_li lv 4 (fun x => nx 202 lv (.int x :: st) w)) := id rfl
theorem sX9_sort_202 (lv : zL) (st : List Value) (w : zW) (nx K : Nat → zL → List Value → zW → Prop) (Rt : Option Value → zW → Prop) : z_st1 (tX9_sort 202) 202 lv st w nx K Rt = (z_la lv 0 (fun x => nx 203 lv (.ref x :: st) w)) := id rfl
theorem sX9_sort_203 (lv : zL) (st : List Value) (w : zW) (nx K : Nat → zL → List Value → zW → Prop) (Rt : Option Value → zW → Prop) : z_st1 (tX9_sort 203) 203 lv st w nx K Rt = (z_1a st (fun x r => z_ob w x 10 (fun fs => z_fl fs 29 (fun u => nx 206 lv (u :: r) w)))) := id rfl
theorem sX9_sort_206 (lv : zL) (st : List Value) (w : zW) (nx K : Nat → zL → List Value → zW → Prop) (Rt : Option Value → zW → Prop) : z_st1 (tX9_sort 206) 206 lv st w nx K Rt = (z_li lv 5 (fun x => nx 208 lv (.int x :: st) w)) := id rfl
theorem sX9_sort_208 (lv : zL) (st : List Value) (w : zW) (nx K : Nat → zL → List Value → zW → Prop) (Rt : Option Value → zW → Prop) : z_st1 (tX9_sort 208) 208 lv st w nx K Rt = (z_ia st (fun x i r => z_ar0 w x (fun m g => vp_in i m ∧ nx 209 lv (.int (g i.toNatClampNeg) :: r) w))) := id rfl
theorem sX9_sort_209 (lv : zL) (st : List Value) (w : zW) (nx K : Nat → zL → List Value → zW → Prop) (Rt : Option Value → zW → Prop) : z_st1 (tX9_sort 209) 209 lv st w nx K Rt = (z_iia st (fun x i u r => z_ar0 w x (fun m g => vp_in i m ∧ nx 210 lv r (z_up w x (.inl (0, m, .inl (upd g i.toNatClampNeg u))))))) := id rfl
theorem sX9_sort_210 (lv : zL) (st : List Value) (w : zW) (nx K : Nat → zL → List Value → zW → Prop) (Rt : Option Value → zW → Prop) : z_st1 (tX9_sort 210) 210 lv st w nx K Rt = (z_li lv 4 (fun x => nx 212 lv (.int x :: st) w)) := id rfl
theorem sX9_sort_212 (lv : zL) (st : List Value) (w : zW) (nx K : Nat → zL → List Value → zW → Prop) (Rt : Option Value → zW → Prop) : z_st1 (tX9_sort 212) 212 lv st w nx K Rt = (z_li lv 6 (fun x => nx 214 lv (.int x :: st) w)) := id rfl
theorem sX9_sort_214 (lv : zL) (st : List Value) (w : zW) (nx K : Nat → zL → List Value → zW → Prop) (Rt : Option Value → zW → Prop) : z_st1 (tX9_sort 214) 214 lv st w nx K Rt = (z_2i st (fun x y r => nx 215 lv (.int (x + y) :: r) w)) := id rfl
theorem sX9_sort_215 (lv : zL) (st : List Value) (w : zW) (nx K : Nat → zL → List Value → zW → Prop) (Rt : Option Value → zW → Prop) : z_st1 (tX9_sort 215) 215 lv st w nx K Rt = (z_1i st (fun x r => z_ok1 lv 4 = true ∧ nx 217 (lv.set 4 (some (.int x))) r w)) := id rfl
theorem sX9_sort_217 (lv : zL) (st : List Value) (w : zW) (nx K : Nat → zL → List Value → zW → Prop) (Rt : Option Value → zW → Prop) : z_st1 (tX9_sort 217) 217 lv st w nx K Rt = (z_li lv 5 (fun x => z_ok1 lv 5 = true ∧ nx 220 (lv.set 5 (some (.int (x + (1 : Int32))))) st w)) := id rfl
theorem sX9_sort_220 (lv : zL) (st : List Value) (w : zW) (nx K : Nat → zL → List Value → zW → Prop) (Rt : Option Value → zW → Prop) : z_st1 (tX9_sort 220) 220 lv st w nx K Rt = (nx 161 lv st w) := id rfl
theorem sX9_sort_223 (lv : zL) (st : List Value) (w : zW) (nx K : Nat → zL → List Value → zW → Prop) (Rt : Option Value → zW → Prop) : z_st1 (tX9_sort 223) 223 lv st w nx K Rt = (z_la lv 0 (fun x => nx 224 lv (.ref x :: st) w)) := id rfl
theorem sX9_sort_224 (lv : zL) (st : List Value) (w : zW) (nx K : Nat → zL → List Value → zW → Prop) (Rt : Option Value → zW → Prop) : z_st1 (tX9_sort 224) 224 lv st w nx K Rt = (z_1a st (fun x r => z_ob w x 10 (fun fs => z_fl fs 35 (fun u => nx 227 lv (u :: r) w)))) := id rfl
theorem sX9_sort_227 (lv : zL) (st : List Value) (w : zW) (nx K : Nat → zL → List Value → zW → Prop) (Rt : Option Value → zW → Prop) : z_st1 (tX9_sort 227) 227 lv st w nx K Rt = (nx 229 lv (.int (8 : Int32) :: st) w) := id rfl
theorem sX9_sort_229 (lv : zL) (st : List Value) (w : zW) (nx K : Nat → zL → List Value → zW → Prop) (Rt : Option Value → zW → Prop) : z_st1 (tX9_sort 229) 229 lv st w nx K Rt = (z_la lv 0 (fun x => nx 230 lv (.ref x :: st) w)) := id rfl
theorem sX9_sort_230 (lv : zL) (st : List Value) (w : zW) (nx K : Nat → zL → List Value → zW → Prop) (Rt : Option Value → zW → Prop) : z_st1 (tX9_sort 230) 230 lv st w nx K Rt = (z_1a st (fun x r => z_ob w x 10 (fun fs => z_fl fs 31 (fun u => nx 233 lv (u :: r) w)))) := id rfl
theorem sX9_sort_233 (lv : zL) (st : List Value) (w : zW) (nx K : Nat → zL → List Value → zW → Prop) (Rt : Option Value → zW → Prop) : z_st1 (tX9_sort 233) 233 lv st w nx K Rt = (z_li lv 4 (fun x => nx 235 lv (.int x :: st) w)) := id rfl
theorem sX9_sort_235 (lv : zL) (st : List Value) (w : zW) (nx K : Nat → zL → List Value → zW → Prop) (Rt : Option Value → zW → Prop) : z_st1 (tX9_sort 235) 235 lv st w nx K Rt = (z_2i st (fun x y r => nx 236 lv (.int (x - y) :: r) w)) := id rfl
theorem sX9_sort_236 (lv : zL) (st : List Value) (w : zW) (nx K : Nat → zL → List Value → zW → Prop) (Rt : Option Value → zW → Prop) : z_st1 (tX9_sort 236) 236 lv st w nx K Rt = (z_iia st (fun x i u r => z_ar0 w x (fun m g => vp_in i m ∧ nx 237 lv r (z_up w x (.inl (0, m, .inl (upd g i.toNatClampNeg u))))))) := id rfl
theorem sX9_sort_237 (lv : zL) (st : List Value) (w : zW) (nx K : Nat → zL → List Value → zW → Prop) (Rt : Option Value → zW → Prop) : z_st1 (tX9_sort 237) 237 lv st w nx K Rt = (z_la lv 0 (fun x => nx 238 lv (.ref x :: st) w)) := id rfl
theorem sX9_sort_238 (lv : zL) (st : List Value) (w : zW) (nx K : Nat → zL → List Value → zW → Prop) (Rt : Option Value → zW → Prop) : z_st1 (tX9_sort 238) 238 lv st w nx K Rt = (z_1a st (fun x r => z_ob w x 10 (fun fs => z_fl fs 35 (fun u => nx 241 lv (u :: r) w)))) := id rfl
theorem sX9_sort_241 (lv : zL) (st : List Value) (w : zW) (nx K : Nat → zL → List Value → zW → Prop) (Rt : Option Value → zW → Prop) : z_st1 (tX9_sort 241) 241 lv st w nx K Rt = (nx 243 lv (.int (7 : Int32) :: st) w) := id rfl
theorem sX9_sort_243 (lv : zL) (st : List Value) (w : zW) (nx K : Nat → zL → List Value → zW → Prop) (Rt : Option Value → zW → Prop) : z_st1 (tX9_sort 243) 243 lv st w nx K Rt = (z_li lv 3 (fun x => nx 244 lv (.int x :: st) w)) := id rfl
theorem sX9_sort_244 (lv : zL) (st : List Value) (w : zW) (nx K : Nat → zL → List Value → zW → Prop) (Rt : Option Value → zW → Prop) : z_st1 (tX9_sort 244) 244 lv st w nx K Rt = (z_iia st (fun x i u r => z_ar0 w x (fun m g => vp_in i m ∧ nx 245 lv r (z_up w x (.inl (0, m, .inl (upd g i.toNatClampNeg u))))))) := id rfl
theorem sX9_sort_245 (lv : zL) (st : List Value) (w : zW) (nx K : Nat → zL → List Value → zW → Prop) (Rt : Option Value → zW → Prop) : z_st1 (tX9_sort 245) 245 lv st w nx K Rt = (z_la lv 0 (fun x => nx 246 lv (.ref x :: st) w)) := id rfl
theorem sX9_sort_246 (lv : zL) (st : List Value) (w : zW) (nx K : Nat → zL → List Value → zW → Prop) (Rt : Option Value → zW → Prop) : z_st1 (tX9_sort 246) 246 lv st w nx K Rt = (z_1a st (fun x r => z_ob w x 10 (fun fs => z_fl fs 35 (fun u => nx 249 lv (u :: r) w)))) := id rfl
theorem sX9_sort_249 (lv : zL) (st : List Value) (w : zW) (nx K : Nat → zL → List Value → zW → Prop) (Rt : Option Value → zW → Prop) : z_st1 (tX9_sort 249) 249 lv st w nx K Rt = (nx 251 lv (.int (6 : Int32) :: st) w) := id rfl
theorem sX9_sort_251 (lv : zL) (st : List Value) (w : zW) (nx K : Nat → zL → List Value → zW → Prop) (Rt : Option Value → zW → Prop) : z_st1 (tX9_sort 251) 251 lv st w nx K Rt = (z_li lv 2 (fun x => nx 252 lv (.int x :: st) w)) := id rfl
theorem sX9_sort_252 (lv : zL) (st : List Value) (w : zW) (nx K : Nat → zL → List Value → zW → Prop) (Rt : Option Value → zW → Prop) : z_st1 (tX9_sort 252) 252 lv st w nx K Rt = (z_iia st (fun x i u r => z_ar0 w x (fun m g => vp_in i m ∧ nx 253 lv r (z_up w x (.inl (0, m, .inl (upd g i.toNatClampNeg u))))))) := id rfl
theorem sX9_sort_253 (lv : zL) (st : List Value) (w : zW) (nx K : Nat → zL → List Value → zW → Prop) (Rt : Option Value → zW → Prop) : z_st1 (tX9_sort 253) 253 lv st w nx K Rt = (z_la lv 0 (fun x => nx 254 lv (.ref x :: st) w)) := id rfl
theorem sX9_sort_254 (lv : zL) (st : List Value) (w : zW) (nx K : Nat → zL → List Value → zW → Prop) (Rt : Option Value → zW → Prop) : z_st1 (tX9_sort 254) 254 lv st w nx K Rt = (z_1a st (fun x r => z_ob w x 10 (fun fs => z_fl fs 35 (fun u => nx 257 lv (u :: r) w)))) := id rfl
theorem sX9_sort_257 (lv : zL) (st : List Value) (w : zW) (nx K : Nat → zL → List Value → zW → Prop) (Rt : Option Value → zW → Prop) : z_st1 (tX9_sort 257) 257 lv st w nx K Rt = (nx 258 lv (.int (4 : Int32) :: st) w) := id rfl
theorem sX9_sort_258 (lv : zL) (st : List Value) (w : zW) (nx K : Nat → zL → List Value → zW → Prop) (Rt : Option Value → zW → Prop) : z_st1 (tX9_sort 258) 258 lv st w nx K Rt = (z_la lv 0 (fun x => nx 259 lv (.ref x :: st) w)) := id rfl
theorem sX9_sort_259 (lv : zL) (st : List Value) (w : zW) (nx K : Nat → zL → List Value → zW → Prop) (Rt : Option Value → zW → Prop) : z_st1 (tX9_sort 259) 259 lv st w nx K Rt = (z_1a st (fun x r => z_ob w x 10 (fun fs => z_fl fs 30 (fun u => nx 262 lv (u :: r) w)))) := id rfl
theorem sX9_sort_262 (lv : zL) (st : List Value) (w : zW) (nx K : Nat → zL → List Value → zW → Prop) (Rt : Option Value → zW → Prop) : z_st1 (tX9_sort 262) 262 lv st w nx K Rt = (z_la lv 0 (fun x => nx 263 lv (.ref x :: st) w)) := id rfl
theorem sX9_sort_263 (lv : zL) (st : List Value) (w : zW) (nx K : Nat → zL → List Value → zW → Prop) (Rt : Option Value → zW → Prop) : z_st1 (tX9_sort 263) 263 lv st w nx K Rt = (z_1a st (fun x r => z_ob w x 10 (fun fs => z_fl fs 1 (fun u => nx 266 lv (u :: r) w)))) := id rfl
theorem sX9_sort_266 (lv : zL) (st : List Value) (w : zW) (nx K : Nat → zL → List Value → zW → Prop) (Rt : Option Value → zW → Prop) : z_st1 (tX9_sort 266) 266 lv st w nx K Rt = (z_2i st (fun x y r => nx 267 lv (.int (x + y) :: r) w)) := id rfl
theorem sX9_sort_267 (lv : zL) (st : List Value) (w : zW) (nx K : Nat → zL → List Value → zW → Prop) (Rt : Option Value → zW → Prop) : z_st1 (tX9_sort 267) 267 lv st w nx K Rt = (nx 268 lv (.int (1 : Int32) :: st) w) := id rfl
theorem sX9_sort_268 (lv : zL) (st : List Value) (w : zW) (nx K : Nat → zL → List Value → zW → Prop) (Rt : Option Value → zW → Prop) : z_st1 (tX9_sort 268) 268 lv st w nx K Rt = (z_2i st (fun x y r => nx 269 lv (.int (x - y) :: r) w)) := id rfl
theorem sX9_sort_269 (lv : zL) (st : List Value) (w : zW) (nx K : Nat → zL → List Value → zW → Prop) (Rt : Option Value → zW → Prop) : z_st1 (tX9_sort 269) 269 lv st w nx K Rt = (z_la lv 0 (fun x => nx 270 lv (.ref x :: st) w)) := id rfl
theorem sX9_sort_270 (lv : zL) (st : List Value) (w : zW) (nx K : Nat → zL → List Value → zW → Prop) (Rt : Option Value → zW → Prop) : z_st1 (tX9_sort 270) 270 lv st w nx K Rt = (z_1a st (fun x r => z_ob w x 10 (fun fs => z_fl fs 1 (fun u => nx 273 lv (u :: r) w)))) := id rfl
theorem sX9_sort_273 (lv : zL) (st : List Value) (w : zW) (nx K : Nat → zL → List Value → zW → Prop) (Rt : Option Value → zW → Prop) : z_st1 (tX9_sort 273) 273 lv st w nx K Rt = (z_2i st (fun x y r => ¬ y = 0 ∧ nx 274 lv (.int (x / y) :: r) w)) := id rfl
theorem sX9_sort_274 (lv : zL) (st : List Value) (w : zW) (nx K : Nat → zL → List Value → zW → Prop) (Rt : Option Value → zW → Prop) : z_st1 (tX9_sort 274) 274 lv st w nx K Rt = (z_iia st (fun x i u r => z_ar0 w x (fun m g => vp_in i m ∧ nx 275 lv r (z_up w x (.inl (0, m, .inl (upd g i.toNatClampNeg u))))))) := id rfl
theorem sX9_sort_275 (lv : zL) (st : List Value) (w : zW) (nx K : Nat → zL → List Value → zW → Prop) (Rt : Option Value → zW → Prop) : z_st1 (tX9_sort 275) 275 lv st w nx K Rt = (z_la lv 0 (fun x => nx 276 lv (.ref x :: st) w)) := id rfl
theorem sX9_sort_276 (lv : zL) (st : List Value) (w : zW) (nx K : Nat → zL → List Value → zW → Prop) (Rt : Option Value → zW → Prop) : z_st1 (tX9_sort 276) 276 lv st w nx K Rt = (z_1a st (fun x r => z_ob w x 10 (fun fs => z_fl fs 35 (fun u => nx 279 lv (u :: r) w)))) := id rfl
theorem sX9_sort_279 (lv : zL) (st : List Value) (w : zW) (nx K : Nat → zL → List Value → zW → Prop) (Rt : Option Value → zW → Prop) : z_st1 (tX9_sort 279) 279 lv st w nx K Rt = (nx 280 lv (.int (5 : Int32) :: st) w) := id rfl
theorem sX9_sort_280 (lv : zL) (st : List Value) (w : zW) (nx K : Nat → zL → List Value → zW → Prop) (Rt : Option Value → zW → Prop) : z_st1 (tX9_sort 280) 280 lv st w nx K Rt = (nx 281 lv (.int (0 : Int32) :: st) w) := id rfl
theorem sX9_sort_281 (lv : zL) (st : List Value) (w : zW) (nx K : Nat → zL → List Value → zW → Prop) (Rt : Option Value → zW → Prop) : z_st1 (tX9_sort 281) 281 lv st w nx K Rt = (z_iia st (fun x i u r => z_ar0 w x (fun m g => vp_in i m ∧ nx 282 lv r (z_up w x (.inl (0, m, .inl (upd g i.toNatClampNeg u))))))) := id rfl
theorem sX9_sort_282 (lv : zL) (st : List Value) (w : zW) (nx K : Nat → zL → List Value → zW → Prop) (Rt : Option Value → zW → Prop) : z_st1 (tX9_sort 282) 282 lv st w nx K Rt = (z_la lv 0 (fun x => nx 283 lv (.ref x :: st) w)) := id rfl
theorem sX9_sort_283 (lv : zL) (st : List Value) (w : zW) (nx K : Nat → zL → List Value → zW → Prop) (Rt : Option Value → zW → Prop) : z_st1 (tX9_sort 283) 283 lv st w nx K Rt = (z_1a st (fun x r => z_ob w x 10 (fun fs => z_fl fs 35 (fun u => nx 286 lv (u :: r) w)))) := id rfl
theorem sX9_sort_286 (lv : zL) (st : List Value) (w : zW) (nx K : Nat → zL → List Value → zW → Prop) (Rt : Option Value → zW → Prop) : z_st1 (tX9_sort 286) 286 lv st w nx K Rt = (nx 287 lv (.int (4 : Int32) :: st) w) := id rfl
theorem sX9_sort_287 (lv : zL) (st : List Value) (w : zW) (nx K : Nat → zL → List Value → zW → Prop) (Rt : Option Value → zW → Prop) : z_st1 (tX9_sort 287) 287 lv st w nx K Rt = (z_ia st (fun x i r => z_ar0 w x (fun m g => vp_in i m ∧ nx 288 lv (.int (g i.toNatClampNeg) :: r) w))) := id rfl
theorem sX9_sort_288 (lv : zL) (st : List Value) (w : zW) (nx K : Nat → zL → List Value → zW → Prop) (Rt : Option Value → zW → Prop) : z_st1 (tX9_sort 288) 288 lv st w nx K Rt = (z_1i st (fun x r => z_ok1 lv 5 = true ∧ nx 290 (lv.set 5 (some (.int x))) r w)) := id rfl
theorem sX9_sort_290 (lv : zL) (st : List Value) (w : zW) (nx K : Nat → zL → List Value → zW → Prop) (Rt : Option Value → zW → Prop) : z_st1 (tX9_sort 290) 290 lv st w nx K Rt = (z_li lv 5 (fun x => nx 292 lv (.int x :: st) w)) := id rfl
theorem sX9_sort_292 (lv : zL) (st : List Value) (w : zW) (nx K : Nat → zL → List Value → zW → Prop) (Rt : Option Value → zW → Prop) : z_st1 (tX9_sort 292) 292 lv st w nx K Rt = (nx 293 lv (.int (1 : Int32) :: st) w) := id rfl
theorem sX9_sort_293 (lv : zL) (st : List Value) (w : zW) (nx K : Nat → zL → List Value → zW → Prop) (Rt : Option Value → zW → Prop) : z_st1 (tX9_sort 293) 293 lv st w nx K Rt = (z_2i st (fun x y r => (x ≤ y → nx 325 lv r w) ∧ (¬ x ≤ y → nx 296 lv r w))) := id rfl
theorem sX9_sort_296 (lv : zL) (st : List Value) (w : zW) (nx K : Nat → zL → List Value → zW → Prop) (Rt : Option Value → zW → Prop) : z_st1 (tX9_sort 296) 296 lv st w nx K Rt = (z_la lv 0 (fun x => nx 297 lv (.ref x :: st) w)) := id rfl
theorem sX9_sort_297 (lv : zL) (st : List Value) (w : zW) (nx K : Nat → zL → List Value → zW → Prop) (Rt : Option Value → zW → Prop) : z_st1 (tX9_sort 297) 297 lv st w nx K Rt = (z_1a st (fun x r => z_ob w x 10 (fun fs => z_fl fs 35 (fun u => nx 300 lv (u :: r) w)))) := id rfl
theorem sX9_sort_300 (lv : zL) (st : List Value) (w : zW) (nx K : Nat → zL → List Value → zW → Prop) (Rt : Option Value → zW → Prop) : z_st1 (tX9_sort 300) 300 lv st w nx K Rt = (nx 301 lv (.int (5 : Int32) :: st) w) := id rfl
theorem sX9_sort_301 (lv : zL) (st : List Value) (w : zW) (nx K : Nat → zL → List Value → zW → Prop) (Rt : Option Value → zW → Prop) : z_st1 (tX9_sort 301) 301 lv st w nx K Rt = (z_dia st (fun x i r => nx 302 lv (.int i :: .ref x :: .int i :: .ref x :: r) w)) := id rfl
theorem sX9_sort_302 (lv : zL) (st : List Value) (w : zW) (nx K : Nat → zL → List Value → zW → Prop) (Rt : Option Value → zW → Prop) : z_st1 (tX9_sort 302) 302 lv st w nx K Rt = (z_ia st (fun x i r => z_ar0 w x (fun m g => vp_in i m ∧ nx 303 lv (.int (g i.toNatClampNeg) :: r) w))) := id rfl
theorem sX9_sort_303 (lv : zL) (st : List Value) (w : zW) (nx K : Nat → zL → List Value → zW → Prop) (Rt : Option Value → zW → Prop) : z_st1 (tX9_sort 303) 303 lv st w nx K Rt = (nx 304 lv (.int (1 : Int32) :: st) w) := id rfl
theorem sX9_sort_304 (lv : zL) (st : List Value) (w : zW) (nx K : Nat → zL → List Value → zW → Prop) (Rt : Option Value → zW → Prop) : z_st1 (tX9_sort 304) 304 lv st w nx K Rt = (z_2i st (fun x y r => nx 305 lv (.int (x + y) :: r) w)) := id rfl
theorem sX9_sort_305 (lv : zL) (st : List Value) (w : zW) (nx K : Nat → zL → List Value → zW → Prop) (Rt : Option Value → zW → Prop) : z_st1 (tX9_sort 305) 305 lv st w nx K Rt = (z_iia st (fun x i u r => z_ar0 w x (fun m g => vp_in i m ∧ nx 306 lv r (z_up w x (.inl (0, m, .inl (upd g i.toNatClampNeg u))))))) := id rfl
theorem sX9_sort_306 (lv : zL) (st : List Value) (w : zW) (nx K : Nat → zL → List Value → zW → Prop) (Rt : Option Value → zW → Prop) : z_st1 (tX9_sort 306) 306 lv st w nx K Rt = (z_li lv 5 (fun x => nx 308 lv (.int x :: st) w)) := id rfl
theorem sX9_sort_308 (lv : zL) (st : List Value) (w : zW) (nx K : Nat → zL → List Value → zW → Prop) (Rt : Option Value → zW → Prop) : z_st1 (tX9_sort 308) 308 lv st w nx K Rt = (z_la lv 0 (fun x => nx 309 lv (.ref x :: st) w)) := id rfl
theorem sX9_sort_309 (lv : zL) (st : List Value) (w : zW) (nx K : Nat → zL → List Value → zW → Prop) (Rt : Option Value → zW → Prop) : z_st1 (tX9_sort 309) 309 lv st w nx K Rt = (z_1a st (fun x r => z_ob w x 10 (fun fs => z_fl fs 2 (fun u => nx 312 lv (u :: r) w)))) := id rfl
theorem sX9_sort_312 (lv : zL) (st : List Value) (w : zW) (nx K : Nat → zL → List Value → zW → Prop) (Rt : Option Value → zW → Prop) : z_st1 (tX9_sort 312) 312 lv st w nx K Rt = (z_2i st (fun x y r => nx 313 lv (.int (x + y) :: r) w)) := id rfl
theorem sX9_sort_313 (lv : zL) (st : List Value) (w : zW) (nx K : Nat → zL → List Value → zW → Prop) (Rt : Option Value → zW → Prop) : z_st1 (tX9_sort 313) 313 lv st w nx K Rt = (nx 314 lv (.int (1 : Int32) :: st) w) := id rfl
theorem sX9_sort_314 (lv : zL) (st : List Value) (w : zW) (nx K : Nat → zL → List Value → zW → Prop) (Rt : Option Value → zW → Prop) : z_st1 (tX9_sort 314) 314 lv st w nx K Rt = (z_2i st (fun x y r => nx 315 lv (.int (x - y) :: r) w)) := id rfl
theorem sX9_sort_315 (lv : zL) (st : List Value) (w : zW) (nx K : Nat → zL → List Value → zW → Prop) (Rt : Option Value → zW → Prop) : z_st1 (tX9_sort 315) 315 lv st w nx K Rt = (z_la lv 0 (fun x => nx 316 lv (.ref x :: st) w)) := id rfl
theorem sX9_sort_316 (lv : zL) (st : List Value) (w : zW) (nx K : Nat → zL → List Value → zW → Prop) (Rt : Option Value → zW → Prop) : z_st1 (tX9_sort 316) 316 lv st w nx K Rt = (z_1a st (fun x r => z_ob w x 10 (fun fs => z_fl fs 2 (fun u => nx 319 lv (u :: r) w)))) := id rfl
theorem sX9_sort_319 (lv : zL) (st : List Value) (w : zW) (nx K : Nat → zL → List Value → zW → Prop) (Rt : Option Value → zW → Prop) : z_st1 (tX9_sort 319) 319 lv st w nx K Rt = (z_2i st (fun x y r => ¬ y = 0 ∧ nx 320 lv (.int (x / y) :: r) w)) := id rfl
theorem sX9_sort_320 (lv : zL) (st : List Value) (w : zW) (nx K : Nat → zL → List Value → zW → Prop) (Rt : Option Value → zW → Prop) : z_st1 (tX9_sort 320) 320 lv st w nx K Rt = (z_1i st (fun x r => z_ok1 lv 5 = true ∧ nx 322 (lv.set 5 (some (.int x))) r w)) := id rfl
theorem sX9_sort_322 (lv : zL) (st : List Value) (w : zW) (nx K : Nat → zL → List Value → zW → Prop) (Rt : Option Value → zW → Prop) : z_st1 (tX9_sort 322) 322 lv st w nx K Rt = (nx 290 lv st w) := id rfl
theorem sX9_sort_325 (lv : zL) (st : List Value) (w : zW) (nx K : Nat → zL → List Value → zW → Prop) (Rt : Option Value → zW → Prop) : z_st1 (tX9_sort 325) 325 lv st w nx K Rt = (z_la lv 0 (fun x => nx 326 lv (.ref x :: st) w)) := id rfl
theorem sX9_sort_326 (lv : zL) (st : List Value) (w : zW) (nx K : Nat → zL → List Value → zW → Prop) (Rt : Option Value → zW → Prop) : z_st1 (tX9_sort 326) 326 lv st w nx K Rt = (z_li lv 4 (fun x => nx 328 lv (.int x :: st) w)) := id rfl
theorem sX9_sort_328 (lv : zL) (st : List Value) (w : zW) (nx K : Nat → zL → List Value → zW → Prop) (Rt : Option Value → zW → Prop) : z_st1 (tX9_sort 328) 328 lv st w nx K Rt = (z_ia st (fun x i r => z_ob w x 10 (fun fs => 31 < fs.length ∧ nx 331 lv r (z_up w x (.inr (10, fs.set 31 (.int i))))))) := id rfl
theorem sX9_sort_331 (lv : zL) (st : List Value) (w : zW) (nx K : Nat → zL → List Value → zW → Prop) (Rt : Option Value → zW → Prop) : z_st1 (tX9_sort 331) 331 lv st w nx K Rt = (z_la lv 0 (fun x => nx 332 lv (.ref x :: st) w)) := id rfl
theorem sX9_sort_332 (lv : zL) (st : List Value) (w : zW) (nx K : Nat → zL → List Value → zW → Prop) (Rt : Option Value → zW → Prop) : z_st1 (tX9_sort 332) 332 lv st w nx K Rt = (nx 333 lv (.int (0 : Int32) :: st) w) := id rfl
theorem sX9_sort_333 (lv : zL) (st : List Value) (w : zW) (nx K : Nat → zL → List Value → zW → Prop) (Rt : Option Value → zW → Prop) : z_st1 (tX9_sort 333) 333 lv st w nx K Rt = (z_ia st (fun x i r => z_ob w x 10 (fun fs => 22 < fs.length ∧ nx 336 lv r (z_up w x (.inr (10, fs.set 22 (.int i))))))) := id rfl
theorem sX9_sort_336 (lv : zL) (st : List Value) (w : zW) (nx K : Nat → zL → List Value → zW → Prop) (Rt : Option Value → zW → Prop) : z_st1 (tX9_sort 336) 336 lv st w nx K Rt = (z_la lv 0 (fun x => nx 337 lv (.ref x :: st) w)) := id rfl
theorem sX9_sort_340 (lv : zL) (st : List Value) (w : zW) (nx K : Nat → zL → List Value → zW → Prop) (Rt : Option Value → zW → Prop) : z_st1 (tX9_sort 340) 340 lv st w nx K Rt = (z_e1 st (fun x => Rt (some (.int x)) w)) := id rfl
theorem sX9_sort_54 (lv : zL) (st : List Value) (w : zW) (nx K : Nat → zL → List Value → zW → Prop) (Rt : Option Value → zW → Prop) : z_st1 (tX9_sort 54) 54 lv st w nx K Rt = K 54 lv st w := id rfl
theorem sX9_sort_64 (lv : zL) (st : List Value) (w : zW) (nx K : Nat → zL → List Value → zW → Prop) (Rt : Option Value → zW → Prop) : z_st1 (tX9_sort 64) 64 lv st w nx K Rt = K 64 lv st w := id rfl
theorem sX9_sort_78 (lv : zL) (st : List Value) (w : zW) (nx K : Nat → zL → List Value → zW → Prop) (Rt : Option Value → zW → Prop) : z_st1 (tX9_sort 78) 78 lv st w nx K Rt = K 78 lv st w := id rfl
theorem sX9_sort_147 (lv : zL) (st : List Value) (w : zW) (nx K : Nat → zL → List Value → zW → Prop) (Rt : Option Value → zW → Prop) : z_st1 (tX9_sort 147) 147 lv st w nx K Rt = K 147 lv st w := id rfl
theorem sX9_sort_151 (lv : zL) (st : List Value) (w : zW) (nx K : Nat → zL → List Value → zW → Prop) (Rt : Option Value → zW → Prop) : z_st1 (tX9_sort 151) 151 lv st w nx K Rt = K 151 lv st w := id rfl
theorem sX9_sort_179 (lv : zL) (st : List Value) (w : zW) (nx K : Nat → zL → List Value → zW → Prop) (Rt : Option Value → zW → Prop) : z_st1 (tX9_sort 179) 179 lv st w nx K Rt = K 179 lv st w := id rfl
theorem sX9_sort_337 (lv : zL) (st : List Value) (w : zW) (nx K : Nat → zL → List Value → zW → Prop) (Rt : Option Value → zW → Prop) : z_st1 (tX9_sort 337) 337 lv st w nx K Rt = K 337 lv st w := id rfl
theorem dX9_sort_54 : decode cX9_sort 54 = .ok (.invokevirtual 150, 3) := by decide +kernel
theorem dX9_sort_64 : decode cX9_sort 64 = .ok (.invokevirtual 154, 3) := by decide +kernel
theorem dX9_sort_78 : decode cX9_sort 78 = .ok (.invokevirtual 157, 3) := by decide +kernel
theorem dX9_sort_147 : decode cX9_sort 147 = .ok (.invokevirtual 161, 3) := by decide +kernel
theorem dX9_sort_151 : decode cX9_sort 151 = .ok (.invokevirtual 165, 3) := by decide +kernel
theorem dX9_sort_179 : decode cX9_sort 179 = .ok (.invokevirtual 157, 3) := by decide +kernel
theorem dX9_sort_337 : decode cX9_sort 337 = .ok (.invokevirtual 169, 3) := by decide +kernel

def tmX9_comes (pc : Nat) : zI := match pc with
  | 0 => (1, 0, 0, 1, 0)
  | 1 => (6, 0, 0, 2, 2)
  | 2 => (47, 10, 3, 5, 0)
  | 5 => (1, 0, 0, 6, 0)
  | 6 => (6, 0, 0, 7, 0)
  | 7 => (47, 10, 32, 10, 0)
  | 10 => (1, 0, 0, 11, 0)
  | 11 => (6, 0, 0, 12, (-1))
  | 12 => (47, 10, 33, 15, 0)
  | 15 => (1, 0, 0, 16, 0)
  | 16 => (46, 10, 31, 19, 0)
  | 19 => (53, 0, 0, 20, 0)
  | _ => (99, 0, 0, 0, 0)
def tX9_comes (pc : Nat) : zI := if pc < 20 then tmX9_comes pc else (99, 0, 0, 0, 0)
theorem tkX9_comes : z_tab RX9 wsX9_comes 1 (some .int) cX9_comes 20 tX9_comes := z_tab_of (tm := tmX9_comes) (by decide +kernel)
theorem sX9_comes_0 (lv : zL) (st : List Value) (w : zW) (nx K : Nat → zL → List Value → zW → Prop) (Rt : Option Value → zW → Prop) : z_st1 (tX9_comes 0) 0 lv st w nx K Rt = (z_la lv 0 (fun x => nx 1 lv (.ref x :: st) w)) := id rfl
theorem sX9_comes_1 (lv : zL) (st : List Value) (w : zW) (nx K : Nat → zL → List Value → zW → Prop) (Rt : Option Value → zW → Prop) : z_st1 (tX9_comes 1) 1 lv st w nx K Rt = (nx 2 lv (.int (2 : Int32) :: st) w) := id rfl
theorem sX9_comes_2 (lv : zL) (st : List Value) (w : zW) (nx K : Nat → zL → List Value → zW → Prop) (Rt : Option Value → zW → Prop) : z_st1 (tX9_comes 2) 2 lv st w nx K Rt = (z_ia st (fun x i r => z_ob w x 10 (fun fs => 3 < fs.length ∧ nx 5 lv r (z_up w x (.inr (10, fs.set 3 (.int i))))))) := id rfl
theorem sX9_comes_5 (lv : zL) (st : List Value) (w : zW) (nx K : Nat → zL → List Value → zW → Prop) (Rt : Option Value → zW → Prop) : z_st1 (tX9_comes 5) 5 lv st w nx K Rt = (z_la lv 0 (fun x => nx 6 lv (.ref x :: st) w)) := id rfl
theorem sX9_comes_6 (lv : zL) (st : List Value) (w : zW) (nx K : Nat → zL → List Value → zW → Prop) (Rt : Option Value → zW → Prop) : z_st1 (tX9_comes 6) 6 lv st w nx K Rt = (nx 7 lv (.int (0 : Int32) :: st) w) := id rfl
theorem sX9_comes_7 (lv : zL) (st : List Value) (w : zW) (nx K : Nat → zL → List Value → zW → Prop) (Rt : Option Value → zW → Prop) : z_st1 (tX9_comes 7) 7 lv st w nx K Rt = (z_ia st (fun x i r => z_ob w x 10 (fun fs => 32 < fs.length ∧ nx 10 lv r (z_up w x (.inr (10, fs.set 32 (.int i))))))) := id rfl
theorem sX9_comes_10 (lv : zL) (st : List Value) (w : zW) (nx K : Nat → zL → List Value → zW → Prop) (Rt : Option Value → zW → Prop) : z_st1 (tX9_comes 10) 10 lv st w nx K Rt = (z_la lv 0 (fun x => nx 11 lv (.ref x :: st) w)) := id rfl
theorem sX9_comes_11 (lv : zL) (st : List Value) (w : zW) (nx K : Nat → zL → List Value → zW → Prop) (Rt : Option Value → zW → Prop) : z_st1 (tX9_comes 11) 11 lv st w nx K Rt = (nx 12 lv (.int (-1 : Int32) :: st) w) := id rfl
theorem sX9_comes_12 (lv : zL) (st : List Value) (w : zW) (nx K : Nat → zL → List Value → zW → Prop) (Rt : Option Value → zW → Prop) : z_st1 (tX9_comes 12) 12 lv st w nx K Rt = (z_ia st (fun x i r => z_ob w x 10 (fun fs => 33 < fs.length ∧ nx 15 lv r (z_up w x (.inr (10, fs.set 33 (.int i))))))) := id rfl
theorem sX9_comes_15 (lv : zL) (st : List Value) (w : zW) (nx K : Nat → zL → List Value → zW → Prop) (Rt : Option Value → zW → Prop) : z_st1 (tX9_comes 15) 15 lv st w nx K Rt = (z_la lv 0 (fun x => nx 16 lv (.ref x :: st) w)) := id rfl
theorem sX9_comes_16 (lv : zL) (st : List Value) (w : zW) (nx K : Nat → zL → List Value → zW → Prop) (Rt : Option Value → zW → Prop) : z_st1 (tX9_comes 16) 16 lv st w nx K Rt = (z_1a st (fun x r => z_ob w x 10 (fun fs => z_fl fs 31 (fun u => nx 19 lv (u :: r) w)))) := id rfl
theorem sX9_comes_19 (lv : zL) (st : List Value) (w : zW) (nx K : Nat → zL → List Value → zW → Prop) (Rt : Option Value → zW → Prop) : z_st1 (tX9_comes 19) 19 lv st w nx K Rt = (z_e1 st (fun x => Rt (some (.int x)) w)) := id rfl
