def tmX4_insert (pc : Nat) : zI := match pc with
  | 0 => (1, 0, 0, 1, 0)
  | 1 => (46, 5, 2, 4, 0)
  | 4 => (0, 2, 0, 5, 0)
  | 5 => (48, 0, 0, 6, 0)
  | 6 => (3, 3, 0, 7, 0)
  | 7 => (0, 1, 0, 8, 0)
  | 8 => (3, 4, 0, 10, 0)
  | 10 => (0, 2, 0, 11, 0)
  | 11 => (3, 5, 0, 13, 0)
  | 13 => (0, 4, 0, 15, 0)
  | 15 => (0, 5, 0, 17, 0)
  | 17 => (43, 60, 0, 20, 0)
  | 20 => (0, 4, 0, 22, 0)
  | 22 => (0, 5, 0, 24, 0)
  | 24 => (8, 0, 0, 25, 0)
  | 25 => (6, 0, 0, 26, 2)
  | 26 => (15, 0, 0, 27, 0)
  | 27 => (3, 6, 0, 29, 0)
  | 29 => (1, 0, 0, 30, 0)
  | 30 => (0, 3, 0, 31, 0)
  | 31 => (1, 0, 0, 32, 0)
  | 32 => (46, 5, 2, 35, 0)
  | 35 => (0, 6, 0, 37, 0)
  | 37 => (48, 0, 0, 38, 0)
  | 41 => (34, 51, 0, 44, 0)
  | 44 => (0, 6, 0, 46, 0)
  | 46 => (3, 5, 0, 48, 0)
  | 48 => (33, 57, 0, 51, 0)
  | 51 => (0, 6, 0, 53, 0)
  | 53 => (6, 0, 0, 54, 1)
  | 54 => (8, 0, 0, 55, 0)
  | 55 => (3, 4, 0, 57, 0)
  | 57 => (33, 13, 0, 60, 0)
  | 60 => (1, 0, 0, 61, 0)
  | 61 => (46, 5, 2, 64, 0)
  | 64 => (0, 4, 0, 66, 0)
  | 66 => (1, 0, 0, 67, 0)
  | 67 => (46, 5, 2, 70, 0)
  | 70 => (0, 4, 0, 72, 0)
  | 72 => (6, 0, 0, 73, 1)
  | 73 => (8, 0, 0, 74, 0)
  | 74 => (0, 2, 0, 75, 0)
  | 75 => (0, 4, 0, 77, 0)
  | 77 => (9, 0, 0, 78, 0)
  | 81 => (1, 0, 0, 82, 0)
  | 82 => (46, 5, 2, 85, 0)
  | 85 => (0, 4, 0, 87, 0)
  | 87 => (0, 3, 0, 88, 0)
  | 88 => (49, 0, 0, 89, 0)
  | 89 => (55, 0, 0, 90, 0)
  | _ => (99, 0, 0, 0, 0)
def tX4_insert (pc : Nat) : zI := if pc < 90 then tmX4_insert pc else (99, 0, 0, 0, 0)
theorem tkX4_insert : z_tab RX4 wsX4_insert 7 none cX4_insert 90 tX4_insert := z_tab_of (tm := tmX4_insert) (by decide +kernel)
theorem sX4_insert_0 (lv : zL) (st : List Value) (w : zW) (nx K : Nat → zL → List Value → zW → Prop) (Rt : Option Value → zW → Prop) : z_st1 (tX4_insert 0) 0 lv st w nx K Rt = (z_la lv 0 (fun x => nx 1 lv (.ref x :: st) w)) := id rfl
theorem sX4_insert_1 (lv : zL) (st : List Value) (w : zW) (nx K : Nat → zL → List Value → zW → Prop) (Rt : Option Value → zW → Prop) : z_st1 (tX4_insert 1) 1 lv st w nx K Rt = (z_1a st (fun x r => z_ob w x 5 (fun fs => z_fl fs 2 (fun u => nx 4 lv (u :: r) w)))) := id rfl
theorem sX4_insert_4 (lv : zL) (st : List Value) (w : zW) (nx K : Nat → zL → List Value → zW → Prop) (Rt : Option Value → zW → Prop) : z_st1 (tX4_insert 4) 4 lv st w nx K Rt = (z_li lv 2 (fun x => nx 5 lv (.int x :: st) w)) := id rfl
theorem sX4_insert_5 (lv : zL) (st : List Value) (w : zW) (nx K : Nat → zL → List Value → zW → Prop) (Rt : Option Value → zW → Prop) : z_st1 (tX4_insert 5) 5 lv st w nx K Rt = (z_ia st (fun x i r => z_ar0 w x (fun m g => vp_in i m ∧ nx 6 lv (.int (g i.toNatClampNeg) :: r) w))) := id rfl
theorem sX4_insert_6 (lv : zL) (st : List Value) (w : zW) (nx K : Nat → zL → List Value → zW → Prop) (Rt : Option Value → zW → Prop) : z_st1 (tX4_insert 6) 6 lv st w nx K Rt = (z_1i st (fun x r => z_ok1 lv 3 = true ∧ nx 7 (lv.set 3 (some (.int x))) r w)) := id rfl
theorem sX4_insert_7 (lv : zL) (st : List Value) (w : zW) (nx K : Nat → zL → List Value → zW → Prop) (Rt : Option Value → zW → Prop) : z_st1 (tX4_insert 7) 7 lv st w nx K Rt = (z_li lv 1 (fun x => nx 8 lv (.int x :: st) w)) := id rfl
theorem sX4_insert_8 (lv : zL) (st : List Value) (w : zW) (nx K : Nat → zL → List Value → zW → Prop) (Rt : Option Value → zW → Prop) : z_st1 (tX4_insert 8) 8 lv st w nx K Rt = (z_1i st (fun x r => z_ok1 lv 4 = true ∧ nx 10 (lv.set 4 (some (.int x))) r w)) := id rfl
theorem sX4_insert_10 (lv : zL) (st : List Value) (w : zW) (nx K : Nat → zL → List Value → zW → Prop) (Rt : Option Value → zW → Prop) : z_st1 (tX4_insert 10) 10 lv st w nx K Rt = (z_li lv 2 (fun x => nx 11 lv (.int x :: st) w)) := id rfl
theorem sX4_insert_11 (lv : zL) (st : List Value) (w : zW) (nx K : Nat → zL → List Value → zW → Prop) (Rt : Option Value → zW → Prop) : z_st1 (tX4_insert 11) 11 lv st w nx K Rt = (z_1i st (fun x r => z_ok1 lv 5 = true ∧ nx 13 (lv.set 5 (some (.int x))) r w)) := id rfl
theorem sX4_insert_13 (lv : zL) (st : List Value) (w : zW) (nx K : Nat → zL → List Value → zW → Prop) (Rt : Option Value → zW → Prop) : z_st1 (tX4_insert 13) 13 lv st w nx K Rt = (z_li lv 4 (fun x => nx 15 lv (.int x :: st) w)) := id rfl
theorem sX4_insert_15 (lv : zL) (st : List Value) (w : zW) (nx K : Nat → zL → List Value → zW → Prop) (Rt : Option Value → zW → Prop) : z_st1 (tX4_insert 15) 15 lv st w nx K Rt = (z_li lv 5 (fun x => nx 17 lv (.int x :: st) w)) := id rfl
theorem sX4_insert_17 (lv : zL) (st : List Value) (w : zW) (nx K : Nat → zL → List Value → zW → Prop) (Rt : Option Value → zW → Prop) : z_st1 (tX4_insert 17) 17 lv st w nx K Rt = (z_2i st (fun x y r => (y ≤ x → nx 60 lv r w) ∧ (¬ y ≤ x → nx 20 lv r w))) := id rfl
theorem sX4_insert_20 (lv : zL) (st : List Value) (w : zW) (nx K : Nat → zL → List Value → zW → Prop) (Rt : Option Value → zW → Prop) : z_st1 (tX4_insert 20) 20 lv st w nx K Rt = (z_li lv 4 (fun x => nx 22 lv (.int x :: st) w)) := id rfl
theorem sX4_insert_22 (lv : zL) (st : List Value) (w : zW) (nx K : Nat → zL → List Value → zW → Prop) (Rt : Option Value → zW → Prop) : z_st1 (tX4_insert 22) 22 lv st w nx K Rt = (z_li lv 5 (fun x => nx 24 lv (.int x :: st) w)) := id rfl
theorem sX4_insert_24 (lv : zL) (st : List Value) (w : zW) (nx K : Nat → zL → List Value → zW → Prop) (Rt : Option Value → zW → Prop) : z_st1 (tX4_insert 24) 24 lv st w nx K Rt = (z_2i st (fun x y r => nx 25 lv (.int (x + y) :: r) w)) := id rfl
theorem sX4_insert_25 (lv : zL) (st : List Value) (w : zW) (nx K : Nat → zL → List Value → zW → Prop) (Rt : Option Value → zW → Prop) : z_st1 (tX4_insert 25) 25 lv st w nx K Rt = (nx 26 lv (.int (2 : Int32) :: st) w) := id rfl
theorem sX4_insert_26 (lv : zL) (st : List Value) (w : zW) (nx K : Nat → zL → List Value → zW → Prop) (Rt : Option Value → zW → Prop) : z_st1 (tX4_insert 26) 26 lv st w nx K Rt = (z_2i st (fun x y r => ¬ y = 0 ∧ nx 27 lv (.int (x / y) :: r) w)) := id rfl
theorem sX4_insert_27 (lv : zL) (st : List Value) (w : zW) (nx K : Nat → zL → List Value → zW → Prop) (Rt : Option Value → zW → Prop) : z_st1 (tX4_insert 27) 27 lv st w nx K Rt = (z_1i st (fun x r => z_ok1 lv 6 = true ∧ nx 29 (lv.set 6 (some (.int x))) r w)) := id rfl
theorem sX4_insert_29 (lv : zL) (st : List Value) (w : zW) (nx K : Nat → zL → List Value → zW → Prop) (Rt : Option Value → zW → Prop) : z_st1 (tX4_insert 29) 29 lv st w nx K Rt = (z_la lv 0 (fun x => nx 30 lv (.ref x :: st) w)) := id rfl
theorem sX4_insert_30 (lv : zL) (st : List Value) (w : zW) (nx K : Nat → zL → List Value → zW → Prop) (Rt : Option Value → zW → Prop) : z_st1 (tX4_insert 30) 30 lv st w nx K Rt = (z_li lv 3 (fun x => nx 31 lv (.int x :: st) w)) := id rfl
theorem sX4_insert_31 (lv : zL) (st : List Value) (w : zW) (nx K : Nat → zL → List Value → zW → Prop) (Rt : Option Value → zW → Prop) : z_st1 (tX4_insert 31) 31 lv st w nx K Rt = (z_la lv 0 (fun x => nx 32 lv (.ref x :: st) w)) := id rfl
theorem sX4_insert_32 (lv : zL) (st : List Value) (w : zW) (nx K : Nat → zL → List Value → zW → Prop) (Rt : Option Value → zW → Prop) : z_st1 (tX4_insert 32) 32 lv st w nx K Rt = (z_1a st (fun x r => z_ob w x 5 (fun fs => z_fl fs 2 (fun u => nx 35 lv (u :: r) w)))) := id rfl
theorem sX4_insert_35 (lv : zL) (st : List Value) (w : zW) (nx K : Nat → zL → List Value → zW → Prop) (Rt : Option Value → zW → Prop) : z_st1 (tX4_insert 35) 35 lv st w nx K Rt = (z_li lv 6 (fun x => nx 37 lv (.int x :: st) w)) := id rfl
theorem sX4_insert_37 (lv : zL) (st : List Value) (w : zW) (nx K : Nat → zL → List Value → zW → Prop) (Rt : Option Value → zW → Prop) : z_st1 (tX4_insert 37) 37 lv st w nx K Rt = (z_ia st (fun x i r => z_ar0 w x (fun m g => vp_in i m ∧ nx 38 lv (.int (g i.toNatClampNeg) :: r) w))) := id rfl
theorem sX4_insert_41 (lv : zL) (st : List Value) (w : zW) (nx K : Nat → zL → List Value → zW → Prop) (Rt : Option Value → zW → Prop) : z_st1 (tX4_insert 41) 41 lv st w nx K Rt = (z_1i st (fun x r => (x = 0 → nx 51 lv r w) ∧ (¬ x = 0 → nx 44 lv r w))) := id rfl
theorem sX4_insert_44 (lv : zL) (st : List Value) (w : zW) (nx K : Nat → zL → List Value → zW → Prop) (Rt : Option Value → zW → Prop) : z_st1 (tX4_insert 44) 44 lv st w nx K Rt = (z_li lv 6 (fun x => nx 46 lv (.int x :: st) w)) := id rfl
theorem sX4_insert_46 (lv : zL) (st : List Value) (w : zW) (nx K : Nat → zL → List Value → zW → Prop) (Rt : Option Value → zW → Prop) : z_st1 (tX4_insert 46) 46 lv st w nx K Rt = (z_1i st (fun x r => z_ok1 lv 5 = true ∧ nx 48 (lv.set 5 (some (.int x))) r w)) := id rfl
theorem sX4_insert_48 (lv : zL) (st : List Value) (w : zW) (nx K : Nat → zL → List Value → zW → Prop) (Rt : Option Value → zW → Prop) : z_st1 (tX4_insert 48) 48 lv st w nx K Rt = (nx 57 lv st w) := id rfl
theorem sX4_insert_51 (lv : zL) (st : List Value) (w : zW) (nx K : Nat → zL → List Value → zW → Prop) (Rt : Option Value → zW → Prop) : z_st1 (tX4_insert 51) 51 lv st w nx K Rt = (z_li lv 6 (fun x => nx 53 lv (.int x :: st) w)) := id rfl
theorem sX4_insert_53 (lv : zL) (st : List Value) (w : zW) (nx K : Nat → zL → List Value → zW → Prop) (Rt : Option Value → zW → Prop) : z_st1 (tX4_insert 53) 53 lv st w nx K Rt = (nx 54 lv (.int (1 : Int32) :: st) w) := id rfl
theorem sX4_insert_54 (lv : zL) (st : List Value) (w : zW) (nx K : Nat → zL → List Value → zW → Prop) (Rt : Option Value → zW → Prop) : z_st1 (tX4_insert 54) 54 lv st w nx K Rt = (z_2i st (fun x y r => nx 55 lv (.int (x + y) :: r) w)) := id rfl
theorem sX4_insert_55 (lv : zL) (st : List Value) (w : zW) (nx K : Nat → zL → List Value → zW → Prop) (Rt : Option Value → zW → Prop) : z_st1 (tX4_insert 55) 55 lv st w nx K Rt = (z_1i st (fun x r => z_ok1 lv 4 = true ∧ nx 57 (lv.set 4 (some (.int x))) r w)) := id rfl
theorem sX4_insert_57 (lv : zL) (st : List Value) (w : zW) (nx K : Nat → zL → List Value → zW → Prop) (Rt : Option Value → zW → Prop) : z_st1 (tX4_insert 57) 57 lv st w nx K Rt = (nx 13 lv st w) := id rfl
theorem sX4_insert_60 (lv : zL) (st : List Value) (w : zW) (nx K : Nat → zL → List Value → zW → Prop) (Rt : Option Value → zW → Prop) : z_st1 (tX4_insert 60) 60 lv st w nx K Rt = (z_la lv 0 (fun x => nx 61 lv (.ref x :: st) w)) := id rfl
theorem sX4_insert_61 (lv : zL) (st : List Value) (w : zW) (nx K : Nat → zL → List Value → zW → Prop) (Rt : Option Value → zW → Prop) : z_st1 (tX4_insert 61) 61 lv st w nx K Rt = (z_1a st (fun x r => z_ob w x 5 (fun fs => z_fl fs 2 (fun u => nx 64 lv (u :: r) w)))) := id rfl
theorem sX4_insert_64 (lv : zL) (st : List Value) (w : zW) (nx K : Nat → zL → List Value → zW → Prop) (Rt : Option Value → zW → Prop) : z_st1 (tX4_insert 64) 64 lv st w nx K Rt = (z_li lv 4 (fun x => nx 66 lv (.int x :: st) w)) := id rfl
theorem sX4_insert_66 (lv : zL) (st : List Value) (w : zW) (nx K : Nat → zL → List Value → zW → Prop) (Rt : Option Value → zW → Prop) : z_st1 (tX4_insert 66) 66 lv st w nx K Rt = (z_la lv 0 (fun x => nx 67 lv (.ref x :: st) w)) := id rfl
theorem sX4_insert_67 (lv : zL) (st : List Value) (w : zW) (nx K : Nat → zL → List Value → zW → Prop) (Rt : Option Value → zW → Prop) : z_st1 (tX4_insert 67) 67 lv st w nx K Rt = (z_1a st (fun x r => z_ob w x 5 (fun fs => z_fl fs 2 (fun u => nx 70 lv (u :: r) w)))) := id rfl
theorem sX4_insert_70 (lv : zL) (st : List Value) (w : zW) (nx K : Nat → zL → List Value → zW → Prop) (Rt : Option Value → zW → Prop) : z_st1 (tX4_insert 70) 70 lv st w nx K Rt = (z_li lv 4 (fun x => nx 72 lv (.int x :: st) w)) := id rfl
theorem sX4_insert_72 (lv : zL) (st : List Value) (w : zW) (nx K : Nat → zL → List Value → zW → Prop) (Rt : Option Value → zW → Prop) : z_st1 (tX4_insert 72) 72 lv st w nx K Rt = (nx 73 lv (.int (1 : Int32) :: st) w) := id rfl
theorem sX4_insert_73 (lv : zL) (st : List Value) (w : zW) (nx K : Nat → zL → List Value → zW → Prop) (Rt : Option Value → zW → Prop) : z_st1 (tX4_insert 73) 73 lv st w nx K Rt = (z_2i st (fun x y r => nx 74 lv (.int (x + y) :: r) w)) := id rfl
theorem sX4_insert_74 (lv : zL) (st : List Value) (w : zW) (nx K : Nat → zL → List Value → zW → Prop) (Rt : Option Value → zW → Prop) : z_st1 (tX4_insert 74) 74 lv st w nx K Rt = (z_li lv 2 (fun x => nx 75 lv (.int x :: st) w)) := id rfl
theorem sX4_insert_75 (lv : zL) (st : List Value) (w : zW) (nx K : Nat → zL → List Value → zW → Prop) (Rt : Option Value → zW → Prop) : z_st1 (tX4_insert 75) 75 lv st w nx K Rt = (z_li lv 4 (fun x => nx 77 lv (.int x :: st) w)) := id rfl
theorem sX4_insert_77 (lv : zL) (st : List Value) (w : zW) (nx K : Nat → zL → List Value → zW → Prop) (Rt : Option Value → zW → Prop) : z_st1 (tX4_insert 77) 77 lv st w nx K Rt = (z_2i st (fun x y r => nx 78 lv (.int (x - y) :: r) w)) := id rfl
theorem sX4_insert_81 (lv : zL) (st : List Value) (w : zW) (nx K : Nat → zL → List Value → zW → Prop) (Rt : Option Value → zW → Prop) : z_st1 (tX4_insert 81) 81 lv st w nx K Rt = (z_la lv 0 (fun x => nx 82 lv (.ref x :: st) w)) := id rfl
theorem sX4_insert_82 (lv : zL) (st : List Value) (w : zW) (nx K : Nat → zL → List Value → zW → Prop) (Rt : Option Value → zW → Prop) : z_st1 (tX4_insert 82) 82 lv st w nx K Rt = (z_1a st (fun x r => z_ob w x 5 (fun fs => z_fl fs 2 (fun u => nx 85 lv (u :: r) w)))) := id rfl
theorem sX4_insert_85 (lv : zL) (st : List Value) (w : zW) (nx K : Nat → zL → List Value → zW → Prop) (Rt : Option Value → zW → Prop) : z_st1 (tX4_insert 85) 85 lv st w nx K Rt = (z_li lv 4 (fun x => nx 87 lv (.int x :: st) w)) := id rfl
theorem sX4_insert_87 (lv : zL) (st : List Value) (w : zW) (nx K : Nat → zL → List Value → zW → Prop) (Rt : Option Value → zW → Prop) : z_st1 (tX4_insert 87) 87 lv st w nx K Rt = (z_li lv 3 (fun x => nx 88 lv (.int x :: st) w)) := id rfl
theorem sX4_insert_88 (lv : zL) (st : List Value) (w : zW) (nx K : Nat → zL → List Value → zW → Prop) (Rt : Option Value → zW → Prop) : z_st1 (tX4_insert 88) 88 lv st w nx K Rt = (z_iia st (fun x i u r => z_ar0 w x (fun m g => vp_in i m ∧ nx 89 lv r (z_up w x (.inl (0, m, .inl (upd g i.toNatClampNeg u))))))) := id rfl
theorem sX4_insert_89 (lv : zL) (st : List Value) (w : zW) (nx K : Nat → zL → List Value → zW → Prop) (Rt : Option Value → zW → Prop) : z_st1 (tX4_insert 89) 89 lv st w nx K Rt = (z_e0 st (Rt none w)) := id rfl
theorem sX4_insert_38 (lv : zL) (st : List Value) (w : zW) (nx K : Nat → zL → List Value → zW → Prop) (Rt : Option Value → zW → Prop) : z_st1 (tX4_insert 38) 38 lv st w nx K Rt = K 38 lv st w := id rfl
theorem sX4_insert_78 (lv : zL) (st : List Value) (w : zW) (nx K : Nat → zL → List Value → zW → Prop) (Rt : Option Value → zW → Prop) : z_st1 (tX4_insert 78) 78 lv st w nx K Rt = K 78 lv st w := id rfl
theorem dX4_insert_38 : decode cX4_insert 38 = .ok (.invokevirtual 59, 3) := by decide +kernel
theorem dX4_insert_78 : decode cX4_insert 78 = .ok (.invokestatic 63, 3) := by decide +kernel

def tmX4_mergeRuns (pc : Nat) : zI := match pc with
  | 0 => (0, 1, 0, 1, 0)
  | 1 => (6, 0, 0, 2, 2)
  | 5 => (6, 0, 0, 7, 16)
  | 10 => (3, 2, 0, 11, 0)
  | 11 => (6, 0, 0, 12, 0)
  | 12 => (3, 3, 0, 13, 0)
  | 13 => (1, 0, 0, 14, 0)
  | 14 => (46, 5, 7, 17, 0)
  | 17 => (6, 0, 0, 18, 1)
  | 18 => (45, 119, 0, 21, 0)
  | 21 => (0, 3, 0, 22, 0)
  | 22 => (6, 0, 0, 25, 1600)
  | 25 => (43, 119, 0, 28, 0)
  | 28 => (6, 0, 0, 29, 0)
  | 29 => (3, 4, 0, 31, 0)
  | 31 => (6, 0, 0, 32, 0)
  | 32 => (3, 5, 0, 34, 0)
  | 34 => (0, 5, 0, 36, 0)
  | 36 => (1, 0, 0, 37, 0)
  | 37 => (46, 5, 7, 40, 0)
  | 40 => (43, 86, 0, 43, 0)
  | 43 => (1, 0, 0, 44, 0)
  | 44 => (0, 5, 0, 46, 0)
  | 46 => (0, 5, 0, 48, 0)
  | 48 => (0, 2, 0, 49, 0)
  | 49 => (8, 0, 0, 50, 0)
  | 50 => (1, 0, 0, 51, 0)
  | 51 => (46, 5, 7, 54, 0)
  | 60 => (1, 0, 0, 61, 0)
  | 61 => (46, 5, 4, 64, 0)
  | 64 => (0, 4, 0, 66, 0)
  | 66 => (1, 0, 0, 67, 0)
  | 67 => (46, 5, 4, 70, 0)
  | 70 => (0, 5, 0, 72, 0)
  | 72 => (48, 0, 0, 73, 0)
  | 73 => (49, 0, 0, 74, 0)
  | 74 => (7, 4, 0, 77, 1)
  | 77 => (0, 5, 0, 79, 0)
  | 79 => (0, 2, 0, 80, 0)
  | 80 => (8, 0, 0, 81, 0)
  | 81 => (3, 5, 0, 83, 0)
  | 83 => (33, 34, 0, 86, 0)
  | 86 => (1, 0, 0, 87, 0)
  | 87 => (46, 5, 3, 90, 0)
  | 90 => (6, 0, 0, 91, 0)
  | 91 => (1, 0, 0, 92, 0)
  | 92 => (46, 5, 2, 95, 0)
  | 95 => (6, 0, 0, 96, 0)
  | 96 => (1, 0, 0, 97, 0)
  | 97 => (46, 5, 6, 100, 0)
  | 103 => (1, 0, 0, 104, 0)
  | 104 => (0, 4, 0, 106, 0)
  | 106 => (47, 5, 7, 109, 0)
  | 109 => (1, 0, 0, 110, 0)
  | 113 => (7, 3, 0, 116, 1)
  | 116 => (33, 13, 0, 119, 0)
  | 119 => (0, 3, 0, 120, 0)
  | 120 => (53, 0, 0, 121, 0)
  | _ => (99, 0, 0, 0, 0)
def tX4_mergeRuns (pc : Nat) : zI := if pc < 121 then tmX4_mergeRuns pc else (99, 0, 0, 0, 0)
theorem tkX4_mergeRuns : z_tab RX4 wsX4_mergeRuns 6 (some .int) cX4_mergeRuns 121 tX4_mergeRuns := z_tab_of (tm := tmX4_mergeRuns) (by decide +kernel)
theorem sX4_mergeRuns_0 (lv : zL) (st : List Value) (w : zW) (nx K : Nat → zL → List Value → zW → Prop) (Rt : Option Value → zW → Prop) : z_st1 (tX4_mergeRuns 0) 0 lv st w nx K Rt = (z_li lv 1 (fun x => nx 1 lv (.int x :: st) w)) := id rfl
theorem sX4_mergeRuns_1 (lv : zL) (st : List Value) (w : zW) (nx K : Nat → zL → List Value → zW → Prop) (Rt : Option Value → zW → Prop) : z_st1 (tX4_mergeRuns 1) 1 lv st w nx K Rt = (nx 2 lv (.int (2 : Int32) :: st) w) := id rfl
theorem sX4_mergeRuns_5 (lv : zL) (st : List Value) (w : zW) (nx K : Nat → zL → List Value → zW → Prop) (Rt : Option Value → zW → Prop) : z_st1 (tX4_mergeRuns 5) 5 lv st w nx K Rt = (nx 7 lv (.int (16 : Int32) :: st) w) := id rfl
theorem sX4_mergeRuns_10 (lv : zL) (st : List Value) (w : zW) (nx K : Nat → zL → List Value → zW → Prop) (Rt : Option Value → zW → Prop) : z_st1 (tX4_mergeRuns 10) 10 lv st w nx K Rt = (z_1i st (fun x r => z_ok1 lv 2 = true ∧ nx 11 (lv.set 2 (some (.int x))) r w)) := id rfl
theorem sX4_mergeRuns_11 (lv : zL) (st : List Value) (w : zW) (nx K : Nat → zL → List Value → zW → Prop) (Rt : Option Value → zW → Prop) : z_st1 (tX4_mergeRuns 11) 11 lv st w nx K Rt = (nx 12 lv (.int (0 : Int32) :: st) w) := id rfl
theorem sX4_mergeRuns_12 (lv : zL) (st : List Value) (w : zW) (nx K : Nat → zL → List Value → zW → Prop) (Rt : Option Value → zW → Prop) : z_st1 (tX4_mergeRuns 12) 12 lv st w nx K Rt = (z_1i st (fun x r => z_ok1 lv 3 = true ∧ nx 13 (lv.set 3 (some (.int x))) r w)) := id rfl
theorem sX4_mergeRuns_13 (lv : zL) (st : List Value) (w : zW) (nx K : Nat → zL → List Value → zW → Prop) (Rt : Option Value → zW → Prop) : z_st1 (tX4_mergeRuns 13) 13 lv st w nx K Rt = (z_la lv 0 (fun x => nx 14 lv (.ref x :: st) w)) := id rfl
theorem sX4_mergeRuns_14 (lv : zL) (st : List Value) (w : zW) (nx K : Nat → zL → List Value → zW → Prop) (Rt : Option Value → zW → Prop) : z_st1 (tX4_mergeRuns 14) 14 lv st w nx K Rt = (z_1a st (fun x r => z_ob w x 5 (fun fs => z_fl fs 7 (fun u => nx 17 lv (u :: r) w)))) := id rfl
theorem sX4_mergeRuns_17 (lv : zL) (st : List Value) (w : zW) (nx K : Nat → zL → List Value → zW → Prop) (Rt : Option Value → zW → Prop) : z_st1 (tX4_mergeRuns 17) 17 lv st w nx K Rt = (nx 18 lv (.int (1 : Int32) :: st) w) := id rfl
theorem sX4_mergeRuns_18 (lv : zL) (st : List Value) (w : zW) (nx K : Nat → zL → List Value → zW → Prop) (Rt : Option Value → zW → Prop) : z_st1 (tX4_mergeRuns 18) 18 lv st w nx K Rt = (z_2i st (fun x y r => (x ≤ y → nx 119 lv r w) ∧ (¬ x ≤ y → nx 21 lv r w))) := id rfl
theorem sX4_mergeRuns_21 (lv : zL) (st : List Value) (w : zW) (nx K : Nat → zL → List Value → zW → Prop) (Rt : Option Value → zW → Prop) : z_st1 (tX4_mergeRuns 21) 21 lv st w nx K Rt = (z_li lv 3 (fun x => nx 22 lv (.int x :: st) w)) := id rfl
theorem sX4_mergeRuns_22 (lv : zL) (st : List Value) (w : zW) (nx K : Nat → zL → List Value → zW → Prop) (Rt : Option Value → zW → Prop) : z_st1 (tX4_mergeRuns 22) 22 lv st w nx K Rt = (nx 25 lv (.int (1600 : Int32) :: st) w) := id rfl
theorem sX4_mergeRuns_25 (lv : zL) (st : List Value) (w : zW) (nx K : Nat → zL → List Value → zW → Prop) (Rt : Option Value → zW → Prop) : z_st1 (tX4_mergeRuns 25) 25 lv st w nx K Rt = (z_2i st (fun x y r => (y ≤ x → nx 119 lv r w) ∧ (¬ y ≤ x → nx 28 lv r w))) := id rfl
theorem sX4_mergeRuns_28 (lv : zL) (st : List Value) (w : zW) (nx K : Nat → zL → List Value → zW → Prop) (Rt : Option Value → zW → Prop) : z_st1 (tX4_mergeRuns 28) 28 lv st w nx K Rt = (nx 29 lv (.int (0 : Int32) :: st) w) := id rfl
theorem sX4_mergeRuns_29 (lv : zL) (st : List Value) (w : zW) (nx K : Nat → zL → List Value → zW → Prop) (Rt : Option Value → zW → Prop) : z_st1 (tX4_mergeRuns 29) 29 lv st w nx K Rt = (z_1i st (fun x r => z_ok1 lv 4 = true ∧ nx 31 (lv.set 4 (some (.int x))) r w)) := id rfl
theorem sX4_mergeRuns_31 (lv : zL) (st : List Value) (w : zW) (nx K : Nat → zL → List Value → zW → Prop) (Rt : Option Value → zW → Prop) : z_st1 (tX4_mergeRuns 31) 31 lv st w nx K Rt = (nx 32 lv (.int (0 : Int32) :: st) w) := id rfl
theorem sX4_mergeRuns_32 (lv : zL) (st : List Value) (w : zW) (nx K : Nat → zL → List Value → zW → Prop) (Rt : Option Value → zW → Prop) : z_st1 (tX4_mergeRuns 32) 32 lv st w nx K Rt = (z_1i st (fun x r => z_ok1 lv 5 = true ∧ nx 34 (lv.set 5 (some (.int x))) r w)) := id rfl
theorem sX4_mergeRuns_34 (lv : zL) (st : List Value) (w : zW) (nx K : Nat → zL → List Value → zW → Prop) (Rt : Option Value → zW → Prop) : z_st1 (tX4_mergeRuns 34) 34 lv st w nx K Rt = (z_li lv 5 (fun x => nx 36 lv (.int x :: st) w)) := id rfl
theorem sX4_mergeRuns_36 (lv : zL) (st : List Value) (w : zW) (nx K : Nat → zL → List Value → zW → Prop) (Rt : Option Value → zW → Prop) : z_st1 (tX4_mergeRuns 36) 36 lv st w nx K Rt = (z_la lv 0 (fun x => nx 37 lv (.ref x :: st) w)) := id rfl
theorem sX4_mergeRuns_37 (lv : zL) (st : List Value) (w : zW) (nx K : Nat → zL → List Value → zW → Prop) (Rt : Option Value → zW → Prop) : z_st1 (tX4_mergeRuns 37) 37 lv st w nx K Rt = (z_1a st (fun x r => z_ob w x 5 (fun fs => z_fl fs 7 (fun u => nx 40 lv (u :: r) w)))) := id rfl
theorem sX4_mergeRuns_40 (lv : zL) (st : List Value) (w : zW) (nx K : Nat → zL → List Value → zW → Prop) (Rt : Option Value → zW → Prop) : z_st1 (tX4_mergeRuns 40) 40 lv st w nx K Rt = (z_2i st (fun x y r => (y ≤ x → nx 86 lv r w) ∧ (¬ y ≤ x → nx 43 lv r w))) := id rfl
theorem sX4_mergeRuns_43 (lv : zL) (st : List Value) (w : zW) (nx K : Nat → zL → List Value → zW → Prop) (Rt : Option Value → zW → Prop) : z_st1 (tX4_mergeRuns 43) 43 lv st w nx K Rt = (z_la lv 0 (fun x => nx 44 lv (.ref x :: st) w)) := id rfl
theorem sX4_mergeRuns_44 (lv : zL) (st : List Value) (w : zW) (nx K : Nat → zL → List Value → zW → Prop) (Rt : Option Value → zW → Prop) : z_st1 (tX4_mergeRuns 44) 44 lv st w nx K Rt = (z_li lv 5 (fun x => nx 46 lv (.int x :: st) w)) := id rfl
theorem sX4_mergeRuns_46 (lv : zL) (st : List Value) (w : zW) (nx K : Nat → zL → List Value → zW → Prop) (Rt : Option Value → zW → Prop) : z_st1 (tX4_mergeRuns 46) 46 lv st w nx K Rt = (z_li lv 5 (fun x => nx 48 lv (.int x :: st) w)) := id rfl
theorem sX4_mergeRuns_48 (lv : zL) (st : List Value) (w : zW) (nx K : Nat → zL → List Value → zW → Prop) (Rt : Option Value → zW → Prop) : z_st1 (tX4_mergeRuns 48) 48 lv st w nx K Rt = (z_li lv 2 (fun x => nx 49 lv (.int x :: st) w)) := id rfl
theorem sX4_mergeRuns_49 (lv : zL) (st : List Value) (w : zW) (nx K : Nat → zL → List Value → zW → Prop) (Rt : Option Value → zW → Prop) : z_st1 (tX4_mergeRuns 49) 49 lv st w nx K Rt = (z_2i st (fun x y r => nx 50 lv (.int (x + y) :: r) w)) := id rfl
theorem sX4_mergeRuns_50 (lv : zL) (st : List Value) (w : zW) (nx K : Nat → zL → List Value → zW → Prop) (Rt : Option Value → zW → Prop) : z_st1 (tX4_mergeRuns 50) 50 lv st w nx K Rt = (z_la lv 0 (fun x => nx 51 lv (.ref x :: st) w)) := id rfl
theorem sX4_mergeRuns_51 (lv : zL) (st : List Value) (w : zW) (nx K : Nat → zL → List Value → zW → Prop) (Rt : Option Value → zW → Prop) : z_st1 (tX4_mergeRuns 51) 51 lv st w nx K Rt = (z_1a st (fun x r => z_ob w x 5 (fun fs => z_fl fs 7 (fun u => nx 54 lv (u :: r) w)))) := id rfl
theorem sX4_mergeRuns_60 (lv : zL) (st : List Value) (w : zW) (nx K : Nat → zL → List Value → zW → Prop) (Rt : Option Value → zW → Prop) : z_st1 (tX4_mergeRuns 60) 60 lv st w nx K Rt = (z_la lv 0 (fun x => nx 61 lv (.ref x :: st) w)) := id rfl
theorem sX4_mergeRuns_61 (lv : zL) (st : List Value) (w : zW) (nx K : Nat → zL → List Value → zW → Prop) (Rt : Option Value → zW → Prop) : z_st1 (tX4_mergeRuns 61) 61 lv st w nx K Rt = (z_1a st (fun x r => z_ob w x 5 (fun fs => z_fl fs 4 (fun u => nx 64 lv (u :: r) w)))) := id rfl
theorem sX4_mergeRuns_64 (lv : zL) (st : List Value) (w : zW) (nx K : Nat → zL → List Value → zW → Prop) (Rt : Option Value → zW → Prop) : z_st1 (tX4_mergeRuns 64) 64 lv st w nx K Rt = (z_li lv 4 (fun x => nx 66 lv (.int x :: st) w)) := id rfl
theorem sX4_mergeRuns_66 (lv : zL) (st : List Value) (w : zW) (nx K : Nat → zL → List Value → zW → Prop) (Rt : Option Value → zW → Prop) : z_st1 (tX4_mergeRuns 66) 66 lv st w nx K Rt = (z_la lv 0 (fun x => nx 67 lv (.ref x :: st) w)) := id rfl
theorem sX4_mergeRuns_67 (lv : zL) (st : List Value) (w : zW) (nx K : Nat → zL → List Value → zW → Prop) (Rt : Option Value → zW → Prop) : z_st1 (tX4_mergeRuns 67) 67 lv st w nx K Rt = (z_1a st (fun x r => z_ob w x 5 (fun fs => z_fl fs 4 (fun u => nx 70 lv (u :: r) w)))) := id rfl
theorem sX4_mergeRuns_70 (lv : zL) (st : List Value) (w : zW) (nx K : Nat → zL → List Value → zW → Prop) (Rt : Option Value → zW → Prop) : z_st1 (tX4_mergeRuns 70) 70 lv st w nx K Rt = (z_li lv 5 (fun x => nx 72 lv (.int x :: st) w)) := id rfl
theorem sX4_mergeRuns_72 (lv : zL) (st : List Value) (w : zW) (nx K : Nat → zL → List Value → zW → Prop) (Rt : Option Value → zW → Prop) : z_st1 (tX4_mergeRuns 72) 72 lv st w nx K Rt = (z_ia st (fun x i r => z_ar0 w x (fun m g => vp_in i m ∧ nx 73 lv (.int (g i.toNatClampNeg) :: r) w))) := id rfl
theorem sX4_mergeRuns_73 (lv : zL) (st : List Value) (w : zW) (nx K : Nat → zL → List Value → zW → Prop) (Rt : Option Value → zW → Prop) : z_st1 (tX4_mergeRuns 73) 73 lv st w nx K Rt = (z_iia st (fun x i u r => z_ar0 w x (fun m g => vp_in i m ∧ nx 74 lv r (z_up w x (.inl (0, m, .inl (upd g i.toNatClampNeg u))))))) := id rfl
theorem sX4_mergeRuns_74 (lv : zL) (st : List Value) (w : zW) (nx K : Nat → zL → List Value → zW → Prop) (Rt : Option Value → zW → Prop) : z_st1 (tX4_mergeRuns 74) 74 lv st w nx K Rt = (z_li lv 4 (fun x => z_ok1 lv 4 = true ∧ nx 77 (lv.set 4 (some (.int (x + (1 : Int32))))) st w)) := id rfl
theorem sX4_mergeRuns_77 (lv : zL) (st : List Value) (w : zW) (nx K : Nat → zL → List Value → zW → Prop) (Rt : Option Value → zW → Prop) : z_st1 (tX4_mergeRuns 77) 77 lv st w nx K Rt = (z_li lv 5 (fun x => nx 79 lv (.int x :: st) w)) := id rfl
theorem sX4_mergeRuns_79 (lv : zL) (st : List Value) (w : zW) (nx K : Nat → zL → List Value → zW → Prop) (Rt : Option Value → zW → Prop) : z_st1 (tX4_mergeRuns 79) 79 lv st w nx K Rt = (z_li lv 2 (fun x => nx 80 lv (.int x :: st) w)) := id rfl
theorem sX4_mergeRuns_80 (lv : zL) (st : List Value) (w : zW) (nx K : Nat → zL → List Value → zW → Prop) (Rt : Option Value → zW → Prop) : z_st1 (tX4_mergeRuns 80) 80 lv st w nx K Rt = (z_2i st (fun x y r => nx 81 lv (.int (x + y) :: r) w)) := id rfl
theorem sX4_mergeRuns_81 (lv : zL) (st : List Value) (w : zW) (nx K : Nat → zL → List Value → zW → Prop) (Rt : Option Value → zW → Prop) : z_st1 (tX4_mergeRuns 81) 81 lv st w nx K Rt = (z_1i st (fun x r => z_ok1 lv 5 = true ∧ nx 83 (lv.set 5 (some (.int x))) r w)) := id rfl
theorem sX4_mergeRuns_83 (lv : zL) (st : List Value) (w : zW) (nx K : Nat → zL → List Value → zW → Prop) (Rt : Option Value → zW → Prop) : z_st1 (tX4_mergeRuns 83) 83 lv st w nx K Rt = (nx 34 lv st w) := id rfl
theorem sX4_mergeRuns_86 (lv : zL) (st : List Value) (w : zW) (nx K : Nat → zL → List Value → zW → Prop) (Rt : Option Value → zW → Prop) : z_st1 (tX4_mergeRuns 86) 86 lv st w nx K Rt = (z_la lv 0 (fun x => nx 87 lv (.ref x :: st) w)) := id rfl
theorem sX4_mergeRuns_87 (lv : zL) (st : List Value) (w : zW) (nx K : Nat → zL → List Value → zW → Prop) (Rt : Option Value → zW → Prop) : z_st1 (tX4_mergeRuns 87) 87 lv st w nx K Rt = (z_1a st (fun x r => z_ob w x 5 (fun fs => z_fl fs 3 (fun u => nx 90 lv (u :: r) w)))) := id rfl
theorem sX4_mergeRuns_90 (lv : zL) (st : List Value) (w : zW) (nx K : Nat → zL → List Value → zW → Prop) (Rt : Option Value → zW → Prop) : z_st1 (tX4_mergeRuns 90) 90 lv st w nx K Rt = (nx 91 lv (.int (0 : Int32) :: st) w) := id rfl
theorem sX4_mergeRuns_91 (lv : zL) (st : List Value) (w : zW) (nx K : Nat → zL → List Value → zW → Prop) (Rt : Option Value → zW → Prop) : z_st1 (tX4_mergeRuns 91) 91 lv st w nx K Rt = (z_la lv 0 (fun x => nx 92 lv (.ref x :: st) w)) := id rfl
theorem sX4_mergeRuns_92 (lv : zL) (st : List Value) (w : zW) (nx K : Nat → zL → List Value → zW → Prop) (Rt : Option Value → zW → Prop) : z_st1 (tX4_mergeRuns 92) 92 lv st w nx K Rt = (z_1a st (fun x r => z_ob w x 5 (fun fs => z_fl fs 2 (fun u => nx 95 lv (u :: r) w)))) := id rfl
theorem sX4_mergeRuns_95 (lv : zL) (st : List Value) (w : zW) (nx K : Nat → zL → List Value → zW → Prop) (Rt : Option Value → zW → Prop) : z_st1 (tX4_mergeRuns 95) 95 lv st w nx K Rt = (nx 96 lv (.int (0 : Int32) :: st) w) := id rfl
theorem sX4_mergeRuns_96 (lv : zL) (st : List Value) (w : zW) (nx K : Nat → zL → List Value → zW → Prop) (Rt : Option Value → zW → Prop) : z_st1 (tX4_mergeRuns 96) 96 lv st w nx K Rt = (z_la lv 0 (fun x => nx 97 lv (.ref x :: st) w)) := id rfl
theorem sX4_mergeRuns_97 (lv : zL) (st : List Value) (w : zW) (nx K : Nat → zL → List Value → zW → Prop) (Rt : Option Value → zW → Prop) : z_st1 (tX4_mergeRuns 97) 97 lv st w nx K Rt = (z_1a st (fun x r => z_ob w x 5 (fun fs => z_fl fs 6 (fun u => nx 100 lv (u :: r) w)))) := id rfl
theorem sX4_mergeRuns_103 (lv : zL) (st : List Value) (w : zW) (nx K : Nat → zL → List Value → zW → Prop) (Rt : Option Value → zW → Prop) : z_st1 (tX4_mergeRuns 103) 103 lv st w nx K Rt = (z_la lv 0 (fun x => nx 104 lv (.ref x :: st) w)) := id rfl
theorem sX4_mergeRuns_104 (lv : zL) (st : List Value) (w : zW) (nx K : Nat → zL → List Value → zW → Prop) (Rt : Option Value → zW → Prop) : z_st1 (tX4_mergeRuns 104) 104 lv st w nx K Rt = (z_li lv 4 (fun x => nx 106 lv (.int x :: st) w)) := id rfl
theorem sX4_mergeRuns_106 (lv : zL) (st : List Value) (w : zW) (nx K : Nat → zL → List Value → zW → Prop) (Rt : Option Value → zW → Prop) : z_st1 (tX4_mergeRuns 106) 106 lv st w nx K Rt = (z_ia st (fun x i r => z_ob w x 5 (fun fs => 7 < fs.length ∧ nx 109 lv r (z_up w x (.inr (5, fs.set 7 (.int i))))))) := id rfl
theorem sX4_mergeRuns_109 (lv : zL) (st : List Value) (w : zW) (nx K : Nat → zL → List Value → zW → Prop) (Rt : Option Value → zW → Prop) : z_st1 (tX4_mergeRuns 109) 109 lv st w nx K Rt = (z_la lv 0 (fun x => nx 110 lv (.ref x :: st) w)) := id rfl
theorem sX4_mergeRuns_113 (lv : zL) (st : List Value) (w : zW) (nx K : Nat → zL → List Value → zW → Prop) (Rt : Option Value → zW → Prop) : z_st1 (tX4_mergeRuns 113) 113 lv st w nx K Rt = (z_li lv 3 (fun x => z_ok1 lv 3 = true ∧ nx 116 (lv.set 3 (some (.int (x + (1 : Int32))))) st w)) := id rfl
theorem sX4_mergeRuns_116 (lv : zL) (st : List Value) (w : zW) (nx K : Nat → zL → List Value → zW → Prop) (Rt : Option Value → zW → Prop) : z_st1 (tX4_mergeRuns 116) 116 lv st w nx K Rt = (nx 13 lv st w) := id rfl
theorem sX4_mergeRuns_119 (lv : zL) (st : List Value) (w : zW) (nx K : Nat → zL → List Value → zW → Prop) (Rt : Option Value → zW → Prop) : z_st1 (tX4_mergeRuns 119) 119 lv st w nx K Rt = (z_li lv 3 (fun x => nx 120 lv (.int x :: st) w)) := id rfl
theorem sX4_mergeRuns_120 (lv : zL) (st : List Value) (w : zW) (nx K : Nat → zL → List Value → zW → Prop) (Rt : Option Value → zW → Prop) : z_st1 (tX4_mergeRuns 120) 120 lv st w nx K Rt = (z_e1 st (fun x => Rt (some (.int x)) w)) := id rfl
theorem sX4_mergeRuns_2 (lv : zL) (st : List Value) (w : zW) (nx K : Nat → zL → List Value → zW → Prop) (Rt : Option Value → zW → Prop) : z_st1 (tX4_mergeRuns 2) 2 lv st w nx K Rt = K 2 lv st w := id rfl
theorem sX4_mergeRuns_7 (lv : zL) (st : List Value) (w : zW) (nx K : Nat → zL → List Value → zW → Prop) (Rt : Option Value → zW → Prop) : z_st1 (tX4_mergeRuns 7) 7 lv st w nx K Rt = K 7 lv st w := id rfl
theorem sX4_mergeRuns_54 (lv : zL) (st : List Value) (w : zW) (nx K : Nat → zL → List Value → zW → Prop) (Rt : Option Value → zW → Prop) : z_st1 (tX4_mergeRuns 54) 54 lv st w nx K Rt = K 54 lv st w := id rfl
theorem sX4_mergeRuns_57 (lv : zL) (st : List Value) (w : zW) (nx K : Nat → zL → List Value → zW → Prop) (Rt : Option Value → zW → Prop) : z_st1 (tX4_mergeRuns 57) 57 lv st w nx K Rt = K 57 lv st w := id rfl
theorem sX4_mergeRuns_100 (lv : zL) (st : List Value) (w : zW) (nx K : Nat → zL → List Value → zW → Prop) (Rt : Option Value → zW → Prop) : z_st1 (tX4_mergeRuns 100) 100 lv st w nx K Rt = K 100 lv st w := id rfl
theorem sX4_mergeRuns_110 (lv : zL) (st : List Value) (w : zW) (nx K : Nat → zL → List Value → zW → Prop) (Rt : Option Value → zW → Prop) : z_st1 (tX4_mergeRuns 110) 110 lv st w nx K Rt = K 110 lv st w := id rfl
theorem dX4_mergeRuns_2 : decode cX4_mergeRuns 2 = .ok (.invokestatic 39, 3) := by decide +kernel
theorem dX4_mergeRuns_7 : decode cX4_mergeRuns 7 = .ok (.invokestatic 45, 3) := by decide +kernel
theorem dX4_mergeRuns_54 : decode cX4_mergeRuns 54 = .ok (.invokestatic 45, 3) := by decide +kernel
theorem dX4_mergeRuns_57 : decode cX4_mergeRuns 57 = .ok (.invokevirtual 69, 3) := by decide +kernel
theorem dX4_mergeRuns_100 : decode cX4_mergeRuns 100 = .ok (.invokestatic 63, 3) := by decide +kernel
theorem dX4_mergeRuns_110 : decode cX4_mergeRuns 110 = .ok (.invokevirtual 56, 3) := by decide +kernel

def tmX4_mergeGroup (pc : Nat) : zI := match pc with
  | 0 => (0, 1, 0, 1, 0)
  | 1 => (3, 3, 0, 2, 0)
  | 2 => (0, 3, 0, 3, 0)
  | 3 => (0, 2, 0, 4, 0)
  | 4 => (43, 27, 0, 7, 0)
  | 7 => (1, 0, 0, 8, 0)
  | 8 => (46, 5, 5, 11, 0)
  | 11 => (0, 3, 0, 12, 0)
  | 12 => (0, 1, 0, 13, 0)
  | 13 => (9, 0, 0, 14, 0)
  | 14 => (1, 0, 0, 15, 0)
  | 15 => (46, 5, 4, 18, 0)
  | 18 => (0, 3, 0, 19, 0)
  | 19 => (48, 0, 0, 20, 0)
  | 20 => (49, 0, 0, 21, 0)
  | 21 => (7, 3, 0, 24, 1)
  | 24 => (33, 2, 0, 27, 0)
  | 27 => (1, 0, 0, 28, 0)
  | 28 => (46, 5, 4, 31, 0)
  | 31 => (0, 1, 0, 32, 0)
  | 32 => (48, 0, 0, 33, 0)
  | 33 => (3, 3, 0, 34, 0)
  | 34 => (0, 3, 0, 35, 0)
  | 35 => (1, 0, 0, 36, 0)
  | 36 => (46, 5, 4, 39, 0)
  | 39 => (0, 2, 0, 40, 0)
  | 40 => (48, 0, 0, 41, 0)
  | 41 => (43, 166, 0, 44, 0)
  | 44 => (6, 0, 0, 45, (-1))
  | 45 => (3, 4, 0, 47, 0)
  | 47 => (0, 1, 0, 48, 0)
  | 48 => (3, 5, 0, 50, 0)
  | 50 => (0, 5, 0, 52, 0)
  | 52 => (0, 2, 0, 53, 0)
  | 53 => (43, 125, 0, 56, 0)
  | 56 => (1, 0, 0, 57, 0)
  | 57 => (46, 5, 5, 60, 0)
  | 60 => (0, 5, 0, 62, 0)
  | 62 => (0, 1, 0, 63, 0)
  | 63 => (9, 0, 0, 64, 0)
  | 64 => (48, 0, 0, 65, 0)
  | 65 => (3, 6, 0, 67, 0)
  | 67 => (0, 6, 0, 69, 0)
  | 69 => (1, 0, 0, 70, 0)
  | 70 => (46, 5, 4, 73, 0)
  | 73 => (0, 5, 0, 75, 0)
  | 75 => (6, 0, 0, 76, 1)
  | 76 => (8, 0, 0, 77, 0)
  | 77 => (48, 0, 0, 78, 0)
  | 78 => (43, 119, 0, 81, 0)
  | 81 => (0, 4, 0, 83, 0)
  | 83 => (6, 0, 0, 84, (-1))
  | 84 => (40, 113, 0, 87, 0)
  | 87 => (1, 0, 0, 88, 0)
  | 88 => (1, 0, 0, 89, 0)
  | 89 => (46, 5, 2, 92, 0)
  | 92 => (0, 6, 0, 94, 0)
  | 94 => (48, 0, 0, 95, 0)
  | 95 => (1, 0, 0, 96, 0)
  | 96 => (46, 5, 2, 99, 0)
  | 99 => (1, 0, 0, 100, 0)
  | 100 => (46, 5, 5, 103, 0)
  | 103 => (0, 4, 0, 105, 0)
  | 105 => (48, 0, 0, 106, 0)
  | 106 => (48, 0, 0, 107, 0)
  | 110 => (34, 119, 0, 113, 0)
  | 113 => (0, 5, 0, 115, 0)
  | 115 => (0, 1, 0, 116, 0)
  | 116 => (9, 0, 0, 117, 0)
  | 117 => (3, 4, 0, 119, 0)
  | 119 => (7, 5, 0, 122, 1)
  | 122 => (33, 50, 0, 125, 0)
  | 125 => (0, 4, 0, 127, 0)
  | 127 => (6, 0, 0, 128, (-1))
  | 128 => (40, 160, 0, 131, 0)
  | 131 => (1, 0, 0, 132, 0)
  | 132 => (46, 5, 3, 135, 0)
  | 135 => (0, 3, 0, 136, 0)
  | 136 => (1, 0, 0, 137, 0)
  | 137 => (46, 5, 2, 140, 0)
  | 140 => (1, 0, 0, 141, 0)
  | 141 => (46, 5, 5, 144, 0)
  | 144 => (0, 4, 0, 146, 0)
  | 146 => (48, 0, 0, 147, 0)
  | 147 => (48, 0, 0, 148, 0)
  | 148 => (49, 0, 0, 149, 0)
  | 149 => (1, 0, 0, 150, 0)
  | 150 => (46, 5, 5, 153, 0)
  | 153 => (0, 4, 0, 155, 0)
  | 155 => (32, 0, 0, 156, 0)
  | 156 => (48, 0, 0, 157, 0)
  | 157 => (6, 0, 0, 158, 1)
  | 158 => (8, 0, 0, 159, 0)
  | 159 => (49, 0, 0, 160, 0)
  | 160 => (7, 3, 0, 163, 1)
  | 163 => (33, 34, 0, 166, 0)
  | 166 => (55, 0, 0, 167, 0)
  | _ => (99, 0, 0, 0, 0)
def tX4_mergeGroup (pc : Nat) : zI := if pc < 167 then tmX4_mergeGroup pc else (99, 0, 0, 0, 0)
theorem tkX4_mergeGroup : z_tab RX4 wsX4_mergeGroup 7 none cX4_mergeGroup 167 tX4_mergeGroup := z_tab_of (tm := tmX4_mergeGroup) (by decide +kernel)
theorem sX4_mergeGroup_0 (lv : zL) (st : List Value) (w : zW) (nx K : Nat → zL → List Value → zW → Prop) (Rt : Option Value → zW → Prop) : z_st1 (tX4_mergeGroup 0) 0 lv st w nx K Rt = (z_li lv 1 (fun x => nx 1 lv (.int x :: st) w)) := id rfl
theorem sX4_mergeGroup_1 (lv : zL) (st : List Value) (w : zW) (nx K : Nat → zL → List Value → zW → Prop) (Rt : Option Value → zW → Prop) : z_st1 (tX4_mergeGroup 1) 1 lv st w nx K Rt = (z_1i st (fun x r => z_ok1 lv 3 = true ∧ nx 2 (lv.set 3 (some (.int x))) r w)) := id rfl
theorem sX4_mergeGroup_2 (lv : zL) (st : List Value) (w : zW) (nx K : Nat → zL → List Value → zW → Prop) (Rt : Option Value → zW → Prop) : z_st1 (tX4_mergeGroup 2) 2 lv st w nx K Rt = (z_li lv 3 (fun x => nx 3 lv (.int x :: st) w)) := id rfl
theorem sX4_mergeGroup_3 (lv : zL) (st : List Value) (w : zW) (nx K : Nat → zL → List Value → zW → Prop) (Rt : Option Value → zW → Prop) : z_st1 (tX4_mergeGroup 3) 3 lv st w nx K Rt = (z_li lv 2 (fun x => nx 4 lv (.int x :: st) w)) := id rfl
theorem sX4_mergeGroup_4 (lv : zL) (st : List Value) (w : zW) (nx K : Nat → zL → List Value → zW → Prop) (Rt : Option Value → zW → Prop) : z_st1 (tX4_mergeGroup 4) 4 lv st w nx K Rt = (z_2i st (fun x y r => (y ≤ x → nx 27 lv r w) ∧ (¬ y ≤ x → nx 7 lv r w))) := id rfl
theorem sX4_mergeGroup_7 (lv : zL) (st : List Value) (w : zW) (nx K : Nat → zL → List Value → zW → Prop) (Rt : Option Value → zW → Prop) : z_st1 (tX4_mergeGroup 7) 7 lv st w nx K Rt = (z_la lv 0 (fun x => nx 8 lv (.ref x :: st) w)) := id rfl
theorem sX4_mergeGroup_8 (lv : zL) (st : List Value) (w : zW) (nx K : Nat → zL → List Value → zW → Prop) (Rt : Option Value → zW → Prop) : z_st1 (tX4_mergeGroup 8) 8 lv st w nx K Rt = (z_1a st (fun x r => z_ob w x 5 (fun fs => z_fl fs 5 (fun u => nx 11 lv (u :: r) w)))) := id rfl
theorem sX4_mergeGroup_11 (lv : zL) (st : List Value) (w : zW) (nx K : Nat → zL → List Value → zW → Prop) (Rt : Option Value → zW → Prop) : z_st1 (tX4_mergeGroup 11) 11 lv st w nx K Rt = (z_li lv 3 (fun x => nx 12 lv (.int x :: st) w)) := id rfl
theorem sX4_mergeGroup_12 (lv : zL) (st : List Value) (w : zW) (nx K : Nat → zL → List Value → zW → Prop) (Rt : Option Value → zW → Prop) : z_st1 (tX4_mergeGroup 12) 12 lv st w nx K Rt = (z_li lv 1 (fun x => nx 13 lv (.int x :: st) w)) := id rfl
theorem sX4_mergeGroup_13 (lv : zL) (st : List Value) (w : zW) (nx K : Nat → zL → List Value → zW → Prop) (Rt : Option Value → zW → Prop) : z_st1 (tX4_mergeGroup 13) 13 lv st w nx K Rt = (z_2i st (fun x y r => nx 14 lv (.int (x - y) :: r) w)) := id rfl
theorem sX4_mergeGroup_14 (lv : zL) (st : List Value) (w : zW) (nx K : Nat → zL → List Value → zW → Prop) (Rt : Option Value → zW → Prop) : z_st1 (tX4_mergeGroup 14) 14 lv st w nx K Rt = (z_la lv 0 (fun x => nx 15 lv (.ref x :: st) w)) := id rfl
theorem sX4_mergeGroup_15 (lv : zL) (st : List Value) (w : zW) (nx K : Nat → zL → List Value → zW → Prop) (Rt : Option Value → zW → Prop) : z_st1 (tX4_mergeGroup 15) 15 lv st w nx K Rt = (z_1a st (fun x r => z_ob w x 5 (fun fs => z_fl fs 4 (fun u => nx 18 lv (u :: r) w)))) := id rfl
theorem sX4_mergeGroup_18 (lv : zL) (st : List Value) (w : zW) (nx K : Nat → zL → List Value → zW → Prop) (Rt : Option Value → zW → Prop) : z_st1 (tX4_mergeGroup 18) 18 lv st w nx K Rt = (z_li lv 3 (fun x => nx 19 lv (.int x :: st) w)) := id rfl
theorem sX4_mergeGroup_19 (lv : zL) (st : List Value) (w : zW) (nx K : Nat → zL → List Value → zW → Prop) (Rt : Option Value → zW → Prop) : z_st1 (tX4_mergeGroup 19) 19 lv st w nx K Rt = (z_ia st (fun x i r => z_ar0 w x (fun m g => vp_in i m ∧ nx 20 lv (.int (g i.toNatClampNeg) :: r) w))) := id rfl
theorem sX4_mergeGroup_20 (lv : zL) (st : List Value) (w : zW) (nx K : Nat → zL → List Value → zW → Prop) (Rt : Option Value → zW → Prop) : z_st1 (tX4_mergeGroup 20) 20 lv st w nx K Rt = (z_iia st (fun x i u r => z_ar0 w x (fun m g => vp_in i m ∧ nx 21 lv r (z_up w x (.inl (0, m, .inl (upd g i.toNatClampNeg u))))))) := id rfl
theorem sX4_mergeGroup_21 (lv : zL) (st : List Value) (w : zW) (nx K : Nat → zL → List Value → zW → Prop) (Rt : Option Value → zW → Prop) : z_st1 (tX4_mergeGroup 21) 21 lv st w nx K Rt = (z_li lv 3 (fun x => z_ok1 lv 3 = true ∧ nx 24 (lv.set 3 (some (.int (x + (1 : Int32))))) st w)) := id rfl
theorem sX4_mergeGroup_24 (lv : zL) (st : List Value) (w : zW) (nx K : Nat → zL → List Value → zW → Prop) (Rt : Option Value → zW → Prop) : z_st1 (tX4_mergeGroup 24) 24 lv st w nx K Rt = (nx 2 lv st w) := id rfl
theorem sX4_mergeGroup_27 (lv : zL) (st : List Value) (w : zW) (nx K : Nat → zL → List Value → zW → Prop) (Rt : Option Value → zW → Prop) : z_st1 (tX4_mergeGroup 27) 27 lv st w nx K Rt = (z_la lv 0 (fun x => nx 28 lv (.ref x :: st) w)) := id rfl
theorem sX4_mergeGroup_28 (lv : zL) (st : List Value) (w : zW) (nx K : Nat → zL → List Value → zW → Prop) (Rt : Option Value → zW → Prop) : z_st1 (tX4_mergeGroup 28) 28 lv st w nx K Rt = (z_1a st (fun x r => z_ob w x 5 (fun fs => z_fl fs 4 (fun u => nx 31 lv (u :: r) w)))) := id rfl
theorem sX4_mergeGroup_31 (lv : zL) (st : List Value) (w : zW) (nx K : Nat → zL → List Value → zW → Prop) (Rt : Option Value → zW → Prop) : z_st1 (tX4_mergeGroup 31) 31 lv st w nx K Rt = (z_li lv 1 (fun x => nx 32 lv (.int x :: st) w)) := id rfl
theorem sX4_mergeGroup_32 (lv : zL) (st : List Value) (w : zW) (nx K : Nat → zL → List Value → zW → Prop) (Rt : Option Value → zW → Prop) : z_st1 (tX4_mergeGroup 32) 32 lv st w nx K Rt = (z_ia st (fun x i r => z_ar0 w x (fun m g => vp_in i m ∧ nx 33 lv (.int (g i.toNatClampNeg) :: r) w))) := id rfl
theorem sX4_mergeGroup_33 (lv : zL) (st : List Value) (w : zW) (nx K : Nat → zL → List Value → zW → Prop) (Rt : Option Value → zW → Prop) : z_st1 (tX4_mergeGroup 33) 33 lv st w nx K Rt = (z_1i st (fun x r => z_ok1 lv 3 = true ∧ nx 34 (lv.set 3 (some (.int x))) r w)) := id rfl
theorem sX4_mergeGroup_34 (lv : zL) (st : List Value) (w : zW) (nx K : Nat → zL → List Value → zW → Prop) (Rt : Option Value → zW → Prop) : z_st1 (tX4_mergeGroup 34) 34 lv st w nx K Rt = (z_li lv 3 (fun x => nx 35 lv (.int x :: st) w)) := id rfl
theorem sX4_mergeGroup_35 (lv : zL) (st : List Value) (w : zW) (nx K : Nat → zL → List Value → zW → Prop) (Rt : Option Value → zW → Prop) : z_st1 (tX4_mergeGroup 35) 35 lv st w nx K Rt = (z_la lv 0 (fun x => nx 36 lv (.ref x :: st) w)) := id rfl
theorem sX4_mergeGroup_36 (lv : zL) (st : List Value) (w : zW) (nx K : Nat → zL → List Value → zW → Prop) (Rt : Option Value → zW → Prop) : z_st1 (tX4_mergeGroup 36) 36 lv st w nx K Rt = (z_1a st (fun x r => z_ob w x 5 (fun fs => z_fl fs 4 (fun u => nx 39 lv (u :: r) w)))) := id rfl
theorem sX4_mergeGroup_39 (lv : zL) (st : List Value) (w : zW) (nx K : Nat → zL → List Value → zW → Prop) (Rt : Option Value → zW → Prop) : z_st1 (tX4_mergeGroup 39) 39 lv st w nx K Rt = (z_li lv 2 (fun x => nx 40 lv (.int x :: st) w)) := id rfl
theorem sX4_mergeGroup_40 (lv : zL) (st : List Value) (w : zW) (nx K : Nat → zL → List Value → zW → Prop) (Rt : Option Value → zW → Prop) : z_st1 (tX4_mergeGroup 40) 40 lv st w nx K Rt = (z_ia st (fun x i r => z_ar0 w x (fun m g => vp_in i m ∧ nx 41 lv (.int (g i.toNatClampNeg) :: r) w))) := id rfl
theorem sX4_mergeGroup_41 (lv : zL) (st : List Value) (w : zW) (nx K : Nat → zL → List Value → zW → Prop) (Rt : Option Value → zW → Prop) : z_st1 (tX4_mergeGroup 41) 41 lv st w nx K Rt = (z_2i st (fun x y r => (y ≤ x → nx 166 lv r w) ∧ (¬ y ≤ x → nx 44 lv r w))) := id rfl
theorem sX4_mergeGroup_44 (lv : zL) (st : List Value) (w : zW) (nx K : Nat → zL → List Value → zW → Prop) (Rt : Option Value → zW → Prop) : z_st1 (tX4_mergeGroup 44) 44 lv st w nx K Rt = (nx 45 lv (.int (-1 : Int32) :: st) w) := id rfl
theorem sX4_mergeGroup_45 (lv : zL) (st : List Value) (w : zW) (nx K : Nat → zL → List Value → zW → Prop) (Rt : Option Value → zW → Prop) : z_st1 (tX4_mergeGroup 45) 45 lv st w nx K Rt = (z_1i st (fun x r => z_ok1 lv 4 = true ∧ nx 47 (lv.set 4 (some (.int x))) r w)) := id rfl
theorem sX4_mergeGroup_47 (lv : zL) (st : List Value) (w : zW) (nx K : Nat → zL → List Value → zW → Prop) (Rt : Option Value → zW → Prop) : z_st1 (tX4_mergeGroup 47) 47 lv st w nx K Rt = (z_li lv 1 (fun x => nx 48 lv (.int x :: st) w)) := id rfl
theorem sX4_mergeGroup_48 (lv : zL) (st : List Value) (w : zW) (nx K : Nat → zL → List Value → zW → Prop) (Rt : Option Value → zW → Prop) : z_st1 (tX4_mergeGroup 48) 48 lv st w nx K Rt = (z_1i st (fun x r => z_ok1 lv 5 = true ∧ nx 50 (lv.set 5 (some (.int x))) r w)) := id rfl
theorem sX4_mergeGroup_50 (lv : zL) (st : List Value) (w : zW) (nx K : Nat → zL → List Value → zW → Prop) (Rt : Option Value → zW → Prop) : z_st1 (tX4_mergeGroup 50) 50 lv st w nx K Rt = (z_li lv 5 (fun x => nx 52 lv (.int x :: st) w)) := id rfl
theorem sX4_mergeGroup_52 (lv : zL) (st : List Value) (w : zW) (nx K : Nat → zL → List Value → zW → Prop) (Rt : Option Value → zW → Prop) : z_st1 (tX4_mergeGroup 52) 52 lv st w nx K Rt = (z_li lv 2 (fun x => nx 53 lv (.int x :: st) w)) := id rfl
theorem sX4_mergeGroup_53 (lv : zL) (st : List Value) (w : zW) (nx K : Nat → zL → List Value → zW → Prop) (Rt : Option Value → zW → Prop) : z_st1 (tX4_mergeGroup 53) 53 lv st w nx K Rt = (z_2i st (fun x y r => (y ≤ x → nx 125 lv r w) ∧ (¬ y ≤ x → nx 56 lv r w))) := id rfl
theorem sX4_mergeGroup_56 (lv : zL) (st : List Value) (w : zW) (nx K : Nat → zL → List Value → zW → Prop) (Rt : Option Value → zW → Prop) : z_st1 (tX4_mergeGroup 56) 56 lv st w nx K Rt = (z_la lv 0 (fun x => nx 57 lv (.ref x :: st) w)) := id rfl
theorem sX4_mergeGroup_57 (lv : zL) (st : List Value) (w : zW) (nx K : Nat → zL → List Value → zW → Prop) (Rt : Option Value → zW → Prop) : z_st1 (tX4_mergeGroup 57) 57 lv st w nx K Rt = (z_1a st (fun x r => z_ob w x 5 (fun fs => z_fl fs 5 (fun u => nx 60 lv (u :: r) w)))) := id rfl
theorem sX4_mergeGroup_60 (lv : zL) (st : List Value) (w : zW) (nx K : Nat → zL → List Value → zW → Prop) (Rt : Option Value → zW → Prop) : z_st1 (tX4_mergeGroup 60) 60 lv st w nx K Rt = (z_li lv 5 (fun x => nx 62 lv (.int x :: st) w)) := id rfl
theorem sX4_mergeGroup_62 (lv : zL) (st : List Value) (w : zW) (nx K : Nat → zL → List Value → zW → Prop) (Rt : Option Value → zW → Prop) : z_st1 (tX4_mergeGroup 62) 62 lv st w nx K Rt = (z_li lv 1 (fun x => nx 63 lv (.int x :: st) w)) := id rfl
theorem sX4_mergeGroup_63 (lv : zL) (st : List Value) (w : zW) (nx K : Nat → zL → List Value → zW → Prop) (Rt : Option Value → zW → Prop) : z_st1 (tX4_mergeGroup 63) 63 lv st w nx K Rt = (z_2i st (fun x y r => nx 64 lv (.int (x - y) :: r) w)) := id rfl
theorem sX4_mergeGroup_64 (lv : zL) (st : List Value) (w : zW) (nx K : Nat → zL → List Value → zW → Prop) (Rt : Option Value → zW → Prop) : z_st1 (tX4_mergeGroup 64) 64 lv st w nx K Rt = (z_ia st (fun x i r => z_ar0 w x (fun m g => vp_in i m ∧ nx 65 lv (.int (g i.toNatClampNeg) :: r) w))) := id rfl
theorem sX4_mergeGroup_65 (lv : zL) (st : List Value) (w : zW) (nx K : Nat → zL → List Value → zW → Prop) (Rt : Option Value → zW → Prop) : z_st1 (tX4_mergeGroup 65) 65 lv st w nx K Rt = (z_1i st (fun x r => z_ok1 lv 6 = true ∧ nx 67 (lv.set 6 (some (.int x))) r w)) := id rfl
theorem sX4_mergeGroup_67 (lv : zL) (st : List Value) (w : zW) (nx K : Nat → zL → List Value → zW → Prop) (Rt : Option Value → zW → Prop) : z_st1 (tX4_mergeGroup 67) 67 lv st w nx K Rt = (z_li lv 6 (fun x => nx 69 lv (.int x :: st) w)) := id rfl
theorem sX4_mergeGroup_69 (lv : zL) (st : List Value) (w : zW) (nx K : Nat → zL → List Value → zW → Prop) (Rt : Option Value → zW → Prop) : z_st1 (tX4_mergeGroup 69) 69 lv st w nx K Rt = (z_la lv 0 (fun x => nx 70 lv (.ref x :: st) w)) := id rfl
theorem sX4_mergeGroup_70 (lv : zL) (st : List Value) (w : zW) (nx K : Nat → zL → List Value → zW → Prop) (Rt : Option Value → zW → Prop) : z_st1 (tX4_mergeGroup 70) 70 lv st w nx K Rt = (z_1a st (fun x r => z_ob w x 5 (fun fs => z_fl fs 4 (fun u => nx 73 lv (u :: r) w)))) := id rfl
theorem sX4_mergeGroup_73 (lv : zL) (st : List Value) (w : zW) (nx K : Nat → zL → List Value → zW → Prop) (Rt : Option Value → zW → Prop) : z_st1 (tX4_mergeGroup 73) 73 lv st w nx K Rt = (z_li lv 5 (fun x => nx 75 lv (.int x :: st) w)) := id rfl
theorem sX4_mergeGroup_75 (lv : zL) (st : List Value) (w : zW) (nx K : Nat → zL → List Value → zW → Prop) (Rt : Option Value → zW → Prop) : z_st1 (tX4_mergeGroup 75) 75 lv st w nx K Rt = (nx 76 lv (.int (1 : Int32) :: st) w) := id rfl
theorem sX4_mergeGroup_76 (lv : zL) (st : List Value) (w : zW) (nx K : Nat → zL → List Value → zW → Prop) (Rt : Option Value → zW → Prop) : z_st1 (tX4_mergeGroup 76) 76 lv st w nx K Rt = (z_2i st (fun x y r => nx 77 lv (.int (x + y) :: r) w)) := id rfl
theorem sX4_mergeGroup_77 (lv : zL) (st : List Value) (w : zW) (nx K : Nat → zL → List Value → zW → Prop) (Rt : Option Value → zW → Prop) : z_st1 (tX4_mergeGroup 77) 77 lv st w nx K Rt = (z_ia st (fun x i r => z_ar0 w x (fun m g => vp_in i m ∧ nx 78 lv (.int (g i.toNatClampNeg) :: r) w))) := id rfl
theorem sX4_mergeGroup_78 (lv : zL) (st : List Value) (w : zW) (nx K : Nat → zL → List Value → zW → Prop) (Rt : Option Value → zW → Prop) : z_st1 (tX4_mergeGroup 78) 78 lv st w nx K Rt = (z_2i st (fun x y r => (y ≤ x → nx 119 lv r w) ∧ (¬ y ≤ x → nx 81 lv r w))) := id rfl
theorem sX4_mergeGroup_81 (lv : zL) (st : List Value) (w : zW) (nx K : Nat → zL → List Value → zW → Prop) (Rt : Option Value → zW → Prop) : z_st1 (tX4_mergeGroup 81) 81 lv st w nx K Rt = (z_li lv 4 (fun x => nx 83 lv (.int x :: st) w)) := id rfl
theorem sX4_mergeGroup_83 (lv : zL) (st : List Value) (w : zW) (nx K : Nat → zL → List Value → zW → Prop) (Rt : Option Value → zW → Prop) : z_st1 (tX4_mergeGroup 83) 83 lv st w nx K Rt = (nx 84 lv (.int (-1 : Int32) :: st) w) := id rfl
theorem sX4_mergeGroup_84 (lv : zL) (st : List Value) (w : zW) (nx K : Nat → zL → List Value → zW → Prop) (Rt : Option Value → zW → Prop) : z_st1 (tX4_mergeGroup 84) 84 lv st w nx K Rt = (z_2i st (fun x y r => (x = y → nx 113 lv r w) ∧ (¬ x = y → nx 87 lv r w))) := id rfl
theorem sX4_mergeGroup_87 (lv : zL) (st : List Value) (w : zW) (nx K : Nat → zL → List Value → zW → Prop) (Rt : Option Value → zW → Prop) : z_st1 (tX4_mergeGroup 87) 87 lv st w nx K Rt = (z_la lv 0 (fun x => nx 88 lv (.ref x :: st) w)) := id rfl
theorem sX4_mergeGroup_88 (lv : zL) (st : List Value) (w : zW) (nx K : Nat → zL → List Value → zW → Prop) (Rt : Option Value → zW → Prop) : z_st1 (tX4_mergeGroup 88) 88 lv st w nx K Rt = (z_la lv 0 (fun x => nx 89 lv (.ref x :: st) w)) := id rfl
theorem sX4_mergeGroup_89 (lv : zL) (st : List Value) (w : zW) (nx K : Nat → zL → List Value → zW → Prop) (Rt : Option Value → zW → Prop) : z_st1 (tX4_mergeGroup 89) 89 lv st w nx K Rt = (z_1a st (fun x r => z_ob w x 5 (fun fs => z_fl fs 2 (fun u => nx 92 lv (u :: r) w)))) := id rfl
theorem sX4_mergeGroup_92 (lv : zL) (st : List Value) (w : zW) (nx K : Nat → zL → List Value → zW → Prop) (Rt : Option Value → zW → Prop) : z_st1 (tX4_mergeGroup 92) 92 lv st w nx K Rt = (z_li lv 6 (fun x => nx 94 lv (.int x :: st) w)) := id rfl
theorem sX4_mergeGroup_94 (lv : zL) (st : List Value) (w : zW) (nx K : Nat → zL → List Value → zW → Prop) (Rt : Option Value → zW → Prop) : z_st1 (tX4_mergeGroup 94) 94 lv st w nx K Rt = (z_ia st (fun x i r => z_ar0 w x (fun m g => vp_in i m ∧ nx 95 lv (.int (g i.toNatClampNeg) :: r) w))) := id rfl
theorem sX4_mergeGroup_95 (lv : zL) (st : List Value) (w : zW) (nx K : Nat → zL → List Value → zW → Prop) (Rt : Option Value → zW → Prop) : z_st1 (tX4_mergeGroup 95) 95 lv st w nx K Rt = (z_la lv 0 (fun x => nx 96 lv (.ref x :: st) w)) := id rfl
theorem sX4_mergeGroup_96 (lv : zL) (st : List Value) (w : zW) (nx K : Nat → zL → List Value → zW → Prop) (Rt : Option Value → zW → Prop) : z_st1 (tX4_mergeGroup 96) 96 lv st w nx K Rt = (z_1a st (fun x r => z_ob w x 5 (fun fs => z_fl fs 2 (fun u => nx 99 lv (u :: r) w)))) := id rfl
theorem sX4_mergeGroup_99 (lv : zL) (st : List Value) (w : zW) (nx K : Nat → zL → List Value → zW → Prop) (Rt : Option Value → zW → Prop) : z_st1 (tX4_mergeGroup 99) 99 lv st w nx K Rt = (z_la lv 0 (fun x => nx 100 lv (.ref x :: st) w)) := id rfl
theorem sX4_mergeGroup_100 (lv : zL) (st : List Value) (w : zW) (nx K : Nat → zL → List Value → zW → Prop) (Rt : Option Value → zW → Prop) : z_st1 (tX4_mergeGroup 100) 100 lv st w nx K Rt = (z_1a st (fun x r => z_ob w x 5 (fun fs => z_fl fs 5 (fun u => nx 103 lv (u :: r) w)))) := id rfl
theorem sX4_mergeGroup_103 (lv : zL) (st : List Value) (w : zW) (nx K : Nat → zL → List Value → zW → Prop) (Rt : Option Value → zW → Prop) : z_st1 (tX4_mergeGroup 103) 103 lv st w nx K Rt = (z_li lv 4 (fun x => nx 105 lv (.int x :: st) w)) := id rfl
theorem sX4_mergeGroup_105 (lv : zL) (st : List Value) (w : zW) (nx K : Nat → zL → List Value → zW → Prop) (Rt : Option Value → zW → Prop) : z_st1 (tX4_mergeGroup 105) 105 lv st w nx K Rt = (z_ia st (fun x i r => z_ar0 w x (fun m g => vp_in i m ∧ nx 106 lv (.int (g i.toNatClampNeg) :: r) w))) := id rfl
theorem sX4_mergeGroup_106 (lv : zL) (st : List Value) (w : zW) (nx K : Nat → zL → List Value → zW → Prop) (Rt : Option Value → zW → Prop) : z_st1 (tX4_mergeGroup 106) 106 lv st w nx K Rt = (z_ia st (fun x i r => z_ar0 w x (fun m g => vp_in i m ∧ nx 107 lv (.int (g i.toNatClampNeg) :: r) w))) := id rfl
theorem sX4_mergeGroup_110 (lv : zL) (st : List Value) (w : zW) (nx K : Nat → zL → List Value → zW → Prop) (Rt : Option Value → zW → Prop) : z_st1 (tX4_mergeGroup 110) 110 lv st w nx K Rt = (z_1i st (fun x r => (x = 0 → nx 119 lv r w) ∧ (¬ x = 0 → nx 113 lv r w))) := id rfl
theorem sX4_mergeGroup_113 (lv : zL) (st : List Value) (w : zW) (nx K : Nat → zL → List Value → zW → Prop) (Rt : Option Value → zW → Prop) : z_st1 (tX4_mergeGroup 113) 113 lv st w nx K Rt = (z_li lv 5 (fun x => nx 115 lv (.int x :: st) w)) := id rfl
theorem sX4_mergeGroup_115 (lv : zL) (st : List Value) (w : zW) (nx K : Nat → zL → List Value → zW → Prop) (Rt : Option Value → zW → Prop) : z_st1 (tX4_mergeGroup 115) 115 lv st w nx K Rt = (z_li lv 1 (fun x => nx 116 lv (.int x :: st) w)) := id rfl
theorem sX4_mergeGroup_116 (lv : zL) (st : List Value) (w : zW) (nx K : Nat → zL → List Value → zW → Prop) (Rt : Option Value → zW → Prop) : z_st1 (tX4_mergeGroup 116) 116 lv st w nx K Rt = (z_2i st (fun x y r => nx 117 lv (.int (x - y) :: r) w)) := id rfl
theorem sX4_mergeGroup_117 (lv : zL) (st : List Value) (w : zW) (nx K : Nat → zL → List Value → zW → Prop) (Rt : Option Value → zW → Prop) : z_st1 (tX4_mergeGroup 117) 117 lv st w nx K Rt = (z_1i st (fun x r => z_ok1 lv 4 = true ∧ nx 119 (lv.set 4 (some (.int x))) r w)) := id rfl
theorem sX4_mergeGroup_119 (lv : zL) (st : List Value) (w : zW) (nx K : Nat → zL → List Value → zW → Prop) (Rt : Option Value → zW → Prop) : z_st1 (tX4_mergeGroup 119) 119 lv st w nx K Rt = (z_li lv 5 (fun x => z_ok1 lv 5 = true ∧ nx 122 (lv.set 5 (some (.int (x + (1 : Int32))))) st w)) := id rfl
theorem sX4_mergeGroup_122 (lv : zL) (st : List Value) (w : zW) (nx K : Nat → zL → List Value → zW → Prop) (Rt : Option Value → zW → Prop) : z_st1 (tX4_mergeGroup 122) 122 lv st w nx K Rt = (nx 50 lv st w) := id rfl
theorem sX4_mergeGroup_125 (lv : zL) (st : List Value) (w : zW) (nx K : Nat → zL → List Value → zW → Prop) (Rt : Option Value → zW → Prop) : z_st1 (tX4_mergeGroup 125) 125 lv st w nx K Rt = (z_li lv 4 (fun x => nx 127 lv (.int x :: st) w)) := id rfl
theorem sX4_mergeGroup_127 (lv : zL) (st : List Value) (w : zW) (nx K : Nat → zL → List Value → zW → Prop) (Rt : Option Value → zW → Prop) : z_st1 (tX4_mergeGroup 127) 127 lv st w nx K Rt = (nx 128 lv (.int (-1 : Int32) :: st) w) := id rfl
theorem sX4_mergeGroup_128 (lv : zL) (st : List Value) (w : zW) (nx K : Nat → zL → List Value → zW → Prop) (Rt : Option Value → zW → Prop) : z_st1 (tX4_mergeGroup 128) 128 lv st w nx K Rt = (z_2i st (fun x y r => (x = y → nx 160 lv r w) ∧ (¬ x = y → nx 131 lv r w))) := id rfl
theorem sX4_mergeGroup_131 (lv : zL) (st : List Value) (w : zW) (nx K : Nat → zL → List Value → zW → Prop) (Rt : Option Value → zW → Prop) : z_st1 (tX4_mergeGroup 131) 131 lv st w nx K Rt = (z_la lv 0 (fun x => nx 132 lv (.ref x :: st) w)) := id rfl
theorem sX4_mergeGroup_132 (lv : zL) (st : List Value) (w : zW) (nx K : Nat → zL → List Value → zW → Prop) (Rt : Option Value → zW → Prop) : z_st1 (tX4_mergeGroup 132) 132 lv st w nx K Rt = (z_1a st (fun x r => z_ob w x 5 (fun fs => z_fl fs 3 (fun u => nx 135 lv (u :: r) w)))) := id rfl
theorem sX4_mergeGroup_135 (lv : zL) (st : List Value) (w : zW) (nx K : Nat → zL → List Value → zW → Prop) (Rt : Option Value → zW → Prop) : z_st1 (tX4_mergeGroup 135) 135 lv st w nx K Rt = (z_li lv 3 (fun x => nx 136 lv (.int x :: st) w)) := id rfl
theorem sX4_mergeGroup_136 (lv : zL) (st : List Value) (w : zW) (nx K : Nat → zL → List Value → zW → Prop) (Rt : Option Value → zW → Prop) : z_st1 (tX4_mergeGroup 136) 136 lv st w nx K Rt = (z_la lv 0 (fun x => nx 137 lv (.ref x :: st) w)) := id rfl
theorem sX4_mergeGroup_137 (lv : zL) (st : List Value) (w : zW) (nx K : Nat → zL → List Value → zW → Prop) (Rt : Option Value → zW → Prop) : z_st1 (tX4_mergeGroup 137) 137 lv st w nx K Rt = (z_1a st (fun x r => z_ob w x 5 (fun fs => z_fl fs 2 (fun u => nx 140 lv (u :: r) w)))) := id rfl
theorem sX4_mergeGroup_140 (lv : zL) (st : List Value) (w : zW) (nx K : Nat → zL → List Value → zW → Prop) (Rt : Option Value → zW → Prop) : z_st1 (tX4_mergeGroup 140) 140 lv st w nx K Rt = (z_la lv 0 (fun x => nx 141 lv (.ref x :: st) w)) := id rfl
theorem sX4_mergeGroup_141 (lv : zL) (st : List Value) (w : zW) (nx K : Nat → zL → List Value → zW → Prop) (Rt : Option Value → zW → Prop) : z_st1 (tX4_mergeGroup 141) 141 lv st w nx K Rt = (z_1a st (fun x r => z_ob w x 5 (fun fs => z_fl fs 5 (fun u => nx 144 lv (u :: r) w)))) := id rfl
theorem sX4_mergeGroup_144 (lv : zL) (st : List Value) (w : zW) (nx K : Nat → zL → List Value → zW → Prop) (Rt : Option Value → zW → Prop) : z_st1 (tX4_mergeGroup 144) 144 lv st w nx K Rt = (z_li lv 4 (fun x => nx 146 lv (.int x :: st) w)) := id rfl
theorem sX4_mergeGroup_146 (lv : zL) (st : List Value) (w : zW) (nx K : Nat → zL → List Value → zW → Prop) (Rt : Option Value → zW → Prop) : z_st1 (tX4_mergeGroup 146) 146 lv st w nx K Rt = (z_ia st (fun x i r => z_ar0 w x (fun m g => vp_in i m ∧ nx 147 lv (.int (g i.toNatClampNeg) :: r) w))) := id rfl
theorem sX4_mergeGroup_147 (lv : zL) (st : List Value) (w : zW) (nx K : Nat → zL → List Value → zW → Prop) (Rt : Option Value → zW → Prop) : z_st1 (tX4_mergeGroup 147) 147 lv st w nx K Rt = (z_ia st (fun x i r => z_ar0 w x (fun m g => vp_in i m ∧ nx 148 lv (.int (g i.toNatClampNeg) :: r) w))) := id rfl
theorem sX4_mergeGroup_148 (lv : zL) (st : List Value) (w : zW) (nx K : Nat → zL → List Value → zW → Prop) (Rt : Option Value → zW → Prop) : z_st1 (tX4_mergeGroup 148) 148 lv st w nx K Rt = (z_iia st (fun x i u r => z_ar0 w x (fun m g => vp_in i m ∧ nx 149 lv r (z_up w x (.inl (0, m, .inl (upd g i.toNatClampNeg u))))))) := id rfl
theorem sX4_mergeGroup_149 (lv : zL) (st : List Value) (w : zW) (nx K : Nat → zL → List Value → zW → Prop) (Rt : Option Value → zW → Prop) : z_st1 (tX4_mergeGroup 149) 149 lv st w nx K Rt = (z_la lv 0 (fun x => nx 150 lv (.ref x :: st) w)) := id rfl
theorem sX4_mergeGroup_150 (lv : zL) (st : List Value) (w : zW) (nx K : Nat → zL → List Value → zW → Prop) (Rt : Option Value → zW → Prop) : z_st1 (tX4_mergeGroup 150) 150 lv st w nx K Rt = (z_1a st (fun x r => z_ob w x 5 (fun fs => z_fl fs 5 (fun u => nx 153 lv (u :: r) w)))) := id rfl
theorem sX4_mergeGroup_153 (lv : zL) (st : List Value) (w : zW) (nx K : Nat → zL → List Value → zW → Prop) (Rt : Option Value → zW → Prop) : z_st1 (tX4_mergeGroup 153) 153 lv st w nx K Rt = (z_li lv 4 (fun x => nx 155 lv (.int x :: st) w)) := id rfl
theorem sX4_mergeGroup_155 (lv : zL) (st : List Value) (w : zW) (nx K : Nat → zL → List Value → zW → Prop) (Rt : Option Value → zW → Prop) : z_st1 (tX4_mergeGroup 155) 155 lv st w nx K Rt = (z_dia st (fun x i r => nx 156 lv (.int i :: .ref x :: .int i :: .ref x :: r) w)) := id rfl
theorem sX4_mergeGroup_156 (lv : zL) (st : List Value) (w : zW) (nx K : Nat → zL → List Value → zW → Prop) (Rt : Option Value → zW → Prop) : z_st1 (tX4_mergeGroup 156) 156 lv st w nx K Rt = (z_ia st (fun x i r => z_ar0 w x (fun m g => vp_in i m ∧ nx 157 lv (.int (g i.toNatClampNeg) :: r) w))) := id rfl
theorem sX4_mergeGroup_157 (lv : zL) (st : List Value) (w : zW) (nx K : Nat → zL → List Value → zW → Prop) (Rt : Option Value → zW → Prop) : z_st1 (tX4_mergeGroup 157) 157 lv st w nx K Rt = (nx 158 lv (.int (1 : Int32) :: st) w) := id rfl
theorem sX4_mergeGroup_158 (lv : zL) (st : List Value) (w : zW) (nx K : Nat → zL → List Value → zW → Prop) (Rt : Option Value → zW → Prop) : z_st1 (tX4_mergeGroup 158) 158 lv st w nx K Rt = (z_2i st (fun x y r => nx 159 lv (.int (x + y) :: r) w)) := id rfl
theorem sX4_mergeGroup_159 (lv : zL) (st : List Value) (w : zW) (nx K : Nat → zL → List Value → zW → Prop) (Rt : Option Value → zW → Prop) : z_st1 (tX4_mergeGroup 159) 159 lv st w nx K Rt = (z_iia st (fun x i u r => z_ar0 w x (fun m g => vp_in i m ∧ nx 160 lv r (z_up w x (.inl (0, m, .inl (upd g i.toNatClampNeg u))))))) := id rfl
theorem sX4_mergeGroup_160 (lv : zL) (st : List Value) (w : zW) (nx K : Nat → zL → List Value → zW → Prop) (Rt : Option Value → zW → Prop) : z_st1 (tX4_mergeGroup 160) 160 lv st w nx K Rt = (z_li lv 3 (fun x => z_ok1 lv 3 = true ∧ nx 163 (lv.set 3 (some (.int (x + (1 : Int32))))) st w)) := id rfl
theorem sX4_mergeGroup_163 (lv : zL) (st : List Value) (w : zW) (nx K : Nat → zL → List Value → zW → Prop) (Rt : Option Value → zW → Prop) : z_st1 (tX4_mergeGroup 163) 163 lv st w nx K Rt = (nx 34 lv st w) := id rfl
theorem sX4_mergeGroup_166 (lv : zL) (st : List Value) (w : zW) (nx K : Nat → zL → List Value → zW → Prop) (Rt : Option Value → zW → Prop) : z_st1 (tX4_mergeGroup 166) 166 lv st w nx K Rt = (z_e0 st (Rt none w)) := id rfl
theorem sX4_mergeGroup_107 (lv : zL) (st : List Value) (w : zW) (nx K : Nat → zL → List Value → zW → Prop) (Rt : Option Value → zW → Prop) : z_st1 (tX4_mergeGroup 107) 107 lv st w nx K Rt = K 107 lv st w := id rfl
theorem dX4_mergeGroup_107 : decode cX4_mergeGroup 107 = .ok (.invokevirtual 59, 3) := by decide +kernel

def tmX4_before (pc : Nat) : zI := match pc with
  | 0 => (1, 0, 0, 1, 0)
  | 1 => (46, 5, 1, 4, 0)
  | 4 => (1, 0, 0, 5, 0)
  | 5 => (46, 5, 0, 8, 0)
  | 8 => (0, 1, 0, 9, 0)
  | 9 => (0, 2, 0, 10, 0)
  | 13 => (3, 3, 0, 14, 0)
  | 14 => (0, 3, 0, 15, 0)
  | 15 => (35, 43, 0, 18, 0)
  | 18 => (1, 0, 0, 19, 0)
  | 19 => (46, 5, 8, 22, 0)
  | 22 => (35, 43, 0, 25, 0)
  | 25 => (1, 0, 0, 26, 0)
  | 26 => (46, 5, 0, 29, 0)
  | 29 => (0, 1, 0, 30, 0)
  | 33 => (1, 0, 0, 34, 0)
  | 34 => (46, 5, 0, 37, 0)
  | 37 => (0, 2, 0, 38, 0)
  | 41 => (9, 0, 0, 42, 0)
  | 42 => (3, 3, 0, 43, 0)
  | 43 => (0, 3, 0, 44, 0)
  | 44 => (37, 51, 0, 47, 0)
  | 47 => (6, 0, 0, 48, 1)
  | 48 => (33, 52, 0, 51, 0)
  | 51 => (6, 0, 0, 52, 0)
  | 52 => (58, 0, 0, 53, 0)
  | _ => (99, 0, 0, 0, 0)
def tX4_before (pc : Nat) : zI := if pc < 53 then tmX4_before pc else (99, 0, 0, 0, 0)
theorem tkX4_before : z_tab RX4 wsX4_before 4 (some .boolean) cX4_before 53 tX4_before := z_tab_of (tm := tmX4_before) (by decide +kernel)
theorem sX4_before_0 (lv : zL) (st : List Value) (w : zW) (nx K : Nat → zL → List Value → zW → Prop) (Rt : Option Value → zW → Prop) : z_st1 (tX4_before 0) 0 lv st w nx K Rt = (z_la lv 0 (fun x => nx 1 lv (.ref x :: st) w)) := id rfl
theorem sX4_before_1 (lv : zL) (st : List Value) (w : zW) (nx K : Nat → zL → List Value → zW → Prop) (Rt : Option Value → zW → Prop) : z_st1 (tX4_before 1) 1 lv st w nx K Rt = (z_1a st (fun x r => z_ob w x 5 (fun fs => z_fl fs 1 (fun u => nx 4 lv (u :: r) w)))) := id rfl
theorem sX4_before_4 (lv : zL) (st : List Value) (w : zW) (nx K : Nat → zL → List Value → zW → Prop) (Rt : Option Value → zW → Prop) : z_st1 (tX4_before 4) 4 lv st w nx K Rt = (z_la lv 0 (fun x => nx 5 lv (.ref x :: st) w)) := id rfl
theorem sX4_before_5 (lv : zL) (st : List Value) (w : zW) (nx K : Nat → zL → List Value → zW → Prop) (Rt : Option Value → zW → Prop) : z_st1 (tX4_before 5) 5 lv st w nx K Rt = (z_1a st (fun x r => z_ob w x 5 (fun fs => z_fl fs 0 (fun u => nx 8 lv (u :: r) w)))) := id rfl
theorem sX4_before_8 (lv : zL) (st : List Value) (w : zW) (nx K : Nat → zL → List Value → zW → Prop) (Rt : Option Value → zW → Prop) : z_st1 (tX4_before 8) 8 lv st w nx K Rt = (z_li lv 1 (fun x => nx 9 lv (.int x :: st) w)) := id rfl
theorem sX4_before_9 (lv : zL) (st : List Value) (w : zW) (nx K : Nat → zL → List Value → zW → Prop) (Rt : Option Value → zW → Prop) : z_st1 (tX4_before 9) 9 lv st w nx K Rt = (z_li lv 2 (fun x => nx 10 lv (.int x :: st) w)) := id rfl
theorem sX4_before_13 (lv : zL) (st : List Value) (w : zW) (nx K : Nat → zL → List Value → zW → Prop) (Rt : Option Value → zW → Prop) : z_st1 (tX4_before 13) 13 lv st w nx K Rt = (z_1i st (fun x r => z_ok1 lv 3 = true ∧ nx 14 (lv.set 3 (some (.int x))) r w)) := id rfl
theorem sX4_before_14 (lv : zL) (st : List Value) (w : zW) (nx K : Nat → zL → List Value → zW → Prop) (Rt : Option Value → zW → Prop) : z_st1 (tX4_before 14) 14 lv st w nx K Rt = (z_li lv 3 (fun x => nx 15 lv (.int x :: st) w)) := id rfl
theorem sX4_before_15 (lv : zL) (st : List Value) (w : zW) (nx K : Nat → zL → List Value → zW → Prop) (Rt : Option Value → zW → Prop) : z_st1 (tX4_before 15) 15 lv st w nx K Rt = (z_1i st (fun x r => (¬ x = 0 → nx 43 lv r w) ∧ (x = 0 → nx 18 lv r w))) := id rfl
theorem sX4_before_18 (lv : zL) (st : List Value) (w : zW) (nx K : Nat → zL → List Value → zW → Prop) (Rt : Option Value → zW → Prop) : z_st1 (tX4_before 18) 18 lv st w nx K Rt = (z_la lv 0 (fun x => nx 19 lv (.ref x :: st) w)) := id rfl
theorem sX4_before_19 (lv : zL) (st : List Value) (w : zW) (nx K : Nat → zL → List Value → zW → Prop) (Rt : Option Value → zW → Prop) : z_st1 (tX4_before 19) 19 lv st w nx K Rt = (z_1a st (fun x r => z_ob w x 5 (fun fs => z_fl fs 8 (fun u => nx 22 lv (u :: r) w)))) := id rfl
theorem sX4_before_22 (lv : zL) (st : List Value) (w : zW) (nx K : Nat → zL → List Value → zW → Prop) (Rt : Option Value → zW → Prop) : z_st1 (tX4_before 22) 22 lv st w nx K Rt = (z_1i st (fun x r => (¬ x = 0 → nx 43 lv r w) ∧ (x = 0 → nx 25 lv r w))) := id rfl
theorem sX4_before_25 (lv : zL) (st : List Value) (w : zW) (nx K : Nat → zL → List Value → zW → Prop) (Rt : Option Value → zW → Prop) : z_st1 (tX4_before 25) 25 lv st w nx K Rt = (z_la lv 0 (fun x => nx 26 lv (.ref x :: st) w)) := id rfl
theorem sX4_before_26 (lv : zL) (st : List Value) (w : zW) (nx K : Nat → zL → List Value → zW → Prop) (Rt : Option Value → zW → Prop) : z_st1 (tX4_before 26) 26 lv st w nx K Rt = (z_1a st (fun x r => z_ob w x 5 (fun fs => z_fl fs 0 (fun u => nx 29 lv (u :: r) w)))) := id rfl
theorem sX4_before_29 (lv : zL) (st : List Value) (w : zW) (nx K : Nat → zL → List Value → zW → Prop) (Rt : Option Value → zW → Prop) : z_st1 (tX4_before 29) 29 lv st w nx K Rt = (z_li lv 1 (fun x => nx 30 lv (.int x :: st) w)) := id rfl
theorem sX4_before_33 (lv : zL) (st : List Value) (w : zW) (nx K : Nat → zL → List Value → zW → Prop) (Rt : Option Value → zW → Prop) : z_st1 (tX4_before 33) 33 lv st w nx K Rt = (z_la lv 0 (fun x => nx 34 lv (.ref x :: st) w)) := id rfl
theorem sX4_before_34 (lv : zL) (st : List Value) (w : zW) (nx K : Nat → zL → List Value → zW → Prop) (Rt : Option Value → zW → Prop) : z_st1 (tX4_before 34) 34 lv st w nx K Rt = (z_1a st (fun x r => z_ob w x 5 (fun fs => z_fl fs 0 (fun u => nx 37 lv (u :: r) w)))) := id rfl
theorem sX4_before_37 (lv : zL) (st : List Value) (w : zW) (nx K : Nat → zL → List Value → zW → Prop) (Rt : Option Value → zW → Prop) : z_st1 (tX4_before 37) 37 lv st w nx K Rt = (z_li lv 2 (fun x => nx 38 lv (.int x :: st) w)) := id rfl
theorem sX4_before_41 (lv : zL) (st : List Value) (w : zW) (nx K : Nat → zL → List Value → zW → Prop) (Rt : Option Value → zW → Prop) : z_st1 (tX4_before 41) 41 lv st w nx K Rt = (z_2i st (fun x y r => nx 42 lv (.int (x - y) :: r) w)) := id rfl
theorem sX4_before_42 (lv : zL) (st : List Value) (w : zW) (nx K : Nat → zL → List Value → zW → Prop) (Rt : Option Value → zW → Prop) : z_st1 (tX4_before 42) 42 lv st w nx K Rt = (z_1i st (fun x r => z_ok1 lv 3 = true ∧ nx 43 (lv.set 3 (some (.int x))) r w)) := id rfl
theorem sX4_before_43 (lv : zL) (st : List Value) (w : zW) (nx K : Nat → zL → List Value → zW → Prop) (Rt : Option Value → zW → Prop) : z_st1 (tX4_before 43) 43 lv st w nx K Rt = (z_li lv 3 (fun x => nx 44 lv (.int x :: st) w)) := id rfl
theorem sX4_before_44 (lv : zL) (st : List Value) (w : zW) (nx K : Nat → zL → List Value → zW → Prop) (Rt : Option Value → zW → Prop) : z_st1 (tX4_before 44) 44 lv st w nx K Rt = (z_1i st (fun x r => (0 ≤ x → nx 51 lv r w) ∧ (¬ 0 ≤ x → nx 47 lv r w))) := id rfl
theorem sX4_before_47 (lv : zL) (st : List Value) (w : zW) (nx K : Nat → zL → List Value → zW → Prop) (Rt : Option Value → zW → Prop) : z_st1 (tX4_before 47) 47 lv st w nx K Rt = (nx 48 lv (.int (1 : Int32) :: st) w) := id rfl
theorem sX4_before_48 (lv : zL) (st : List Value) (w : zW) (nx K : Nat → zL → List Value → zW → Prop) (Rt : Option Value → zW → Prop) : z_st1 (tX4_before 48) 48 lv st w nx K Rt = (nx 52 lv st w) := id rfl
theorem sX4_before_51 (lv : zL) (st : List Value) (w : zW) (nx K : Nat → zL → List Value → zW → Prop) (Rt : Option Value → zW → Prop) : z_st1 (tX4_before 51) 51 lv st w nx K Rt = (nx 52 lv (.int (0 : Int32) :: st) w) := id rfl
theorem sX4_before_52 (lv : zL) (st : List Value) (w : zW) (nx K : Nat → zL → List Value → zW → Prop) (Rt : Option Value → zW → Prop) : z_st1 (tX4_before 52) 52 lv st w nx K Rt = (z_e1 st (fun x => (x = 0 ∨ x = 1) ∧ Rt (some (.int x)) w)) := id rfl
theorem sX4_before_10 (lv : zL) (st : List Value) (w : zW) (nx K : Nat → zL → List Value → zW → Prop) (Rt : Option Value → zW → Prop) : z_st1 (tX4_before 10) 10 lv st w nx K Rt = K 10 lv st w := id rfl
theorem sX4_before_30 (lv : zL) (st : List Value) (w : zW) (nx K : Nat → zL → List Value → zW → Prop) (Rt : Option Value → zW → Prop) : z_st1 (tX4_before 30) 30 lv st w nx K Rt = K 30 lv st w := id rfl
theorem sX4_before_38 (lv : zL) (st : List Value) (w : zW) (nx K : Nat → zL → List Value → zW → Prop) (Rt : Option Value → zW → Prop) : z_st1 (tX4_before 38) 38 lv st w nx K Rt = K 38 lv st w := id rfl
theorem dX4_before_10 : decode cX4_before 10 = .ok (.invokevirtual 72, 3) := by decide +kernel
theorem dX4_before_30 : decode cX4_before 30 = .ok (.invokevirtual 78, 3) := by decide +kernel
theorem dX4_before_38 : decode cX4_before 38 = .ok (.invokevirtual 78, 3) := by decide +kernel

def tmX5_init (pc : Nat) : zI := match pc with
  | 0 => (1, 0, 0, 1, 0)
  | 4 => (1, 0, 0, 5, 0)
  | 5 => (0, 1, 0, 6, 0)
  | 6 => (6, 0, 0, 7, 0)
  | 10 => (6, 0, 0, 13, 1600)
  | 19 => (1, 0, 0, 20, 0)
  | 20 => (1, 0, 0, 21, 0)
  | 21 => (46, 6, 0, 24, 0)
  | 29 => (1, 0, 0, 30, 0)
  | 30 => (1, 0, 0, 31, 0)
  | 31 => (46, 6, 0, 34, 0)
  | 39 => (1, 0, 0, 40, 0)
  | 40 => (1, 0, 0, 41, 0)
  | 41 => (46, 6, 0, 44, 0)
  | 44 => (6, 0, 0, 46, 32)
  | 46 => (10, 0, 0, 47, 0)
  | 52 => (55, 0, 0, 53, 0)
  | _ => (99, 0, 0, 0, 0)
def tX5_init (pc : Nat) : zI := if pc < 53 then tmX5_init pc else (99, 0, 0, 0, 0)
theorem tkX5_init : z_tab RX5 wsX5_init 2 none cX5_init 53 tX5_init := z_tab_of (tm := tmX5_init) (by decide +kernel)
theorem sX5_init_0 (lv : zL) (st : List Value) (w : zW) (nx K : Nat → zL → List Value → zW → Prop) (Rt : Option Value → zW → Prop) : z_st1 (tX5_init 0) 0 lv st w nx K Rt = (z_la lv 0 (fun x => nx 1 lv (.ref x :: st) w)) := id rfl
theorem sX5_init_4 (lv : zL) (st : List Value) (w : zW) (nx K : Nat → zL → List Value → zW → Prop) (Rt : Option Value → zW → Prop) : z_st1 (tX5_init 4) 4 lv st w nx K Rt = (z_la lv 0 (fun x => nx 5 lv (.ref x :: st) w)) := id rfl
theorem sX5_init_5 (lv : zL) (st : List Value) (w : zW) (nx K : Nat → zL → List Value → zW → Prop) (Rt : Option Value → zW → Prop) : z_st1 (tX5_init 5) 5 lv st w nx K Rt = (z_li lv 1 (fun x => nx 6 lv (.int x :: st) w)) := id rfl
theorem sX5_init_6 (lv : zL) (st : List Value) (w : zW) (nx K : Nat → zL → List Value → zW → Prop) (Rt : Option Value → zW → Prop) : z_st1 (tX5_init 6) 6 lv st w nx K Rt = (nx 7 lv (.int (0 : Int32) :: st) w) := id rfl
theorem sX5_init_10 (lv : zL) (st : List Value) (w : zW) (nx K : Nat → zL → List Value → zW → Prop) (Rt : Option Value → zW → Prop) : z_st1 (tX5_init 10) 10 lv st w nx K Rt = (nx 13 lv (.int (1600 : Int32) :: st) w) := id rfl
theorem sX5_init_19 (lv : zL) (st : List Value) (w : zW) (nx K : Nat → zL → List Value → zW → Prop) (Rt : Option Value → zW → Prop) : z_st1 (tX5_init 19) 19 lv st w nx K Rt = (z_la lv 0 (fun x => nx 20 lv (.ref x :: st) w)) := id rfl
theorem sX5_init_20 (lv : zL) (st : List Value) (w : zW) (nx K : Nat → zL → List Value → zW → Prop) (Rt : Option Value → zW → Prop) : z_st1 (tX5_init 20) 20 lv st w nx K Rt = (z_la lv 0 (fun x => nx 21 lv (.ref x :: st) w)) := id rfl
theorem sX5_init_21 (lv : zL) (st : List Value) (w : zW) (nx K : Nat → zL → List Value → zW → Prop) (Rt : Option Value → zW → Prop) : z_st1 (tX5_init 21) 21 lv st w nx K Rt = (z_1a st (fun x r => z_ob w x 6 (fun fs => z_fl fs 0 (fun u => nx 24 lv (u :: r) w)))) := id rfl
theorem sX5_init_29 (lv : zL) (st : List Value) (w : zW) (nx K : Nat → zL → List Value → zW → Prop) (Rt : Option Value → zW → Prop) : z_st1 (tX5_init 29) 29 lv st w nx K Rt = (z_la lv 0 (fun x => nx 30 lv (.ref x :: st) w)) := id rfl
theorem sX5_init_30 (lv : zL) (st : List Value) (w : zW) (nx K : Nat → zL → List Value → zW → Prop) (Rt : Option Value → zW → Prop) : z_st1 (tX5_init 30) 30 lv st w nx K Rt = (z_la lv 0 (fun x => nx 31 lv (.ref x :: st) w)) := id rfl
theorem sX5_init_31 (lv : zL) (st : List Value) (w : zW) (nx K : Nat → zL → List Value → zW → Prop) (Rt : Option Value → zW → Prop) : z_st1 (tX5_init 31) 31 lv st w nx K Rt = (z_1a st (fun x r => z_ob w x 6 (fun fs => z_fl fs 0 (fun u => nx 34 lv (u :: r) w)))) := id rfl
theorem sX5_init_39 (lv : zL) (st : List Value) (w : zW) (nx K : Nat → zL → List Value → zW → Prop) (Rt : Option Value → zW → Prop) : z_st1 (tX5_init 39) 39 lv st w nx K Rt = (z_la lv 0 (fun x => nx 40 lv (.ref x :: st) w)) := id rfl
theorem sX5_init_40 (lv : zL) (st : List Value) (w : zW) (nx K : Nat → zL → List Value → zW → Prop) (Rt : Option Value → zW → Prop) : z_st1 (tX5_init 40) 40 lv st w nx K Rt = (z_la lv 0 (fun x => nx 41 lv (.ref x :: st) w)) := id rfl
theorem sX5_init_41 (lv : zL) (st : List Value) (w : zW) (nx K : Nat → zL → List Value → zW → Prop) (Rt : Option Value → zW → Prop) : z_st1 (tX5_init 41) 41 lv st w nx K Rt = (z_1a st (fun x r => z_ob w x 6 (fun fs => z_fl fs 0 (fun u => nx 44 lv (u :: r) w)))) := id rfl
theorem sX5_init_44 (lv : zL) (st : List Value) (w : zW) (nx K : Nat → zL → List Value → zW → Prop) (Rt : Option Value → zW → Prop) : z_st1 (tX5_init 44) 44 lv st w nx K Rt = (nx 46 lv (.int (32 : Int32) :: st) w) := id rfl
theorem sX5_init_46 (lv : zL) (st : List Value) (w : zW) (nx K : Nat → zL → List Value → zW → Prop) (Rt : Option Value → zW → Prop) : z_st1 (tX5_init 46) 46 lv st w nx K Rt = (z_2i st (fun x y r => nx 47 lv (.int (x * y) :: r) w)) := id rfl
theorem sX5_init_52 (lv : zL) (st : List Value) (w : zW) (nx K : Nat → zL → List Value → zW → Prop) (Rt : Option Value → zW → Prop) : z_st1 (tX5_init 52) 52 lv st w nx K Rt = (z_e0 st (Rt none w)) := id rfl
theorem sX5_init_1 (lv : zL) (st : List Value) (w : zW) (nx K : Nat → zL → List Value → zW → Prop) (Rt : Option Value → zW → Prop) : z_st1 (tX5_init 1) 1 lv st w nx K Rt = K 1 lv st w := id rfl
theorem sX5_init_7 (lv : zL) (st : List Value) (w : zW) (nx K : Nat → zL → List Value → zW → Prop) (Rt : Option Value → zW → Prop) : z_st1 (tX5_init 7) 7 lv st w nx K Rt = K 7 lv st w := id rfl
theorem sX5_init_13 (lv : zL) (st : List Value) (w : zW) (nx K : Nat → zL → List Value → zW → Prop) (Rt : Option Value → zW → Prop) : z_st1 (tX5_init 13) 13 lv st w nx K Rt = K 13 lv st w := id rfl
theorem sX5_init_16 (lv : zL) (st : List Value) (w : zW) (nx K : Nat → zL → List Value → zW → Prop) (Rt : Option Value → zW → Prop) : z_st1 (tX5_init 16) 16 lv st w nx K Rt = K 16 lv st w := id rfl
theorem sX5_init_24 (lv : zL) (st : List Value) (w : zW) (nx K : Nat → zL → List Value → zW → Prop) (Rt : Option Value → zW → Prop) : z_st1 (tX5_init 24) 24 lv st w nx K Rt = K 24 lv st w := id rfl
theorem sX5_init_26 (lv : zL) (st : List Value) (w : zW) (nx K : Nat → zL → List Value → zW → Prop) (Rt : Option Value → zW → Prop) : z_st1 (tX5_init 26) 26 lv st w nx K Rt = K 26 lv st w := id rfl
theorem sX5_init_34 (lv : zL) (st : List Value) (w : zW) (nx K : Nat → zL → List Value → zW → Prop) (Rt : Option Value → zW → Prop) : z_st1 (tX5_init 34) 34 lv st w nx K Rt = K 34 lv st w := id rfl
theorem sX5_init_36 (lv : zL) (st : List Value) (w : zW) (nx K : Nat → zL → List Value → zW → Prop) (Rt : Option Value → zW → Prop) : z_st1 (tX5_init 36) 36 lv st w nx K Rt = K 36 lv st w := id rfl
theorem sX5_init_47 (lv : zL) (st : List Value) (w : zW) (nx K : Nat → zL → List Value → zW → Prop) (Rt : Option Value → zW → Prop) : z_st1 (tX5_init 47) 47 lv st w nx K Rt = K 47 lv st w := id rfl
theorem sX5_init_49 (lv : zL) (st : List Value) (w : zW) (nx K : Nat → zL → List Value → zW → Prop) (Rt : Option Value → zW → Prop) : z_st1 (tX5_init 49) 49 lv st w nx K Rt = K 49 lv st w := id rfl
theorem dX5_init_1 : decode cX5_init 1 = .ok (.invokespecial 3, 3) := by decide +kernel
theorem dX5_init_7 : decode cX5_init 7 = .ok (.invokestatic 9, 3) := by decide +kernel
theorem dX5_init_13 : decode cX5_init 13 = .ok (.invokestatic 15, 3) := by decide +kernel
theorem dX5_init_16 : decode cX5_init 16 = .ok (.putfield 18, 3) := by decide +kernel
theorem dX5_init_24 : decode cX5_init 24 = .ok (.newarray .int, 2) := by decide +kernel
theorem dX5_init_26 : decode cX5_init 26 = .ok (.putfield 24, 3) := by decide +kernel
theorem dX5_init_34 : decode cX5_init 34 = .ok (.newarray .int, 2) := by decide +kernel
theorem dX5_init_36 : decode cX5_init 36 = .ok (.putfield 28, 3) := by decide +kernel
theorem dX5_init_47 : decode cX5_init 47 = .ok (.newarray .int, 2) := by decide +kernel
theorem dX5_init_49 : decode cX5_init 49 = .ok (.putfield 31, 3) := by decide +kernel

def tmX5_held (pc : Nat) : zI := match pc with
  | 0 => (1, 0, 0, 1, 0)
  | 1 => (46, 6, 4, 4, 0)
  | 4 => (53, 0, 0, 5, 0)
  | _ => (99, 0, 0, 0, 0)
def tX5_held (pc : Nat) : zI := if pc < 5 then tmX5_held pc else (99, 0, 0, 0, 0)
theorem tkX5_held : z_tab RX5 wsX5_held 1 (some .int) cX5_held 5 tX5_held := z_tab_of (tm := tmX5_held) (by decide +kernel)
theorem sX5_held_0 (lv : zL) (st : List Value) (w : zW) (nx K : Nat → zL → List Value → zW → Prop) (Rt : Option Value → zW → Prop) : z_st1 (tX5_held 0) 0 lv st w nx K Rt = (z_la lv 0 (fun x => nx 1 lv (.ref x :: st) w)) := id rfl
theorem sX5_held_1 (lv : zL) (st : List Value) (w : zW) (nx K : Nat → zL → List Value → zW → Prop) (Rt : Option Value → zW → Prop) : z_st1 (tX5_held 1) 1 lv st w nx K Rt = (z_1a st (fun x r => z_ob w x 6 (fun fs => z_fl fs 4 (fun u => nx 4 lv (u :: r) w)))) := id rfl
theorem sX5_held_4 (lv : zL) (st : List Value) (w : zW) (nx K : Nat → zL → List Value → zW → Prop) (Rt : Option Value → zW → Prop) : z_st1 (tX5_held 4) 4 lv st w nx K Rt = (z_e1 st (fun x => Rt (some (.int x)) w)) := id rfl

def tmX5_clear (pc : Nat) : zI := match pc with
  | 0 => (1, 0, 0, 1, 0)
  | 1 => (6, 0, 0, 2, 0)
  | 2 => (47, 6, 4, 5, 0)
  | 5 => (55, 0, 0, 6, 0)
  | _ => (99, 0, 0, 0, 0)
def tX5_clear (pc : Nat) : zI := if pc < 6 then tmX5_clear pc else (99, 0, 0, 0, 0)
theorem tkX5_clear : z_tab RX5 wsX5_clear 1 none cX5_clear 6 tX5_clear := z_tab_of (tm := tmX5_clear) (by decide +kernel)
theorem sX5_clear_0 (lv : zL) (st : List Value) (w : zW) (nx K : Nat → zL → List Value → zW → Prop) (Rt : Option Value → zW → Prop) : z_st1 (tX5_clear 0) 0 lv st w nx K Rt = (z_la lv 0 (fun x => nx 1 lv (.ref x :: st) w)) := id rfl
theorem sX5_clear_1 (lv : zL) (st : List Value) (w : zW) (nx K : Nat → zL → List Value → zW → Prop) (Rt : Option Value → zW → Prop) : z_st1 (tX5_clear 1) 1 lv st w nx K Rt = (nx 2 lv (.int (0 : Int32) :: st) w) := id rfl
theorem sX5_clear_2 (lv : zL) (st : List Value) (w : zW) (nx K : Nat → zL → List Value → zW → Prop) (Rt : Option Value → zW → Prop) : z_st1 (tX5_clear 2) 2 lv st w nx K Rt = (z_ia st (fun x i r => z_ob w x 6 (fun fs => 4 < fs.length ∧ nx 5 lv r (z_up w x (.inr (6, fs.set 4 (.int i))))))) := id rfl
theorem sX5_clear_5 (lv : zL) (st : List Value) (w : zW) (nx K : Nat → zL → List Value → zW → Prop) (Rt : Option Value → zW → Prop) : z_st1 (tX5_clear 5) 5 lv st w nx K Rt = (z_e0 st (Rt none w)) := id rfl

def tmX5_removeLast (pc : Nat) : zI := match pc with
  | 0 => (1, 0, 0, 1, 0)
  | 1 => (46, 6, 4, 4, 0)
  | 4 => (39, 17, 0, 7, 0)
  | 7 => (1, 0, 0, 8, 0)
  | 8 => (29, 0, 0, 9, 0)
  | 9 => (46, 6, 4, 12, 0)
  | 12 => (6, 0, 0, 13, 1)
  | 13 => (9, 0, 0, 14, 0)
  | 14 => (47, 6, 4, 17, 0)
  | 17 => (55, 0, 0, 18, 0)
  | _ => (99, 0, 0, 0, 0)
def tX5_removeLast (pc : Nat) : zI := if pc < 18 then tmX5_removeLast pc else (99, 0, 0, 0, 0)
theorem tkX5_removeLast : z_tab RX5 wsX5_removeLast 1 none cX5_removeLast 18 tX5_removeLast := z_tab_of (tm := tmX5_removeLast) (by decide +kernel)
theorem sX5_removeLast_0 (lv : zL) (st : List Value) (w : zW) (nx K : Nat → zL → List Value → zW → Prop) (Rt : Option Value → zW → Prop) : z_st1 (tX5_removeLast 0) 0 lv st w nx K Rt = (z_la lv 0 (fun x => nx 1 lv (.ref x :: st) w)) := id rfl
theorem sX5_removeLast_1 (lv : zL) (st : List Value) (w : zW) (nx K : Nat → zL → List Value → zW → Prop) (Rt : Option Value → zW → Prop) : z_st1 (tX5_removeLast 1) 1 lv st w nx K Rt = (z_1a st (fun x r => z_ob w x 6 (fun fs => z_fl fs 4 (fun u => nx 4 lv (u :: r) w)))) := id rfl
theorem sX5_removeLast_4 (lv : zL) (st : List Value) (w : zW) (nx K : Nat → zL → List Value → zW → Prop) (Rt : Option Value → zW → Prop) : z_st1 (tX5_removeLast 4) 4 lv st w nx K Rt = (z_1i st (fun x r => (x ≤ 0 → nx 17 lv r w) ∧ (¬ x ≤ 0 → nx 7 lv r w))) := id rfl
theorem sX5_removeLast_7 (lv : zL) (st : List Value) (w : zW) (nx K : Nat → zL → List Value → zW → Prop) (Rt : Option Value → zW → Prop) : z_st1 (tX5_removeLast 7) 7 lv st w nx K Rt = (z_la lv 0 (fun x => nx 8 lv (.ref x :: st) w)) := id rfl
theorem sX5_removeLast_8 (lv : zL) (st : List Value) (w : zW) (nx K : Nat → zL → List Value → zW → Prop) (Rt : Option Value → zW → Prop) : z_st1 (tX5_removeLast 8) 8 lv st w nx K Rt = (z_d1 st (fun x r => nx 9 lv (x :: x :: r) w)) := id rfl
theorem sX5_removeLast_9 (lv : zL) (st : List Value) (w : zW) (nx K : Nat → zL → List Value → zW → Prop) (Rt : Option Value → zW → Prop) : z_st1 (tX5_removeLast 9) 9 lv st w nx K Rt = (z_1a st (fun x r => z_ob w x 6 (fun fs => z_fl fs 4 (fun u => nx 12 lv (u :: r) w)))) := id rfl
theorem sX5_removeLast_12 (lv : zL) (st : List Value) (w : zW) (nx K : Nat → zL → List Value → zW → Prop) (Rt : Option Value → zW → Prop) : z_st1 (tX5_removeLast 12) 12 lv st w nx K Rt = (nx 13 lv (.int (1 : Int32) :: st) w) := id rfl
theorem sX5_removeLast_13 (lv : zL) (st : List Value) (w : zW) (nx K : Nat → zL → List Value → zW → Prop) (Rt : Option Value → zW → Prop) : z_st1 (tX5_removeLast 13) 13 lv st w nx K Rt = (z_2i st (fun x y r => nx 14 lv (.int (x - y) :: r) w)) := id rfl
theorem sX5_removeLast_14 (lv : zL) (st : List Value) (w : zW) (nx K : Nat → zL → List Value → zW → Prop) (Rt : Option Value → zW → Prop) : z_st1 (tX5_removeLast 14) 14 lv st w nx K Rt = (z_ia st (fun x i r => z_ob w x 6 (fun fs => 4 < fs.length ∧ nx 17 lv r (z_up w x (.inr (6, fs.set 4 (.int i))))))) := id rfl
theorem sX5_removeLast_17 (lv : zL) (st : List Value) (w : zW) (nx K : Nat → zL → List Value → zW → Prop) (Rt : Option Value → zW → Prop) : z_st1 (tX5_removeLast 17) 17 lv st w nx K Rt = (z_e0 st (Rt none w)) := id rfl

def tmX5_add (pc : Nat) : zI := match pc with
  | 0 => (1, 0, 0, 1, 0)
  | 1 => (46, 6, 4, 4, 0)
  | 4 => (1, 0, 0, 5, 0)
  | 5 => (46, 6, 0, 8, 0)
  | 8 => (42, 13, 0, 11, 0)
  | 11 => (6, 0, 0, 12, (-1))
  | 12 => (53, 0, 0, 13, 0)
  | 13 => (1, 0, 0, 14, 0)
  | 14 => (46, 6, 4, 17, 0)
  | 17 => (3, 2, 0, 18, 0)
  | 18 => (1, 0, 0, 19, 0)
  | 19 => (29, 0, 0, 20, 0)
  | 20 => (46, 6, 4, 23, 0)
  | 23 => (6, 0, 0, 24, 1)
  | 24 => (8, 0, 0, 25, 0)
  | 25 => (47, 6, 4, 28, 0)
  | 28 => (1, 0, 0, 29, 0)
  | 29 => (46, 6, 1, 32, 0)
  | 32 => (0, 2, 0, 33, 0)
  | 33 => (0, 1, 0, 34, 0)
  | 34 => (49, 0, 0, 35, 0)
  | 35 => (1, 0, 0, 36, 0)
  | 36 => (46, 6, 2, 39, 0)
  | 39 => (0, 2, 0, 40, 0)
  | 40 => (6, 0, 0, 41, 0)
  | 41 => (49, 0, 0, 42, 0)
  | 42 => (0, 2, 0, 43, 0)
  | 43 => (53, 0, 0, 44, 0)
  | _ => (99, 0, 0, 0, 0)
def tX5_add (pc : Nat) : zI := if pc < 44 then tmX5_add pc else (99, 0, 0, 0, 0)
theorem tkX5_add : z_tab RX5 wsX5_add 3 (some .int) cX5_add 44 tX5_add := z_tab_of (tm := tmX5_add) (by decide +kernel)
theorem sX5_add_0 (lv : zL) (st : List Value) (w : zW) (nx K : Nat → zL → List Value → zW → Prop) (Rt : Option Value → zW → Prop) : z_st1 (tX5_add 0) 0 lv st w nx K Rt = (z_la lv 0 (fun x => nx 1 lv (.ref x :: st) w)) := id rfl
theorem sX5_add_1 (lv : zL) (st : List Value) (w : zW) (nx K : Nat → zL → List Value → zW → Prop) (Rt : Option Value → zW → Prop) : z_st1 (tX5_add 1) 1 lv st w nx K Rt = (z_1a st (fun x r => z_ob w x 6 (fun fs => z_fl fs 4 (fun u => nx 4 lv (u :: r) w)))) := id rfl
theorem sX5_add_4 (lv : zL) (st : List Value) (w : zW) (nx K : Nat → zL → List Value → zW → Prop) (Rt : Option Value → zW → Prop) : z_st1 (tX5_add 4) 4 lv st w nx K Rt = (z_la lv 0 (fun x => nx 5 lv (.ref x :: st) w)) := id rfl
theorem sX5_add_5 (lv : zL) (st : List Value) (w : zW) (nx K : Nat → zL → List Value → zW → Prop) (Rt : Option Value → zW → Prop) : z_st1 (tX5_add 5) 5 lv st w nx K Rt = (z_1a st (fun x r => z_ob w x 6 (fun fs => z_fl fs 0 (fun u => nx 8 lv (u :: r) w)))) := id rfl
theorem sX5_add_8 (lv : zL) (st : List Value) (w : zW) (nx K : Nat → zL → List Value → zW → Prop) (Rt : Option Value → zW → Prop) : z_st1 (tX5_add 8) 8 lv st w nx K Rt = (z_2i st (fun x y r => (x < y → nx 13 lv r w) ∧ (¬ x < y → nx 11 lv r w))) := id rfl
theorem sX5_add_11 (lv : zL) (st : List Value) (w : zW) (nx K : Nat → zL → List Value → zW → Prop) (Rt : Option Value → zW → Prop) : z_st1 (tX5_add 11) 11 lv st w nx K Rt = (nx 12 lv (.int (-1 : Int32) :: st) w) := id rfl
theorem sX5_add_12 (lv : zL) (st : List Value) (w : zW) (nx K : Nat → zL → List Value → zW → Prop) (Rt : Option Value → zW → Prop) : z_st1 (tX5_add 12) 12 lv st w nx K Rt = (z_e1 st (fun x => Rt (some (.int x)) w)) := id rfl
theorem sX5_add_13 (lv : zL) (st : List Value) (w : zW) (nx K : Nat → zL → List Value → zW → Prop) (Rt : Option Value → zW → Prop) : z_st1 (tX5_add 13) 13 lv st w nx K Rt = (z_la lv 0 (fun x => nx 14 lv (.ref x :: st) w)) := id rfl
theorem sX5_add_14 (lv : zL) (st : List Value) (w : zW) (nx K : Nat → zL → List Value → zW → Prop) (Rt : Option Value → zW → Prop) : z_st1 (tX5_add 14) 14 lv st w nx K Rt = (z_1a st (fun x r => z_ob w x 6 (fun fs => z_fl fs 4 (fun u => nx 17 lv (u :: r) w)))) := id rfl
theorem sX5_add_17 (lv : zL) (st : List Value) (w : zW) (nx K : Nat → zL → List Value → zW → Prop) (Rt : Option Value → zW → Prop) : z_st1 (tX5_add 17) 17 lv st w nx K Rt = (z_1i st (fun x r => z_ok1 lv 2 = true ∧ nx 18 (lv.set 2 (some (.int x))) r w)) := id rfl
theorem sX5_add_18 (lv : zL) (st : List Value) (w : zW) (nx K : Nat → zL → List Value → zW → Prop) (Rt : Option Value → zW → Prop) : z_st1 (tX5_add 18) 18 lv st w nx K Rt = (z_la lv 0 (fun x => nx 19 lv (.ref x :: st) w)) := id rfl
theorem sX5_add_19 (lv : zL) (st : List Value) (w : zW) (nx K : Nat → zL → List Value → zW → Prop) (Rt : Option Value → zW → Prop) : z_st1 (tX5_add 19) 19 lv st w nx K Rt = (z_d1 st (fun x r => nx 20 lv (x :: x :: r) w)) := id rfl
theorem sX5_add_20 (lv : zL) (st : List Value) (w : zW) (nx K : Nat → zL → List Value → zW → Prop) (Rt : Option Value → zW → Prop) : z_st1 (tX5_add 20) 20 lv st w nx K Rt = (z_1a st (fun x r => z_ob w x 6 (fun fs => z_fl fs 4 (fun u => nx 23 lv (u :: r) w)))) := id rfl
theorem sX5_add_23 (lv : zL) (st : List Value) (w : zW) (nx K : Nat → zL → List Value → zW → Prop) (Rt : Option Value → zW → Prop) : z_st1 (tX5_add 23) 23 lv st w nx K Rt = (nx 24 lv (.int (1 : Int32) :: st) w) := id rfl
theorem sX5_add_24 (lv : zL) (st : List Value) (w : zW) (nx K : Nat → zL → List Value → zW → Prop) (Rt : Option Value → zW → Prop) : z_st1 (tX5_add 24) 24 lv st w nx K Rt = (z_2i st (fun x y r => nx 25 lv (.int (x + y) :: r) w)) := id rfl
theorem sX5_add_25 (lv : zL) (st : List Value) (w : zW) (nx K : Nat → zL → List Value → zW → Prop) (Rt : Option Value → zW → Prop) : z_st1 (tX5_add 25) 25 lv st w nx K Rt = (z_ia st (fun x i r => z_ob w x 6 (fun fs => 4 < fs.length ∧ nx 28 lv r (z_up w x (.inr (6, fs.set 4 (.int i))))))) := id rfl
theorem sX5_add_28 (lv : zL) (st : List Value) (w : zW) (nx K : Nat → zL → List Value → zW → Prop) (Rt : Option Value → zW → Prop) : z_st1 (tX5_add 28) 28 lv st w nx K Rt = (z_la lv 0 (fun x => nx 29 lv (.ref x :: st) w)) := id rfl
theorem sX5_add_29 (lv : zL) (st : List Value) (w : zW) (nx K : Nat → zL → List Value → zW → Prop) (Rt : Option Value → zW → Prop) : z_st1 (tX5_add 29) 29 lv st w nx K Rt = (z_1a st (fun x r => z_ob w x 6 (fun fs => z_fl fs 1 (fun u => nx 32 lv (u :: r) w)))) := id rfl
theorem sX5_add_32 (lv : zL) (st : List Value) (w : zW) (nx K : Nat → zL → List Value → zW → Prop) (Rt : Option Value → zW → Prop) : z_st1 (tX5_add 32) 32 lv st w nx K Rt = (z_li lv 2 (fun x => nx 33 lv (.int x :: st) w)) := id rfl
theorem sX5_add_33 (lv : zL) (st : List Value) (w : zW) (nx K : Nat → zL → List Value → zW → Prop) (Rt : Option Value → zW → Prop) : z_st1 (tX5_add 33) 33 lv st w nx K Rt = (z_li lv 1 (fun x => nx 34 lv (.int x :: st) w)) := id rfl
theorem sX5_add_34 (lv : zL) (st : List Value) (w : zW) (nx K : Nat → zL → List Value → zW → Prop) (Rt : Option Value → zW → Prop) : z_st1 (tX5_add 34) 34 lv st w nx K Rt = (z_iia st (fun x i u r => z_ar0 w x (fun m g => vp_in i m ∧ nx 35 lv r (z_up w x (.inl (0, m, .inl (upd g i.toNatClampNeg u))))))) := id rfl
theorem sX5_add_35 (lv : zL) (st : List Value) (w : zW) (nx K : Nat → zL → List Value → zW → Prop) (Rt : Option Value → zW → Prop) : z_st1 (tX5_add 35) 35 lv st w nx K Rt = (z_la lv 0 (fun x => nx 36 lv (.ref x :: st) w)) := id rfl
theorem sX5_add_36 (lv : zL) (st : List Value) (w : zW) (nx K : Nat → zL → List Value → zW → Prop) (Rt : Option Value → zW → Prop) : z_st1 (tX5_add 36) 36 lv st w nx K Rt = (z_1a st (fun x r => z_ob w x 6 (fun fs => z_fl fs 2 (fun u => nx 39 lv (u :: r) w)))) := id rfl
theorem sX5_add_39 (lv : zL) (st : List Value) (w : zW) (nx K : Nat → zL → List Value → zW → Prop) (Rt : Option Value → zW → Prop) : z_st1 (tX5_add 39) 39 lv st w nx K Rt = (z_li lv 2 (fun x => nx 40 lv (.int x :: st) w)) := id rfl
theorem sX5_add_40 (lv : zL) (st : List Value) (w : zW) (nx K : Nat → zL → List Value → zW → Prop) (Rt : Option Value → zW → Prop) : z_st1 (tX5_add 40) 40 lv st w nx K Rt = (nx 41 lv (.int (0 : Int32) :: st) w) := id rfl
theorem sX5_add_41 (lv : zL) (st : List Value) (w : zW) (nx K : Nat → zL → List Value → zW → Prop) (Rt : Option Value → zW → Prop) : z_st1 (tX5_add 41) 41 lv st w nx K Rt = (z_iia st (fun x i u r => z_ar0 w x (fun m g => vp_in i m ∧ nx 42 lv r (z_up w x (.inl (0, m, .inl (upd g i.toNatClampNeg u))))))) := id rfl
theorem sX5_add_42 (lv : zL) (st : List Value) (w : zW) (nx K : Nat → zL → List Value → zW → Prop) (Rt : Option Value → zW → Prop) : z_st1 (tX5_add 42) 42 lv st w nx K Rt = (z_li lv 2 (fun x => nx 43 lv (.int x :: st) w)) := id rfl
theorem sX5_add_43 (lv : zL) (st : List Value) (w : zW) (nx K : Nat → zL → List Value → zW → Prop) (Rt : Option Value → zW → Prop) : z_st1 (tX5_add 43) 43 lv st w nx K Rt = (z_e1 st (fun x => Rt (some (.int x)) w)) := id rfl

def tmX5_addCopy (pc : Nat) : zI := match pc with
  | 0 => (0, 2, 0, 1, 0)
  | 1 => (36, 12, 0, 4, 0)
  | 4 => (0, 2, 0, 5, 0)
  | 5 => (1, 1, 0, 6, 0)
  | 6 => (46, 6, 4, 9, 0)
  | 9 => (42, 14, 0, 12, 0)
  | 12 => (6, 0, 0, 13, (-1))
  | 13 => (53, 0, 0, 14, 0)
  | 14 => (1, 0, 0, 15, 0)
  | 15 => (1, 1, 0, 16, 0)
  | 16 => (46, 6, 1, 19, 0)
  | 19 => (0, 2, 0, 20, 0)
  | 20 => (48, 0, 0, 21, 0)
  | 24 => (3, 3, 0, 25, 0)
  | 25 => (0, 3, 0, 26, 0)
  | 26 => (6, 0, 0, 27, (-1))
  | 27 => (40, 67, 0, 30, 0)
  | 30 => (1, 0, 0, 31, 0)
  | 31 => (46, 6, 2, 34, 0)
  | 34 => (0, 3, 0, 35, 0)
  | 35 => (1, 1, 0, 36, 0)
  | 36 => (46, 6, 2, 39, 0)
  | 39 => (0, 2, 0, 40, 0)
  | 40 => (48, 0, 0, 41, 0)
  | 41 => (49, 0, 0, 42, 0)
  | 42 => (1, 1, 0, 43, 0)
  | 43 => (46, 6, 3, 46, 0)
  | 46 => (0, 2, 0, 47, 0)
  | 47 => (6, 0, 0, 49, 32)
  | 49 => (10, 0, 0, 50, 0)
  | 50 => (1, 0, 0, 51, 0)
  | 51 => (46, 6, 3, 54, 0)
  | 54 => (0, 3, 0, 55, 0)
  | 55 => (6, 0, 0, 57, 32)
  | 57 => (10, 0, 0, 58, 0)
  | 58 => (1, 0, 0, 59, 0)
  | 59 => (46, 6, 2, 62, 0)
  | 62 => (0, 3, 0, 63, 0)
  | 63 => (48, 0, 0, 64, 0)
  | 67 => (0, 3, 0, 68, 0)
  | 68 => (53, 0, 0, 69, 0)
  | _ => (99, 0, 0, 0, 0)
def tX5_addCopy (pc : Nat) : zI := if pc < 69 then tmX5_addCopy pc else (99, 0, 0, 0, 0)
theorem tkX5_addCopy : z_tab RX5 wsX5_addCopy 4 (some .int) cX5_addCopy 69 tX5_addCopy := z_tab_of (tm := tmX5_addCopy) (by decide +kernel)
theorem sX5_addCopy_0 (lv : zL) (st : List Value) (w : zW) (nx K : Nat → zL → List Value → zW → Prop) (Rt : Option Value → zW → Prop) : z_st1 (tX5_addCopy 0) 0 lv st w nx K Rt = (z_li lv 2 (fun x => nx 1 lv (.int x :: st) w)) := id rfl
theorem sX5_addCopy_1 (lv : zL) (st : List Value) (w : zW) (nx K : Nat → zL → List Value → zW → Prop) (Rt : Option Value → zW → Prop) : z_st1 (tX5_addCopy 1) 1 lv st w nx K Rt = (z_1i st (fun x r => (x < 0 → nx 12 lv r w) ∧ (¬ x < 0 → nx 4 lv r w))) := id rfl
theorem sX5_addCopy_4 (lv : zL) (st : List Value) (w : zW) (nx K : Nat → zL → List Value → zW → Prop) (Rt : Option Value → zW → Prop) : z_st1 (tX5_addCopy 4) 4 lv st w nx K Rt = (z_li lv 2 (fun x => nx 5 lv (.int x :: st) w)) := id rfl
theorem sX5_addCopy_5 (lv : zL) (st : List Value) (w : zW) (nx K : Nat → zL → List Value → zW → Prop) (Rt : Option Value → zW → Prop) : z_st1 (tX5_addCopy 5) 5 lv st w nx K Rt = (z_la lv 1 (fun x => nx 6 lv (.ref x :: st) w)) := id rfl
theorem sX5_addCopy_6 (lv : zL) (st : List Value) (w : zW) (nx K : Nat → zL → List Value → zW → Prop) (Rt : Option Value → zW → Prop) : z_st1 (tX5_addCopy 6) 6 lv st w nx K Rt = (z_1a st (fun x r => z_ob w x 6 (fun fs => z_fl fs 4 (fun u => nx 9 lv (u :: r) w)))) := id rfl
theorem sX5_addCopy_9 (lv : zL) (st : List Value) (w : zW) (nx K : Nat → zL → List Value → zW → Prop) (Rt : Option Value → zW → Prop) : z_st1 (tX5_addCopy 9) 9 lv st w nx K Rt = (z_2i st (fun x y r => (x < y → nx 14 lv r w) ∧ (¬ x < y → nx 12 lv r w))) := id rfl
theorem sX5_addCopy_12 (lv : zL) (st : List Value) (w : zW) (nx K : Nat → zL → List Value → zW → Prop) (Rt : Option Value → zW → Prop) : z_st1 (tX5_addCopy 12) 12 lv st w nx K Rt = (nx 13 lv (.int (-1 : Int32) :: st) w) := id rfl
theorem sX5_addCopy_13 (lv : zL) (st : List Value) (w : zW) (nx K : Nat → zL → List Value → zW → Prop) (Rt : Option Value → zW → Prop) : z_st1 (tX5_addCopy 13) 13 lv st w nx K Rt = (z_e1 st (fun x => Rt (some (.int x)) w)) := id rfl
theorem sX5_addCopy_14 (lv : zL) (st : List Value) (w : zW) (nx K : Nat → zL → List Value → zW → Prop) (Rt : Option Value → zW → Prop) : z_st1 (tX5_addCopy 14) 14 lv st w nx K Rt = (z_la lv 0 (fun x => nx 15 lv (.ref x :: st) w)) := id rfl
theorem sX5_addCopy_15 (lv : zL) (st : List Value) (w : zW) (nx K : Nat → zL → List Value → zW → Prop) (Rt : Option Value → zW → Prop) : z_st1 (tX5_addCopy 15) 15 lv st w nx K Rt = (z_la lv 1 (fun x => nx 16 lv (.ref x :: st) w)) := id rfl
theorem sX5_addCopy_16 (lv : zL) (st : List Value) (w : zW) (nx K : Nat → zL → List Value → zW → Prop) (Rt : Option Value → zW → Prop) : z_st1 (tX5_addCopy 16) 16 lv st w nx K Rt = (z_1a st (fun x r => z_ob w x 6 (fun fs => z_fl fs 1 (fun u => nx 19 lv (u :: r) w)))) := id rfl
theorem sX5_addCopy_19 (lv : zL) (st : List Value) (w : zW) (nx K : Nat → zL → List Value → zW → Prop) (Rt : Option Value → zW → Prop) : z_st1 (tX5_addCopy 19) 19 lv st w nx K Rt = (z_li lv 2 (fun x => nx 20 lv (.int x :: st) w)) := id rfl
theorem sX5_addCopy_20 (lv : zL) (st : List Value) (w : zW) (nx K : Nat → zL → List Value → zW → Prop) (Rt : Option Value → zW → Prop) : z_st1 (tX5_addCopy 20) 20 lv st w nx K Rt = (z_ia st (fun x i r => z_ar0 w x (fun m g => vp_in i m ∧ nx 21 lv (.int (g i.toNatClampNeg) :: r) w))) := id rfl
theorem sX5_addCopy_24 (lv : zL) (st : List Value) (w : zW) (nx K : Nat → zL → List Value → zW → Prop) (Rt : Option Value → zW → Prop) : z_st1 (tX5_addCopy 24) 24 lv st w nx K Rt = (z_1i st (fun x r => z_ok1 lv 3 = true ∧ nx 25 (lv.set 3 (some (.int x))) r w)) := id rfl
theorem sX5_addCopy_25 (lv : zL) (st : List Value) (w : zW) (nx K : Nat → zL → List Value → zW → Prop) (Rt : Option Value → zW → Prop) : z_st1 (tX5_addCopy 25) 25 lv st w nx K Rt = (z_li lv 3 (fun x => nx 26 lv (.int x :: st) w)) := id rfl
theorem sX5_addCopy_26 (lv : zL) (st : List Value) (w : zW) (nx K : Nat → zL → List Value → zW → Prop) (Rt : Option Value → zW → Prop) : z_st1 (tX5_addCopy 26) 26 lv st w nx K Rt = (nx 27 lv (.int (-1 : Int32) :: st) w) := id rfl
theorem sX5_addCopy_27 (lv : zL) (st : List Value) (w : zW) (nx K : Nat → zL → List Value → zW → Prop) (Rt : Option Value → zW → Prop) : z_st1 (tX5_addCopy 27) 27 lv st w nx K Rt = (z_2i st (fun x y r => (x = y → nx 67 lv r w) ∧ (¬ x = y → nx 30 lv r w))) := id rfl
theorem sX5_addCopy_30 (lv : zL) (st : List Value) (w : zW) (nx K : Nat → zL → List Value → zW → Prop) (Rt : Option Value → zW → Prop) : z_st1 (tX5_addCopy 30) 30 lv st w nx K Rt = (z_la lv 0 (fun x => nx 31 lv (.ref x :: st) w)) := id rfl
theorem sX5_addCopy_31 (lv : zL) (st : List Value) (w : zW) (nx K : Nat → zL → List Value → zW → Prop) (Rt : Option Value → zW → Prop) : z_st1 (tX5_addCopy 31) 31 lv st w nx K Rt = (z_1a st (fun x r => z_ob w x 6 (fun fs => z_fl fs 2 (fun u => nx 34 lv (u :: r) w)))) := id rfl
theorem sX5_addCopy_34 (lv : zL) (st : List Value) (w : zW) (nx K : Nat → zL → List Value → zW → Prop) (Rt : Option Value → zW → Prop) : z_st1 (tX5_addCopy 34) 34 lv st w nx K Rt = (z_li lv 3 (fun x => nx 35 lv (.int x :: st) w)) := id rfl
theorem sX5_addCopy_35 (lv : zL) (st : List Value) (w : zW) (nx K : Nat → zL → List Value → zW → Prop) (Rt : Option Value → zW → Prop) : z_st1 (tX5_addCopy 35) 35 lv st w nx K Rt = (z_la lv 1 (fun x => nx 36 lv (.ref x :: st) w)) := id rfl
theorem sX5_addCopy_36 (lv : zL) (st : List Value) (w : zW) (nx K : Nat → zL → List Value → zW → Prop) (Rt : Option Value → zW → Prop) : z_st1 (tX5_addCopy 36) 36 lv st w nx K Rt = (z_1a st (fun x r => z_ob w x 6 (fun fs => z_fl fs 2 (fun u => nx 39 lv (u :: r) w)))) := id rfl
theorem sX5_addCopy_39 (lv : zL) (st : List Value) (w : zW) (nx K : Nat → zL → List Value → zW → Prop) (Rt : Option Value → zW → Prop) : z_st1 (tX5_addCopy 39) 39 lv st w nx K Rt = (z_li lv 2 (fun x => nx 40 lv (.int x :: st) w)) := id rfl
theorem sX5_addCopy_40 (lv : zL) (st : List Value) (w : zW) (nx K : Nat → zL → List Value → zW → Prop) (Rt : Option Value → zW → Prop) : z_st1 (tX5_addCopy 40) 40 lv st w nx K Rt = (z_ia st (fun x i r => z_ar0 w x (fun m g => vp_in i m ∧ nx 41 lv (.int (g i.toNatClampNeg) :: r) w))) := id rfl
theorem sX5_addCopy_41 (lv : zL) (st : List Value) (w : zW) (nx K : Nat → zL → List Value → zW → Prop) (Rt : Option Value → zW → Prop) : z_st1 (tX5_addCopy 41) 41 lv st w nx K Rt = (z_iia st (fun x i u r => z_ar0 w x (fun m g => vp_in i m ∧ nx 42 lv r (z_up w x (.inl (0, m, .inl (upd g i.toNatClampNeg u))))))) := id rfl
theorem sX5_addCopy_42 (lv : zL) (st : List Value) (w : zW) (nx K : Nat → zL → List Value → zW → Prop) (Rt : Option Value → zW → Prop) : z_st1 (tX5_addCopy 42) 42 lv st w nx K Rt = (z_la lv 1 (fun x => nx 43 lv (.ref x :: st) w)) := id rfl
theorem sX5_addCopy_43 (lv : zL) (st : List Value) (w : zW) (nx K : Nat → zL → List Value → zW → Prop) (Rt : Option Value → zW → Prop) : z_st1 (tX5_addCopy 43) 43 lv st w nx K Rt = (z_1a st (fun x r => z_ob w x 6 (fun fs => z_fl fs 3 (fun u => nx 46 lv (u :: r) w)))) := id rfl
theorem sX5_addCopy_46 (lv : zL) (st : List Value) (w : zW) (nx K : Nat → zL → List Value → zW → Prop) (Rt : Option Value → zW → Prop) : z_st1 (tX5_addCopy 46) 46 lv st w nx K Rt = (z_li lv 2 (fun x => nx 47 lv (.int x :: st) w)) := id rfl
theorem sX5_addCopy_47 (lv : zL) (st : List Value) (w : zW) (nx K : Nat → zL → List Value → zW → Prop) (Rt : Option Value → zW → Prop) : z_st1 (tX5_addCopy 47) 47 lv st w nx K Rt = (nx 49 lv (.int (32 : Int32) :: st) w) := id rfl
theorem sX5_addCopy_49 (lv : zL) (st : List Value) (w : zW) (nx K : Nat → zL → List Value → zW → Prop) (Rt : Option Value → zW → Prop) : z_st1 (tX5_addCopy 49) 49 lv st w nx K Rt = (z_2i st (fun x y r => nx 50 lv (.int (x * y) :: r) w)) := id rfl
theorem sX5_addCopy_50 (lv : zL) (st : List Value) (w : zW) (nx K : Nat → zL → List Value → zW → Prop) (Rt : Option Value → zW → Prop) : z_st1 (tX5_addCopy 50) 50 lv st w nx K Rt = (z_la lv 0 (fun x => nx 51 lv (.ref x :: st) w)) := id rfl
theorem sX5_addCopy_51 (lv : zL) (st : List Value) (w : zW) (nx K : Nat → zL → List Value → zW → Prop) (Rt : Option Value → zW → Prop) : z_st1 (tX5_addCopy 51) 51 lv st w nx K Rt = (z_1a st (fun x r => z_ob w x 6 (fun fs => z_fl fs 3 (fun u => nx 54 lv (u :: r) w)))) := id rfl
theorem sX5_addCopy_54 (lv : zL) (st : List Value) (w : zW) (nx K : Nat → zL → List Value → zW → Prop) (Rt : Option Value → zW → Prop) : z_st1 (tX5_addCopy 54) 54 lv st w nx K Rt = (z_li lv 3 (fun x => nx 55 lv (.int x :: st) w)) := id rfl
theorem sX5_addCopy_55 (lv : zL) (st : List Value) (w : zW) (nx K : Nat → zL → List Value → zW → Prop) (Rt : Option Value → zW → Prop) : z_st1 (tX5_addCopy 55) 55 lv st w nx K Rt = (nx 57 lv (.int (32 : Int32) :: st) w) := id rfl
theorem sX5_addCopy_57 (lv : zL) (st : List Value) (w : zW) (nx K : Nat → zL → List Value → zW → Prop) (Rt : Option Value → zW → Prop) : z_st1 (tX5_addCopy 57) 57 lv st w nx K Rt = (z_2i st (fun x y r => nx 58 lv (.int (x * y) :: r) w)) := id rfl
theorem sX5_addCopy_58 (lv : zL) (st : List Value) (w : zW) (nx K : Nat → zL → List Value → zW → Prop) (Rt : Option Value → zW → Prop) : z_st1 (tX5_addCopy 58) 58 lv st w nx K Rt = (z_la lv 0 (fun x => nx 59 lv (.ref x :: st) w)) := id rfl
theorem sX5_addCopy_59 (lv : zL) (st : List Value) (w : zW) (nx K : Nat → zL → List Value → zW → Prop) (Rt : Option Value → zW → Prop) : z_st1 (tX5_addCopy 59) 59 lv st w nx K Rt = (z_1a st (fun x r => z_ob w x 6 (fun fs => z_fl fs 2 (fun u => nx 62 lv (u :: r) w)))) := id rfl
theorem sX5_addCopy_62 (lv : zL) (st : List Value) (w : zW) (nx K : Nat → zL → List Value → zW → Prop) (Rt : Option Value → zW → Prop) : z_st1 (tX5_addCopy 62) 62 lv st w nx K Rt = (z_li lv 3 (fun x => nx 63 lv (.int x :: st) w)) := id rfl
theorem sX5_addCopy_63 (lv : zL) (st : List Value) (w : zW) (nx K : Nat → zL → List Value → zW → Prop) (Rt : Option Value → zW → Prop) : z_st1 (tX5_addCopy 63) 63 lv st w nx K Rt = (z_ia st (fun x i r => z_ar0 w x (fun m g => vp_in i m ∧ nx 64 lv (.int (g i.toNatClampNeg) :: r) w))) := id rfl
theorem sX5_addCopy_67 (lv : zL) (st : List Value) (w : zW) (nx K : Nat → zL → List Value → zW → Prop) (Rt : Option Value → zW → Prop) : z_st1 (tX5_addCopy 67) 67 lv st w nx K Rt = (z_li lv 3 (fun x => nx 68 lv (.int x :: st) w)) := id rfl
theorem sX5_addCopy_68 (lv : zL) (st : List Value) (w : zW) (nx K : Nat → zL → List Value → zW → Prop) (Rt : Option Value → zW → Prop) : z_st1 (tX5_addCopy 68) 68 lv st w nx K Rt = (z_e1 st (fun x => Rt (some (.int x)) w)) := id rfl
theorem sX5_addCopy_21 (lv : zL) (st : List Value) (w : zW) (nx K : Nat → zL → List Value → zW → Prop) (Rt : Option Value → zW → Prop) : z_st1 (tX5_addCopy 21) 21 lv st w nx K Rt = K 21 lv st w := id rfl
theorem sX5_addCopy_64 (lv : zL) (st : List Value) (w : zW) (nx K : Nat → zL → List Value → zW → Prop) (Rt : Option Value → zW → Prop) : z_st1 (tX5_addCopy 64) 64 lv st w nx K Rt = K 64 lv st w := id rfl
theorem dX5_addCopy_21 : decode cX5_addCopy 21 = .ok (.invokevirtual 37, 3) := by decide +kernel
theorem dX5_addCopy_64 : decode cX5_addCopy 64 = .ok (.invokestatic 41, 3) := by decide +kernel

def tmX5_numberOf (pc : Nat) : zI := match pc with
  | 0 => (0, 1, 0, 1, 0)
  | 1 => (36, 12, 0, 4, 0)
  | 4 => (0, 1, 0, 5, 0)
  | 5 => (1, 0, 0, 6, 0)
  | 6 => (46, 6, 4, 9, 0)
  | 9 => (42, 16, 0, 12, 0)
  | 12 => (6, 0, 0, 13, 0)
  | 13 => (33, 22, 0, 16, 0)
  | 16 => (1, 0, 0, 17, 0)
  | 17 => (46, 6, 1, 20, 0)
  | 20 => (0, 1, 0, 21, 0)
  | 21 => (48, 0, 0, 22, 0)
  | 22 => (53, 0, 0, 23, 0)
  | _ => (99, 0, 0, 0, 0)
def tX5_numberOf (pc : Nat) : zI := if pc < 23 then tmX5_numberOf pc else (99, 0, 0, 0, 0)
theorem tkX5_numberOf : z_tab RX5 wsX5_numberOf 2 (some .int) cX5_numberOf 23 tX5_numberOf := z_tab_of (tm := tmX5_numberOf) (by decide +kernel)
theorem sX5_numberOf_0 (lv : zL) (st : List Value) (w : zW) (nx K : Nat → zL → List Value → zW → Prop) (Rt : Option Value → zW → Prop) : z_st1 (tX5_numberOf 0) 0 lv st w nx K Rt = (z_li lv 1 (fun x => nx 1 lv (.int x :: st) w)) := id rfl
theorem sX5_numberOf_1 (lv : zL) (st : List Value) (w : zW) (nx K : Nat → zL → List Value → zW → Prop) (Rt : Option Value → zW → Prop) : z_st1 (tX5_numberOf 1) 1 lv st w nx K Rt = (z_1i st (fun x r => (x < 0 → nx 12 lv r w) ∧ (¬ x < 0 → nx 4 lv r w))) := id rfl
theorem sX5_numberOf_4 (lv : zL) (st : List Value) (w : zW) (nx K : Nat → zL → List Value → zW → Prop) (Rt : Option Value → zW → Prop) : z_st1 (tX5_numberOf 4) 4 lv st w nx K Rt = (z_li lv 1 (fun x => nx 5 lv (.int x :: st) w)) := id rfl
theorem sX5_numberOf_5 (lv : zL) (st : List Value) (w : zW) (nx K : Nat → zL → List Value → zW → Prop) (Rt : Option Value → zW → Prop) : z_st1 (tX5_numberOf 5) 5 lv st w nx K Rt = (z_la lv 0 (fun x => nx 6 lv (.ref x :: st) w)) := id rfl
theorem sX5_numberOf_6 (lv : zL) (st : List Value) (w : zW) (nx K : Nat → zL → List Value → zW → Prop) (Rt : Option Value → zW → Prop) : z_st1 (tX5_numberOf 6) 6 lv st w nx K Rt = (z_1a st (fun x r => z_ob w x 6 (fun fs => z_fl fs 4 (fun u => nx 9 lv (u :: r) w)))) := id rfl
theorem sX5_numberOf_9 (lv : zL) (st : List Value) (w : zW) (nx K : Nat → zL → List Value → zW → Prop) (Rt : Option Value → zW → Prop) : z_st1 (tX5_numberOf 9) 9 lv st w nx K Rt = (z_2i st (fun x y r => (x < y → nx 16 lv r w) ∧ (¬ x < y → nx 12 lv r w))) := id rfl
theorem sX5_numberOf_12 (lv : zL) (st : List Value) (w : zW) (nx K : Nat → zL → List Value → zW → Prop) (Rt : Option Value → zW → Prop) : z_st1 (tX5_numberOf 12) 12 lv st w nx K Rt = (nx 13 lv (.int (0 : Int32) :: st) w) := id rfl
theorem sX5_numberOf_13 (lv : zL) (st : List Value) (w : zW) (nx K : Nat → zL → List Value → zW → Prop) (Rt : Option Value → zW → Prop) : z_st1 (tX5_numberOf 13) 13 lv st w nx K Rt = (nx 22 lv st w) := id rfl
theorem sX5_numberOf_16 (lv : zL) (st : List Value) (w : zW) (nx K : Nat → zL → List Value → zW → Prop) (Rt : Option Value → zW → Prop) : z_st1 (tX5_numberOf 16) 16 lv st w nx K Rt = (z_la lv 0 (fun x => nx 17 lv (.ref x :: st) w)) := id rfl
theorem sX5_numberOf_17 (lv : zL) (st : List Value) (w : zW) (nx K : Nat → zL → List Value → zW → Prop) (Rt : Option Value → zW → Prop) : z_st1 (tX5_numberOf 17) 17 lv st w nx K Rt = (z_1a st (fun x r => z_ob w x 6 (fun fs => z_fl fs 1 (fun u => nx 20 lv (u :: r) w)))) := id rfl
theorem sX5_numberOf_20 (lv : zL) (st : List Value) (w : zW) (nx K : Nat → zL → List Value → zW → Prop) (Rt : Option Value → zW → Prop) : z_st1 (tX5_numberOf 20) 20 lv st w nx K Rt = (z_li lv 1 (fun x => nx 21 lv (.int x :: st) w)) := id rfl
theorem sX5_numberOf_21 (lv : zL) (st : List Value) (w : zW) (nx K : Nat → zL → List Value → zW → Prop) (Rt : Option Value → zW → Prop) : z_st1 (tX5_numberOf 21) 21 lv st w nx K Rt = (z_ia st (fun x i r => z_ar0 w x (fun m g => vp_in i m ∧ nx 22 lv (.int (g i.toNatClampNeg) :: r) w))) := id rfl
theorem sX5_numberOf_22 (lv : zL) (st : List Value) (w : zW) (nx K : Nat → zL → List Value → zW → Prop) (Rt : Option Value → zW → Prop) : z_st1 (tX5_numberOf 22) 22 lv st w nx K Rt = (z_e1 st (fun x => Rt (some (.int x)) w)) := id rfl

def tmX5_lengthOf (pc : Nat) : zI := match pc with
  | 0 => (0, 1, 0, 1, 0)
  | 1 => (36, 12, 0, 4, 0)
  | 4 => (0, 1, 0, 5, 0)
  | 5 => (1, 0, 0, 6, 0)
  | 6 => (46, 6, 4, 9, 0)
  | 9 => (42, 16, 0, 12, 0)
  | 12 => (6, 0, 0, 13, 0)
  | 13 => (33, 22, 0, 16, 0)
  | 16 => (1, 0, 0, 17, 0)
  | 17 => (46, 6, 2, 20, 0)
  | 20 => (0, 1, 0, 21, 0)
  | 21 => (48, 0, 0, 22, 0)
  | 22 => (53, 0, 0, 23, 0)
  | _ => (99, 0, 0, 0, 0)
def tX5_lengthOf (pc : Nat) : zI := if pc < 23 then tmX5_lengthOf pc else (99, 0, 0, 0, 0)
theorem tkX5_lengthOf : z_tab RX5 wsX5_lengthOf 2 (some .int) cX5_lengthOf 23 tX5_lengthOf := z_tab_of (tm := tmX5_lengthOf) (by decide +kernel)
theorem sX5_lengthOf_0 (lv : zL) (st : List Value) (w : zW) (nx K : Nat → zL → List Value → zW → Prop) (Rt : Option Value → zW → Prop) : z_st1 (tX5_lengthOf 0) 0 lv st w nx K Rt = (z_li lv 1 (fun x => nx 1 lv (.int x :: st) w)) := id rfl
theorem sX5_lengthOf_1 (lv : zL) (st : List Value) (w : zW) (nx K : Nat → zL → List Value → zW → Prop) (Rt : Option Value → zW → Prop) : z_st1 (tX5_lengthOf 1) 1 lv st w nx K Rt = (z_1i st (fun x r => (x < 0 → nx 12 lv r w) ∧ (¬ x < 0 → nx 4 lv r w))) := id rfl
theorem sX5_lengthOf_4 (lv : zL) (st : List Value) (w : zW) (nx K : Nat → zL → List Value → zW → Prop) (Rt : Option Value → zW → Prop) : z_st1 (tX5_lengthOf 4) 4 lv st w nx K Rt = (z_li lv 1 (fun x => nx 5 lv (.int x :: st) w)) := id rfl
theorem sX5_lengthOf_5 (lv : zL) (st : List Value) (w : zW) (nx K : Nat → zL → List Value → zW → Prop) (Rt : Option Value → zW → Prop) : z_st1 (tX5_lengthOf 5) 5 lv st w nx K Rt = (z_la lv 0 (fun x => nx 6 lv (.ref x :: st) w)) := id rfl
theorem sX5_lengthOf_6 (lv : zL) (st : List Value) (w : zW) (nx K : Nat → zL → List Value → zW → Prop) (Rt : Option Value → zW → Prop) : z_st1 (tX5_lengthOf 6) 6 lv st w nx K Rt = (z_1a st (fun x r => z_ob w x 6 (fun fs => z_fl fs 4 (fun u => nx 9 lv (u :: r) w)))) := id rfl
theorem sX5_lengthOf_9 (lv : zL) (st : List Value) (w : zW) (nx K : Nat → zL → List Value → zW → Prop) (Rt : Option Value → zW → Prop) : z_st1 (tX5_lengthOf 9) 9 lv st w nx K Rt = (z_2i st (fun x y r => (x < y → nx 16 lv r w) ∧ (¬ x < y → nx 12 lv r w))) := id rfl
theorem sX5_lengthOf_12 (lv : zL) (st : List Value) (w : zW) (nx K : Nat → zL → List Value → zW → Prop) (Rt : Option Value → zW → Prop) : z_st1 (tX5_lengthOf 12) 12 lv st w nx K Rt = (nx 13 lv (.int (0 : Int32) :: st) w) := id rfl
theorem sX5_lengthOf_13 (lv : zL) (st : List Value) (w : zW) (nx K : Nat → zL → List Value → zW → Prop) (Rt : Option Value → zW → Prop) : z_st1 (tX5_lengthOf 13) 13 lv st w nx K Rt = (nx 22 lv st w) := id rfl
theorem sX5_lengthOf_16 (lv : zL) (st : List Value) (w : zW) (nx K : Nat → zL → List Value → zW → Prop) (Rt : Option Value → zW → Prop) : z_st1 (tX5_lengthOf 16) 16 lv st w nx K Rt = (z_la lv 0 (fun x => nx 17 lv (.ref x :: st) w)) := id rfl
theorem sX5_lengthOf_17 (lv : zL) (st : List Value) (w : zW) (nx K : Nat → zL → List Value → zW → Prop) (Rt : Option Value → zW → Prop) : z_st1 (tX5_lengthOf 17) 17 lv st w nx K Rt = (z_1a st (fun x r => z_ob w x 6 (fun fs => z_fl fs 2 (fun u => nx 20 lv (u :: r) w)))) := id rfl
theorem sX5_lengthOf_20 (lv : zL) (st : List Value) (w : zW) (nx K : Nat → zL → List Value → zW → Prop) (Rt : Option Value → zW → Prop) : z_st1 (tX5_lengthOf 20) 20 lv st w nx K Rt = (z_li lv 1 (fun x => nx 21 lv (.int x :: st) w)) := id rfl
theorem sX5_lengthOf_21 (lv : zL) (st : List Value) (w : zW) (nx K : Nat → zL → List Value → zW → Prop) (Rt : Option Value → zW → Prop) : z_st1 (tX5_lengthOf 21) 21 lv st w nx K Rt = (z_ia st (fun x i r => z_ar0 w x (fun m g => vp_in i m ∧ nx 22 lv (.int (g i.toNatClampNeg) :: r) w))) := id rfl
theorem sX5_lengthOf_22 (lv : zL) (st : List Value) (w : zW) (nx K : Nat → zL → List Value → zW → Prop) (Rt : Option Value → zW → Prop) : z_st1 (tX5_lengthOf 22) 22 lv st w nx K Rt = (z_e1 st (fun x => Rt (some (.int x)) w)) := id rfl

def tmX5_byteAt (pc : Nat) : zI := match pc with
  | 0 => (0, 1, 0, 1, 0)
  | 1 => (36, 26, 0, 4, 0)
  | 4 => (0, 1, 0, 5, 0)
  | 5 => (1, 0, 0, 6, 0)
  | 6 => (46, 6, 4, 9, 0)
  | 9 => (43, 26, 0, 12, 0)
  | 12 => (0, 2, 0, 13, 0)
  | 13 => (36, 26, 0, 16, 0)
  | 16 => (0, 2, 0, 17, 0)
  | 17 => (1, 0, 0, 18, 0)
  | 18 => (46, 6, 2, 21, 0)
  | 21 => (0, 1, 0, 22, 0)
  | 22 => (48, 0, 0, 23, 0)
  | 23 => (42, 28, 0, 26, 0)
  | 26 => (6, 0, 0, 27, 0)
  | 27 => (53, 0, 0, 28, 0)
  | 28 => (1, 0, 0, 29, 0)
  | 29 => (46, 6, 3, 32, 0)
  | 32 => (0, 1, 0, 33, 0)
  | 33 => (6, 0, 0, 35, 32)
  | 35 => (10, 0, 0, 36, 0)
  | 36 => (0, 2, 0, 37, 0)
  | 37 => (8, 0, 0, 38, 0)
  | 38 => (48, 0, 0, 39, 0)
  | 39 => (53, 0, 0, 40, 0)
  | _ => (99, 0, 0, 0, 0)
def tX5_byteAt (pc : Nat) : zI := if pc < 40 then tmX5_byteAt pc else (99, 0, 0, 0, 0)
theorem tkX5_byteAt : z_tab RX5 wsX5_byteAt 3 (some .int) cX5_byteAt 40 tX5_byteAt := z_tab_of (tm := tmX5_byteAt) (by decide +kernel)
theorem sX5_byteAt_0 (lv : zL) (st : List Value) (w : zW) (nx K : Nat → zL → List Value → zW → Prop) (Rt : Option Value → zW → Prop) : z_st1 (tX5_byteAt 0) 0 lv st w nx K Rt = (z_li lv 1 (fun x => nx 1 lv (.int x :: st) w)) := id rfl
theorem sX5_byteAt_1 (lv : zL) (st : List Value) (w : zW) (nx K : Nat → zL → List Value → zW → Prop) (Rt : Option Value → zW → Prop) : z_st1 (tX5_byteAt 1) 1 lv st w nx K Rt = (z_1i st (fun x r => (x < 0 → nx 26 lv r w) ∧ (¬ x < 0 → nx 4 lv r w))) := id rfl
theorem sX5_byteAt_4 (lv : zL) (st : List Value) (w : zW) (nx K : Nat → zL → List Value → zW → Prop) (Rt : Option Value → zW → Prop) : z_st1 (tX5_byteAt 4) 4 lv st w nx K Rt = (z_li lv 1 (fun x => nx 5 lv (.int x :: st) w)) := id rfl
theorem sX5_byteAt_5 (lv : zL) (st : List Value) (w : zW) (nx K : Nat → zL → List Value → zW → Prop) (Rt : Option Value → zW → Prop) : z_st1 (tX5_byteAt 5) 5 lv st w nx K Rt = (z_la lv 0 (fun x => nx 6 lv (.ref x :: st) w)) := id rfl
theorem sX5_byteAt_6 (lv : zL) (st : List Value) (w : zW) (nx K : Nat → zL → List Value → zW → Prop) (Rt : Option Value → zW → Prop) : z_st1 (tX5_byteAt 6) 6 lv st w nx K Rt = (z_1a st (fun x r => z_ob w x 6 (fun fs => z_fl fs 4 (fun u => nx 9 lv (u :: r) w)))) := id rfl
theorem sX5_byteAt_9 (lv : zL) (st : List Value) (w : zW) (nx K : Nat → zL → List Value → zW → Prop) (Rt : Option Value → zW → Prop) : z_st1 (tX5_byteAt 9) 9 lv st w nx K Rt = (z_2i st (fun x y r => (y ≤ x → nx 26 lv r w) ∧ (¬ y ≤ x → nx 12 lv r w))) := id rfl
theorem sX5_byteAt_12 (lv : zL) (st : List Value) (w : zW) (nx K : Nat → zL → List Value → zW → Prop) (Rt : Option Value → zW → Prop) : z_st1 (tX5_byteAt 12) 12 lv st w nx K Rt = (z_li lv 2 (fun x => nx 13 lv (.int x :: st) w)) := id rfl
theorem sX5_byteAt_13 (lv : zL) (st : List Value) (w : zW) (nx K : Nat → zL → List Value → zW → Prop) (Rt : Option Value → zW → Prop) : z_st1 (tX5_byteAt 13) 13 lv st w nx K Rt = (z_1i st (fun x r => (x < 0 → nx 26 lv r w) ∧ (¬ x < 0 → nx 16 lv r w))) := id rfl
theorem sX5_byteAt_16 (lv : zL) (st : List Value) (w : zW) (nx K : Nat → zL → List Value → zW → Prop) (Rt : Option Value → zW → Prop) : z_st1 (tX5_byteAt 16) 16 lv st w nx K Rt = (z_li lv 2 (fun x => nx 17 lv (.int x :: st) w)) := id rfl
theorem sX5_byteAt_17 (lv : zL) (st : List Value) (w : zW) (nx K : Nat → zL → List Value → zW → Prop) (Rt : Option Value → zW → Prop) : z_st1 (tX5_byteAt 17) 17 lv st w nx K Rt = (z_la lv 0 (fun x => nx 18 lv (.ref x :: st) w)) := id rfl
theorem sX5_byteAt_18 (lv : zL) (st : List Value) (w : zW) (nx K : Nat → zL → List Value → zW → Prop) (Rt : Option Value → zW → Prop) : z_st1 (tX5_byteAt 18) 18 lv st w nx K Rt = (z_1a st (fun x r => z_ob w x 6 (fun fs => z_fl fs 2 (fun u => nx 21 lv (u :: r) w)))) := id rfl
theorem sX5_byteAt_21 (lv : zL) (st : List Value) (w : zW) (nx K : Nat → zL → List Value → zW → Prop) (Rt : Option Value → zW → Prop) : z_st1 (tX5_byteAt 21) 21 lv st w nx K Rt = (z_li lv 1 (fun x => nx 22 lv (.int x :: st) w)) := id rfl
theorem sX5_byteAt_22 (lv : zL) (st : List Value) (w : zW) (nx K : Nat → zL → List Value → zW → Prop) (Rt : Option Value → zW → Prop) : z_st1 (tX5_byteAt 22) 22 lv st w nx K Rt = (z_ia st (fun x i r => z_ar0 w x (fun m g => vp_in i m ∧ nx 23 lv (.int (g i.toNatClampNeg) :: r) w))) := id rfl
theorem sX5_byteAt_23 (lv : zL) (st : List Value) (w : zW) (nx K : Nat → zL → List Value → zW → Prop) (Rt : Option Value → zW → Prop) : z_st1 (tX5_byteAt 23) 23 lv st w nx K Rt = (z_2i st (fun x y r => (x < y → nx 28 lv r w) ∧ (¬ x < y → nx 26 lv r w))) := id rfl
theorem sX5_byteAt_26 (lv : zL) (st : List Value) (w : zW) (nx K : Nat → zL → List Value → zW → Prop) (Rt : Option Value → zW → Prop) : z_st1 (tX5_byteAt 26) 26 lv st w nx K Rt = (nx 27 lv (.int (0 : Int32) :: st) w) := id rfl
theorem sX5_byteAt_27 (lv : zL) (st : List Value) (w : zW) (nx K : Nat → zL → List Value → zW → Prop) (Rt : Option Value → zW → Prop) : z_st1 (tX5_byteAt 27) 27 lv st w nx K Rt = (z_e1 st (fun x => Rt (some (.int x)) w)) := id rfl
theorem sX5_byteAt_28 (lv : zL) (st : List Value) (w : zW) (nx K : Nat → zL → List Value → zW → Prop) (Rt : Option Value → zW → Prop) : z_st1 (tX5_byteAt 28) 28 lv st w nx K Rt = (z_la lv 0 (fun x => nx 29 lv (.ref x :: st) w)) := id rfl
theorem sX5_byteAt_29 (lv : zL) (st : List Value) (w : zW) (nx K : Nat → zL → List Value → zW → Prop) (Rt : Option Value → zW → Prop) : z_st1 (tX5_byteAt 29) 29 lv st w nx K Rt = (z_1a st (fun x r => z_ob w x 6 (fun fs => z_fl fs 3 (fun u => nx 32 lv (u :: r) w)))) := id rfl
theorem sX5_byteAt_32 (lv : zL) (st : List Value) (w : zW) (nx K : Nat → zL → List Value → zW → Prop) (Rt : Option Value → zW → Prop) : z_st1 (tX5_byteAt 32) 32 lv st w nx K Rt = (z_li lv 1 (fun x => nx 33 lv (.int x :: st) w)) := id rfl
theorem sX5_byteAt_33 (lv : zL) (st : List Value) (w : zW) (nx K : Nat → zL → List Value → zW → Prop) (Rt : Option Value → zW → Prop) : z_st1 (tX5_byteAt 33) 33 lv st w nx K Rt = (nx 35 lv (.int (32 : Int32) :: st) w) := id rfl
theorem sX5_byteAt_35 (lv : zL) (st : List Value) (w : zW) (nx K : Nat → zL → List Value → zW → Prop) (Rt : Option Value → zW → Prop) : z_st1 (tX5_byteAt 35) 35 lv st w nx K Rt = (z_2i st (fun x y r => nx 36 lv (.int (x * y) :: r) w)) := id rfl
theorem sX5_byteAt_36 (lv : zL) (st : List Value) (w : zW) (nx K : Nat → zL → List Value → zW → Prop) (Rt : Option Value → zW → Prop) : z_st1 (tX5_byteAt 36) 36 lv st w nx K Rt = (z_li lv 2 (fun x => nx 37 lv (.int x :: st) w)) := id rfl
theorem sX5_byteAt_37 (lv : zL) (st : List Value) (w : zW) (nx K : Nat → zL → List Value → zW → Prop) (Rt : Option Value → zW → Prop) : z_st1 (tX5_byteAt 37) 37 lv st w nx K Rt = (z_2i st (fun x y r => nx 38 lv (.int (x + y) :: r) w)) := id rfl
theorem sX5_byteAt_38 (lv : zL) (st : List Value) (w : zW) (nx K : Nat → zL → List Value → zW → Prop) (Rt : Option Value → zW → Prop) : z_st1 (tX5_byteAt 38) 38 lv st w nx K Rt = (z_ia st (fun x i r => z_ar0 w x (fun m g => vp_in i m ∧ nx 39 lv (.int (g i.toNatClampNeg) :: r) w))) := id rfl
theorem sX5_byteAt_39 (lv : zL) (st : List Value) (w : zW) (nx K : Nat → zL → List Value → zW → Prop) (Rt : Option Value → zW → Prop) : z_st1 (tX5_byteAt 39) 39 lv st w nx K Rt = (z_e1 st (fun x => Rt (some (.int x)) w)) := id rfl

def tmX5_put (pc : Nat) : zI := match pc with
  | 0 => (0, 1, 0, 1, 0)
  | 1 => (36, 22, 0, 4, 0)
  | 4 => (0, 1, 0, 5, 0)
  | 5 => (1, 0, 0, 6, 0)
  | 6 => (46, 6, 4, 9, 0)
  | 9 => (43, 22, 0, 12, 0)
  | 12 => (0, 2, 0, 13, 0)
  | 13 => (36, 22, 0, 16, 0)
  | 16 => (0, 2, 0, 17, 0)
  | 17 => (6, 0, 0, 19, 32)
  | 19 => (42, 23, 0, 22, 0)
  | 22 => (55, 0, 0, 23, 0)
  | 23 => (0, 1, 0, 24, 0)
  | 24 => (6, 0, 0, 26, 32)
  | 26 => (10, 0, 0, 27, 0)
  | 27 => (3, 4, 0, 29, 0)
  | 29 => (1, 0, 0, 30, 0)
  | 30 => (46, 6, 2, 33, 0)
  | 33 => (0, 1, 0, 34, 0)
  | 34 => (48, 0, 0, 35, 0)
  | 35 => (3, 5, 0, 37, 0)
  | 37 => (0, 5, 0, 39, 0)
  | 39 => (0, 2, 0, 40, 0)
  | 40 => (43, 60, 0, 43, 0)
  | 43 => (1, 0, 0, 44, 0)
  | 44 => (46, 6, 3, 47, 0)
  | 47 => (0, 4, 0, 49, 0)
  | 49 => (0, 5, 0, 51, 0)
  | 51 => (8, 0, 0, 52, 0)
  | 52 => (6, 0, 0, 53, 0)
  | 53 => (49, 0, 0, 54, 0)
  | 54 => (7, 5, 0, 57, 1)
  | 57 => (33, 37, 0, 60, 0)
  | 60 => (1, 0, 0, 61, 0)
  | 61 => (46, 6, 3, 64, 0)
  | 64 => (0, 4, 0, 66, 0)
  | 66 => (0, 2, 0, 67, 0)
  | 67 => (8, 0, 0, 68, 0)
  | 68 => (0, 3, 0, 69, 0)
  | 69 => (49, 0, 0, 70, 0)
  | 70 => (1, 0, 0, 71, 0)
  | 71 => (46, 6, 2, 74, 0)
  | 74 => (0, 1, 0, 75, 0)
  | 75 => (1, 0, 0, 76, 0)
  | 76 => (46, 6, 2, 79, 0)
  | 79 => (0, 1, 0, 80, 0)
  | 80 => (48, 0, 0, 81, 0)
  | 81 => (0, 2, 0, 82, 0)
  | 82 => (6, 0, 0, 83, 1)
  | 83 => (8, 0, 0, 84, 0)
  | 87 => (49, 0, 0, 88, 0)
  | 88 => (55, 0, 0, 89, 0)
  | _ => (99, 0, 0, 0, 0)
def tX5_put (pc : Nat) : zI := if pc < 89 then tmX5_put pc else (99, 0, 0, 0, 0)
theorem tkX5_put : z_tab RX5 wsX5_put 6 none cX5_put 89 tX5_put := z_tab_of (tm := tmX5_put) (by decide +kernel)
theorem sX5_put_0 (lv : zL) (st : List Value) (w : zW) (nx K : Nat → zL → List Value → zW → Prop) (Rt : Option Value → zW → Prop) : z_st1 (tX5_put 0) 0 lv st w nx K Rt = (z_li lv 1 (fun x => nx 1 lv (.int x :: st) w)) := id rfl
theorem sX5_put_1 (lv : zL) (st : List Value) (w : zW) (nx K : Nat → zL → List Value → zW → Prop) (Rt : Option Value → zW → Prop) : z_st1 (tX5_put 1) 1 lv st w nx K Rt = (z_1i st (fun x r => (x < 0 → nx 22 lv r w) ∧ (¬ x < 0 → nx 4 lv r w))) := id rfl
theorem sX5_put_4 (lv : zL) (st : List Value) (w : zW) (nx K : Nat → zL → List Value → zW → Prop) (Rt : Option Value → zW → Prop) : z_st1 (tX5_put 4) 4 lv st w nx K Rt = (z_li lv 1 (fun x => nx 5 lv (.int x :: st) w)) := id rfl
theorem sX5_put_5 (lv : zL) (st : List Value) (w : zW) (nx K : Nat → zL → List Value → zW → Prop) (Rt : Option Value → zW → Prop) : z_st1 (tX5_put 5) 5 lv st w nx K Rt = (z_la lv 0 (fun x => nx 6 lv (.ref x :: st) w)) := id rfl
theorem sX5_put_6 (lv : zL) (st : List Value) (w : zW) (nx K : Nat → zL → List Value → zW → Prop) (Rt : Option Value → zW → Prop) : z_st1 (tX5_put 6) 6 lv st w nx K Rt = (z_1a st (fun x r => z_ob w x 6 (fun fs => z_fl fs 4 (fun u => nx 9 lv (u :: r) w)))) := id rfl
theorem sX5_put_9 (lv : zL) (st : List Value) (w : zW) (nx K : Nat → zL → List Value → zW → Prop) (Rt : Option Value → zW → Prop) : z_st1 (tX5_put 9) 9 lv st w nx K Rt = (z_2i st (fun x y r => (y ≤ x → nx 22 lv r w) ∧ (¬ y ≤ x → nx 12 lv r w))) := id rfl
theorem sX5_put_12 (lv : zL) (st : List Value) (w : zW) (nx K : Nat → zL → List Value → zW → Prop) (Rt : Option Value → zW → Prop) : z_st1 (tX5_put 12) 12 lv st w nx K Rt = (z_li lv 2 (fun x => nx 13 lv (.int x :: st) w)) := id rfl
theorem sX5_put_13 (lv : zL) (st : List Value) (w : zW) (nx K : Nat → zL → List Value → zW → Prop) (Rt : Option Value → zW → Prop) : z_st1 (tX5_put 13) 13 lv st w nx K Rt = (z_1i st (fun x r => (x < 0 → nx 22 lv r w) ∧ (¬ x < 0 → nx 16 lv r w))) := id rfl
theorem sX5_put_16 (lv : zL) (st : List Value) (w : zW) (nx K : Nat → zL → List Value → zW → Prop) (Rt : Option Value → zW → Prop) : z_st1 (tX5_put 16) 16 lv st w nx K Rt = (z_li lv 2 (fun x => nx 17 lv (.int x :: st) w)) := id rfl
theorem sX5_put_17 (lv : zL) (st : List Value) (w : zW) (nx K : Nat → zL → List Value → zW → Prop) (Rt : Option Value → zW → Prop) : z_st1 (tX5_put 17) 17 lv st w nx K Rt = (nx 19 lv (.int (32 : Int32) :: st) w) := id rfl
theorem sX5_put_19 (lv : zL) (st : List Value) (w : zW) (nx K : Nat → zL → List Value → zW → Prop) (Rt : Option Value → zW → Prop) : z_st1 (tX5_put 19) 19 lv st w nx K Rt = (z_2i st (fun x y r => (x < y → nx 23 lv r w) ∧ (¬ x < y → nx 22 lv r w))) := id rfl
theorem sX5_put_22 (lv : zL) (st : List Value) (w : zW) (nx K : Nat → zL → List Value → zW → Prop) (Rt : Option Value → zW → Prop) : z_st1 (tX5_put 22) 22 lv st w nx K Rt = (z_e0 st (Rt none w)) := id rfl
theorem sX5_put_23 (lv : zL) (st : List Value) (w : zW) (nx K : Nat → zL → List Value → zW → Prop) (Rt : Option Value → zW → Prop) : z_st1 (tX5_put 23) 23 lv st w nx K Rt = (z_li lv 1 (fun x => nx 24 lv (.int x :: st) w)) := id rfl
theorem sX5_put_24 (lv : zL) (st : List Value) (w : zW) (nx K : Nat → zL → List Value → zW → Prop) (Rt : Option Value → zW → Prop) : z_st1 (tX5_put 24) 24 lv st w nx K Rt = (nx 26 lv (.int (32 : Int32) :: st) w) := id rfl
theorem sX5_put_26 (lv : zL) (st : List Value) (w : zW) (nx K : Nat → zL → List Value → zW → Prop) (Rt : Option Value → zW → Prop) : z_st1 (tX5_put 26) 26 lv st w nx K Rt = (z_2i st (fun x y r => nx 27 lv (.int (x * y) :: r) w)) := id rfl
theorem sX5_put_27 (lv : zL) (st : List Value) (w : zW) (nx K : Nat → zL → List Value → zW → Prop) (Rt : Option Value → zW → Prop) : z_st1 (tX5_put 27) 27 lv st w nx K Rt = (z_1i st (fun x r => z_ok1 lv 4 = true ∧ nx 29 (lv.set 4 (some (.int x))) r w)) := id rfl
theorem sX5_put_29 (lv : zL) (st : List Value) (w : zW) (nx K : Nat → zL → List Value → zW → Prop) (Rt : Option Value → zW → Prop) : z_st1 (tX5_put 29) 29 lv st w nx K Rt = (z_la lv 0 (fun x => nx 30 lv (.ref x :: st) w)) := id rfl
theorem sX5_put_30 (lv : zL) (st : List Value) (w : zW) (nx K : Nat → zL → List Value → zW → Prop) (Rt : Option Value → zW → Prop) : z_st1 (tX5_put 30) 30 lv st w nx K Rt = (z_1a st (fun x r => z_ob w x 6 (fun fs => z_fl fs 2 (fun u => nx 33 lv (u :: r) w)))) := id rfl
theorem sX5_put_33 (lv : zL) (st : List Value) (w : zW) (nx K : Nat → zL → List Value → zW → Prop) (Rt : Option Value → zW → Prop) : z_st1 (tX5_put 33) 33 lv st w nx K Rt = (z_li lv 1 (fun x => nx 34 lv (.int x :: st) w)) := id rfl
theorem sX5_put_34 (lv : zL) (st : List Value) (w : zW) (nx K : Nat → zL → List Value → zW → Prop) (Rt : Option Value → zW → Prop) : z_st1 (tX5_put 34) 34 lv st w nx K Rt = (z_ia st (fun x i r => z_ar0 w x (fun m g => vp_in i m ∧ nx 35 lv (.int (g i.toNatClampNeg) :: r) w))) := id rfl
theorem sX5_put_35 (lv : zL) (st : List Value) (w : zW) (nx K : Nat → zL → List Value → zW → Prop) (Rt : Option Value → zW → Prop) : z_st1 (tX5_put 35) 35 lv st w nx K Rt = (z_1i st (fun x r => z_ok1 lv 5 = true ∧ nx 37 (lv.set 5 (some (.int x))) r w)) := id rfl
theorem sX5_put_37 (lv : zL) (st : List Value) (w : zW) (nx K : Nat → zL → List Value → zW → Prop) (Rt : Option Value → zW → Prop) : z_st1 (tX5_put 37) 37 lv st w nx K Rt = (z_li lv 5 (fun x => nx 39 lv (.int x :: st) w)) := id rfl
theorem sX5_put_39 (lv : zL) (st : List Value) (w : zW) (nx K : Nat → zL → List Value → zW → Prop) (Rt : Option Value → zW → Prop) : z_st1 (tX5_put 39) 39 lv st w nx K Rt = (z_li lv 2 (fun x => nx 40 lv (.int x :: st) w)) := id rfl
theorem sX5_put_40 (lv : zL) (st : List Value) (w : zW) (nx K : Nat → zL → List Value → zW → Prop) (Rt : Option Value → zW → Prop) : z_st1 (tX5_put 40) 40 lv st w nx K Rt = (z_2i st (fun x y r => (y ≤ x → nx 60 lv r w) ∧ (¬ y ≤ x → nx 43 lv r w))) := id rfl
theorem sX5_put_43 (lv : zL) (st : List Value) (w : zW) (nx K : Nat → zL → List Value → zW → Prop) (Rt : Option Value → zW → Prop) : z_st1 (tX5_put 43) 43 lv st w nx K Rt = (z_la lv 0 (fun x => nx 44 lv (.ref x :: st) w)) := id rfl
theorem sX5_put_44 (lv : zL) (st : List Value) (w : zW) (nx K : Nat → zL → List Value → zW → Prop) (Rt : Option Value → zW → Prop) : z_st1 (tX5_put 44) 44 lv st w nx K Rt = (z_1a st (fun x r => z_ob w x 6 (fun fs => z_fl fs 3 (fun u => nx 47 lv (u :: r) w)))) := id rfl
theorem sX5_put_47 (lv : zL) (st : List Value) (w : zW) (nx K : Nat → zL → List Value → zW → Prop) (Rt : Option Value → zW → Prop) : z_st1 (tX5_put 47) 47 lv st w nx K Rt = (z_li lv 4 (fun x => nx 49 lv (.int x :: st) w)) := id rfl
theorem sX5_put_49 (lv : zL) (st : List Value) (w : zW) (nx K : Nat → zL → List Value → zW → Prop) (Rt : Option Value → zW → Prop) : z_st1 (tX5_put 49) 49 lv st w nx K Rt = (z_li lv 5 (fun x => nx 51 lv (.int x :: st) w)) := id rfl
theorem sX5_put_51 (lv : zL) (st : List Value) (w : zW) (nx K : Nat → zL → List Value → zW → Prop) (Rt : Option Value → zW → Prop) : z_st1 (tX5_put 51) 51 lv st w nx K Rt = (z_2i st (fun x y r => nx 52 lv (.int (x + y) :: r) w)) := id rfl
theorem sX5_put_52 (lv : zL) (st : List Value) (w : zW) (nx K : Nat → zL → List Value → zW → Prop) (Rt : Option Value → zW → Prop) : z_st1 (tX5_put 52) 52 lv st w nx K Rt = (nx 53 lv (.int (0 : Int32) :: st) w) := id rfl
theorem sX5_put_53 (lv : zL) (st : List Value) (w : zW) (nx K : Nat → zL → List Value → zW → Prop) (Rt : Option Value → zW → Prop) : z_st1 (tX5_put 53) 53 lv st w nx K Rt = (z_iia st (fun x i u r => z_ar0 w x (fun m g => vp_in i m ∧ nx 54 lv r (z_up w x (.inl (0, m, .inl (upd g i.toNatClampNeg u))))))) := id rfl
theorem sX5_put_54 (lv : zL) (st : List Value) (w : zW) (nx K : Nat → zL → List Value → zW → Prop) (Rt : Option Value → zW → Prop) : z_st1 (tX5_put 54) 54 lv st w nx K Rt = (z_li lv 5 (fun x => z_ok1 lv 5 = true ∧ nx 57 (lv.set 5 (some (.int (x + (1 : Int32))))) st w)) := id rfl
theorem sX5_put_57 (lv : zL) (st : List Value) (w : zW) (nx K : Nat → zL → List Value → zW → Prop) (Rt : Option Value → zW → Prop) : z_st1 (tX5_put 57) 57 lv st w nx K Rt = (nx 37 lv st w) := id rfl
theorem sX5_put_60 (lv : zL) (st : List Value) (w : zW) (nx K : Nat → zL → List Value → zW → Prop) (Rt : Option Value → zW → Prop) : z_st1 (tX5_put 60) 60 lv st w nx K Rt = (z_la lv 0 (fun x => nx 61 lv (.ref x :: st) w)) := id rfl
theorem sX5_put_61 (lv : zL) (st : List Value) (w : zW) (nx K : Nat → zL → List Value → zW → Prop) (Rt : Option Value → zW → Prop) : z_st1 (tX5_put 61) 61 lv st w nx K Rt = (z_1a st (fun x r => z_ob w x 6 (fun fs => z_fl fs 3 (fun u => nx 64 lv (u :: r) w)))) := id rfl
theorem sX5_put_64 (lv : zL) (st : List Value) (w : zW) (nx K : Nat → zL → List Value → zW → Prop) (Rt : Option Value → zW → Prop) : z_st1 (tX5_put 64) 64 lv st w nx K Rt = (z_li lv 4 (fun x => nx 66 lv (.int x :: st) w)) := id rfl
theorem sX5_put_66 (lv : zL) (st : List Value) (w : zW) (nx K : Nat → zL → List Value → zW → Prop) (Rt : Option Value → zW → Prop) : z_st1 (tX5_put 66) 66 lv st w nx K Rt = (z_li lv 2 (fun x => nx 67 lv (.int x :: st) w)) := id rfl
theorem sX5_put_67 (lv : zL) (st : List Value) (w : zW) (nx K : Nat → zL → List Value → zW → Prop) (Rt : Option Value → zW → Prop) : z_st1 (tX5_put 67) 67 lv st w nx K Rt = (z_2i st (fun x y r => nx 68 lv (.int (x + y) :: r) w)) := id rfl
theorem sX5_put_68 (lv : zL) (st : List Value) (w : zW) (nx K : Nat → zL → List Value → zW → Prop) (Rt : Option Value → zW → Prop) : z_st1 (tX5_put 68) 68 lv st w nx K Rt = (z_li lv 3 (fun x => nx 69 lv (.int x :: st) w)) := id rfl
theorem sX5_put_69 (lv : zL) (st : List Value) (w : zW) (nx K : Nat → zL → List Value → zW → Prop) (Rt : Option Value → zW → Prop) : z_st1 (tX5_put 69) 69 lv st w nx K Rt = (z_iia st (fun x i u r => z_ar0 w x (fun m g => vp_in i m ∧ nx 70 lv r (z_up w x (.inl (0, m, .inl (upd g i.toNatClampNeg u))))))) := id rfl
theorem sX5_put_70 (lv : zL) (st : List Value) (w : zW) (nx K : Nat → zL → List Value → zW → Prop) (Rt : Option Value → zW → Prop) : z_st1 (tX5_put 70) 70 lv st w nx K Rt = (z_la lv 0 (fun x => nx 71 lv (.ref x :: st) w)) := id rfl
theorem sX5_put_71 (lv : zL) (st : List Value) (w : zW) (nx K : Nat → zL → List Value → zW → Prop) (Rt : Option Value → zW → Prop) : z_st1 (tX5_put 71) 71 lv st w nx K Rt = (z_1a st (fun x r => z_ob w x 6 (fun fs => z_fl fs 2 (fun u => nx 74 lv (u :: r) w)))) := id rfl
theorem sX5_put_74 (lv : zL) (st : List Value) (w : zW) (nx K : Nat → zL → List Value → zW → Prop) (Rt : Option Value → zW → Prop) : z_st1 (tX5_put 74) 74 lv st w nx K Rt = (z_li lv 1 (fun x => nx 75 lv (.int x :: st) w)) := id rfl
theorem sX5_put_75 (lv : zL) (st : List Value) (w : zW) (nx K : Nat → zL → List Value → zW → Prop) (Rt : Option Value → zW → Prop) : z_st1 (tX5_put 75) 75 lv st w nx K Rt = (z_la lv 0 (fun x => nx 76 lv (.ref x :: st) w)) := id rfl
theorem sX5_put_76 (lv : zL) (st : List Value) (w : zW) (nx K : Nat → zL → List Value → zW → Prop) (Rt : Option Value → zW → Prop) : z_st1 (tX5_put 76) 76 lv st w nx K Rt = (z_1a st (fun x r => z_ob w x 6 (fun fs => z_fl fs 2 (fun u => nx 79 lv (u :: r) w)))) := id rfl
theorem sX5_put_79 (lv : zL) (st : List Value) (w : zW) (nx K : Nat → zL → List Value → zW → Prop) (Rt : Option Value → zW → Prop) : z_st1 (tX5_put 79) 79 lv st w nx K Rt = (z_li lv 1 (fun x => nx 80 lv (.int x :: st) w)) := id rfl
theorem sX5_put_80 (lv : zL) (st : List Value) (w : zW) (nx K : Nat → zL → List Value → zW → Prop) (Rt : Option Value → zW → Prop) : z_st1 (tX5_put 80) 80 lv st w nx K Rt = (z_ia st (fun x i r => z_ar0 w x (fun m g => vp_in i m ∧ nx 81 lv (.int (g i.toNatClampNeg) :: r) w))) := id rfl
theorem sX5_put_81 (lv : zL) (st : List Value) (w : zW) (nx K : Nat → zL → List Value → zW → Prop) (Rt : Option Value → zW → Prop) : z_st1 (tX5_put 81) 81 lv st w nx K Rt = (z_li lv 2 (fun x => nx 82 lv (.int x :: st) w)) := id rfl
theorem sX5_put_82 (lv : zL) (st : List Value) (w : zW) (nx K : Nat → zL → List Value → zW → Prop) (Rt : Option Value → zW → Prop) : z_st1 (tX5_put 82) 82 lv st w nx K Rt = (nx 83 lv (.int (1 : Int32) :: st) w) := id rfl
theorem sX5_put_83 (lv : zL) (st : List Value) (w : zW) (nx K : Nat → zL → List Value → zW → Prop) (Rt : Option Value → zW → Prop) : z_st1 (tX5_put 83) 83 lv st w nx K Rt = (z_2i st (fun x y r => nx 84 lv (.int (x + y) :: r) w)) := id rfl
theorem sX5_put_87 (lv : zL) (st : List Value) (w : zW) (nx K : Nat → zL → List Value → zW → Prop) (Rt : Option Value → zW → Prop) : z_st1 (tX5_put 87) 87 lv st w nx K Rt = (z_iia st (fun x i u r => z_ar0 w x (fun m g => vp_in i m ∧ nx 88 lv r (z_up w x (.inl (0, m, .inl (upd g i.toNatClampNeg u))))))) := id rfl
theorem sX5_put_88 (lv : zL) (st : List Value) (w : zW) (nx K : Nat → zL → List Value → zW → Prop) (Rt : Option Value → zW → Prop) : z_st1 (tX5_put 88) 88 lv st w nx K Rt = (z_e0 st (Rt none w)) := id rfl
theorem sX5_put_84 (lv : zL) (st : List Value) (w : zW) (nx K : Nat → zL → List Value → zW → Prop) (Rt : Option Value → zW → Prop) : z_st1 (tX5_put 84) 84 lv st w nx K Rt = K 84 lv st w := id rfl
theorem dX5_put_84 : decode cX5_put 84 = .ok (.invokestatic 9, 3) := by decide +kernel

def tmX6_init (pc : Nat) : zI := match pc with
  | 0 => (1, 0, 0, 1, 0)
  | 4 => (1, 0, 0, 5, 0)
  | 5 => (6, 0, 0, 6, 4)
  | 11 => (1, 0, 0, 12, 0)
  | 12 => (6, 0, 0, 13, 4)
  | 18 => (1, 0, 0, 19, 0)
  | 19 => (6, 0, 0, 21, 32)
  | 26 => (55, 0, 0, 27, 0)
  | _ => (99, 0, 0, 0, 0)
def tX6_init (pc : Nat) : zI := if pc < 27 then tmX6_init pc else (99, 0, 0, 0, 0)
theorem tkX6_init : z_tab RX6 wsX6_init 1 none cX6_init 27 tX6_init := z_tab_of (tm := tmX6_init) (by decide +kernel)
theorem sX6_init_0 (lv : zL) (st : List Value) (w : zW) (nx K : Nat → zL → List Value → zW → Prop) (Rt : Option Value → zW → Prop) : z_st1 (tX6_init 0) 0 lv st w nx K Rt = (z_la lv 0 (fun x => nx 1 lv (.ref x :: st) w)) := id rfl
theorem sX6_init_4 (lv : zL) (st : List Value) (w : zW) (nx K : Nat → zL → List Value → zW → Prop) (Rt : Option Value → zW → Prop) : z_st1 (tX6_init 4) 4 lv st w nx K Rt = (z_la lv 0 (fun x => nx 5 lv (.ref x :: st) w)) := id rfl
theorem sX6_init_5 (lv : zL) (st : List Value) (w : zW) (nx K : Nat → zL → List Value → zW → Prop) (Rt : Option Value → zW → Prop) : z_st1 (tX6_init 5) 5 lv st w nx K Rt = (nx 6 lv (.int (4 : Int32) :: st) w) := id rfl
theorem sX6_init_11 (lv : zL) (st : List Value) (w : zW) (nx K : Nat → zL → List Value → zW → Prop) (Rt : Option Value → zW → Prop) : z_st1 (tX6_init 11) 11 lv st w nx K Rt = (z_la lv 0 (fun x => nx 12 lv (.ref x :: st) w)) := id rfl
theorem sX6_init_12 (lv : zL) (st : List Value) (w : zW) (nx K : Nat → zL → List Value → zW → Prop) (Rt : Option Value → zW → Prop) : z_st1 (tX6_init 12) 12 lv st w nx K Rt = (nx 13 lv (.int (4 : Int32) :: st) w) := id rfl
theorem sX6_init_18 (lv : zL) (st : List Value) (w : zW) (nx K : Nat → zL → List Value → zW → Prop) (Rt : Option Value → zW → Prop) : z_st1 (tX6_init 18) 18 lv st w nx K Rt = (z_la lv 0 (fun x => nx 19 lv (.ref x :: st) w)) := id rfl
theorem sX6_init_19 (lv : zL) (st : List Value) (w : zW) (nx K : Nat → zL → List Value → zW → Prop) (Rt : Option Value → zW → Prop) : z_st1 (tX6_init 19) 19 lv st w nx K Rt = (nx 21 lv (.int (32 : Int32) :: st) w) := id rfl
theorem sX6_init_26 (lv : zL) (st : List Value) (w : zW) (nx K : Nat → zL → List Value → zW → Prop) (Rt : Option Value → zW → Prop) : z_st1 (tX6_init 26) 26 lv st w nx K Rt = (z_e0 st (Rt none w)) := id rfl
theorem sX6_init_1 (lv : zL) (st : List Value) (w : zW) (nx K : Nat → zL → List Value → zW → Prop) (Rt : Option Value → zW → Prop) : z_st1 (tX6_init 1) 1 lv st w nx K Rt = K 1 lv st w := id rfl
theorem sX6_init_6 (lv : zL) (st : List Value) (w : zW) (nx K : Nat → zL → List Value → zW → Prop) (Rt : Option Value → zW → Prop) : z_st1 (tX6_init 6) 6 lv st w nx K Rt = K 6 lv st w := id rfl
theorem sX6_init_8 (lv : zL) (st : List Value) (w : zW) (nx K : Nat → zL → List Value → zW → Prop) (Rt : Option Value → zW → Prop) : z_st1 (tX6_init 8) 8 lv st w nx K Rt = K 8 lv st w := id rfl
theorem sX6_init_13 (lv : zL) (st : List Value) (w : zW) (nx K : Nat → zL → List Value → zW → Prop) (Rt : Option Value → zW → Prop) : z_st1 (tX6_init 13) 13 lv st w nx K Rt = K 13 lv st w := id rfl
theorem sX6_init_15 (lv : zL) (st : List Value) (w : zW) (nx K : Nat → zL → List Value → zW → Prop) (Rt : Option Value → zW → Prop) : z_st1 (tX6_init 15) 15 lv st w nx K Rt = K 15 lv st w := id rfl
theorem sX6_init_21 (lv : zL) (st : List Value) (w : zW) (nx K : Nat → zL → List Value → zW → Prop) (Rt : Option Value → zW → Prop) : z_st1 (tX6_init 21) 21 lv st w nx K Rt = K 21 lv st w := id rfl
theorem sX6_init_23 (lv : zL) (st : List Value) (w : zW) (nx K : Nat → zL → List Value → zW → Prop) (Rt : Option Value → zW → Prop) : z_st1 (tX6_init 23) 23 lv st w nx K Rt = K 23 lv st w := id rfl
theorem dX6_init_1 : decode cX6_init 1 = .ok (.invokespecial 3, 3) := by decide +kernel
theorem dX6_init_6 : decode cX6_init 6 = .ok (.newarray .int, 2) := by decide +kernel
theorem dX6_init_8 : decode cX6_init 8 = .ok (.putfield 9, 3) := by decide +kernel
theorem dX6_init_13 : decode cX6_init 13 = .ok (.newarray .int, 2) := by decide +kernel
theorem dX6_init_15 : decode cX6_init 15 = .ok (.putfield 15, 3) := by decide +kernel
theorem dX6_init_21 : decode cX6_init 21 = .ok (.newarray .int, 2) := by decide +kernel
theorem dX6_init_23 : decode cX6_init 23 = .ok (.putfield 18, 3) := by decide +kernel

def tmX6_told (pc : Nat) : zI := match pc with
  | 0 => (1, 0, 0, 1, 0)
  | 1 => (46, 7, 3, 4, 0)
  | 4 => (53, 0, 0, 5, 0)
  | _ => (99, 0, 0, 0, 0)
def tX6_told (pc : Nat) : zI := if pc < 5 then tmX6_told pc else (99, 0, 0, 0, 0)
theorem tkX6_told : z_tab RX6 wsX6_told 1 (some .int) cX6_told 5 tX6_told := z_tab_of (tm := tmX6_told) (by decide +kernel)
theorem sX6_told_0 (lv : zL) (st : List Value) (w : zW) (nx K : Nat → zL → List Value → zW → Prop) (Rt : Option Value → zW → Prop) : z_st1 (tX6_told 0) 0 lv st w nx K Rt = (z_la lv 0 (fun x => nx 1 lv (.ref x :: st) w)) := id rfl
theorem sX6_told_1 (lv : zL) (st : List Value) (w : zW) (nx K : Nat → zL → List Value → zW → Prop) (Rt : Option Value → zW → Prop) : z_st1 (tX6_told 1) 1 lv st w nx K Rt = (z_1a st (fun x r => z_ob w x 7 (fun fs => z_fl fs 3 (fun u => nx 4 lv (u :: r) w)))) := id rfl
theorem sX6_told_4 (lv : zL) (st : List Value) (w : zW) (nx K : Nat → zL → List Value → zW → Prop) (Rt : Option Value → zW → Prop) : z_st1 (tX6_told 4) 4 lv st w nx K Rt = (z_e1 st (fun x => Rt (some (.int x)) w)) := id rfl

def tmX6_tell (pc : Nat) : zI := match pc with
  | 0 => (1, 0, 0, 1, 0)
  | 1 => (46, 7, 3, 4, 0)
  | 4 => (6, 0, 0, 5, 4)
  | 5 => (42, 10, 0, 8, 0)
  | 8 => (6, 0, 0, 9, (-1))
  | 9 => (53, 0, 0, 10, 0)
  | 10 => (1, 0, 0, 11, 0)
  | 11 => (46, 7, 0, 14, 0)
  | 14 => (1, 0, 0, 15, 0)
  | 15 => (46, 7, 3, 18, 0)
  | 18 => (0, 1, 0, 19, 0)
  | 19 => (49, 0, 0, 20, 0)
  | 20 => (1, 0, 0, 21, 0)
  | 21 => (46, 7, 1, 24, 0)
  | 24 => (1, 0, 0, 25, 0)
  | 25 => (46, 7, 3, 28, 0)
  | 28 => (0, 2, 0, 29, 0)
  | 29 => (49, 0, 0, 30, 0)
  | 30 => (1, 0, 0, 31, 0)
  | 31 => (29, 0, 0, 32, 0)
  | 32 => (46, 7, 3, 35, 0)
  | 35 => (6, 0, 0, 36, 1)
  | 36 => (8, 0, 0, 37, 0)
  | 37 => (47, 7, 3, 40, 0)
  | 40 => (1, 0, 0, 41, 0)
  | 41 => (46, 7, 3, 44, 0)
  | 44 => (53, 0, 0, 45, 0)
  | _ => (99, 0, 0, 0, 0)
def tX6_tell (pc : Nat) : zI := if pc < 45 then tmX6_tell pc else (99, 0, 0, 0, 0)
theorem tkX6_tell : z_tab RX6 wsX6_tell 3 (some .int) cX6_tell 45 tX6_tell := z_tab_of (tm := tmX6_tell) (by decide +kernel)
theorem sX6_tell_0 (lv : zL) (st : List Value) (w : zW) (nx K : Nat → zL → List Value → zW → Prop) (Rt : Option Value → zW → Prop) : z_st1 (tX6_tell 0) 0 lv st w nx K Rt = (z_la lv 0 (fun x => nx 1 lv (.ref x :: st) w)) := id rfl
theorem sX6_tell_1 (lv : zL) (st : List Value) (w : zW) (nx K : Nat → zL → List Value → zW → Prop) (Rt : Option Value → zW → Prop) : z_st1 (tX6_tell 1) 1 lv st w nx K Rt = (z_1a st (fun x r => z_ob w x 7 (fun fs => z_fl fs 3 (fun u => nx 4 lv (u :: r) w)))) := id rfl
theorem sX6_tell_4 (lv : zL) (st : List Value) (w : zW) (nx K : Nat → zL → List Value → zW → Prop) (Rt : Option Value → zW → Prop) : z_st1 (tX6_tell 4) 4 lv st w nx K Rt = (nx 5 lv (.int (4 : Int32) :: st) w) := id rfl
theorem sX6_tell_5 (lv : zL) (st : List Value) (w : zW) (nx K : Nat → zL → List Value → zW → Prop) (Rt : Option Value → zW → Prop) : z_st1 (tX6_tell 5) 5 lv st w nx K Rt = (z_2i st (fun x y r => (x < y → nx 10 lv r w) ∧ (¬ x < y → nx 8 lv r w))) := id rfl
theorem sX6_tell_8 (lv : zL) (st : List Value) (w : zW) (nx K : Nat → zL → List Value → zW → Prop) (Rt : Option Value → zW → Prop) : z_st1 (tX6_tell 8) 8 lv st w nx K Rt = (nx 9 lv (.int (-1 : Int32) :: st) w) := id rfl
theorem sX6_tell_9 (lv : zL) (st : List Value) (w : zW) (nx K : Nat → zL → List Value → zW → Prop) (Rt : Option Value → zW → Prop) : z_st1 (tX6_tell 9) 9 lv st w nx K Rt = (z_e1 st (fun x => Rt (some (.int x)) w)) := id rfl
theorem sX6_tell_10 (lv : zL) (st : List Value) (w : zW) (nx K : Nat → zL → List Value → zW → Prop) (Rt : Option Value → zW → Prop) : z_st1 (tX6_tell 10) 10 lv st w nx K Rt = (z_la lv 0 (fun x => nx 11 lv (.ref x :: st) w)) := id rfl
theorem sX6_tell_11 (lv : zL) (st : List Value) (w : zW) (nx K : Nat → zL → List Value → zW → Prop) (Rt : Option Value → zW → Prop) : z_st1 (tX6_tell 11) 11 lv st w nx K Rt = (z_1a st (fun x r => z_ob w x 7 (fun fs => z_fl fs 0 (fun u => nx 14 lv (u :: r) w)))) := id rfl
theorem sX6_tell_14 (lv : zL) (st : List Value) (w : zW) (nx K : Nat → zL → List Value → zW → Prop) (Rt : Option Value → zW → Prop) : z_st1 (tX6_tell 14) 14 lv st w nx K Rt = (z_la lv 0 (fun x => nx 15 lv (.ref x :: st) w)) := id rfl
theorem sX6_tell_15 (lv : zL) (st : List Value) (w : zW) (nx K : Nat → zL → List Value → zW → Prop) (Rt : Option Value → zW → Prop) : z_st1 (tX6_tell 15) 15 lv st w nx K Rt = (z_1a st (fun x r => z_ob w x 7 (fun fs => z_fl fs 3 (fun u => nx 18 lv (u :: r) w)))) := id rfl
theorem sX6_tell_18 (lv : zL) (st : List Value) (w : zW) (nx K : Nat → zL → List Value → zW → Prop) (Rt : Option Value → zW → Prop) : z_st1 (tX6_tell 18) 18 lv st w nx K Rt = (z_li lv 1 (fun x => nx 19 lv (.int x :: st) w)) := id rfl
theorem sX6_tell_19 (lv : zL) (st : List Value) (w : zW) (nx K : Nat → zL → List Value → zW → Prop) (Rt : Option Value → zW → Prop) : z_st1 (tX6_tell 19) 19 lv st w nx K Rt = (z_iia st (fun x i u r => z_ar0 w x (fun m g => vp_in i m ∧ nx 20 lv r (z_up w x (.inl (0, m, .inl (upd g i.toNatClampNeg u))))))) := id rfl
theorem sX6_tell_20 (lv : zL) (st : List Value) (w : zW) (nx K : Nat → zL → List Value → zW → Prop) (Rt : Option Value → zW → Prop) : z_st1 (tX6_tell 20) 20 lv st w nx K Rt = (z_la lv 0 (fun x => nx 21 lv (.ref x :: st) w)) := id rfl
theorem sX6_tell_21 (lv : zL) (st : List Value) (w : zW) (nx K : Nat → zL → List Value → zW → Prop) (Rt : Option Value → zW → Prop) : z_st1 (tX6_tell 21) 21 lv st w nx K Rt = (z_1a st (fun x r => z_ob w x 7 (fun fs => z_fl fs 1 (fun u => nx 24 lv (u :: r) w)))) := id rfl
theorem sX6_tell_24 (lv : zL) (st : List Value) (w : zW) (nx K : Nat → zL → List Value → zW → Prop) (Rt : Option Value → zW → Prop) : z_st1 (tX6_tell 24) 24 lv st w nx K Rt = (z_la lv 0 (fun x => nx 25 lv (.ref x :: st) w)) := id rfl
theorem sX6_tell_25 (lv : zL) (st : List Value) (w : zW) (nx K : Nat → zL → List Value → zW → Prop) (Rt : Option Value → zW → Prop) : z_st1 (tX6_tell 25) 25 lv st w nx K Rt = (z_1a st (fun x r => z_ob w x 7 (fun fs => z_fl fs 3 (fun u => nx 28 lv (u :: r) w)))) := id rfl
theorem sX6_tell_28 (lv : zL) (st : List Value) (w : zW) (nx K : Nat → zL → List Value → zW → Prop) (Rt : Option Value → zW → Prop) : z_st1 (tX6_tell 28) 28 lv st w nx K Rt = (z_li lv 2 (fun x => nx 29 lv (.int x :: st) w)) := id rfl
theorem sX6_tell_29 (lv : zL) (st : List Value) (w : zW) (nx K : Nat → zL → List Value → zW → Prop) (Rt : Option Value → zW → Prop) : z_st1 (tX6_tell 29) 29 lv st w nx K Rt = (z_iia st (fun x i u r => z_ar0 w x (fun m g => vp_in i m ∧ nx 30 lv r (z_up w x (.inl (0, m, .inl (upd g i.toNatClampNeg u))))))) := id rfl
theorem sX6_tell_30 (lv : zL) (st : List Value) (w : zW) (nx K : Nat → zL → List Value → zW → Prop) (Rt : Option Value → zW → Prop) : z_st1 (tX6_tell 30) 30 lv st w nx K Rt = (z_la lv 0 (fun x => nx 31 lv (.ref x :: st) w)) := id rfl
theorem sX6_tell_31 (lv : zL) (st : List Value) (w : zW) (nx K : Nat → zL → List Value → zW → Prop) (Rt : Option Value → zW → Prop) : z_st1 (tX6_tell 31) 31 lv st w nx K Rt = (z_d1 st (fun x r => nx 32 lv (x :: x :: r) w)) := id rfl
theorem sX6_tell_32 (lv : zL) (st : List Value) (w : zW) (nx K : Nat → zL → List Value → zW → Prop) (Rt : Option Value → zW → Prop) : z_st1 (tX6_tell 32) 32 lv st w nx K Rt = (z_1a st (fun x r => z_ob w x 7 (fun fs => z_fl fs 3 (fun u => nx 35 lv (u :: r) w)))) := id rfl
theorem sX6_tell_35 (lv : zL) (st : List Value) (w : zW) (nx K : Nat → zL → List Value → zW → Prop) (Rt : Option Value → zW → Prop) : z_st1 (tX6_tell 35) 35 lv st w nx K Rt = (nx 36 lv (.int (1 : Int32) :: st) w) := id rfl
theorem sX6_tell_36 (lv : zL) (st : List Value) (w : zW) (nx K : Nat → zL → List Value → zW → Prop) (Rt : Option Value → zW → Prop) : z_st1 (tX6_tell 36) 36 lv st w nx K Rt = (z_2i st (fun x y r => nx 37 lv (.int (x + y) :: r) w)) := id rfl
theorem sX6_tell_37 (lv : zL) (st : List Value) (w : zW) (nx K : Nat → zL → List Value → zW → Prop) (Rt : Option Value → zW → Prop) : z_st1 (tX6_tell 37) 37 lv st w nx K Rt = (z_ia st (fun x i r => z_ob w x 7 (fun fs => 3 < fs.length ∧ nx 40 lv r (z_up w x (.inr (7, fs.set 3 (.int i))))))) := id rfl
theorem sX6_tell_40 (lv : zL) (st : List Value) (w : zW) (nx K : Nat → zL → List Value → zW → Prop) (Rt : Option Value → zW → Prop) : z_st1 (tX6_tell 40) 40 lv st w nx K Rt = (z_la lv 0 (fun x => nx 41 lv (.ref x :: st) w)) := id rfl
theorem sX6_tell_41 (lv : zL) (st : List Value) (w : zW) (nx K : Nat → zL → List Value → zW → Prop) (Rt : Option Value → zW → Prop) : z_st1 (tX6_tell 41) 41 lv st w nx K Rt = (z_1a st (fun x r => z_ob w x 7 (fun fs => z_fl fs 3 (fun u => nx 44 lv (u :: r) w)))) := id rfl
theorem sX6_tell_44 (lv : zL) (st : List Value) (w : zW) (nx K : Nat → zL → List Value → zW → Prop) (Rt : Option Value → zW → Prop) : z_st1 (tX6_tell 44) 44 lv st w nx K Rt = (z_e1 st (fun x => Rt (some (.int x)) w)) := id rfl

def tmX6_addInto (pc : Nat) : zI := match pc with
  | 0 => (1, 1, 0, 1, 0)
  | 1 => (0, 2, 0, 2, 0)
  | 5 => (6, 0, 0, 7, 32)
  | 10 => (3, 4, 0, 12, 0)
  | 12 => (6, 0, 0, 13, 0)
  | 13 => (3, 5, 0, 15, 0)
  | 15 => (0, 5, 0, 17, 0)
  | 17 => (0, 4, 0, 19, 0)
  | 19 => (43, 42, 0, 22, 0)
  | 22 => (1, 0, 0, 23, 0)
  | 23 => (46, 7, 2, 26, 0)
  | 26 => (0, 5, 0, 28, 0)
  | 28 => (1, 1, 0, 29, 0)
  | 29 => (0, 2, 0, 30, 0)
  | 30 => (0, 5, 0, 32, 0)
  | 35 => (49, 0, 0, 36, 0)
  | 36 => (7, 5, 0, 39, 1)
  | 39 => (33, 15, 0, 42, 0)
  | 42 => (0, 4, 0, 44, 0)
  | 44 => (1, 1, 0, 45, 0)
  | 45 => (0, 3, 0, 46, 0)
  | 52 => (3, 5, 0, 54, 0)
  | 54 => (6, 0, 0, 55, 0)
  | 55 => (3, 6, 0, 57, 0)
  | 57 => (0, 6, 0, 59, 0)
  | 59 => (1, 0, 0, 60, 0)
  | 60 => (46, 7, 3, 63, 0)
  | 63 => (43, 116, 0, 66, 0)
  | 66 => (1, 0, 0, 67, 0)
  | 67 => (46, 7, 0, 70, 0)
  | 70 => (0, 6, 0, 72, 0)
  | 72 => (48, 0, 0, 73, 0)
  | 73 => (1, 0, 0, 74, 0)
  | 74 => (46, 7, 1, 77, 0)
  | 77 => (0, 6, 0, 79, 0)
  | 79 => (48, 0, 0, 80, 0)
  | 80 => (8, 0, 0, 81, 0)
  | 81 => (3, 7, 0, 83, 0)
  | 83 => (0, 7, 0, 85, 0)
  | 85 => (0, 5, 0, 87, 0)
  | 87 => (44, 110, 0, 90, 0)
  | 90 => (1, 0, 0, 91, 0)
  | 91 => (1, 1, 0, 92, 0)
  | 92 => (0, 3, 0, 93, 0)
  | 93 => (1, 0, 0, 94, 0)
  | 94 => (46, 7, 0, 97, 0)
  | 97 => (0, 6, 0, 99, 0)
  | 99 => (48, 0, 0, 100, 0)
  | 100 => (0, 7, 0, 102, 0)
  | 105 => (35, 110, 0, 108, 0)
  | 108 => (6, 0, 0, 109, 0)
  | 109 => (58, 0, 0, 110, 0)
  | 110 => (7, 6, 0, 113, 1)
  | 113 => (33, 57, 0, 116, 0)
  | 116 => (6, 0, 0, 117, 0)
  | 117 => (3, 6, 0, 119, 0)
  | 119 => (0, 6, 0, 121, 0)
  | 121 => (0, 4, 0, 123, 0)
  | 123 => (43, 146, 0, 126, 0)
  | 126 => (1, 1, 0, 127, 0)
  | 127 => (0, 2, 0, 128, 0)
  | 128 => (0, 6, 0, 130, 0)
  | 130 => (1, 0, 0, 131, 0)
  | 131 => (46, 7, 2, 134, 0)
  | 134 => (0, 6, 0, 136, 0)
  | 136 => (48, 0, 0, 137, 0)
  | 140 => (7, 6, 0, 143, 1)
  | 143 => (33, 119, 0, 146, 0)
  | 146 => (6, 0, 0, 147, 1)
  | 147 => (58, 0, 0, 148, 0)
  | _ => (99, 0, 0, 0, 0)
def tX6_addInto (pc : Nat) : zI := if pc < 148 then tmX6_addInto pc else (99, 0, 0, 0, 0)
theorem tkX6_addInto : z_tab RX6 wsX6_addInto 8 (some .boolean) cX6_addInto 148 tX6_addInto := z_tab_of (tm := tmX6_addInto) (by decide +kernel)
theorem sX6_addInto_0 (lv : zL) (st : List Value) (w : zW) (nx K : Nat → zL → List Value → zW → Prop) (Rt : Option Value → zW → Prop) : z_st1 (tX6_addInto 0) 0 lv st w nx K Rt = (z_la lv 1 (fun x => nx 1 lv (.ref x :: st) w)) := id rfl
theorem sX6_addInto_1 (lv : zL) (st : List Value) (w : zW) (nx K : Nat → zL → List Value → zW → Prop) (Rt : Option Value → zW → Prop) : z_st1 (tX6_addInto 1) 1 lv st w nx K Rt = (z_li lv 2 (fun x => nx 2 lv (.int x :: st) w)) := id rfl
theorem sX6_addInto_5 (lv : zL) (st : List Value) (w : zW) (nx K : Nat → zL → List Value → zW → Prop) (Rt : Option Value → zW → Prop) : z_st1 (tX6_addInto 5) 5 lv st w nx K Rt = (nx 7 lv (.int (32 : Int32) :: st) w) := id rfl
theorem sX6_addInto_10 (lv : zL) (st : List Value) (w : zW) (nx K : Nat → zL → List Value → zW → Prop) (Rt : Option Value → zW → Prop) : z_st1 (tX6_addInto 10) 10 lv st w nx K Rt = (z_1i st (fun x r => z_ok1 lv 4 = true ∧ nx 12 (lv.set 4 (some (.int x))) r w)) := id rfl
theorem sX6_addInto_12 (lv : zL) (st : List Value) (w : zW) (nx K : Nat → zL → List Value → zW → Prop) (Rt : Option Value → zW → Prop) : z_st1 (tX6_addInto 12) 12 lv st w nx K Rt = (nx 13 lv (.int (0 : Int32) :: st) w) := id rfl
theorem sX6_addInto_13 (lv : zL) (st : List Value) (w : zW) (nx K : Nat → zL → List Value → zW → Prop) (Rt : Option Value → zW → Prop) : z_st1 (tX6_addInto 13) 13 lv st w nx K Rt = (z_1i st (fun x r => z_ok1 lv 5 = true ∧ nx 15 (lv.set 5 (some (.int x))) r w)) := id rfl
theorem sX6_addInto_15 (lv : zL) (st : List Value) (w : zW) (nx K : Nat → zL → List Value → zW → Prop) (Rt : Option Value → zW → Prop) : z_st1 (tX6_addInto 15) 15 lv st w nx K Rt = (z_li lv 5 (fun x => nx 17 lv (.int x :: st) w)) := id rfl
theorem sX6_addInto_17 (lv : zL) (st : List Value) (w : zW) (nx K : Nat → zL → List Value → zW → Prop) (Rt : Option Value → zW → Prop) : z_st1 (tX6_addInto 17) 17 lv st w nx K Rt = (z_li lv 4 (fun x => nx 19 lv (.int x :: st) w)) := id rfl
theorem sX6_addInto_19 (lv : zL) (st : List Value) (w : zW) (nx K : Nat → zL → List Value → zW → Prop) (Rt : Option Value → zW → Prop) : z_st1 (tX6_addInto 19) 19 lv st w nx K Rt = (z_2i st (fun x y r => (y ≤ x → nx 42 lv r w) ∧ (¬ y ≤ x → nx 22 lv r w))) := id rfl
theorem sX6_addInto_22 (lv : zL) (st : List Value) (w : zW) (nx K : Nat → zL → List Value → zW → Prop) (Rt : Option Value → zW → Prop) : z_st1 (tX6_addInto 22) 22 lv st w nx K Rt = (z_la lv 0 (fun x => nx 23 lv (.ref x :: st) w)) := id rfl
theorem sX6_addInto_23 (lv : zL) (st : List Value) (w : zW) (nx K : Nat → zL → List Value → zW → Prop) (Rt : Option Value → zW → Prop) : z_st1 (tX6_addInto 23) 23 lv st w nx K Rt = (z_1a st (fun x r => z_ob w x 7 (fun fs => z_fl fs 2 (fun u => nx 26 lv (u :: r) w)))) := id rfl
theorem sX6_addInto_26 (lv : zL) (st : List Value) (w : zW) (nx K : Nat → zL → List Value → zW → Prop) (Rt : Option Value → zW → Prop) : z_st1 (tX6_addInto 26) 26 lv st w nx K Rt = (z_li lv 5 (fun x => nx 28 lv (.int x :: st) w)) := id rfl
theorem sX6_addInto_28 (lv : zL) (st : List Value) (w : zW) (nx K : Nat → zL → List Value → zW → Prop) (Rt : Option Value → zW → Prop) : z_st1 (tX6_addInto 28) 28 lv st w nx K Rt = (z_la lv 1 (fun x => nx 29 lv (.ref x :: st) w)) := id rfl
theorem sX6_addInto_29 (lv : zL) (st : List Value) (w : zW) (nx K : Nat → zL → List Value → zW → Prop) (Rt : Option Value → zW → Prop) : z_st1 (tX6_addInto 29) 29 lv st w nx K Rt = (z_li lv 2 (fun x => nx 30 lv (.int x :: st) w)) := id rfl
theorem sX6_addInto_30 (lv : zL) (st : List Value) (w : zW) (nx K : Nat → zL → List Value → zW → Prop) (Rt : Option Value → zW → Prop) : z_st1 (tX6_addInto 30) 30 lv st w nx K Rt = (z_li lv 5 (fun x => nx 32 lv (.int x :: st) w)) := id rfl
theorem sX6_addInto_35 (lv : zL) (st : List Value) (w : zW) (nx K : Nat → zL → List Value → zW → Prop) (Rt : Option Value → zW → Prop) : z_st1 (tX6_addInto 35) 35 lv st w nx K Rt = (z_iia st (fun x i u r => z_ar0 w x (fun m g => vp_in i m ∧ nx 36 lv r (z_up w x (.inl (0, m, .inl (upd g i.toNatClampNeg u))))))) := id rfl
theorem sX6_addInto_36 (lv : zL) (st : List Value) (w : zW) (nx K : Nat → zL → List Value → zW → Prop) (Rt : Option Value → zW → Prop) : z_st1 (tX6_addInto 36) 36 lv st w nx K Rt = (z_li lv 5 (fun x => z_ok1 lv 5 = true ∧ nx 39 (lv.set 5 (some (.int (x + (1 : Int32))))) st w)) := id rfl
theorem sX6_addInto_39 (lv : zL) (st : List Value) (w : zW) (nx K : Nat → zL → List Value → zW → Prop) (Rt : Option Value → zW → Prop) : z_st1 (tX6_addInto 39) 39 lv st w nx K Rt = (nx 15 lv st w) := id rfl
theorem sX6_addInto_42 (lv : zL) (st : List Value) (w : zW) (nx K : Nat → zL → List Value → zW → Prop) (Rt : Option Value → zW → Prop) : z_st1 (tX6_addInto 42) 42 lv st w nx K Rt = (z_li lv 4 (fun x => nx 44 lv (.int x :: st) w)) := id rfl
theorem sX6_addInto_44 (lv : zL) (st : List Value) (w : zW) (nx K : Nat → zL → List Value → zW → Prop) (Rt : Option Value → zW → Prop) : z_st1 (tX6_addInto 44) 44 lv st w nx K Rt = (z_la lv 1 (fun x => nx 45 lv (.ref x :: st) w)) := id rfl
theorem sX6_addInto_45 (lv : zL) (st : List Value) (w : zW) (nx K : Nat → zL → List Value → zW → Prop) (Rt : Option Value → zW → Prop) : z_st1 (tX6_addInto 45) 45 lv st w nx K Rt = (z_li lv 3 (fun x => nx 46 lv (.int x :: st) w)) := id rfl
theorem sX6_addInto_52 (lv : zL) (st : List Value) (w : zW) (nx K : Nat → zL → List Value → zW → Prop) (Rt : Option Value → zW → Prop) : z_st1 (tX6_addInto 52) 52 lv st w nx K Rt = (z_1i st (fun x r => z_ok1 lv 5 = true ∧ nx 54 (lv.set 5 (some (.int x))) r w)) := id rfl
theorem sX6_addInto_54 (lv : zL) (st : List Value) (w : zW) (nx K : Nat → zL → List Value → zW → Prop) (Rt : Option Value → zW → Prop) : z_st1 (tX6_addInto 54) 54 lv st w nx K Rt = (nx 55 lv (.int (0 : Int32) :: st) w) := id rfl
theorem sX6_addInto_55 (lv : zL) (st : List Value) (w : zW) (nx K : Nat → zL → List Value → zW → Prop) (Rt : Option Value → zW → Prop) : z_st1 (tX6_addInto 55) 55 lv st w nx K Rt = (z_1i st (fun x r => z_ok1 lv 6 = true ∧ nx 57 (lv.set 6 (some (.int x))) r w)) := id rfl
theorem sX6_addInto_57 (lv : zL) (st : List Value) (w : zW) (nx K : Nat → zL → List Value → zW → Prop) (Rt : Option Value → zW → Prop) : z_st1 (tX6_addInto 57) 57 lv st w nx K Rt = (z_li lv 6 (fun x => nx 59 lv (.int x :: st) w)) := id rfl
theorem sX6_addInto_59 (lv : zL) (st : List Value) (w : zW) (nx K : Nat → zL → List Value → zW → Prop) (Rt : Option Value → zW → Prop) : z_st1 (tX6_addInto 59) 59 lv st w nx K Rt = (z_la lv 0 (fun x => nx 60 lv (.ref x :: st) w)) := id rfl
theorem sX6_addInto_60 (lv : zL) (st : List Value) (w : zW) (nx K : Nat → zL → List Value → zW → Prop) (Rt : Option Value → zW → Prop) : z_st1 (tX6_addInto 60) 60 lv st w nx K Rt = (z_1a st (fun x r => z_ob w x 7 (fun fs => z_fl fs 3 (fun u => nx 63 lv (u :: r) w)))) := id rfl
theorem sX6_addInto_63 (lv : zL) (st : List Value) (w : zW) (nx K : Nat → zL → List Value → zW → Prop) (Rt : Option Value → zW → Prop) : z_st1 (tX6_addInto 63) 63 lv st w nx K Rt = (z_2i st (fun x y r => (y ≤ x → nx 116 lv r w) ∧ (¬ y ≤ x → nx 66 lv r w))) := id rfl
theorem sX6_addInto_66 (lv : zL) (st : List Value) (w : zW) (nx K : Nat → zL → List Value → zW → Prop) (Rt : Option Value → zW → Prop) : z_st1 (tX6_addInto 66) 66 lv st w nx K Rt = (z_la lv 0 (fun x => nx 67 lv (.ref x :: st) w)) := id rfl
theorem sX6_addInto_67 (lv : zL) (st : List Value) (w : zW) (nx K : Nat → zL → List Value → zW → Prop) (Rt : Option Value → zW → Prop) : z_st1 (tX6_addInto 67) 67 lv st w nx K Rt = (z_1a st (fun x r => z_ob w x 7 (fun fs => z_fl fs 0 (fun u => nx 70 lv (u :: r) w)))) := id rfl
theorem sX6_addInto_70 (lv : zL) (st : List Value) (w : zW) (nx K : Nat → zL → List Value → zW → Prop) (Rt : Option Value → zW → Prop) : z_st1 (tX6_addInto 70) 70 lv st w nx K Rt = (z_li lv 6 (fun x => nx 72 lv (.int x :: st) w)) := id rfl
theorem sX6_addInto_72 (lv : zL) (st : List Value) (w : zW) (nx K : Nat → zL → List Value → zW → Prop) (Rt : Option Value → zW → Prop) : z_st1 (tX6_addInto 72) 72 lv st w nx K Rt = (z_ia st (fun x i r => z_ar0 w x (fun m g => vp_in i m ∧ nx 73 lv (.int (g i.toNatClampNeg) :: r) w))) := id rfl
theorem sX6_addInto_73 (lv : zL) (st : List Value) (w : zW) (nx K : Nat → zL → List Value → zW → Prop) (Rt : Option Value → zW → Prop) : z_st1 (tX6_addInto 73) 73 lv st w nx K Rt = (z_la lv 0 (fun x => nx 74 lv (.ref x :: st) w)) := id rfl
theorem sX6_addInto_74 (lv : zL) (st : List Value) (w : zW) (nx K : Nat → zL → List Value → zW → Prop) (Rt : Option Value → zW → Prop) : z_st1 (tX6_addInto 74) 74 lv st w nx K Rt = (z_1a st (fun x r => z_ob w x 7 (fun fs => z_fl fs 1 (fun u => nx 77 lv (u :: r) w)))) := id rfl
theorem sX6_addInto_77 (lv : zL) (st : List Value) (w : zW) (nx K : Nat → zL → List Value → zW → Prop) (Rt : Option Value → zW → Prop) : z_st1 (tX6_addInto 77) 77 lv st w nx K Rt = (z_li lv 6 (fun x => nx 79 lv (.int x :: st) w)) := id rfl
theorem sX6_addInto_79 (lv : zL) (st : List Value) (w : zW) (nx K : Nat → zL → List Value → zW → Prop) (Rt : Option Value → zW → Prop) : z_st1 (tX6_addInto 79) 79 lv st w nx K Rt = (z_ia st (fun x i r => z_ar0 w x (fun m g => vp_in i m ∧ nx 80 lv (.int (g i.toNatClampNeg) :: r) w))) := id rfl
theorem sX6_addInto_80 (lv : zL) (st : List Value) (w : zW) (nx K : Nat → zL → List Value → zW → Prop) (Rt : Option Value → zW → Prop) : z_st1 (tX6_addInto 80) 80 lv st w nx K Rt = (z_2i st (fun x y r => nx 81 lv (.int (x + y) :: r) w)) := id rfl
theorem sX6_addInto_81 (lv : zL) (st : List Value) (w : zW) (nx K : Nat → zL → List Value → zW → Prop) (Rt : Option Value → zW → Prop) : z_st1 (tX6_addInto 81) 81 lv st w nx K Rt = (z_1i st (fun x r => z_ok1 lv 7 = true ∧ nx 83 (lv.set 7 (some (.int x))) r w)) := id rfl
theorem sX6_addInto_83 (lv : zL) (st : List Value) (w : zW) (nx K : Nat → zL → List Value → zW → Prop) (Rt : Option Value → zW → Prop) : z_st1 (tX6_addInto 83) 83 lv st w nx K Rt = (z_li lv 7 (fun x => nx 85 lv (.int x :: st) w)) := id rfl
theorem sX6_addInto_85 (lv : zL) (st : List Value) (w : zW) (nx K : Nat → zL → List Value → zW → Prop) (Rt : Option Value → zW → Prop) : z_st1 (tX6_addInto 85) 85 lv st w nx K Rt = (z_li lv 5 (fun x => nx 87 lv (.int x :: st) w)) := id rfl
theorem sX6_addInto_87 (lv : zL) (st : List Value) (w : zW) (nx K : Nat → zL → List Value → zW → Prop) (Rt : Option Value → zW → Prop) : z_st1 (tX6_addInto 87) 87 lv st w nx K Rt = (z_2i st (fun x y r => (y < x → nx 110 lv r w) ∧ (¬ y < x → nx 90 lv r w))) := id rfl
theorem sX6_addInto_90 (lv : zL) (st : List Value) (w : zW) (nx K : Nat → zL → List Value → zW → Prop) (Rt : Option Value → zW → Prop) : z_st1 (tX6_addInto 90) 90 lv st w nx K Rt = (z_la lv 0 (fun x => nx 91 lv (.ref x :: st) w)) := id rfl
theorem sX6_addInto_91 (lv : zL) (st : List Value) (w : zW) (nx K : Nat → zL → List Value → zW → Prop) (Rt : Option Value → zW → Prop) : z_st1 (tX6_addInto 91) 91 lv st w nx K Rt = (z_la lv 1 (fun x => nx 92 lv (.ref x :: st) w)) := id rfl
theorem sX6_addInto_92 (lv : zL) (st : List Value) (w : zW) (nx K : Nat → zL → List Value → zW → Prop) (Rt : Option Value → zW → Prop) : z_st1 (tX6_addInto 92) 92 lv st w nx K Rt = (z_li lv 3 (fun x => nx 93 lv (.int x :: st) w)) := id rfl
theorem sX6_addInto_93 (lv : zL) (st : List Value) (w : zW) (nx K : Nat → zL → List Value → zW → Prop) (Rt : Option Value → zW → Prop) : z_st1 (tX6_addInto 93) 93 lv st w nx K Rt = (z_la lv 0 (fun x => nx 94 lv (.ref x :: st) w)) := id rfl
theorem sX6_addInto_94 (lv : zL) (st : List Value) (w : zW) (nx K : Nat → zL → List Value → zW → Prop) (Rt : Option Value → zW → Prop) : z_st1 (tX6_addInto 94) 94 lv st w nx K Rt = (z_1a st (fun x r => z_ob w x 7 (fun fs => z_fl fs 0 (fun u => nx 97 lv (u :: r) w)))) := id rfl
theorem sX6_addInto_97 (lv : zL) (st : List Value) (w : zW) (nx K : Nat → zL → List Value → zW → Prop) (Rt : Option Value → zW → Prop) : z_st1 (tX6_addInto 97) 97 lv st w nx K Rt = (z_li lv 6 (fun x => nx 99 lv (.int x :: st) w)) := id rfl
theorem sX6_addInto_99 (lv : zL) (st : List Value) (w : zW) (nx K : Nat → zL → List Value → zW → Prop) (Rt : Option Value → zW → Prop) : z_st1 (tX6_addInto 99) 99 lv st w nx K Rt = (z_ia st (fun x i r => z_ar0 w x (fun m g => vp_in i m ∧ nx 100 lv (.int (g i.toNatClampNeg) :: r) w))) := id rfl
theorem sX6_addInto_100 (lv : zL) (st : List Value) (w : zW) (nx K : Nat → zL → List Value → zW → Prop) (Rt : Option Value → zW → Prop) : z_st1 (tX6_addInto 100) 100 lv st w nx K Rt = (z_li lv 7 (fun x => nx 102 lv (.int x :: st) w)) := id rfl
theorem sX6_addInto_105 (lv : zL) (st : List Value) (w : zW) (nx K : Nat → zL → List Value → zW → Prop) (Rt : Option Value → zW → Prop) : z_st1 (tX6_addInto 105) 105 lv st w nx K Rt = (z_1i st (fun x r => (¬ x = 0 → nx 110 lv r w) ∧ (x = 0 → nx 108 lv r w))) := id rfl
theorem sX6_addInto_108 (lv : zL) (st : List Value) (w : zW) (nx K : Nat → zL → List Value → zW → Prop) (Rt : Option Value → zW → Prop) : z_st1 (tX6_addInto 108) 108 lv st w nx K Rt = (nx 109 lv (.int (0 : Int32) :: st) w) := id rfl
theorem sX6_addInto_109 (lv : zL) (st : List Value) (w : zW) (nx K : Nat → zL → List Value → zW → Prop) (Rt : Option Value → zW → Prop) : z_st1 (tX6_addInto 109) 109 lv st w nx K Rt = (z_e1 st (fun x => (x = 0 ∨ x = 1) ∧ Rt (some (.int x)) w)) := id rfl
theorem sX6_addInto_110 (lv : zL) (st : List Value) (w : zW) (nx K : Nat → zL → List Value → zW → Prop) (Rt : Option Value → zW → Prop) : z_st1 (tX6_addInto 110) 110 lv st w nx K Rt = (z_li lv 6 (fun x => z_ok1 lv 6 = true ∧ nx 113 (lv.set 6 (some (.int (x + (1 : Int32))))) st w)) := id rfl
theorem sX6_addInto_113 (lv : zL) (st : List Value) (w : zW) (nx K : Nat → zL → List Value → zW → Prop) (Rt : Option Value → zW → Prop) : z_st1 (tX6_addInto 113) 113 lv st w nx K Rt = (nx 57 lv st w) := id rfl
theorem sX6_addInto_116 (lv : zL) (st : List Value) (w : zW) (nx K : Nat → zL → List Value → zW → Prop) (Rt : Option Value → zW → Prop) : z_st1 (tX6_addInto 116) 116 lv st w nx K Rt = (nx 117 lv (.int (0 : Int32) :: st) w) := id rfl
theorem sX6_addInto_117 (lv : zL) (st : List Value) (w : zW) (nx K : Nat → zL → List Value → zW → Prop) (Rt : Option Value → zW → Prop) : z_st1 (tX6_addInto 117) 117 lv st w nx K Rt = (z_1i st (fun x r => z_ok1 lv 6 = true ∧ nx 119 (lv.set 6 (some (.int x))) r w)) := id rfl
theorem sX6_addInto_119 (lv : zL) (st : List Value) (w : zW) (nx K : Nat → zL → List Value → zW → Prop) (Rt : Option Value → zW → Prop) : z_st1 (tX6_addInto 119) 119 lv st w nx K Rt = (z_li lv 6 (fun x => nx 121 lv (.int x :: st) w)) := id rfl
theorem sX6_addInto_121 (lv : zL) (st : List Value) (w : zW) (nx K : Nat → zL → List Value → zW → Prop) (Rt : Option Value → zW → Prop) : z_st1 (tX6_addInto 121) 121 lv st w nx K Rt = (z_li lv 4 (fun x => nx 123 lv (.int x :: st) w)) := id rfl
theorem sX6_addInto_123 (lv : zL) (st : List Value) (w : zW) (nx K : Nat → zL → List Value → zW → Prop) (Rt : Option Value → zW → Prop) : z_st1 (tX6_addInto 123) 123 lv st w nx K Rt = (z_2i st (fun x y r => (y ≤ x → nx 146 lv r w) ∧ (¬ y ≤ x → nx 126 lv r w))) := id rfl
theorem sX6_addInto_126 (lv : zL) (st : List Value) (w : zW) (nx K : Nat → zL → List Value → zW → Prop) (Rt : Option Value → zW → Prop) : z_st1 (tX6_addInto 126) 126 lv st w nx K Rt = (z_la lv 1 (fun x => nx 127 lv (.ref x :: st) w)) := id rfl
theorem sX6_addInto_127 (lv : zL) (st : List Value) (w : zW) (nx K : Nat → zL → List Value → zW → Prop) (Rt : Option Value → zW → Prop) : z_st1 (tX6_addInto 127) 127 lv st w nx K Rt = (z_li lv 2 (fun x => nx 128 lv (.int x :: st) w)) := id rfl
theorem sX6_addInto_128 (lv : zL) (st : List Value) (w : zW) (nx K : Nat → zL → List Value → zW → Prop) (Rt : Option Value → zW → Prop) : z_st1 (tX6_addInto 128) 128 lv st w nx K Rt = (z_li lv 6 (fun x => nx 130 lv (.int x :: st) w)) := id rfl
theorem sX6_addInto_130 (lv : zL) (st : List Value) (w : zW) (nx K : Nat → zL → List Value → zW → Prop) (Rt : Option Value → zW → Prop) : z_st1 (tX6_addInto 130) 130 lv st w nx K Rt = (z_la lv 0 (fun x => nx 131 lv (.ref x :: st) w)) := id rfl
theorem sX6_addInto_131 (lv : zL) (st : List Value) (w : zW) (nx K : Nat → zL → List Value → zW → Prop) (Rt : Option Value → zW → Prop) : z_st1 (tX6_addInto 131) 131 lv st w nx K Rt = (z_1a st (fun x r => z_ob w x 7 (fun fs => z_fl fs 2 (fun u => nx 134 lv (u :: r) w)))) := id rfl
theorem sX6_addInto_134 (lv : zL) (st : List Value) (w : zW) (nx K : Nat → zL → List Value → zW → Prop) (Rt : Option Value → zW → Prop) : z_st1 (tX6_addInto 134) 134 lv st w nx K Rt = (z_li lv 6 (fun x => nx 136 lv (.int x :: st) w)) := id rfl
theorem sX6_addInto_136 (lv : zL) (st : List Value) (w : zW) (nx K : Nat → zL → List Value → zW → Prop) (Rt : Option Value → zW → Prop) : z_st1 (tX6_addInto 136) 136 lv st w nx K Rt = (z_ia st (fun x i r => z_ar0 w x (fun m g => vp_in i m ∧ nx 137 lv (.int (g i.toNatClampNeg) :: r) w))) := id rfl
theorem sX6_addInto_140 (lv : zL) (st : List Value) (w : zW) (nx K : Nat → zL → List Value → zW → Prop) (Rt : Option Value → zW → Prop) : z_st1 (tX6_addInto 140) 140 lv st w nx K Rt = (z_li lv 6 (fun x => z_ok1 lv 6 = true ∧ nx 143 (lv.set 6 (some (.int (x + (1 : Int32))))) st w)) := id rfl
theorem sX6_addInto_143 (lv : zL) (st : List Value) (w : zW) (nx K : Nat → zL → List Value → zW → Prop) (Rt : Option Value → zW → Prop) : z_st1 (tX6_addInto 143) 143 lv st w nx K Rt = (nx 119 lv st w) := id rfl
theorem sX6_addInto_146 (lv : zL) (st : List Value) (w : zW) (nx K : Nat → zL → List Value → zW → Prop) (Rt : Option Value → zW → Prop) : z_st1 (tX6_addInto 146) 146 lv st w nx K Rt = (nx 147 lv (.int (1 : Int32) :: st) w) := id rfl
theorem sX6_addInto_147 (lv : zL) (st : List Value) (w : zW) (nx K : Nat → zL → List Value → zW → Prop) (Rt : Option Value → zW → Prop) : z_st1 (tX6_addInto 147) 147 lv st w nx K Rt = (z_e1 st (fun x => (x = 0 ∨ x = 1) ∧ Rt (some (.int x)) w)) := id rfl
theorem sX6_addInto_2 (lv : zL) (st : List Value) (w : zW) (nx K : Nat → zL → List Value → zW → Prop) (Rt : Option Value → zW → Prop) : z_st1 (tX6_addInto 2) 2 lv st w nx K Rt = K 2 lv st w := id rfl
theorem sX6_addInto_7 (lv : zL) (st : List Value) (w : zW) (nx K : Nat → zL → List Value → zW → Prop) (Rt : Option Value → zW → Prop) : z_st1 (tX6_addInto 7) 7 lv st w nx K Rt = K 7 lv st w := id rfl
theorem sX6_addInto_32 (lv : zL) (st : List Value) (w : zW) (nx K : Nat → zL → List Value → zW → Prop) (Rt : Option Value → zW → Prop) : z_st1 (tX6_addInto 32) 32 lv st w nx K Rt = K 32 lv st w := id rfl
theorem sX6_addInto_46 (lv : zL) (st : List Value) (w : zW) (nx K : Nat → zL → List Value → zW → Prop) (Rt : Option Value → zW → Prop) : z_st1 (tX6_addInto 46) 46 lv st w nx K Rt = K 46 lv st w := id rfl
theorem sX6_addInto_49 (lv : zL) (st : List Value) (w : zW) (nx K : Nat → zL → List Value → zW → Prop) (Rt : Option Value → zW → Prop) : z_st1 (tX6_addInto 49) 49 lv st w nx K Rt = K 49 lv st w := id rfl
theorem sX6_addInto_102 (lv : zL) (st : List Value) (w : zW) (nx K : Nat → zL → List Value → zW → Prop) (Rt : Option Value → zW → Prop) : z_st1 (tX6_addInto 102) 102 lv st w nx K Rt = K 102 lv st w := id rfl
theorem sX6_addInto_137 (lv : zL) (st : List Value) (w : zW) (nx K : Nat → zL → List Value → zW → Prop) (Rt : Option Value → zW → Prop) : z_st1 (tX6_addInto 137) 137 lv st w nx K Rt = K 137 lv st w := id rfl
theorem dX6_addInto_2 : decode cX6_addInto 2 = .ok (.invokevirtual 25, 3) := by decide +kernel
theorem dX6_addInto_7 : decode cX6_addInto 7 = .ok (.invokestatic 31, 3) := by decide +kernel
theorem dX6_addInto_32 : decode cX6_addInto 32 = .ok (.invokevirtual 37, 3) := by decide +kernel
theorem dX6_addInto_46 : decode cX6_addInto 46 = .ok (.invokevirtual 25, 3) := by decide +kernel
theorem dX6_addInto_49 : decode cX6_addInto 49 = .ok (.invokestatic 31, 3) := by decide +kernel
theorem dX6_addInto_102 : decode cX6_addInto 102 = .ok (.invokevirtual 40, 3) := by decide +kernel
theorem dX6_addInto_137 : decode cX6_addInto 137 = .ok (.invokevirtual 44, 3) := by decide +kernel

def tmX6_addField (pc : Nat) : zI := match pc with
  | 0 => (6, 0, 0, 1, 0)
  | 1 => (3, 5, 0, 3, 0)
  | 3 => (0, 4, 0, 5, 0)
  | 5 => (6, 0, 0, 6, 1)
  | 6 => (9, 0, 0, 7, 0)
  | 7 => (3, 6, 0, 9, 0)
  | 9 => (0, 6, 0, 11, 0)
  | 11 => (0, 3, 0, 12, 0)
  | 12 => (42, 61, 0, 15, 0)
  | 15 => (1, 0, 0, 16, 0)
  | 16 => (46, 7, 2, 19, 0)
  | 19 => (0, 6, 0, 21, 0)
  | 21 => (48, 0, 0, 22, 0)
  | 22 => (1, 1, 0, 23, 0)
  | 23 => (0, 2, 0, 24, 0)
  | 24 => (0, 6, 0, 26, 0)
  | 29 => (8, 0, 0, 30, 0)
  | 30 => (0, 5, 0, 32, 0)
  | 32 => (8, 0, 0, 33, 0)
  | 33 => (3, 7, 0, 35, 0)
  | 35 => (1, 0, 0, 36, 0)
  | 36 => (46, 7, 2, 39, 0)
  | 39 => (0, 6, 0, 41, 0)
  | 41 => (0, 7, 0, 43, 0)
  | 43 => (6, 0, 0, 46, 255)
  | 46 => (11, 0, 0, 47, 0)
  | 47 => (49, 0, 0, 48, 0)
  | 48 => (0, 7, 0, 50, 0)
  | 50 => (6, 0, 0, 52, 8)
  | 52 => (22, 0, 0, 53, 0)
  | 53 => (3, 5, 0, 55, 0)
  | 55 => (7, 6, 0, 58, (-1))
  | 58 => (33, 9, 0, 61, 0)
  | 61 => (0, 5, 0, 63, 0)
  | 63 => (35, 70, 0, 66, 0)
  | 66 => (6, 0, 0, 67, 1)
  | 67 => (33, 71, 0, 70, 0)
  | 70 => (6, 0, 0, 71, 0)
  | 71 => (58, 0, 0, 72, 0)
  | _ => (99, 0, 0, 0, 0)
def tX6_addField (pc : Nat) : zI := if pc < 72 then tmX6_addField pc else (99, 0, 0, 0, 0)
theorem tkX6_addField : z_tab RX6 wsX6_addField 8 (some .boolean) cX6_addField 72 tX6_addField := z_tab_of (tm := tmX6_addField) (by decide +kernel)
theorem sX6_addField_0 (lv : zL) (st : List Value) (w : zW) (nx K : Nat → zL → List Value → zW → Prop) (Rt : Option Value → zW → Prop) : z_st1 (tX6_addField 0) 0 lv st w nx K Rt = (nx 1 lv (.int (0 : Int32) :: st) w) := id rfl
theorem sX6_addField_1 (lv : zL) (st : List Value) (w : zW) (nx K : Nat → zL → List Value → zW → Prop) (Rt : Option Value → zW → Prop) : z_st1 (tX6_addField 1) 1 lv st w nx K Rt = (z_1i st (fun x r => z_ok1 lv 5 = true ∧ nx 3 (lv.set 5 (some (.int x))) r w)) := id rfl
theorem sX6_addField_3 (lv : zL) (st : List Value) (w : zW) (nx K : Nat → zL → List Value → zW → Prop) (Rt : Option Value → zW → Prop) : z_st1 (tX6_addField 3) 3 lv st w nx K Rt = (z_li lv 4 (fun x => nx 5 lv (.int x :: st) w)) := id rfl
theorem sX6_addField_5 (lv : zL) (st : List Value) (w : zW) (nx K : Nat → zL → List Value → zW → Prop) (Rt : Option Value → zW → Prop) : z_st1 (tX6_addField 5) 5 lv st w nx K Rt = (nx 6 lv (.int (1 : Int32) :: st) w) := id rfl
theorem sX6_addField_6 (lv : zL) (st : List Value) (w : zW) (nx K : Nat → zL → List Value → zW → Prop) (Rt : Option Value → zW → Prop) : z_st1 (tX6_addField 6) 6 lv st w nx K Rt = (z_2i st (fun x y r => nx 7 lv (.int (x - y) :: r) w)) := id rfl
theorem sX6_addField_7 (lv : zL) (st : List Value) (w : zW) (nx K : Nat → zL → List Value → zW → Prop) (Rt : Option Value → zW → Prop) : z_st1 (tX6_addField 7) 7 lv st w nx K Rt = (z_1i st (fun x r => z_ok1 lv 6 = true ∧ nx 9 (lv.set 6 (some (.int x))) r w)) := id rfl
theorem sX6_addField_9 (lv : zL) (st : List Value) (w : zW) (nx K : Nat → zL → List Value → zW → Prop) (Rt : Option Value → zW → Prop) : z_st1 (tX6_addField 9) 9 lv st w nx K Rt = (z_li lv 6 (fun x => nx 11 lv (.int x :: st) w)) := id rfl
theorem sX6_addField_11 (lv : zL) (st : List Value) (w : zW) (nx K : Nat → zL → List Value → zW → Prop) (Rt : Option Value → zW → Prop) : z_st1 (tX6_addField 11) 11 lv st w nx K Rt = (z_li lv 3 (fun x => nx 12 lv (.int x :: st) w)) := id rfl
theorem sX6_addField_12 (lv : zL) (st : List Value) (w : zW) (nx K : Nat → zL → List Value → zW → Prop) (Rt : Option Value → zW → Prop) : z_st1 (tX6_addField 12) 12 lv st w nx K Rt = (z_2i st (fun x y r => (x < y → nx 61 lv r w) ∧ (¬ x < y → nx 15 lv r w))) := id rfl
theorem sX6_addField_15 (lv : zL) (st : List Value) (w : zW) (nx K : Nat → zL → List Value → zW → Prop) (Rt : Option Value → zW → Prop) : z_st1 (tX6_addField 15) 15 lv st w nx K Rt = (z_la lv 0 (fun x => nx 16 lv (.ref x :: st) w)) := id rfl
theorem sX6_addField_16 (lv : zL) (st : List Value) (w : zW) (nx K : Nat → zL → List Value → zW → Prop) (Rt : Option Value → zW → Prop) : z_st1 (tX6_addField 16) 16 lv st w nx K Rt = (z_1a st (fun x r => z_ob w x 7 (fun fs => z_fl fs 2 (fun u => nx 19 lv (u :: r) w)))) := id rfl
theorem sX6_addField_19 (lv : zL) (st : List Value) (w : zW) (nx K : Nat → zL → List Value → zW → Prop) (Rt : Option Value → zW → Prop) : z_st1 (tX6_addField 19) 19 lv st w nx K Rt = (z_li lv 6 (fun x => nx 21 lv (.int x :: st) w)) := id rfl
theorem sX6_addField_21 (lv : zL) (st : List Value) (w : zW) (nx K : Nat → zL → List Value → zW → Prop) (Rt : Option Value → zW → Prop) : z_st1 (tX6_addField 21) 21 lv st w nx K Rt = (z_ia st (fun x i r => z_ar0 w x (fun m g => vp_in i m ∧ nx 22 lv (.int (g i.toNatClampNeg) :: r) w))) := id rfl
theorem sX6_addField_22 (lv : zL) (st : List Value) (w : zW) (nx K : Nat → zL → List Value → zW → Prop) (Rt : Option Value → zW → Prop) : z_st1 (tX6_addField 22) 22 lv st w nx K Rt = (z_la lv 1 (fun x => nx 23 lv (.ref x :: st) w)) := id rfl
theorem sX6_addField_23 (lv : zL) (st : List Value) (w : zW) (nx K : Nat → zL → List Value → zW → Prop) (Rt : Option Value → zW → Prop) : z_st1 (tX6_addField 23) 23 lv st w nx K Rt = (z_li lv 2 (fun x => nx 24 lv (.int x :: st) w)) := id rfl
theorem sX6_addField_24 (lv : zL) (st : List Value) (w : zW) (nx K : Nat → zL → List Value → zW → Prop) (Rt : Option Value → zW → Prop) : z_st1 (tX6_addField 24) 24 lv st w nx K Rt = (z_li lv 6 (fun x => nx 26 lv (.int x :: st) w)) := id rfl
theorem sX6_addField_29 (lv : zL) (st : List Value) (w : zW) (nx K : Nat → zL → List Value → zW → Prop) (Rt : Option Value → zW → Prop) : z_st1 (tX6_addField 29) 29 lv st w nx K Rt = (z_2i st (fun x y r => nx 30 lv (.int (x + y) :: r) w)) := id rfl
theorem sX6_addField_30 (lv : zL) (st : List Value) (w : zW) (nx K : Nat → zL → List Value → zW → Prop) (Rt : Option Value → zW → Prop) : z_st1 (tX6_addField 30) 30 lv st w nx K Rt = (z_li lv 5 (fun x => nx 32 lv (.int x :: st) w)) := id rfl
theorem sX6_addField_32 (lv : zL) (st : List Value) (w : zW) (nx K : Nat → zL → List Value → zW → Prop) (Rt : Option Value → zW → Prop) : z_st1 (tX6_addField 32) 32 lv st w nx K Rt = (z_2i st (fun x y r => nx 33 lv (.int (x + y) :: r) w)) := id rfl
theorem sX6_addField_33 (lv : zL) (st : List Value) (w : zW) (nx K : Nat → zL → List Value → zW → Prop) (Rt : Option Value → zW → Prop) : z_st1 (tX6_addField 33) 33 lv st w nx K Rt = (z_1i st (fun x r => z_ok1 lv 7 = true ∧ nx 35 (lv.set 7 (some (.int x))) r w)) := id rfl
theorem sX6_addField_35 (lv : zL) (st : List Value) (w : zW) (nx K : Nat → zL → List Value → zW → Prop) (Rt : Option Value → zW → Prop) : z_st1 (tX6_addField 35) 35 lv st w nx K Rt = (z_la lv 0 (fun x => nx 36 lv (.ref x :: st) w)) := id rfl
theorem sX6_addField_36 (lv : zL) (st : List Value) (w : zW) (nx K : Nat → zL → List Value → zW → Prop) (Rt : Option Value → zW → Prop) : z_st1 (tX6_addField 36) 36 lv st w nx K Rt = (z_1a st (fun x r => z_ob w x 7 (fun fs => z_fl fs 2 (fun u => nx 39 lv (u :: r) w)))) := id rfl
theorem sX6_addField_39 (lv : zL) (st : List Value) (w : zW) (nx K : Nat → zL → List Value → zW → Prop) (Rt : Option Value → zW → Prop) : z_st1 (tX6_addField 39) 39 lv st w nx K Rt = (z_li lv 6 (fun x => nx 41 lv (.int x :: st) w)) := id rfl
theorem sX6_addField_41 (lv : zL) (st : List Value) (w : zW) (nx K : Nat → zL → List Value → zW → Prop) (Rt : Option Value → zW → Prop) : z_st1 (tX6_addField 41) 41 lv st w nx K Rt = (z_li lv 7 (fun x => nx 43 lv (.int x :: st) w)) := id rfl
theorem sX6_addField_43 (lv : zL) (st : List Value) (w : zW) (nx K : Nat → zL → List Value → zW → Prop) (Rt : Option Value → zW → Prop) : z_st1 (tX6_addField 43) 43 lv st w nx K Rt = (nx 46 lv (.int (255 : Int32) :: st) w) := id rfl
theorem sX6_addField_46 (lv : zL) (st : List Value) (w : zW) (nx K : Nat → zL → List Value → zW → Prop) (Rt : Option Value → zW → Prop) : z_st1 (tX6_addField 46) 46 lv st w nx K Rt = (z_2i st (fun x y r => nx 47 lv (.int (x &&& y) :: r) w)) := id rfl
theorem sX6_addField_47 (lv : zL) (st : List Value) (w : zW) (nx K : Nat → zL → List Value → zW → Prop) (Rt : Option Value → zW → Prop) : z_st1 (tX6_addField 47) 47 lv st w nx K Rt = (z_iia st (fun x i u r => z_ar0 w x (fun m g => vp_in i m ∧ nx 48 lv r (z_up w x (.inl (0, m, .inl (upd g i.toNatClampNeg u))))))) := id rfl
theorem sX6_addField_48 (lv : zL) (st : List Value) (w : zW) (nx K : Nat → zL → List Value → zW → Prop) (Rt : Option Value → zW → Prop) : z_st1 (tX6_addField 48) 48 lv st w nx K Rt = (z_li lv 7 (fun x => nx 50 lv (.int x :: st) w)) := id rfl
theorem sX6_addField_50 (lv : zL) (st : List Value) (w : zW) (nx K : Nat → zL → List Value → zW → Prop) (Rt : Option Value → zW → Prop) : z_st1 (tX6_addField 50) 50 lv st w nx K Rt = (nx 52 lv (.int (8 : Int32) :: st) w) := id rfl
theorem sX6_addField_52 (lv : zL) (st : List Value) (w : zW) (nx K : Nat → zL → List Value → zW → Prop) (Rt : Option Value → zW → Prop) : z_st1 (tX6_addField 52) 52 lv st w nx K Rt = (z_2i st (fun x y r => nx 53 lv (.int (x >>> (y &&& 31)) :: r) w)) := id rfl
theorem sX6_addField_53 (lv : zL) (st : List Value) (w : zW) (nx K : Nat → zL → List Value → zW → Prop) (Rt : Option Value → zW → Prop) : z_st1 (tX6_addField 53) 53 lv st w nx K Rt = (z_1i st (fun x r => z_ok1 lv 5 = true ∧ nx 55 (lv.set 5 (some (.int x))) r w)) := id rfl
theorem sX6_addField_55 (lv : zL) (st : List Value) (w : zW) (nx K : Nat → zL → List Value → zW → Prop) (Rt : Option Value → zW → Prop) : z_st1 (tX6_addField 55) 55 lv st w nx K Rt = (z_li lv 6 (fun x => z_ok1 lv 6 = true ∧ nx 58 (lv.set 6 (some (.int (x + (-1 : Int32))))) st w)) := id rfl
theorem sX6_addField_58 (lv : zL) (st : List Value) (w : zW) (nx K : Nat → zL → List Value → zW → Prop) (Rt : Option Value → zW → Prop) : z_st1 (tX6_addField 58) 58 lv st w nx K Rt = (nx 9 lv st w) := id rfl
theorem sX6_addField_61 (lv : zL) (st : List Value) (w : zW) (nx K : Nat → zL → List Value → zW → Prop) (Rt : Option Value → zW → Prop) : z_st1 (tX6_addField 61) 61 lv st w nx K Rt = (z_li lv 5 (fun x => nx 63 lv (.int x :: st) w)) := id rfl
theorem sX6_addField_63 (lv : zL) (st : List Value) (w : zW) (nx K : Nat → zL → List Value → zW → Prop) (Rt : Option Value → zW → Prop) : z_st1 (tX6_addField 63) 63 lv st w nx K Rt = (z_1i st (fun x r => (¬ x = 0 → nx 70 lv r w) ∧ (x = 0 → nx 66 lv r w))) := id rfl
theorem sX6_addField_66 (lv : zL) (st : List Value) (w : zW) (nx K : Nat → zL → List Value → zW → Prop) (Rt : Option Value → zW → Prop) : z_st1 (tX6_addField 66) 66 lv st w nx K Rt = (nx 67 lv (.int (1 : Int32) :: st) w) := id rfl
theorem sX6_addField_67 (lv : zL) (st : List Value) (w : zW) (nx K : Nat → zL → List Value → zW → Prop) (Rt : Option Value → zW → Prop) : z_st1 (tX6_addField 67) 67 lv st w nx K Rt = (nx 71 lv st w) := id rfl
theorem sX6_addField_70 (lv : zL) (st : List Value) (w : zW) (nx K : Nat → zL → List Value → zW → Prop) (Rt : Option Value → zW → Prop) : z_st1 (tX6_addField 70) 70 lv st w nx K Rt = (nx 71 lv (.int (0 : Int32) :: st) w) := id rfl
theorem sX6_addField_71 (lv : zL) (st : List Value) (w : zW) (nx K : Nat → zL → List Value → zW → Prop) (Rt : Option Value → zW → Prop) : z_st1 (tX6_addField 71) 71 lv st w nx K Rt = (z_e1 st (fun x => (x = 0 ∨ x = 1) ∧ Rt (some (.int x)) w)) := id rfl
theorem sX6_addField_26 (lv : zL) (st : List Value) (w : zW) (nx K : Nat → zL → List Value → zW → Prop) (Rt : Option Value → zW → Prop) : z_st1 (tX6_addField 26) 26 lv st w nx K Rt = K 26 lv st w := id rfl
theorem dX6_addField_26 : decode cX6_addField 26 = .ok (.invokevirtual 37, 3) := by decide +kernel

def tmX7_init (pc : Nat) : zI := match pc with
  | 0 => (1, 0, 0, 1, 0)
  | 4 => (55, 0, 0, 5, 0)
  | _ => (99, 0, 0, 0, 0)
def tX7_init (pc : Nat) : zI := if pc < 5 then tmX7_init pc else (99, 0, 0, 0, 0)
theorem tkX7_init : z_tab RX7 wsX7_init 1 none cX7_init 5 tX7_init := z_tab_of (tm := tmX7_init) (by decide +kernel)
theorem sX7_init_0 (lv : zL) (st : List Value) (w : zW) (nx K : Nat → zL → List Value → zW → Prop) (Rt : Option Value → zW → Prop) : z_st1 (tX7_init 0) 0 lv st w nx K Rt = (z_la lv 0 (fun x => nx 1 lv (.ref x :: st) w)) := id rfl
theorem sX7_init_4 (lv : zL) (st : List Value) (w : zW) (nx K : Nat → zL → List Value → zW → Prop) (Rt : Option Value → zW → Prop) : z_st1 (tX7_init 4) 4 lv st w nx K Rt = (z_e0 st (Rt none w)) := id rfl
theorem sX7_init_1 (lv : zL) (st : List Value) (w : zW) (nx K : Nat → zL → List Value → zW → Prop) (Rt : Option Value → zW → Prop) : z_st1 (tX7_init 1) 1 lv st w nx K Rt = K 1 lv st w := id rfl
theorem dX7_init_1 : decode cX7_init 1 = .ok (.invokespecial 1, 3) := by decide +kernel

def tmX7_clear (pc : Nat) : zI := match pc with
  | 0 => (1, 0, 0, 1, 0)
  | 1 => (6, 0, 0, 2, 0)
  | 2 => (47, 8, 0, 5, 0)
  | 5 => (1, 0, 0, 6, 0)
  | 6 => (6, 0, 0, 7, 0)
  | 7 => (47, 8, 1, 10, 0)
  | 10 => (1, 0, 0, 11, 0)
  | 11 => (6, 0, 0, 12, 0)
  | 12 => (47, 8, 2, 15, 0)
  | 15 => (1, 0, 0, 16, 0)
  | 16 => (6, 0, 0, 17, 0)
  | 17 => (47, 8, 3, 20, 0)
  | 20 => (1, 0, 0, 21, 0)
  | 21 => (6, 0, 0, 22, 0)
  | 22 => (47, 8, 4, 25, 0)
  | 25 => (55, 0, 0, 26, 0)
  | _ => (99, 0, 0, 0, 0)
def tX7_clear (pc : Nat) : zI := if pc < 26 then tmX7_clear pc else (99, 0, 0, 0, 0)
theorem tkX7_clear : z_tab RX7 wsX7_clear 1 none cX7_clear 26 tX7_clear := z_tab_of (tm := tmX7_clear) (by decide +kernel)
theorem sX7_clear_0 (lv : zL) (st : List Value) (w : zW) (nx K : Nat → zL → List Value → zW → Prop) (Rt : Option Value → zW → Prop) : z_st1 (tX7_clear 0) 0 lv st w nx K Rt = (z_la lv 0 (fun x => nx 1 lv (.ref x :: st) w)) := id rfl
theorem sX7_clear_1 (lv : zL) (st : List Value) (w : zW) (nx K : Nat → zL → List Value → zW → Prop) (Rt : Option Value → zW → Prop) : z_st1 (tX7_clear 1) 1 lv st w nx K Rt = (nx 2 lv (.int (0 : Int32) :: st) w) := id rfl
theorem sX7_clear_2 (lv : zL) (st : List Value) (w : zW) (nx K : Nat → zL → List Value → zW → Prop) (Rt : Option Value → zW → Prop) : z_st1 (tX7_clear 2) 2 lv st w nx K Rt = (z_ia st (fun x i r => z_ob w x 8 (fun fs => 0 < fs.length ∧ nx 5 lv r (z_up w x (.inr (8, fs.set 0 (.int i))))))) := id rfl
theorem sX7_clear_5 (lv : zL) (st : List Value) (w : zW) (nx K : Nat → zL → List Value → zW → Prop) (Rt : Option Value → zW → Prop) : z_st1 (tX7_clear 5) 5 lv st w nx K Rt = (z_la lv 0 (fun x => nx 6 lv (.ref x :: st) w)) := id rfl
theorem sX7_clear_6 (lv : zL) (st : List Value) (w : zW) (nx K : Nat → zL → List Value → zW → Prop) (Rt : Option Value → zW → Prop) : z_st1 (tX7_clear 6) 6 lv st w nx K Rt = (nx 7 lv (.int (0 : Int32) :: st) w) := id rfl
theorem sX7_clear_7 (lv : zL) (st : List Value) (w : zW) (nx K : Nat → zL → List Value → zW → Prop) (Rt : Option Value → zW → Prop) : z_st1 (tX7_clear 7) 7 lv st w nx K Rt = (z_ia st (fun x i r => z_ob w x 8 (fun fs => 1 < fs.length ∧ nx 10 lv r (z_up w x (.inr (8, fs.set 1 (.int i))))))) := id rfl
theorem sX7_clear_10 (lv : zL) (st : List Value) (w : zW) (nx K : Nat → zL → List Value → zW → Prop) (Rt : Option Value → zW → Prop) : z_st1 (tX7_clear 10) 10 lv st w nx K Rt = (z_la lv 0 (fun x => nx 11 lv (.ref x :: st) w)) := id rfl
theorem sX7_clear_11 (lv : zL) (st : List Value) (w : zW) (nx K : Nat → zL → List Value → zW → Prop) (Rt : Option Value → zW → Prop) : z_st1 (tX7_clear 11) 11 lv st w nx K Rt = (nx 12 lv (.int (0 : Int32) :: st) w) := id rfl
theorem sX7_clear_12 (lv : zL) (st : List Value) (w : zW) (nx K : Nat → zL → List Value → zW → Prop) (Rt : Option Value → zW → Prop) : z_st1 (tX7_clear 12) 12 lv st w nx K Rt = (z_ia st (fun x i r => z_ob w x 8 (fun fs => 2 < fs.length ∧ nx 15 lv r (z_up w x (.inr (8, fs.set 2 (.int i))))))) := id rfl
theorem sX7_clear_15 (lv : zL) (st : List Value) (w : zW) (nx K : Nat → zL → List Value → zW → Prop) (Rt : Option Value → zW → Prop) : z_st1 (tX7_clear 15) 15 lv st w nx K Rt = (z_la lv 0 (fun x => nx 16 lv (.ref x :: st) w)) := id rfl
theorem sX7_clear_16 (lv : zL) (st : List Value) (w : zW) (nx K : Nat → zL → List Value → zW → Prop) (Rt : Option Value → zW → Prop) : z_st1 (tX7_clear 16) 16 lv st w nx K Rt = (nx 17 lv (.int (0 : Int32) :: st) w) := id rfl
theorem sX7_clear_17 (lv : zL) (st : List Value) (w : zW) (nx K : Nat → zL → List Value → zW → Prop) (Rt : Option Value → zW → Prop) : z_st1 (tX7_clear 17) 17 lv st w nx K Rt = (z_ia st (fun x i r => z_ob w x 8 (fun fs => 3 < fs.length ∧ nx 20 lv r (z_up w x (.inr (8, fs.set 3 (.int i))))))) := id rfl
theorem sX7_clear_20 (lv : zL) (st : List Value) (w : zW) (nx K : Nat → zL → List Value → zW → Prop) (Rt : Option Value → zW → Prop) : z_st1 (tX7_clear 20) 20 lv st w nx K Rt = (z_la lv 0 (fun x => nx 21 lv (.ref x :: st) w)) := id rfl
theorem sX7_clear_21 (lv : zL) (st : List Value) (w : zW) (nx K : Nat → zL → List Value → zW → Prop) (Rt : Option Value → zW → Prop) : z_st1 (tX7_clear 21) 21 lv st w nx K Rt = (nx 22 lv (.int (0 : Int32) :: st) w) := id rfl
theorem sX7_clear_22 (lv : zL) (st : List Value) (w : zW) (nx K : Nat → zL → List Value → zW → Prop) (Rt : Option Value → zW → Prop) : z_st1 (tX7_clear 22) 22 lv st w nx K Rt = (z_ia st (fun x i r => z_ob w x 8 (fun fs => 4 < fs.length ∧ nx 25 lv r (z_up w x (.inr (8, fs.set 4 (.int i))))))) := id rfl
theorem sX7_clear_25 (lv : zL) (st : List Value) (w : zW) (nx K : Nat → zL → List Value → zW → Prop) (Rt : Option Value → zW → Prop) : z_st1 (tX7_clear 25) 25 lv st w nx K Rt = (z_e0 st (Rt none w)) := id rfl

def tmX8_init (pc : Nat) : zI := match pc with
  | 0 => (1, 0, 0, 1, 0)
  | 7 => (29, 0, 0, 8, 0)
  | 8 => (6, 0, 0, 11, 1600)
  | 14 => (4, 1, 0, 15, 0)
  | 18 => (29, 0, 0, 19, 0)
  | 22 => (4, 2, 0, 23, 0)
  | 23 => (1, 0, 0, 24, 0)
  | 27 => (29, 0, 0, 28, 0)
  | 28 => (6, 0, 0, 31, 400)
  | 37 => (1, 0, 0, 38, 0)
  | 38 => (1, 1, 0, 39, 0)
  | 42 => (1, 0, 0, 43, 0)
  | 43 => (1, 2, 0, 44, 0)
  | 47 => (1, 0, 0, 48, 0)
  | 51 => (29, 0, 0, 52, 0)
  | 52 => (1, 1, 0, 53, 0)
  | 53 => (1, 2, 0, 54, 0)
  | 60 => (1, 0, 0, 61, 0)
  | 64 => (29, 0, 0, 65, 0)
  | 71 => (1, 0, 0, 72, 0)
  | 75 => (29, 0, 0, 76, 0)
  | 82 => (1, 0, 0, 83, 0)
  | 86 => (29, 0, 0, 87, 0)
  | 93 => (1, 0, 0, 94, 0)
  | 97 => (29, 0, 0, 98, 0)
  | 104 => (1, 0, 0, 105, 0)
  | 108 => (29, 0, 0, 109, 0)
  | 115 => (1, 0, 0, 116, 0)
  | 116 => (6, 0, 0, 119, 1000)
  | 124 => (1, 0, 0, 125, 0)
  | 125 => (6, 0, 0, 127, 8)
  | 127 => (47, 9, 11, 130, 0)
  | 130 => (1, 0, 0, 131, 0)
  | 131 => (6, 0, 0, 132, 2)
  | 132 => (47, 9, 12, 135, 0)
  | 135 => (1, 0, 0, 136, 0)
  | 136 => (6, 0, 0, 137, 0)
  | 137 => (47, 9, 13, 140, 0)
  | 140 => (1, 0, 0, 141, 0)
  | 141 => (6, 0, 0, 142, (-1))
  | 142 => (47, 9, 15, 145, 0)
  | 145 => (1, 0, 0, 146, 0)
  | 149 => (29, 0, 0, 150, 0)
  | 153 => (61, 9, 17, 156, 0)
  | 156 => (1, 0, 0, 157, 0)
  | 160 => (29, 0, 0, 161, 0)
  | 164 => (61, 9, 18, 167, 0)
  | 167 => (55, 0, 0, 168, 0)
  | _ => (99, 0, 0, 0, 0)
def tX8_init (pc : Nat) : zI := if pc < 168 then tmX8_init pc else (99, 0, 0, 0, 0)
theorem tkX8_init : z_tab RX8 wsX8_init 3 none cX8_init 168 tX8_init := z_tab_of (tm := tmX8_init) (by decide +kernel)
theorem sX8_init_0 (lv : zL) (st : List Value) (w : zW) (nx K : Nat → zL → List Value → zW → Prop) (Rt : Option Value → zW → Prop) : z_st1 (tX8_init 0) 0 lv st w nx K Rt = (z_la lv 0 (fun x => nx 1 lv (.ref x :: st) w)) := id rfl
theorem sX8_init_7 (lv : zL) (st : List Value) (w : zW) (nx K : Nat → zL → List Value → zW → Prop) (Rt : Option Value → zW → Prop) : z_st1 (tX8_init 7) 7 lv st w nx K Rt = (z_d1 st (fun x r => nx 8 lv (x :: x :: r) w)) := id rfl
theorem sX8_init_8 (lv : zL) (st : List Value) (w : zW) (nx K : Nat → zL → List Value → zW → Prop) (Rt : Option Value → zW → Prop) : z_st1 (tX8_init 8) 8 lv st w nx K Rt = (nx 11 lv (.int (1600 : Int32) :: st) w) := id rfl
theorem sX8_init_14 (lv : zL) (st : List Value) (w : zW) (nx K : Nat → zL → List Value → zW → Prop) (Rt : Option Value → zW → Prop) : z_st1 (tX8_init 14) 14 lv st w nx K Rt = (z_1a st (fun x r => z_ok1 lv 1 = true ∧ nx 15 (lv.set 1 (some (.ref x))) r w)) := id rfl
theorem sX8_init_18 (lv : zL) (st : List Value) (w : zW) (nx K : Nat → zL → List Value → zW → Prop) (Rt : Option Value → zW → Prop) : z_st1 (tX8_init 18) 18 lv st w nx K Rt = (z_d1 st (fun x r => nx 19 lv (x :: x :: r) w)) := id rfl
theorem sX8_init_22 (lv : zL) (st : List Value) (w : zW) (nx K : Nat → zL → List Value → zW → Prop) (Rt : Option Value → zW → Prop) : z_st1 (tX8_init 22) 22 lv st w nx K Rt = (z_1a st (fun x r => z_ok1 lv 2 = true ∧ nx 23 (lv.set 2 (some (.ref x))) r w)) := id rfl
theorem sX8_init_23 (lv : zL) (st : List Value) (w : zW) (nx K : Nat → zL → List Value → zW → Prop) (Rt : Option Value → zW → Prop) : z_st1 (tX8_init 23) 23 lv st w nx K Rt = (z_la lv 0 (fun x => nx 24 lv (.ref x :: st) w)) := id rfl
theorem sX8_init_27 (lv : zL) (st : List Value) (w : zW) (nx K : Nat → zL → List Value → zW → Prop) (Rt : Option Value → zW → Prop) : z_st1 (tX8_init 27) 27 lv st w nx K Rt = (z_d1 st (fun x r => nx 28 lv (x :: x :: r) w)) := id rfl
theorem sX8_init_28 (lv : zL) (st : List Value) (w : zW) (nx K : Nat → zL → List Value → zW → Prop) (Rt : Option Value → zW → Prop) : z_st1 (tX8_init 28) 28 lv st w nx K Rt = (nx 31 lv (.int (400 : Int32) :: st) w) := id rfl
theorem sX8_init_37 (lv : zL) (st : List Value) (w : zW) (nx K : Nat → zL → List Value → zW → Prop) (Rt : Option Value → zW → Prop) : z_st1 (tX8_init 37) 37 lv st w nx K Rt = (z_la lv 0 (fun x => nx 38 lv (.ref x :: st) w)) := id rfl
theorem sX8_init_38 (lv : zL) (st : List Value) (w : zW) (nx K : Nat → zL → List Value → zW → Prop) (Rt : Option Value → zW → Prop) : z_st1 (tX8_init 38) 38 lv st w nx K Rt = (z_la lv 1 (fun x => nx 39 lv (.ref x :: st) w)) := id rfl
theorem sX8_init_42 (lv : zL) (st : List Value) (w : zW) (nx K : Nat → zL → List Value → zW → Prop) (Rt : Option Value → zW → Prop) : z_st1 (tX8_init 42) 42 lv st w nx K Rt = (z_la lv 0 (fun x => nx 43 lv (.ref x :: st) w)) := id rfl
theorem sX8_init_43 (lv : zL) (st : List Value) (w : zW) (nx K : Nat → zL → List Value → zW → Prop) (Rt : Option Value → zW → Prop) : z_st1 (tX8_init 43) 43 lv st w nx K Rt = (z_la lv 2 (fun x => nx 44 lv (.ref x :: st) w)) := id rfl
theorem sX8_init_47 (lv : zL) (st : List Value) (w : zW) (nx K : Nat → zL → List Value → zW → Prop) (Rt : Option Value → zW → Prop) : z_st1 (tX8_init 47) 47 lv st w nx K Rt = (z_la lv 0 (fun x => nx 48 lv (.ref x :: st) w)) := id rfl
theorem sX8_init_51 (lv : zL) (st : List Value) (w : zW) (nx K : Nat → zL → List Value → zW → Prop) (Rt : Option Value → zW → Prop) : z_st1 (tX8_init 51) 51 lv st w nx K Rt = (z_d1 st (fun x r => nx 52 lv (x :: x :: r) w)) := id rfl
theorem sX8_init_52 (lv : zL) (st : List Value) (w : zW) (nx K : Nat → zL → List Value → zW → Prop) (Rt : Option Value → zW → Prop) : z_st1 (tX8_init 52) 52 lv st w nx K Rt = (z_la lv 1 (fun x => nx 53 lv (.ref x :: st) w)) := id rfl
theorem sX8_init_53 (lv : zL) (st : List Value) (w : zW) (nx K : Nat → zL → List Value → zW → Prop) (Rt : Option Value → zW → Prop) : z_st1 (tX8_init 53) 53 lv st w nx K Rt = (z_la lv 2 (fun x => nx 54 lv (.ref x :: st) w)) := id rfl
theorem sX8_init_60 (lv : zL) (st : List Value) (w : zW) (nx K : Nat → zL → List Value → zW → Prop) (Rt : Option Value → zW → Prop) : z_st1 (tX8_init 60) 60 lv st w nx K Rt = (z_la lv 0 (fun x => nx 61 lv (.ref x :: st) w)) := id rfl
theorem sX8_init_64 (lv : zL) (st : List Value) (w : zW) (nx K : Nat → zL → List Value → zW → Prop) (Rt : Option Value → zW → Prop) : z_st1 (tX8_init 64) 64 lv st w nx K Rt = (z_d1 st (fun x r => nx 65 lv (x :: x :: r) w)) := id rfl
theorem sX8_init_71 (lv : zL) (st : List Value) (w : zW) (nx K : Nat → zL → List Value → zW → Prop) (Rt : Option Value → zW → Prop) : z_st1 (tX8_init 71) 71 lv st w nx K Rt = (z_la lv 0 (fun x => nx 72 lv (.ref x :: st) w)) := id rfl
theorem sX8_init_75 (lv : zL) (st : List Value) (w : zW) (nx K : Nat → zL → List Value → zW → Prop) (Rt : Option Value → zW → Prop) : z_st1 (tX8_init 75) 75 lv st w nx K Rt = (z_d1 st (fun x r => nx 76 lv (x :: x :: r) w)) := id rfl
theorem sX8_init_82 (lv : zL) (st : List Value) (w : zW) (nx K : Nat → zL → List Value → zW → Prop) (Rt : Option Value → zW → Prop) : z_st1 (tX8_init 82) 82 lv st w nx K Rt = (z_la lv 0 (fun x => nx 83 lv (.ref x :: st) w)) := id rfl
theorem sX8_init_86 (lv : zL) (st : List Value) (w : zW) (nx K : Nat → zL → List Value → zW → Prop) (Rt : Option Value → zW → Prop) : z_st1 (tX8_init 86) 86 lv st w nx K Rt = (z_d1 st (fun x r => nx 87 lv (x :: x :: r) w)) := id rfl
theorem sX8_init_93 (lv : zL) (st : List Value) (w : zW) (nx K : Nat → zL → List Value → zW → Prop) (Rt : Option Value → zW → Prop) : z_st1 (tX8_init 93) 93 lv st w nx K Rt = (z_la lv 0 (fun x => nx 94 lv (.ref x :: st) w)) := id rfl
theorem sX8_init_97 (lv : zL) (st : List Value) (w : zW) (nx K : Nat → zL → List Value → zW → Prop) (Rt : Option Value → zW → Prop) : z_st1 (tX8_init 97) 97 lv st w nx K Rt = (z_d1 st (fun x r => nx 98 lv (x :: x :: r) w)) := id rfl
theorem sX8_init_104 (lv : zL) (st : List Value) (w : zW) (nx K : Nat → zL → List Value → zW → Prop) (Rt : Option Value → zW → Prop) : z_st1 (tX8_init 104) 104 lv st w nx K Rt = (z_la lv 0 (fun x => nx 105 lv (.ref x :: st) w)) := id rfl
theorem sX8_init_108 (lv : zL) (st : List Value) (w : zW) (nx K : Nat → zL → List Value → zW → Prop) (Rt : Option Value → zW → Prop) : z_st1 (tX8_init 108) 108 lv st w nx K Rt = (z_d1 st (fun x r => nx 109 lv (x :: x :: r) w)) := id rfl
theorem sX8_init_115 (lv : zL) (st : List Value) (w : zW) (nx K : Nat → zL → List Value → zW → Prop) (Rt : Option Value → zW → Prop) : z_st1 (tX8_init 115) 115 lv st w nx K Rt = (z_la lv 0 (fun x => nx 116 lv (.ref x :: st) w)) := id rfl
theorem sX8_init_116 (lv : zL) (st : List Value) (w : zW) (nx K : Nat → zL → List Value → zW → Prop) (Rt : Option Value → zW → Prop) : z_st1 (tX8_init 116) 116 lv st w nx K Rt = (nx 119 lv (.int (1000 : Int32) :: st) w) := id rfl
theorem sX8_init_124 (lv : zL) (st : List Value) (w : zW) (nx K : Nat → zL → List Value → zW → Prop) (Rt : Option Value → zW → Prop) : z_st1 (tX8_init 124) 124 lv st w nx K Rt = (z_la lv 0 (fun x => nx 125 lv (.ref x :: st) w)) := id rfl
theorem sX8_init_125 (lv : zL) (st : List Value) (w : zW) (nx K : Nat → zL → List Value → zW → Prop) (Rt : Option Value → zW → Prop) : z_st1 (tX8_init 125) 125 lv st w nx K Rt = (nx 127 lv (.int (8 : Int32) :: st) w) := id rfl
theorem sX8_init_127 (lv : zL) (st : List Value) (w : zW) (nx K : Nat → zL → List Value → zW → Prop) (Rt : Option Value → zW → Prop) : z_st1 (tX8_init 127) 127 lv st w nx K Rt = (z_ia st (fun x i r => z_ob w x 9 (fun fs => 11 < fs.length ∧ nx 130 lv r (z_up w x (.inr (9, fs.set 11 (.int i))))))) := id rfl
theorem sX8_init_130 (lv : zL) (st : List Value) (w : zW) (nx K : Nat → zL → List Value → zW → Prop) (Rt : Option Value → zW → Prop) : z_st1 (tX8_init 130) 130 lv st w nx K Rt = (z_la lv 0 (fun x => nx 131 lv (.ref x :: st) w)) := id rfl
theorem sX8_init_131 (lv : zL) (st : List Value) (w : zW) (nx K : Nat → zL → List Value → zW → Prop) (Rt : Option Value → zW → Prop) : z_st1 (tX8_init 131) 131 lv st w nx K Rt = (nx 132 lv (.int (2 : Int32) :: st) w) := id rfl
theorem sX8_init_132 (lv : zL) (st : List Value) (w : zW) (nx K : Nat → zL → List Value → zW → Prop) (Rt : Option Value → zW → Prop) : z_st1 (tX8_init 132) 132 lv st w nx K Rt = (z_ia st (fun x i r => z_ob w x 9 (fun fs => 12 < fs.length ∧ nx 135 lv r (z_up w x (.inr (9, fs.set 12 (.int i))))))) := id rfl
theorem sX8_init_135 (lv : zL) (st : List Value) (w : zW) (nx K : Nat → zL → List Value → zW → Prop) (Rt : Option Value → zW → Prop) : z_st1 (tX8_init 135) 135 lv st w nx K Rt = (z_la lv 0 (fun x => nx 136 lv (.ref x :: st) w)) := id rfl
theorem sX8_init_136 (lv : zL) (st : List Value) (w : zW) (nx K : Nat → zL → List Value → zW → Prop) (Rt : Option Value → zW → Prop) : z_st1 (tX8_init 136) 136 lv st w nx K Rt = (nx 137 lv (.int (0 : Int32) :: st) w) := id rfl
theorem sX8_init_137 (lv : zL) (st : List Value) (w : zW) (nx K : Nat → zL → List Value → zW → Prop) (Rt : Option Value → zW → Prop) : z_st1 (tX8_init 137) 137 lv st w nx K Rt = (z_ia st (fun x i r => z_ob w x 9 (fun fs => 13 < fs.length ∧ nx 140 lv r (z_up w x (.inr (9, fs.set 13 (.int i))))))) := id rfl
theorem sX8_init_140 (lv : zL) (st : List Value) (w : zW) (nx K : Nat → zL → List Value → zW → Prop) (Rt : Option Value → zW → Prop) : z_st1 (tX8_init 140) 140 lv st w nx K Rt = (z_la lv 0 (fun x => nx 141 lv (.ref x :: st) w)) := id rfl
theorem sX8_init_141 (lv : zL) (st : List Value) (w : zW) (nx K : Nat → zL → List Value → zW → Prop) (Rt : Option Value → zW → Prop) : z_st1 (tX8_init 141) 141 lv st w nx K Rt = (nx 142 lv (.int (-1 : Int32) :: st) w) := id rfl
theorem sX8_init_142 (lv : zL) (st : List Value) (w : zW) (nx K : Nat → zL → List Value → zW → Prop) (Rt : Option Value → zW → Prop) : z_st1 (tX8_init 142) 142 lv st w nx K Rt = (z_ia st (fun x i r => z_ob w x 9 (fun fs => 15 < fs.length ∧ nx 145 lv r (z_up w x (.inr (9, fs.set 15 (.int i))))))) := id rfl
theorem sX8_init_145 (lv : zL) (st : List Value) (w : zW) (nx K : Nat → zL → List Value → zW → Prop) (Rt : Option Value → zW → Prop) : z_st1 (tX8_init 145) 145 lv st w nx K Rt = (z_la lv 0 (fun x => nx 146 lv (.ref x :: st) w)) := id rfl
theorem sX8_init_149 (lv : zL) (st : List Value) (w : zW) (nx K : Nat → zL → List Value → zW → Prop) (Rt : Option Value → zW → Prop) : z_st1 (tX8_init 149) 149 lv st w nx K Rt = (z_d1 st (fun x r => nx 150 lv (x :: x :: r) w)) := id rfl
theorem sX8_init_153 (lv : zL) (st : List Value) (w : zW) (nx K : Nat → zL → List Value → zW → Prop) (Rt : Option Value → zW → Prop) : z_st1 (tX8_init 153) 153 lv st w nx K Rt = (z_aa st (fun x y r => z_ob w x 9 (fun fs => 17 < fs.length ∧ nx 156 lv r (z_up w x (.inr (9, fs.set 17 (.ref y))))))) := id rfl
theorem sX8_init_156 (lv : zL) (st : List Value) (w : zW) (nx K : Nat → zL → List Value → zW → Prop) (Rt : Option Value → zW → Prop) : z_st1 (tX8_init 156) 156 lv st w nx K Rt = (z_la lv 0 (fun x => nx 157 lv (.ref x :: st) w)) := id rfl
theorem sX8_init_160 (lv : zL) (st : List Value) (w : zW) (nx K : Nat → zL → List Value → zW → Prop) (Rt : Option Value → zW → Prop) : z_st1 (tX8_init 160) 160 lv st w nx K Rt = (z_d1 st (fun x r => nx 161 lv (x :: x :: r) w)) := id rfl
theorem sX8_init_164 (lv : zL) (st : List Value) (w : zW) (nx K : Nat → zL → List Value → zW → Prop) (Rt : Option Value → zW → Prop) : z_st1 (tX8_init 164) 164 lv st w nx K Rt = (z_aa st (fun x y r => z_ob w x 9 (fun fs => 18 < fs.length ∧ nx 167 lv r (z_up w x (.inr (9, fs.set 18 (.ref y))))))) := id rfl
theorem sX8_init_167 (lv : zL) (st : List Value) (w : zW) (nx K : Nat → zL → List Value → zW → Prop) (Rt : Option Value → zW → Prop) : z_st1 (tX8_init 167) 167 lv st w nx K Rt = (z_e0 st (Rt none w)) := id rfl
theorem sX8_init_1 (lv : zL) (st : List Value) (w : zW) (nx K : Nat → zL → List Value → zW → Prop) (Rt : Option Value → zW → Prop) : z_st1 (tX8_init 1) 1 lv st w nx K Rt = K 1 lv st w := id rfl
theorem sX8_init_4 (lv : zL) (st : List Value) (w : zW) (nx K : Nat → zL → List Value → zW → Prop) (Rt : Option Value → zW → Prop) : z_st1 (tX8_init 4) 4 lv st w nx K Rt = K 4 lv st w := id rfl
theorem sX8_init_11 (lv : zL) (st : List Value) (w : zW) (nx K : Nat → zL → List Value → zW → Prop) (Rt : Option Value → zW → Prop) : z_st1 (tX8_init 11) 11 lv st w nx K Rt = K 11 lv st w := id rfl
theorem sX8_init_15 (lv : zL) (st : List Value) (w : zW) (nx K : Nat → zL → List Value → zW → Prop) (Rt : Option Value → zW → Prop) : z_st1 (tX8_init 15) 15 lv st w nx K Rt = K 15 lv st w := id rfl
theorem sX8_init_19 (lv : zL) (st : List Value) (w : zW) (nx K : Nat → zL → List Value → zW → Prop) (Rt : Option Value → zW → Prop) : z_st1 (tX8_init 19) 19 lv st w nx K Rt = K 19 lv st w := id rfl
theorem sX8_init_24 (lv : zL) (st : List Value) (w : zW) (nx K : Nat → zL → List Value → zW → Prop) (Rt : Option Value → zW → Prop) : z_st1 (tX8_init 24) 24 lv st w nx K Rt = K 24 lv st w := id rfl
theorem sX8_init_31 (lv : zL) (st : List Value) (w : zW) (nx K : Nat → zL → List Value → zW → Prop) (Rt : Option Value → zW → Prop) : z_st1 (tX8_init 31) 31 lv st w nx K Rt = K 31 lv st w := id rfl
theorem sX8_init_34 (lv : zL) (st : List Value) (w : zW) (nx K : Nat → zL → List Value → zW → Prop) (Rt : Option Value → zW → Prop) : z_st1 (tX8_init 34) 34 lv st w nx K Rt = K 34 lv st w := id rfl
theorem sX8_init_39 (lv : zL) (st : List Value) (w : zW) (nx K : Nat → zL → List Value → zW → Prop) (Rt : Option Value → zW → Prop) : z_st1 (tX8_init 39) 39 lv st w nx K Rt = K 39 lv st w := id rfl
theorem sX8_init_44 (lv : zL) (st : List Value) (w : zW) (nx K : Nat → zL → List Value → zW → Prop) (Rt : Option Value → zW → Prop) : z_st1 (tX8_init 44) 44 lv st w nx K Rt = K 44 lv st w := id rfl
theorem sX8_init_48 (lv : zL) (st : List Value) (w : zW) (nx K : Nat → zL → List Value → zW → Prop) (Rt : Option Value → zW → Prop) : z_st1 (tX8_init 48) 48 lv st w nx K Rt = K 48 lv st w := id rfl
theorem sX8_init_54 (lv : zL) (st : List Value) (w : zW) (nx K : Nat → zL → List Value → zW → Prop) (Rt : Option Value → zW → Prop) : z_st1 (tX8_init 54) 54 lv st w nx K Rt = K 54 lv st w := id rfl
theorem sX8_init_57 (lv : zL) (st : List Value) (w : zW) (nx K : Nat → zL → List Value → zW → Prop) (Rt : Option Value → zW → Prop) : z_st1 (tX8_init 57) 57 lv st w nx K Rt = K 57 lv st w := id rfl
theorem sX8_init_61 (lv : zL) (st : List Value) (w : zW) (nx K : Nat → zL → List Value → zW → Prop) (Rt : Option Value → zW → Prop) : z_st1 (tX8_init 61) 61 lv st w nx K Rt = K 61 lv st w := id rfl
theorem sX8_init_65 (lv : zL) (st : List Value) (w : zW) (nx K : Nat → zL → List Value → zW → Prop) (Rt : Option Value → zW → Prop) : z_st1 (tX8_init 65) 65 lv st w nx K Rt = K 65 lv st w := id rfl
theorem sX8_init_68 (lv : zL) (st : List Value) (w : zW) (nx K : Nat → zL → List Value → zW → Prop) (Rt : Option Value → zW → Prop) : z_st1 (tX8_init 68) 68 lv st w nx K Rt = K 68 lv st w := id rfl
theorem sX8_init_72 (lv : zL) (st : List Value) (w : zW) (nx K : Nat → zL → List Value → zW → Prop) (Rt : Option Value → zW → Prop) : z_st1 (tX8_init 72) 72 lv st w nx K Rt = K 72 lv st w := id rfl
theorem sX8_init_76 (lv : zL) (st : List Value) (w : zW) (nx K : Nat → zL → List Value → zW → Prop) (Rt : Option Value → zW → Prop) : z_st1 (tX8_init 76) 76 lv st w nx K Rt = K 76 lv st w := id rfl
theorem sX8_init_79 (lv : zL) (st : List Value) (w : zW) (nx K : Nat → zL → List Value → zW → Prop) (Rt : Option Value → zW → Prop) : z_st1 (tX8_init 79) 79 lv st w nx K Rt = K 79 lv st w := id rfl
theorem sX8_init_83 (lv : zL) (st : List Value) (w : zW) (nx K : Nat → zL → List Value → zW → Prop) (Rt : Option Value → zW → Prop) : z_st1 (tX8_init 83) 83 lv st w nx K Rt = K 83 lv st w := id rfl
theorem sX8_init_87 (lv : zL) (st : List Value) (w : zW) (nx K : Nat → zL → List Value → zW → Prop) (Rt : Option Value → zW → Prop) : z_st1 (tX8_init 87) 87 lv st w nx K Rt = K 87 lv st w := id rfl
theorem sX8_init_90 (lv : zL) (st : List Value) (w : zW) (nx K : Nat → zL → List Value → zW → Prop) (Rt : Option Value → zW → Prop) : z_st1 (tX8_init 90) 90 lv st w nx K Rt = K 90 lv st w := id rfl
theorem sX8_init_94 (lv : zL) (st : List Value) (w : zW) (nx K : Nat → zL → List Value → zW → Prop) (Rt : Option Value → zW → Prop) : z_st1 (tX8_init 94) 94 lv st w nx K Rt = K 94 lv st w := id rfl
theorem sX8_init_98 (lv : zL) (st : List Value) (w : zW) (nx K : Nat → zL → List Value → zW → Prop) (Rt : Option Value → zW → Prop) : z_st1 (tX8_init 98) 98 lv st w nx K Rt = K 98 lv st w := id rfl
theorem sX8_init_101 (lv : zL) (st : List Value) (w : zW) (nx K : Nat → zL → List Value → zW → Prop) (Rt : Option Value → zW → Prop) : z_st1 (tX8_init 101) 101 lv st w nx K Rt = K 101 lv st w := id rfl
theorem sX8_init_105 (lv : zL) (st : List Value) (w : zW) (nx K : Nat → zL → List Value → zW → Prop) (Rt : Option Value → zW → Prop) : z_st1 (tX8_init 105) 105 lv st w nx K Rt = K 105 lv st w := id rfl
theorem sX8_init_109 (lv : zL) (st : List Value) (w : zW) (nx K : Nat → zL → List Value → zW → Prop) (Rt : Option Value → zW → Prop) : z_st1 (tX8_init 109) 109 lv st w nx K Rt = K 109 lv st w := id rfl
theorem sX8_init_112 (lv : zL) (st : List Value) (w : zW) (nx K : Nat → zL → List Value → zW → Prop) (Rt : Option Value → zW → Prop) : z_st1 (tX8_init 112) 112 lv st w nx K Rt = K 112 lv st w := id rfl
theorem sX8_init_119 (lv : zL) (st : List Value) (w : zW) (nx K : Nat → zL → List Value → zW → Prop) (Rt : Option Value → zW → Prop) : z_st1 (tX8_init 119) 119 lv st w nx K Rt = K 119 lv st w := id rfl
theorem sX8_init_121 (lv : zL) (st : List Value) (w : zW) (nx K : Nat → zL → List Value → zW → Prop) (Rt : Option Value → zW → Prop) : z_st1 (tX8_init 121) 121 lv st w nx K Rt = K 121 lv st w := id rfl
theorem sX8_init_146 (lv : zL) (st : List Value) (w : zW) (nx K : Nat → zL → List Value → zW → Prop) (Rt : Option Value → zW → Prop) : z_st1 (tX8_init 146) 146 lv st w nx K Rt = K 146 lv st w := id rfl
theorem sX8_init_150 (lv : zL) (st : List Value) (w : zW) (nx K : Nat → zL → List Value → zW → Prop) (Rt : Option Value → zW → Prop) : z_st1 (tX8_init 150) 150 lv st w nx K Rt = K 150 lv st w := id rfl
theorem sX8_init_157 (lv : zL) (st : List Value) (w : zW) (nx K : Nat → zL → List Value → zW → Prop) (Rt : Option Value → zW → Prop) : z_st1 (tX8_init 157) 157 lv st w nx K Rt = K 157 lv st w := id rfl
theorem sX8_init_161 (lv : zL) (st : List Value) (w : zW) (nx K : Nat → zL → List Value → zW → Prop) (Rt : Option Value → zW → Prop) : z_st1 (tX8_init 161) 161 lv st w nx K Rt = K 161 lv st w := id rfl
theorem dX8_init_1 : decode cX8_init 1 = .ok (.invokespecial 3, 3) := by decide +kernel
theorem dX8_init_4 : decode cX8_init 4 = .ok (.new 9, 3) := by decide +kernel
theorem dX8_init_11 : decode cX8_init 11 = .ok (.invokespecial 11, 3) := by decide +kernel
theorem dX8_init_15 : decode cX8_init 15 = .ok (.new 14, 3) := by decide +kernel
theorem dX8_init_19 : decode cX8_init 19 = .ok (.invokespecial 16, 3) := by decide +kernel
theorem dX8_init_24 : decode cX8_init 24 = .ok (.new 9, 3) := by decide +kernel
theorem dX8_init_31 : decode cX8_init 31 = .ok (.invokespecial 11, 3) := by decide +kernel
theorem dX8_init_34 : decode cX8_init 34 = .ok (.putfield 17, 3) := by decide +kernel
theorem dX8_init_39 : decode cX8_init 39 = .ok (.putfield 21, 3) := by decide +kernel
theorem dX8_init_44 : decode cX8_init 44 = .ok (.putfield 24, 3) := by decide +kernel
theorem dX8_init_48 : decode cX8_init 48 = .ok (.new 28, 3) := by decide +kernel
theorem dX8_init_54 : decode cX8_init 54 = .ok (.invokespecial 30, 3) := by decide +kernel
theorem dX8_init_57 : decode cX8_init 57 = .ok (.putfield 33, 3) := by decide +kernel
theorem dX8_init_61 : decode cX8_init 61 = .ok (.new 37, 3) := by decide +kernel
theorem dX8_init_65 : decode cX8_init 65 = .ok (.invokespecial 39, 3) := by decide +kernel
theorem dX8_init_68 : decode cX8_init 68 = .ok (.putfield 40, 3) := by decide +kernel
theorem dX8_init_72 : decode cX8_init 72 = .ok (.new 44, 3) := by decide +kernel
theorem dX8_init_76 : decode cX8_init 76 = .ok (.invokespecial 46, 3) := by decide +kernel
theorem dX8_init_79 : decode cX8_init 79 = .ok (.putfield 47, 3) := by decide +kernel
theorem dX8_init_83 : decode cX8_init 83 = .ok (.new 51, 3) := by decide +kernel
theorem dX8_init_87 : decode cX8_init 87 = .ok (.invokespecial 53, 3) := by decide +kernel
theorem dX8_init_90 : decode cX8_init 90 = .ok (.putfield 54, 3) := by decide +kernel
theorem dX8_init_94 : decode cX8_init 94 = .ok (.new 51, 3) := by decide +kernel
theorem dX8_init_98 : decode cX8_init 98 = .ok (.invokespecial 53, 3) := by decide +kernel
theorem dX8_init_101 : decode cX8_init 101 = .ok (.putfield 58, 3) := by decide +kernel
theorem dX8_init_105 : decode cX8_init 105 = .ok (.new 61, 3) := by decide +kernel
theorem dX8_init_109 : decode cX8_init 109 = .ok (.invokespecial 63, 3) := by decide +kernel
theorem dX8_init_112 : decode cX8_init 112 = .ok (.putfield 64, 3) := by decide +kernel
theorem dX8_init_119 : decode cX8_init 119 = .ok (.newarray .int, 2) := by decide +kernel
theorem dX8_init_121 : decode cX8_init 121 = .ok (.putfield 68, 3) := by decide +kernel
theorem dX8_init_146 : decode cX8_init 146 = .ok (.new 85, 3) := by decide +kernel
theorem dX8_init_150 : decode cX8_init 150 = .ok (.invokespecial 87, 3) := by decide +kernel
theorem dX8_init_157 : decode cX8_init 157 = .ok (.new 85, 3) := by decide +kernel
theorem dX8_init_161 : decode cX8_init 161 = .ok (.invokespecial 87, 3) := by decide +kernel

def tmX8_area (pc : Nat) : zI := match pc with
  | 0 => (0, 1, 0, 1, 0)
  | 1 => (37, 14, 0, 4, 0)
  | 7 => (29, 0, 0, 8, 0)
  | 14 => (0, 1, 0, 15, 0)
  | 15 => (34, 25, 0, 18, 0)
  | 18 => (0, 1, 0, 19, 0)
  | 19 => (6, 0, 0, 22, 1000)
  | 22 => (45, 28, 0, 25, 0)
  | 25 => (6, 0, 0, 27, (-4))
  | 27 => (53, 0, 0, 28, 0)
  | 28 => (1, 0, 0, 29, 0)
  | 29 => (0, 1, 0, 30, 0)
  | 30 => (47, 9, 11, 33, 0)
  | 33 => (6, 0, 0, 34, 1)
  | 34 => (53, 0, 0, 35, 0)
  | _ => (99, 0, 0, 0, 0)
def tX8_area (pc : Nat) : zI := if pc < 35 then tmX8_area pc else (99, 0, 0, 0, 0)
theorem tkX8_area : z_tab RX8 wsX8_area 2 (some .int) cX8_area 35 tX8_area := z_tab_of (tm := tmX8_area) (by decide +kernel)
theorem sX8_area_0 (lv : zL) (st : List Value) (w : zW) (nx K : Nat → zL → List Value → zW → Prop) (Rt : Option Value → zW → Prop) : z_st1 (tX8_area 0) 0 lv st w nx K Rt = (z_li lv 1 (fun x => nx 1 lv (.int x :: st) w)) := id rfl
theorem sX8_area_1 (lv : zL) (st : List Value) (w : zW) (nx K : Nat → zL → List Value → zW → Prop) (Rt : Option Value → zW → Prop) : z_st1 (tX8_area 1) 1 lv st w nx K Rt = (z_1i st (fun x r => (0 ≤ x → nx 14 lv r w) ∧ (¬ 0 ≤ x → nx 4 lv r w))) := id rfl
theorem sX8_area_7 (lv : zL) (st : List Value) (w : zW) (nx K : Nat → zL → List Value → zW → Prop) (Rt : Option Value → zW → Prop) : z_st1 (tX8_area 7) 7 lv st w nx K Rt = (z_d1 st (fun x r => nx 8 lv (x :: x :: r) w)) := id rfl
theorem sX8_area_14 (lv : zL) (st : List Value) (w : zW) (nx K : Nat → zL → List Value → zW → Prop) (Rt : Option Value → zW → Prop) : z_st1 (tX8_area 14) 14 lv st w nx K Rt = (z_li lv 1 (fun x => nx 15 lv (.int x :: st) w)) := id rfl
theorem sX8_area_15 (lv : zL) (st : List Value) (w : zW) (nx K : Nat → zL → List Value → zW → Prop) (Rt : Option Value → zW → Prop) : z_st1 (tX8_area 15) 15 lv st w nx K Rt = (z_1i st (fun x r => (x = 0 → nx 25 lv r w) ∧ (¬ x = 0 → nx 18 lv r w))) := id rfl
theorem sX8_area_18 (lv : zL) (st : List Value) (w : zW) (nx K : Nat → zL → List Value → zW → Prop) (Rt : Option Value → zW → Prop) : z_st1 (tX8_area 18) 18 lv st w nx K Rt = (z_li lv 1 (fun x => nx 19 lv (.int x :: st) w)) := id rfl
theorem sX8_area_19 (lv : zL) (st : List Value) (w : zW) (nx K : Nat → zL → List Value → zW → Prop) (Rt : Option Value → zW → Prop) : z_st1 (tX8_area 19) 19 lv st w nx K Rt = (nx 22 lv (.int (1000 : Int32) :: st) w) := id rfl
theorem sX8_area_22 (lv : zL) (st : List Value) (w : zW) (nx K : Nat → zL → List Value → zW → Prop) (Rt : Option Value → zW → Prop) : z_st1 (tX8_area 22) 22 lv st w nx K Rt = (z_2i st (fun x y r => (x ≤ y → nx 28 lv r w) ∧ (¬ x ≤ y → nx 25 lv r w))) := id rfl
theorem sX8_area_25 (lv : zL) (st : List Value) (w : zW) (nx K : Nat → zL → List Value → zW → Prop) (Rt : Option Value → zW → Prop) : z_st1 (tX8_area 25) 25 lv st w nx K Rt = (nx 27 lv (.int (-4 : Int32) :: st) w) := id rfl
theorem sX8_area_27 (lv : zL) (st : List Value) (w : zW) (nx K : Nat → zL → List Value → zW → Prop) (Rt : Option Value → zW → Prop) : z_st1 (tX8_area 27) 27 lv st w nx K Rt = (z_e1 st (fun x => Rt (some (.int x)) w)) := id rfl
theorem sX8_area_28 (lv : zL) (st : List Value) (w : zW) (nx K : Nat → zL → List Value → zW → Prop) (Rt : Option Value → zW → Prop) : z_st1 (tX8_area 28) 28 lv st w nx K Rt = (z_la lv 0 (fun x => nx 29 lv (.ref x :: st) w)) := id rfl
theorem sX8_area_29 (lv : zL) (st : List Value) (w : zW) (nx K : Nat → zL → List Value → zW → Prop) (Rt : Option Value → zW → Prop) : z_st1 (tX8_area 29) 29 lv st w nx K Rt = (z_li lv 1 (fun x => nx 30 lv (.int x :: st) w)) := id rfl
theorem sX8_area_30 (lv : zL) (st : List Value) (w : zW) (nx K : Nat → zL → List Value → zW → Prop) (Rt : Option Value → zW → Prop) : z_st1 (tX8_area 30) 30 lv st w nx K Rt = (z_ia st (fun x i r => z_ob w x 9 (fun fs => 11 < fs.length ∧ nx 33 lv r (z_up w x (.inr (9, fs.set 11 (.int i))))))) := id rfl
theorem sX8_area_33 (lv : zL) (st : List Value) (w : zW) (nx K : Nat → zL → List Value → zW → Prop) (Rt : Option Value → zW → Prop) : z_st1 (tX8_area 33) 33 lv st w nx K Rt = (nx 34 lv (.int (1 : Int32) :: st) w) := id rfl
theorem sX8_area_34 (lv : zL) (st : List Value) (w : zW) (nx K : Nat → zL → List Value → zW → Prop) (Rt : Option Value → zW → Prop) : z_st1 (tX8_area 34) 34 lv st w nx K Rt = (z_e1 st (fun x => Rt (some (.int x)) w)) := id rfl
theorem sX8_area_4 (lv : zL) (st : List Value) (w : zW) (nx K : Nat → zL → List Value → zW → Prop) (Rt : Option Value → zW → Prop) : z_st1 (tX8_area 4) 4 lv st w nx K Rt = K 4 lv st w := id rfl
theorem sX8_area_8 (lv : zL) (st : List Value) (w : zW) (nx K : Nat → zL → List Value → zW → Prop) (Rt : Option Value → zW → Prop) : z_st1 (tX8_area 8) 8 lv st w nx K Rt = K 8 lv st w := id rfl
theorem sX8_area_10 (lv : zL) (st : List Value) (w : zW) (nx K : Nat → zL → List Value → zW → Prop) (Rt : Option Value → zW → Prop) : z_st1 (tX8_area 10) 10 lv st w nx K Rt = K 10 lv st w := id rfl
theorem sX8_area_13 (lv : zL) (st : List Value) (w : zW) (nx K : Nat → zL → List Value → zW → Prop) (Rt : Option Value → zW → Prop) : z_st1 (tX8_area 13) 13 lv st w nx K Rt = K 13 lv st w := id rfl
theorem dX8_area_4 : decode cX8_area 4 = .ok (.new 95, 3) := by decide +kernel
theorem dX8_area_8 : decode cX8_area 8 = .ok (.ldc 97, 2) := by decide +kernel
theorem dX8_area_10 : decode cX8_area 10 = .ok (.invokespecial 99, 3) := by decide +kernel
theorem dX8_area_13 : decode cX8_area 13 = .ok (.athrow, 1) := by decide +kernel

def tmX8_ways (pc : Nat) : zI := match pc with
  | 0 => (0, 1, 0, 1, 0)
  | 1 => (6, 0, 0, 2, 2)
  | 2 => (42, 11, 0, 5, 0)
  | 5 => (0, 1, 0, 6, 0)
  | 6 => (6, 0, 0, 8, 16)
  | 8 => (45, 14, 0, 11, 0)
  | 11 => (6, 0, 0, 13, (-4))
  | 13 => (53, 0, 0, 14, 0)
  | 14 => (1, 0, 0, 15, 0)
  | 15 => (46, 9, 12, 18, 0)
  | 18 => (3, 2, 0, 19, 0)
  | 19 => (1, 0, 0, 20, 0)
  | 20 => (0, 1, 0, 21, 0)
  | 21 => (47, 9, 12, 24, 0)
  | 24 => (0, 2, 0, 25, 0)
  | 25 => (53, 0, 0, 26, 0)
  | _ => (99, 0, 0, 0, 0)
def tX8_ways (pc : Nat) : zI := if pc < 26 then tmX8_ways pc else (99, 0, 0, 0, 0)
theorem tkX8_ways : z_tab RX8 wsX8_ways 3 (some .int) cX8_ways 26 tX8_ways := z_tab_of (tm := tmX8_ways) (by decide +kernel)
theorem sX8_ways_0 (lv : zL) (st : List Value) (w : zW) (nx K : Nat → zL → List Value → zW → Prop) (Rt : Option Value → zW → Prop) : z_st1 (tX8_ways 0) 0 lv st w nx K Rt = (z_li lv 1 (fun x => nx 1 lv (.int x :: st) w)) := id rfl
theorem sX8_ways_1 (lv : zL) (st : List Value) (w : zW) (nx K : Nat → zL → List Value → zW → Prop) (Rt : Option Value → zW → Prop) : z_st1 (tX8_ways 1) 1 lv st w nx K Rt = (nx 2 lv (.int (2 : Int32) :: st) w) := id rfl
theorem sX8_ways_2 (lv : zL) (st : List Value) (w : zW) (nx K : Nat → zL → List Value → zW → Prop) (Rt : Option Value → zW → Prop) : z_st1 (tX8_ways 2) 2 lv st w nx K Rt = (z_2i st (fun x y r => (x < y → nx 11 lv r w) ∧ (¬ x < y → nx 5 lv r w))) := id rfl
theorem sX8_ways_5 (lv : zL) (st : List Value) (w : zW) (nx K : Nat → zL → List Value → zW → Prop) (Rt : Option Value → zW → Prop) : z_st1 (tX8_ways 5) 5 lv st w nx K Rt = (z_li lv 1 (fun x => nx 6 lv (.int x :: st) w)) := id rfl
theorem sX8_ways_6 (lv : zL) (st : List Value) (w : zW) (nx K : Nat → zL → List Value → zW → Prop) (Rt : Option Value → zW → Prop) : z_st1 (tX8_ways 6) 6 lv st w nx K Rt = (nx 8 lv (.int (16 : Int32) :: st) w) := id rfl
theorem sX8_ways_8 (lv : zL) (st : List Value) (w : zW) (nx K : Nat → zL → List Value → zW → Prop) (Rt : Option Value → zW → Prop) : z_st1 (tX8_ways 8) 8 lv st w nx K Rt = (z_2i st (fun x y r => (x ≤ y → nx 14 lv r w) ∧ (¬ x ≤ y → nx 11 lv r w))) := id rfl
theorem sX8_ways_11 (lv : zL) (st : List Value) (w : zW) (nx K : Nat → zL → List Value → zW → Prop) (Rt : Option Value → zW → Prop) : z_st1 (tX8_ways 11) 11 lv st w nx K Rt = (nx 13 lv (.int (-4 : Int32) :: st) w) := id rfl
theorem sX8_ways_13 (lv : zL) (st : List Value) (w : zW) (nx K : Nat → zL → List Value → zW → Prop) (Rt : Option Value → zW → Prop) : z_st1 (tX8_ways 13) 13 lv st w nx K Rt = (z_e1 st (fun x => Rt (some (.int x)) w)) := id rfl
theorem sX8_ways_14 (lv : zL) (st : List Value) (w : zW) (nx K : Nat → zL → List Value → zW → Prop) (Rt : Option Value → zW → Prop) : z_st1 (tX8_ways 14) 14 lv st w nx K Rt = (z_la lv 0 (fun x => nx 15 lv (.ref x :: st) w)) := id rfl
theorem sX8_ways_15 (lv : zL) (st : List Value) (w : zW) (nx K : Nat → zL → List Value → zW → Prop) (Rt : Option Value → zW → Prop) : z_st1 (tX8_ways 15) 15 lv st w nx K Rt = (z_1a st (fun x r => z_ob w x 9 (fun fs => z_fl fs 12 (fun u => nx 18 lv (u :: r) w)))) := id rfl
theorem sX8_ways_18 (lv : zL) (st : List Value) (w : zW) (nx K : Nat → zL → List Value → zW → Prop) (Rt : Option Value → zW → Prop) : z_st1 (tX8_ways 18) 18 lv st w nx K Rt = (z_1i st (fun x r => z_ok1 lv 2 = true ∧ nx 19 (lv.set 2 (some (.int x))) r w)) := id rfl
theorem sX8_ways_19 (lv : zL) (st : List Value) (w : zW) (nx K : Nat → zL → List Value → zW → Prop) (Rt : Option Value → zW → Prop) : z_st1 (tX8_ways 19) 19 lv st w nx K Rt = (z_la lv 0 (fun x => nx 20 lv (.ref x :: st) w)) := id rfl
theorem sX8_ways_20 (lv : zL) (st : List Value) (w : zW) (nx K : Nat → zL → List Value → zW → Prop) (Rt : Option Value → zW → Prop) : z_st1 (tX8_ways 20) 20 lv st w nx K Rt = (z_li lv 1 (fun x => nx 21 lv (.int x :: st) w)) := id rfl
theorem sX8_ways_21 (lv : zL) (st : List Value) (w : zW) (nx K : Nat → zL → List Value → zW → Prop) (Rt : Option Value → zW → Prop) : z_st1 (tX8_ways 21) 21 lv st w nx K Rt = (z_ia st (fun x i r => z_ob w x 9 (fun fs => 12 < fs.length ∧ nx 24 lv r (z_up w x (.inr (9, fs.set 12 (.int i))))))) := id rfl
theorem sX8_ways_24 (lv : zL) (st : List Value) (w : zW) (nx K : Nat → zL → List Value → zW → Prop) (Rt : Option Value → zW → Prop) : z_st1 (tX8_ways 24) 24 lv st w nx K Rt = (z_li lv 2 (fun x => nx 25 lv (.int x :: st) w)) := id rfl
theorem sX8_ways_25 (lv : zL) (st : List Value) (w : zW) (nx K : Nat → zL → List Value → zW → Prop) (Rt : Option Value → zW → Prop) : z_st1 (tX8_ways 25) 25 lv st w nx K Rt = (z_e1 st (fun x => Rt (some (.int x)) w)) := id rfl

def tmX8_key (pc : Nat) : zI := match pc with
  | 0 => (0, 1, 0, 1, 0)
  | 1 => (0, 2, 0, 2, 0)
  | 2 => (0, 3, 0, 3, 0)
  | 6 => (35, 12, 0, 9, 0)
  | 9 => (6, 0, 0, 11, (-4))
  | 11 => (53, 0, 0, 12, 0)
  | 12 => (1, 0, 0, 13, 0)
  | 13 => (46, 9, 13, 16, 0)
  | 16 => (34, 22, 0, 19, 0)
  | 19 => (6, 0, 0, 21, (-5))
  | 21 => (53, 0, 0, 22, 0)
  | 22 => (1, 0, 0, 23, 0)
  | 23 => (46, 9, 2, 26, 0)
  | 26 => (0, 1, 0, 27, 0)
  | 27 => (0, 2, 0, 28, 0)
  | 28 => (0, 3, 0, 29, 0)
  | 29 => (0, 4, 0, 31, 0)
  | 34 => (53, 0, 0, 35, 0)
  | _ => (99, 0, 0, 0, 0)
def tX8_key (pc : Nat) : zI := if pc < 35 then tmX8_key pc else (99, 0, 0, 0, 0)
theorem tkX8_key : z_tab RX8 wsX8_key 5 (some .int) cX8_key 35 tX8_key := z_tab_of (tm := tmX8_key) (by decide +kernel)
theorem sX8_key_0 (lv : zL) (st : List Value) (w : zW) (nx K : Nat → zL → List Value → zW → Prop) (Rt : Option Value → zW → Prop) : z_st1 (tX8_key 0) 0 lv st w nx K Rt = (z_li lv 1 (fun x => nx 1 lv (.int x :: st) w)) := id rfl
theorem sX8_key_1 (lv : zL) (st : List Value) (w : zW) (nx K : Nat → zL → List Value → zW → Prop) (Rt : Option Value → zW → Prop) : z_st1 (tX8_key 1) 1 lv st w nx K Rt = (z_li lv 2 (fun x => nx 2 lv (.int x :: st) w)) := id rfl
theorem sX8_key_2 (lv : zL) (st : List Value) (w : zW) (nx K : Nat → zL → List Value → zW → Prop) (Rt : Option Value → zW → Prop) : z_st1 (tX8_key 2) 2 lv st w nx K Rt = (z_li lv 3 (fun x => nx 3 lv (.int x :: st) w)) := id rfl
theorem sX8_key_6 (lv : zL) (st : List Value) (w : zW) (nx K : Nat → zL → List Value → zW → Prop) (Rt : Option Value → zW → Prop) : z_st1 (tX8_key 6) 6 lv st w nx K Rt = (z_1i st (fun x r => (¬ x = 0 → nx 12 lv r w) ∧ (x = 0 → nx 9 lv r w))) := id rfl
theorem sX8_key_9 (lv : zL) (st : List Value) (w : zW) (nx K : Nat → zL → List Value → zW → Prop) (Rt : Option Value → zW → Prop) : z_st1 (tX8_key 9) 9 lv st w nx K Rt = (nx 11 lv (.int (-4 : Int32) :: st) w) := id rfl
theorem sX8_key_11 (lv : zL) (st : List Value) (w : zW) (nx K : Nat → zL → List Value → zW → Prop) (Rt : Option Value → zW → Prop) : z_st1 (tX8_key 11) 11 lv st w nx K Rt = (z_e1 st (fun x => Rt (some (.int x)) w)) := id rfl
theorem sX8_key_12 (lv : zL) (st : List Value) (w : zW) (nx K : Nat → zL → List Value → zW → Prop) (Rt : Option Value → zW → Prop) : z_st1 (tX8_key 12) 12 lv st w nx K Rt = (z_la lv 0 (fun x => nx 13 lv (.ref x :: st) w)) := id rfl
theorem sX8_key_13 (lv : zL) (st : List Value) (w : zW) (nx K : Nat → zL → List Value → zW → Prop) (Rt : Option Value → zW → Prop) : z_st1 (tX8_key 13) 13 lv st w nx K Rt = (z_1a st (fun x r => z_ob w x 9 (fun fs => z_fl fs 13 (fun u => nx 16 lv (u :: r) w)))) := id rfl
theorem sX8_key_16 (lv : zL) (st : List Value) (w : zW) (nx K : Nat → zL → List Value → zW → Prop) (Rt : Option Value → zW → Prop) : z_st1 (tX8_key 16) 16 lv st w nx K Rt = (z_1i st (fun x r => (x = 0 → nx 22 lv r w) ∧ (¬ x = 0 → nx 19 lv r w))) := id rfl
theorem sX8_key_19 (lv : zL) (st : List Value) (w : zW) (nx K : Nat → zL → List Value → zW → Prop) (Rt : Option Value → zW → Prop) : z_st1 (tX8_key 19) 19 lv st w nx K Rt = (nx 21 lv (.int (-5 : Int32) :: st) w) := id rfl
theorem sX8_key_21 (lv : zL) (st : List Value) (w : zW) (nx K : Nat → zL → List Value → zW → Prop) (Rt : Option Value → zW → Prop) : z_st1 (tX8_key 21) 21 lv st w nx K Rt = (z_e1 st (fun x => Rt (some (.int x)) w)) := id rfl
theorem sX8_key_22 (lv : zL) (st : List Value) (w : zW) (nx K : Nat → zL → List Value → zW → Prop) (Rt : Option Value → zW → Prop) : z_st1 (tX8_key 22) 22 lv st w nx K Rt = (z_la lv 0 (fun x => nx 23 lv (.ref x :: st) w)) := id rfl
theorem sX8_key_23 (lv : zL) (st : List Value) (w : zW) (nx K : Nat → zL → List Value → zW → Prop) (Rt : Option Value → zW → Prop) : z_st1 (tX8_key 23) 23 lv st w nx K Rt = (z_1a st (fun x r => z_ob w x 9 (fun fs => z_fl fs 2 (fun u => nx 26 lv (u :: r) w)))) := id rfl
theorem sX8_key_26 (lv : zL) (st : List Value) (w : zW) (nx K : Nat → zL → List Value → zW → Prop) (Rt : Option Value → zW → Prop) : z_st1 (tX8_key 26) 26 lv st w nx K Rt = (z_li lv 1 (fun x => nx 27 lv (.int x :: st) w)) := id rfl
theorem sX8_key_27 (lv : zL) (st : List Value) (w : zW) (nx K : Nat → zL → List Value → zW → Prop) (Rt : Option Value → zW → Prop) : z_st1 (tX8_key 27) 27 lv st w nx K Rt = (z_li lv 2 (fun x => nx 28 lv (.int x :: st) w)) := id rfl
theorem sX8_key_28 (lv : zL) (st : List Value) (w : zW) (nx K : Nat → zL → List Value → zW → Prop) (Rt : Option Value → zW → Prop) : z_st1 (tX8_key 28) 28 lv st w nx K Rt = (z_li lv 3 (fun x => nx 29 lv (.int x :: st) w)) := id rfl
theorem sX8_key_29 (lv : zL) (st : List Value) (w : zW) (nx K : Nat → zL → List Value → zW → Prop) (Rt : Option Value → zW → Prop) : z_st1 (tX8_key 29) 29 lv st w nx K Rt = (z_li lv 4 (fun x => nx 31 lv (.int x :: st) w)) := id rfl
theorem sX8_key_34 (lv : zL) (st : List Value) (w : zW) (nx K : Nat → zL → List Value → zW → Prop) (Rt : Option Value → zW → Prop) : z_st1 (tX8_key 34) 34 lv st w nx K Rt = (z_e1 st (fun x => Rt (some (.int x)) w)) := id rfl
theorem sX8_key_3 (lv : zL) (st : List Value) (w : zW) (nx K : Nat → zL → List Value → zW → Prop) (Rt : Option Value → zW → Prop) : z_st1 (tX8_key 3) 3 lv st w nx K Rt = K 3 lv st w := id rfl
theorem sX8_key_31 (lv : zL) (st : List Value) (w : zW) (nx K : Nat → zL → List Value → zW → Prop) (Rt : Option Value → zW → Prop) : z_st1 (tX8_key 31) 31 lv st w nx K Rt = K 31 lv st w := id rfl
theorem dX8_key_3 : decode cX8_key 3 = .ok (.invokestatic 102, 3) := by decide +kernel
theorem dX8_key_31 : decode cX8_key 31 = .ok (.invokevirtual 106, 3) := by decide +kernel
