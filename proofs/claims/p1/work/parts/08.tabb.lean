def tmX8_release (pc : Nat) : zI := match pc with
  | 0 => (1, 0, 0, 1, 0)
  | 1 => (0, 1, 0, 2, 0)
  | 5 => (35, 11, 0, 8, 0)
  | 8 => (6, 0, 0, 10, (-2))
  | 10 => (53, 0, 0, 11, 0)
  | 11 => (1, 0, 0, 12, 0)
  | 12 => (46, 9, 13, 15, 0)
  | 15 => (6, 0, 0, 16, 1)
  | 16 => (40, 22, 0, 19, 0)
  | 19 => (6, 0, 0, 21, (-5))
  | 21 => (53, 0, 0, 22, 0)
  | 22 => (1, 0, 0, 23, 0)
  | 23 => (46, 9, 10, 26, 0)
  | 26 => (1, 0, 0, 27, 0)
  | 27 => (46, 9, 9, 30, 0)
  | 30 => (52, 0, 0, 31, 0)
  | 31 => (42, 36, 0, 34, 0)
  | 34 => (6, 0, 0, 35, (-1))
  | 35 => (53, 0, 0, 36, 0)
  | 36 => (1, 0, 0, 37, 0)
  | 37 => (46, 9, 9, 40, 0)
  | 40 => (1, 0, 0, 41, 0)
  | 41 => (46, 9, 10, 44, 0)
  | 44 => (0, 1, 0, 45, 0)
  | 45 => (49, 0, 0, 46, 0)
  | 46 => (1, 0, 0, 47, 0)
  | 47 => (29, 0, 0, 48, 0)
  | 48 => (46, 9, 10, 51, 0)
  | 51 => (6, 0, 0, 52, 1)
  | 52 => (8, 0, 0, 53, 0)
  | 53 => (47, 9, 10, 56, 0)
  | 56 => (1, 0, 0, 57, 0)
  | 57 => (46, 9, 10, 60, 0)
  | 60 => (53, 0, 0, 61, 0)
  | _ => (99, 0, 0, 0, 0)
def tX8_release (pc : Nat) : zI := if pc < 61 then tmX8_release pc else (99, 0, 0, 0, 0)
theorem tkX8_release : z_tab RX8 wsX8_release 2 (some .int) cX8_release 61 tX8_release := z_tab_of (tm := tmX8_release) (by decide +kernel)
theorem sX8_release_0 (lv : zL) (st : List Value) (w : zW) (nx K : Nat → zL → List Value → zW → Prop) (Rt : Option Value → zW → Prop) : z_st1 (tX8_release 0) 0 lv st w nx K Rt = (z_la lv 0 (fun x => nx 1 lv (.ref x :: st) w)) := id rfl
theorem sX8_release_1 (lv : zL) (st : List Value) (w : zW) (nx K : Nat → zL → List Value → zW → Prop) (Rt : Option Value → zW → Prop) : z_st1 (tX8_release 1) 1 lv st w nx K Rt = (z_li lv 1 (fun x => nx 2 lv (.int x :: st) w)) := id rfl
theorem sX8_release_5 (lv : zL) (st : List Value) (w : zW) (nx K : Nat → zL → List Value → zW → Prop) (Rt : Option Value → zW → Prop) : z_st1 (tX8_release 5) 5 lv st w nx K Rt = (z_1i st (fun x r => (¬ x = 0 → nx 11 lv r w) ∧ (x = 0 → nx 8 lv r w))) := id rfl
theorem sX8_release_8 (lv : zL) (st : List Value) (w : zW) (nx K : Nat → zL → List Value → zW → Prop) (Rt : Option Value → zW → Prop) : z_st1 (tX8_release 8) 8 lv st w nx K Rt = (nx 10 lv (.int (-2 : Int32) :: st) w) := id rfl
theorem sX8_release_10 (lv : zL) (st : List Value) (w : zW) (nx K : Nat → zL → List Value → zW → Prop) (Rt : Option Value → zW → Prop) : z_st1 (tX8_release 10) 10 lv st w nx K Rt = (z_e1 st (fun x => Rt (some (.int x)) w)) := id rfl
theorem sX8_release_11 (lv : zL) (st : List Value) (w : zW) (nx K : Nat → zL → List Value → zW → Prop) (Rt : Option Value → zW → Prop) : z_st1 (tX8_release 11) 11 lv st w nx K Rt = (z_la lv 0 (fun x => nx 12 lv (.ref x :: st) w)) := id rfl
theorem sX8_release_12 (lv : zL) (st : List Value) (w : zW) (nx K : Nat → zL → List Value → zW → Prop) (Rt : Option Value → zW → Prop) : z_st1 (tX8_release 12) 12 lv st w nx K Rt = (z_1a st (fun x r => z_ob w x 9 (fun fs => z_fl fs 13 (fun u => nx 15 lv (u :: r) w)))) := id rfl
theorem sX8_release_15 (lv : zL) (st : List Value) (w : zW) (nx K : Nat → zL → List Value → zW → Prop) (Rt : Option Value → zW → Prop) : z_st1 (tX8_release 15) 15 lv st w nx K Rt = (nx 16 lv (.int (1 : Int32) :: st) w) := id rfl
theorem sX8_release_16 (lv : zL) (st : List Value) (w : zW) (nx K : Nat → zL → List Value → zW → Prop) (Rt : Option Value → zW → Prop) : z_st1 (tX8_release 16) 16 lv st w nx K Rt = (z_2i st (fun x y r => (x = y → nx 22 lv r w) ∧ (¬ x = y → nx 19 lv r w))) := id rfl
theorem sX8_release_19 (lv : zL) (st : List Value) (w : zW) (nx K : Nat → zL → List Value → zW → Prop) (Rt : Option Value → zW → Prop) : z_st1 (tX8_release 19) 19 lv st w nx K Rt = (nx 21 lv (.int (-5 : Int32) :: st) w) := id rfl
theorem sX8_release_21 (lv : zL) (st : List Value) (w : zW) (nx K : Nat → zL → List Value → zW → Prop) (Rt : Option Value → zW → Prop) : z_st1 (tX8_release 21) 21 lv st w nx K Rt = (z_e1 st (fun x => Rt (some (.int x)) w)) := id rfl
theorem sX8_release_22 (lv : zL) (st : List Value) (w : zW) (nx K : Nat → zL → List Value → zW → Prop) (Rt : Option Value → zW → Prop) : z_st1 (tX8_release 22) 22 lv st w nx K Rt = (z_la lv 0 (fun x => nx 23 lv (.ref x :: st) w)) := id rfl
theorem sX8_release_23 (lv : zL) (st : List Value) (w : zW) (nx K : Nat → zL → List Value → zW → Prop) (Rt : Option Value → zW → Prop) : z_st1 (tX8_release 23) 23 lv st w nx K Rt = (z_1a st (fun x r => z_ob w x 9 (fun fs => z_fl fs 10 (fun u => nx 26 lv (u :: r) w)))) := id rfl
theorem sX8_release_26 (lv : zL) (st : List Value) (w : zW) (nx K : Nat → zL → List Value → zW → Prop) (Rt : Option Value → zW → Prop) : z_st1 (tX8_release 26) 26 lv st w nx K Rt = (z_la lv 0 (fun x => nx 27 lv (.ref x :: st) w)) := id rfl
theorem sX8_release_27 (lv : zL) (st : List Value) (w : zW) (nx K : Nat → zL → List Value → zW → Prop) (Rt : Option Value → zW → Prop) : z_st1 (tX8_release 27) 27 lv st w nx K Rt = (z_1a st (fun x r => z_ob w x 9 (fun fs => z_fl fs 9 (fun u => nx 30 lv (u :: r) w)))) := id rfl
theorem sX8_release_30 (lv : zL) (st : List Value) (w : zW) (nx K : Nat → zL → List Value → zW → Prop) (Rt : Option Value → zW → Prop) : z_st1 (tX8_release 30) 30 lv st w nx K Rt = (z_1a st (fun x r => z_ar0 w x (fun m _ => nx 31 lv (.int (Int32.ofNat m) :: r) w))) := id rfl
theorem sX8_release_31 (lv : zL) (st : List Value) (w : zW) (nx K : Nat → zL → List Value → zW → Prop) (Rt : Option Value → zW → Prop) : z_st1 (tX8_release 31) 31 lv st w nx K Rt = (z_2i st (fun x y r => (x < y → nx 36 lv r w) ∧ (¬ x < y → nx 34 lv r w))) := id rfl
theorem sX8_release_34 (lv : zL) (st : List Value) (w : zW) (nx K : Nat → zL → List Value → zW → Prop) (Rt : Option Value → zW → Prop) : z_st1 (tX8_release 34) 34 lv st w nx K Rt = (nx 35 lv (.int (-1 : Int32) :: st) w) := id rfl
theorem sX8_release_35 (lv : zL) (st : List Value) (w : zW) (nx K : Nat → zL → List Value → zW → Prop) (Rt : Option Value → zW → Prop) : z_st1 (tX8_release 35) 35 lv st w nx K Rt = (z_e1 st (fun x => Rt (some (.int x)) w)) := id rfl
theorem sX8_release_36 (lv : zL) (st : List Value) (w : zW) (nx K : Nat → zL → List Value → zW → Prop) (Rt : Option Value → zW → Prop) : z_st1 (tX8_release 36) 36 lv st w nx K Rt = (z_la lv 0 (fun x => nx 37 lv (.ref x :: st) w)) := id rfl
theorem sX8_release_37 (lv : zL) (st : List Value) (w : zW) (nx K : Nat → zL → List Value → zW → Prop) (Rt : Option Value → zW → Prop) : z_st1 (tX8_release 37) 37 lv st w nx K Rt = (z_1a st (fun x r => z_ob w x 9 (fun fs => z_fl fs 9 (fun u => nx 40 lv (u :: r) w)))) := id rfl
theorem sX8_release_40 (lv : zL) (st : List Value) (w : zW) (nx K : Nat → zL → List Value → zW → Prop) (Rt : Option Value → zW → Prop) : z_st1 (tX8_release 40) 40 lv st w nx K Rt = (z_la lv 0 (fun x => nx 41 lv (.ref x :: st) w)) := id rfl
theorem sX8_release_41 (lv : zL) (st : List Value) (w : zW) (nx K : Nat → zL → List Value → zW → Prop) (Rt : Option Value → zW → Prop) : z_st1 (tX8_release 41) 41 lv st w nx K Rt = (z_1a st (fun x r => z_ob w x 9 (fun fs => z_fl fs 10 (fun u => nx 44 lv (u :: r) w)))) := id rfl
theorem sX8_release_44 (lv : zL) (st : List Value) (w : zW) (nx K : Nat → zL → List Value → zW → Prop) (Rt : Option Value → zW → Prop) : z_st1 (tX8_release 44) 44 lv st w nx K Rt = (z_li lv 1 (fun x => nx 45 lv (.int x :: st) w)) := id rfl
theorem sX8_release_45 (lv : zL) (st : List Value) (w : zW) (nx K : Nat → zL → List Value → zW → Prop) (Rt : Option Value → zW → Prop) : z_st1 (tX8_release 45) 45 lv st w nx K Rt = (z_iia st (fun x i u r => z_ar0 w x (fun m g => vp_in i m ∧ nx 46 lv r (z_up w x (.inl (0, m, .inl (upd g i.toNatClampNeg u))))))) := id rfl
theorem sX8_release_46 (lv : zL) (st : List Value) (w : zW) (nx K : Nat → zL → List Value → zW → Prop) (Rt : Option Value → zW → Prop) : z_st1 (tX8_release 46) 46 lv st w nx K Rt = (z_la lv 0 (fun x => nx 47 lv (.ref x :: st) w)) := id rfl
theorem sX8_release_47 (lv : zL) (st : List Value) (w : zW) (nx K : Nat → zL → List Value → zW → Prop) (Rt : Option Value → zW → Prop) : z_st1 (tX8_release 47) 47 lv st w nx K Rt = (z_d1 st (fun x r => nx 48 lv (x :: x :: r) w)) := id rfl
theorem sX8_release_48 (lv : zL) (st : List Value) (w : zW) (nx K : Nat → zL → List Value → zW → Prop) (Rt : Option Value → zW → Prop) : z_st1 (tX8_release 48) 48 lv st w nx K Rt = (z_1a st (fun x r => z_ob w x 9 (fun fs => z_fl fs 10 (fun u => nx 51 lv (u :: r) w)))) := id rfl
theorem sX8_release_51 (lv : zL) (st : List Value) (w : zW) (nx K : Nat → zL → List Value → zW → Prop) (Rt : Option Value → zW → Prop) : z_st1 (tX8_release 51) 51 lv st w nx K Rt = (nx 52 lv (.int (1 : Int32) :: st) w) := id rfl
theorem sX8_release_52 (lv : zL) (st : List Value) (w : zW) (nx K : Nat → zL → List Value → zW → Prop) (Rt : Option Value → zW → Prop) : z_st1 (tX8_release 52) 52 lv st w nx K Rt = (z_2i st (fun x y r => nx 53 lv (.int (x + y) :: r) w)) := id rfl
theorem sX8_release_53 (lv : zL) (st : List Value) (w : zW) (nx K : Nat → zL → List Value → zW → Prop) (Rt : Option Value → zW → Prop) : z_st1 (tX8_release 53) 53 lv st w nx K Rt = (z_ia st (fun x i r => z_ob w x 9 (fun fs => 10 < fs.length ∧ nx 56 lv r (z_up w x (.inr (9, fs.set 10 (.int i))))))) := id rfl
theorem sX8_release_56 (lv : zL) (st : List Value) (w : zW) (nx K : Nat → zL → List Value → zW → Prop) (Rt : Option Value → zW → Prop) : z_st1 (tX8_release 56) 56 lv st w nx K Rt = (z_la lv 0 (fun x => nx 57 lv (.ref x :: st) w)) := id rfl
theorem sX8_release_57 (lv : zL) (st : List Value) (w : zW) (nx K : Nat → zL → List Value → zW → Prop) (Rt : Option Value → zW → Prop) : z_st1 (tX8_release 57) 57 lv st w nx K Rt = (z_1a st (fun x r => z_ob w x 9 (fun fs => z_fl fs 10 (fun u => nx 60 lv (u :: r) w)))) := id rfl
theorem sX8_release_60 (lv : zL) (st : List Value) (w : zW) (nx K : Nat → zL → List Value → zW → Prop) (Rt : Option Value → zW → Prop) : z_st1 (tX8_release 60) 60 lv st w nx K Rt = (z_e1 st (fun x => Rt (some (.int x)) w)) := id rfl
theorem sX8_release_2 (lv : zL) (st : List Value) (w : zW) (nx K : Nat → zL → List Value → zW → Prop) (Rt : Option Value → zW → Prop) : z_st1 (tX8_release 2) 2 lv st w nx K Rt = K 2 lv st w := id rfl
theorem dX8_release_2 : decode cX8_release 2 = .ok (.invokevirtual 121, 3) := by decide +kernel

def tmX8_sort (pc : Nat) : zI := match pc with
  | 0 => (1, 0, 0, 1, 0)
  | 1 => (46, 9, 13, 4, 0)
  | 4 => (6, 0, 0, 5, 1)
  | 5 => (40, 11, 0, 8, 0)
  | 8 => (6, 0, 0, 10, (-5))
  | 10 => (53, 0, 0, 11, 0)
  | 11 => (1, 0, 0, 12, 0)
  | 12 => (46, 9, 18, 15, 0)
  | 18 => (1, 0, 0, 19, 0)
  | 22 => (3, 2, 0, 23, 0)
  | 23 => (0, 2, 0, 24, 0)
  | 24 => (6, 0, 0, 25, (-1))
  | 25 => (41, 81, 0, 28, 0)
  | 28 => (1, 0, 0, 29, 0)
  | 29 => (46, 9, 3, 32, 0)
  | 32 => (0, 1, 0, 33, 0)
  | 36 => (1, 0, 0, 37, 0)
  | 37 => (46, 9, 18, 40, 0)
  | 40 => (1, 0, 0, 41, 0)
  | 41 => (46, 9, 3, 44, 0)
  | 44 => (1, 0, 0, 45, 0)
  | 45 => (46, 9, 11, 48, 0)
  | 51 => (47, 8, 0, 54, 0)
  | 54 => (1, 0, 0, 55, 0)
  | 55 => (46, 9, 18, 58, 0)
  | 58 => (1, 0, 0, 59, 0)
  | 59 => (46, 9, 3, 62, 0)
  | 62 => (1, 0, 0, 63, 0)
  | 63 => (46, 9, 12, 66, 0)
  | 69 => (47, 8, 1, 72, 0)
  | 72 => (1, 0, 0, 73, 0)
  | 76 => (1, 0, 0, 77, 0)
  | 80 => (3, 2, 0, 81, 0)
  | 81 => (0, 2, 0, 82, 0)
  | 82 => (6, 0, 0, 83, (-1))
  | 83 => (40, 101, 0, 86, 0)
  | 86 => (1, 0, 0, 87, 0)
  | 87 => (0, 2, 0, 88, 0)
  | 88 => (47, 9, 16, 91, 0)
  | 94 => (29, 0, 0, 95, 0)
  | 101 => (1, 0, 0, 102, 0)
  | 102 => (46, 9, 17, 105, 0)
  | 105 => (4, 3, 0, 106, 0)
  | 106 => (1, 0, 0, 107, 0)
  | 107 => (1, 0, 0, 108, 0)
  | 108 => (46, 9, 18, 111, 0)
  | 111 => (61, 9, 17, 114, 0)
  | 114 => (1, 0, 0, 115, 0)
  | 115 => (1, 3, 0, 116, 0)
  | 116 => (61, 9, 18, 119, 0)
  | 119 => (1, 0, 0, 120, 0)
  | 120 => (6, 0, 0, 121, 0)
  | 121 => (47, 9, 10, 124, 0)
  | 124 => (1, 0, 0, 125, 0)
  | 128 => (53, 0, 0, 129, 0)
  | _ => (99, 0, 0, 0, 0)
def tX8_sort (pc : Nat) : zI := if pc < 129 then tmX8_sort pc else (99, 0, 0, 0, 0)
theorem tkX8_sort : z_tab RX8 wsX8_sort 4 (some .int) cX8_sort 129 tX8_sort := z_tab_of (tm := tmX8_sort) (by decide +kernel)
theorem sX8_sort_0 (lv : zL) (st : List Value) (w : zW) (nx K : Nat → zL → List Value → zW → Prop) (Rt : Option Value → zW → Prop) : z_st1 (tX8_sort 0) 0 lv st w nx K Rt = (z_la lv 0 (fun x => nx 1 lv (.ref x :: st) w)) := id rfl
theorem sX8_sort_1 (lv : zL) (st : List Value) (w : zW) (nx K : Nat → zL → List Value → zW → Prop) (Rt : Option Value → zW → Prop) : z_st1 (tX8_sort 1) 1 lv st w nx K Rt = (z_1a st (fun x r => z_ob w x 9 (fun fs => z_fl fs 13 (fun u => nx 4 lv (u :: r) w)))) := id rfl
theorem sX8_sort_4 (lv : zL) (st : List Value) (w : zW) (nx K : Nat → zL → List Value → zW → Prop) (Rt : Option Value → zW → Prop) : z_st1 (tX8_sort 4) 4 lv st w nx K Rt = (nx 5 lv (.int (1 : Int32) :: st) w) := id rfl
theorem sX8_sort_5 (lv : zL) (st : List Value) (w : zW) (nx K : Nat → zL → List Value → zW → Prop) (Rt : Option Value → zW → Prop) : z_st1 (tX8_sort 5) 5 lv st w nx K Rt = (z_2i st (fun x y r => (x = y → nx 11 lv r w) ∧ (¬ x = y → nx 8 lv r w))) := id rfl
theorem sX8_sort_8 (lv : zL) (st : List Value) (w : zW) (nx K : Nat → zL → List Value → zW → Prop) (Rt : Option Value → zW → Prop) : z_st1 (tX8_sort 8) 8 lv st w nx K Rt = (nx 10 lv (.int (-5 : Int32) :: st) w) := id rfl
theorem sX8_sort_10 (lv : zL) (st : List Value) (w : zW) (nx K : Nat → zL → List Value → zW → Prop) (Rt : Option Value → zW → Prop) : z_st1 (tX8_sort 10) 10 lv st w nx K Rt = (z_e1 st (fun x => Rt (some (.int x)) w)) := id rfl
theorem sX8_sort_11 (lv : zL) (st : List Value) (w : zW) (nx K : Nat → zL → List Value → zW → Prop) (Rt : Option Value → zW → Prop) : z_st1 (tX8_sort 11) 11 lv st w nx K Rt = (z_la lv 0 (fun x => nx 12 lv (.ref x :: st) w)) := id rfl
theorem sX8_sort_12 (lv : zL) (st : List Value) (w : zW) (nx K : Nat → zL → List Value → zW → Prop) (Rt : Option Value → zW → Prop) : z_st1 (tX8_sort 12) 12 lv st w nx K Rt = (z_1a st (fun x r => z_ob w x 9 (fun fs => z_fl fs 18 (fun u => nx 15 lv (u :: r) w)))) := id rfl
theorem sX8_sort_18 (lv : zL) (st : List Value) (w : zW) (nx K : Nat → zL → List Value → zW → Prop) (Rt : Option Value → zW → Prop) : z_st1 (tX8_sort 18) 18 lv st w nx K Rt = (z_la lv 0 (fun x => nx 19 lv (.ref x :: st) w)) := id rfl
theorem sX8_sort_22 (lv : zL) (st : List Value) (w : zW) (nx K : Nat → zL → List Value → zW → Prop) (Rt : Option Value → zW → Prop) : z_st1 (tX8_sort 22) 22 lv st w nx K Rt = (z_1i st (fun x r => z_ok1 lv 2 = true ∧ nx 23 (lv.set 2 (some (.int x))) r w)) := id rfl
theorem sX8_sort_23 (lv : zL) (st : List Value) (w : zW) (nx K : Nat → zL → List Value → zW → Prop) (Rt : Option Value → zW → Prop) : z_st1 (tX8_sort 23) 23 lv st w nx K Rt = (z_li lv 2 (fun x => nx 24 lv (.int x :: st) w)) := id rfl
theorem sX8_sort_24 (lv : zL) (st : List Value) (w : zW) (nx K : Nat → zL → List Value → zW → Prop) (Rt : Option Value → zW → Prop) : z_st1 (tX8_sort 24) 24 lv st w nx K Rt = (nx 25 lv (.int (-1 : Int32) :: st) w) := id rfl
theorem sX8_sort_25 (lv : zL) (st : List Value) (w : zW) (nx K : Nat → zL → List Value → zW → Prop) (Rt : Option Value → zW → Prop) : z_st1 (tX8_sort 25) 25 lv st w nx K Rt = (z_2i st (fun x y r => (¬ x = y → nx 81 lv r w) ∧ (x = y → nx 28 lv r w))) := id rfl
theorem sX8_sort_28 (lv : zL) (st : List Value) (w : zW) (nx K : Nat → zL → List Value → zW → Prop) (Rt : Option Value → zW → Prop) : z_st1 (tX8_sort 28) 28 lv st w nx K Rt = (z_la lv 0 (fun x => nx 29 lv (.ref x :: st) w)) := id rfl
theorem sX8_sort_29 (lv : zL) (st : List Value) (w : zW) (nx K : Nat → zL → List Value → zW → Prop) (Rt : Option Value → zW → Prop) : z_st1 (tX8_sort 29) 29 lv st w nx K Rt = (z_1a st (fun x r => z_ob w x 9 (fun fs => z_fl fs 3 (fun u => nx 32 lv (u :: r) w)))) := id rfl
theorem sX8_sort_32 (lv : zL) (st : List Value) (w : zW) (nx K : Nat → zL → List Value → zW → Prop) (Rt : Option Value → zW → Prop) : z_st1 (tX8_sort 32) 32 lv st w nx K Rt = (z_li lv 1 (fun x => nx 33 lv (.int x :: st) w)) := id rfl
theorem sX8_sort_36 (lv : zL) (st : List Value) (w : zW) (nx K : Nat → zL → List Value → zW → Prop) (Rt : Option Value → zW → Prop) : z_st1 (tX8_sort 36) 36 lv st w nx K Rt = (z_la lv 0 (fun x => nx 37 lv (.ref x :: st) w)) := id rfl
theorem sX8_sort_37 (lv : zL) (st : List Value) (w : zW) (nx K : Nat → zL → List Value → zW → Prop) (Rt : Option Value → zW → Prop) : z_st1 (tX8_sort 37) 37 lv st w nx K Rt = (z_1a st (fun x r => z_ob w x 9 (fun fs => z_fl fs 18 (fun u => nx 40 lv (u :: r) w)))) := id rfl
theorem sX8_sort_40 (lv : zL) (st : List Value) (w : zW) (nx K : Nat → zL → List Value → zW → Prop) (Rt : Option Value → zW → Prop) : z_st1 (tX8_sort 40) 40 lv st w nx K Rt = (z_la lv 0 (fun x => nx 41 lv (.ref x :: st) w)) := id rfl
theorem sX8_sort_41 (lv : zL) (st : List Value) (w : zW) (nx K : Nat → zL → List Value → zW → Prop) (Rt : Option Value → zW → Prop) : z_st1 (tX8_sort 41) 41 lv st w nx K Rt = (z_1a st (fun x r => z_ob w x 9 (fun fs => z_fl fs 3 (fun u => nx 44 lv (u :: r) w)))) := id rfl
theorem sX8_sort_44 (lv : zL) (st : List Value) (w : zW) (nx K : Nat → zL → List Value → zW → Prop) (Rt : Option Value → zW → Prop) : z_st1 (tX8_sort 44) 44 lv st w nx K Rt = (z_la lv 0 (fun x => nx 45 lv (.ref x :: st) w)) := id rfl
theorem sX8_sort_45 (lv : zL) (st : List Value) (w : zW) (nx K : Nat → zL → List Value → zW → Prop) (Rt : Option Value → zW → Prop) : z_st1 (tX8_sort 45) 45 lv st w nx K Rt = (z_1a st (fun x r => z_ob w x 9 (fun fs => z_fl fs 11 (fun u => nx 48 lv (u :: r) w)))) := id rfl
theorem sX8_sort_51 (lv : zL) (st : List Value) (w : zW) (nx K : Nat → zL → List Value → zW → Prop) (Rt : Option Value → zW → Prop) : z_st1 (tX8_sort 51) 51 lv st w nx K Rt = (z_ia st (fun x i r => z_ob w x 8 (fun fs => 0 < fs.length ∧ nx 54 lv r (z_up w x (.inr (8, fs.set 0 (.int i))))))) := id rfl
theorem sX8_sort_54 (lv : zL) (st : List Value) (w : zW) (nx K : Nat → zL → List Value → zW → Prop) (Rt : Option Value → zW → Prop) : z_st1 (tX8_sort 54) 54 lv st w nx K Rt = (z_la lv 0 (fun x => nx 55 lv (.ref x :: st) w)) := id rfl
theorem sX8_sort_55 (lv : zL) (st : List Value) (w : zW) (nx K : Nat → zL → List Value → zW → Prop) (Rt : Option Value → zW → Prop) : z_st1 (tX8_sort 55) 55 lv st w nx K Rt = (z_1a st (fun x r => z_ob w x 9 (fun fs => z_fl fs 18 (fun u => nx 58 lv (u :: r) w)))) := id rfl
theorem sX8_sort_58 (lv : zL) (st : List Value) (w : zW) (nx K : Nat → zL → List Value → zW → Prop) (Rt : Option Value → zW → Prop) : z_st1 (tX8_sort 58) 58 lv st w nx K Rt = (z_la lv 0 (fun x => nx 59 lv (.ref x :: st) w)) := id rfl
theorem sX8_sort_59 (lv : zL) (st : List Value) (w : zW) (nx K : Nat → zL → List Value → zW → Prop) (Rt : Option Value → zW → Prop) : z_st1 (tX8_sort 59) 59 lv st w nx K Rt = (z_1a st (fun x r => z_ob w x 9 (fun fs => z_fl fs 3 (fun u => nx 62 lv (u :: r) w)))) := id rfl
theorem sX8_sort_62 (lv : zL) (st : List Value) (w : zW) (nx K : Nat → zL → List Value → zW → Prop) (Rt : Option Value → zW → Prop) : z_st1 (tX8_sort 62) 62 lv st w nx K Rt = (z_la lv 0 (fun x => nx 63 lv (.ref x :: st) w)) := id rfl
theorem sX8_sort_63 (lv : zL) (st : List Value) (w : zW) (nx K : Nat → zL → List Value → zW → Prop) (Rt : Option Value → zW → Prop) : z_st1 (tX8_sort 63) 63 lv st w nx K Rt = (z_1a st (fun x r => z_ob w x 9 (fun fs => z_fl fs 12 (fun u => nx 66 lv (u :: r) w)))) := id rfl
theorem sX8_sort_69 (lv : zL) (st : List Value) (w : zW) (nx K : Nat → zL → List Value → zW → Prop) (Rt : Option Value → zW → Prop) : z_st1 (tX8_sort 69) 69 lv st w nx K Rt = (z_ia st (fun x i r => z_ob w x 8 (fun fs => 1 < fs.length ∧ nx 72 lv r (z_up w x (.inr (8, fs.set 1 (.int i))))))) := id rfl
theorem sX8_sort_72 (lv : zL) (st : List Value) (w : zW) (nx K : Nat → zL → List Value → zW → Prop) (Rt : Option Value → zW → Prop) : z_st1 (tX8_sort 72) 72 lv st w nx K Rt = (z_la lv 0 (fun x => nx 73 lv (.ref x :: st) w)) := id rfl
theorem sX8_sort_76 (lv : zL) (st : List Value) (w : zW) (nx K : Nat → zL → List Value → zW → Prop) (Rt : Option Value → zW → Prop) : z_st1 (tX8_sort 76) 76 lv st w nx K Rt = (z_la lv 0 (fun x => nx 77 lv (.ref x :: st) w)) := id rfl
theorem sX8_sort_80 (lv : zL) (st : List Value) (w : zW) (nx K : Nat → zL → List Value → zW → Prop) (Rt : Option Value → zW → Prop) : z_st1 (tX8_sort 80) 80 lv st w nx K Rt = (z_1i st (fun x r => z_ok1 lv 2 = true ∧ nx 81 (lv.set 2 (some (.int x))) r w)) := id rfl
theorem sX8_sort_81 (lv : zL) (st : List Value) (w : zW) (nx K : Nat → zL → List Value → zW → Prop) (Rt : Option Value → zW → Prop) : z_st1 (tX8_sort 81) 81 lv st w nx K Rt = (z_li lv 2 (fun x => nx 82 lv (.int x :: st) w)) := id rfl
theorem sX8_sort_82 (lv : zL) (st : List Value) (w : zW) (nx K : Nat → zL → List Value → zW → Prop) (Rt : Option Value → zW → Prop) : z_st1 (tX8_sort 82) 82 lv st w nx K Rt = (nx 83 lv (.int (-1 : Int32) :: st) w) := id rfl
theorem sX8_sort_83 (lv : zL) (st : List Value) (w : zW) (nx K : Nat → zL → List Value → zW → Prop) (Rt : Option Value → zW → Prop) : z_st1 (tX8_sort 83) 83 lv st w nx K Rt = (z_2i st (fun x y r => (x = y → nx 101 lv r w) ∧ (¬ x = y → nx 86 lv r w))) := id rfl
theorem sX8_sort_86 (lv : zL) (st : List Value) (w : zW) (nx K : Nat → zL → List Value → zW → Prop) (Rt : Option Value → zW → Prop) : z_st1 (tX8_sort 86) 86 lv st w nx K Rt = (z_la lv 0 (fun x => nx 87 lv (.ref x :: st) w)) := id rfl
theorem sX8_sort_87 (lv : zL) (st : List Value) (w : zW) (nx K : Nat → zL → List Value → zW → Prop) (Rt : Option Value → zW → Prop) : z_st1 (tX8_sort 87) 87 lv st w nx K Rt = (z_li lv 2 (fun x => nx 88 lv (.int x :: st) w)) := id rfl
theorem sX8_sort_88 (lv : zL) (st : List Value) (w : zW) (nx K : Nat → zL → List Value → zW → Prop) (Rt : Option Value → zW → Prop) : z_st1 (tX8_sort 88) 88 lv st w nx K Rt = (z_ia st (fun x i r => z_ob w x 9 (fun fs => 16 < fs.length ∧ nx 91 lv r (z_up w x (.inr (9, fs.set 16 (.int i))))))) := id rfl
theorem sX8_sort_94 (lv : zL) (st : List Value) (w : zW) (nx K : Nat → zL → List Value → zW → Prop) (Rt : Option Value → zW → Prop) : z_st1 (tX8_sort 94) 94 lv st w nx K Rt = (z_d1 st (fun x r => nx 95 lv (x :: x :: r) w)) := id rfl
theorem sX8_sort_101 (lv : zL) (st : List Value) (w : zW) (nx K : Nat → zL → List Value → zW → Prop) (Rt : Option Value → zW → Prop) : z_st1 (tX8_sort 101) 101 lv st w nx K Rt = (z_la lv 0 (fun x => nx 102 lv (.ref x :: st) w)) := id rfl
theorem sX8_sort_102 (lv : zL) (st : List Value) (w : zW) (nx K : Nat → zL → List Value → zW → Prop) (Rt : Option Value → zW → Prop) : z_st1 (tX8_sort 102) 102 lv st w nx K Rt = (z_1a st (fun x r => z_ob w x 9 (fun fs => z_fl fs 17 (fun u => nx 105 lv (u :: r) w)))) := id rfl
theorem sX8_sort_105 (lv : zL) (st : List Value) (w : zW) (nx K : Nat → zL → List Value → zW → Prop) (Rt : Option Value → zW → Prop) : z_st1 (tX8_sort 105) 105 lv st w nx K Rt = (z_1a st (fun x r => z_ok1 lv 3 = true ∧ nx 106 (lv.set 3 (some (.ref x))) r w)) := id rfl
theorem sX8_sort_106 (lv : zL) (st : List Value) (w : zW) (nx K : Nat → zL → List Value → zW → Prop) (Rt : Option Value → zW → Prop) : z_st1 (tX8_sort 106) 106 lv st w nx K Rt = (z_la lv 0 (fun x => nx 107 lv (.ref x :: st) w)) := id rfl
theorem sX8_sort_107 (lv : zL) (st : List Value) (w : zW) (nx K : Nat → zL → List Value → zW → Prop) (Rt : Option Value → zW → Prop) : z_st1 (tX8_sort 107) 107 lv st w nx K Rt = (z_la lv 0 (fun x => nx 108 lv (.ref x :: st) w)) := id rfl
theorem sX8_sort_108 (lv : zL) (st : List Value) (w : zW) (nx K : Nat → zL → List Value → zW → Prop) (Rt : Option Value → zW → Prop) : z_st1 (tX8_sort 108) 108 lv st w nx K Rt = (z_1a st (fun x r => z_ob w x 9 (fun fs => z_fl fs 18 (fun u => nx 111 lv (u :: r) w)))) := id rfl
theorem sX8_sort_111 (lv : zL) (st : List Value) (w : zW) (nx K : Nat → zL → List Value → zW → Prop) (Rt : Option Value → zW → Prop) : z_st1 (tX8_sort 111) 111 lv st w nx K Rt = (z_aa st (fun x y r => z_ob w x 9 (fun fs => 17 < fs.length ∧ nx 114 lv r (z_up w x (.inr (9, fs.set 17 (.ref y))))))) := id rfl
theorem sX8_sort_114 (lv : zL) (st : List Value) (w : zW) (nx K : Nat → zL → List Value → zW → Prop) (Rt : Option Value → zW → Prop) : z_st1 (tX8_sort 114) 114 lv st w nx K Rt = (z_la lv 0 (fun x => nx 115 lv (.ref x :: st) w)) := id rfl
theorem sX8_sort_115 (lv : zL) (st : List Value) (w : zW) (nx K : Nat → zL → List Value → zW → Prop) (Rt : Option Value → zW → Prop) : z_st1 (tX8_sort 115) 115 lv st w nx K Rt = (z_la lv 3 (fun x => nx 116 lv (.ref x :: st) w)) := id rfl
theorem sX8_sort_116 (lv : zL) (st : List Value) (w : zW) (nx K : Nat → zL → List Value → zW → Prop) (Rt : Option Value → zW → Prop) : z_st1 (tX8_sort 116) 116 lv st w nx K Rt = (z_aa st (fun x y r => z_ob w x 9 (fun fs => 18 < fs.length ∧ nx 119 lv r (z_up w x (.inr (9, fs.set 18 (.ref y))))))) := id rfl
theorem sX8_sort_119 (lv : zL) (st : List Value) (w : zW) (nx K : Nat → zL → List Value → zW → Prop) (Rt : Option Value → zW → Prop) : z_st1 (tX8_sort 119) 119 lv st w nx K Rt = (z_la lv 0 (fun x => nx 120 lv (.ref x :: st) w)) := id rfl
theorem sX8_sort_120 (lv : zL) (st : List Value) (w : zW) (nx K : Nat → zL → List Value → zW → Prop) (Rt : Option Value → zW → Prop) : z_st1 (tX8_sort 120) 120 lv st w nx K Rt = (nx 121 lv (.int (0 : Int32) :: st) w) := id rfl
theorem sX8_sort_121 (lv : zL) (st : List Value) (w : zW) (nx K : Nat → zL → List Value → zW → Prop) (Rt : Option Value → zW → Prop) : z_st1 (tX8_sort 121) 121 lv st w nx K Rt = (z_ia st (fun x i r => z_ob w x 9 (fun fs => 10 < fs.length ∧ nx 124 lv r (z_up w x (.inr (9, fs.set 10 (.int i))))))) := id rfl
theorem sX8_sort_124 (lv : zL) (st : List Value) (w : zW) (nx K : Nat → zL → List Value → zW → Prop) (Rt : Option Value → zW → Prop) : z_st1 (tX8_sort 124) 124 lv st w nx K Rt = (z_la lv 0 (fun x => nx 125 lv (.ref x :: st) w)) := id rfl
theorem sX8_sort_128 (lv : zL) (st : List Value) (w : zW) (nx K : Nat → zL → List Value → zW → Prop) (Rt : Option Value → zW → Prop) : z_st1 (tX8_sort 128) 128 lv st w nx K Rt = (z_e1 st (fun x => Rt (some (.int x)) w)) := id rfl
theorem sX8_sort_15 (lv : zL) (st : List Value) (w : zW) (nx K : Nat → zL → List Value → zW → Prop) (Rt : Option Value → zW → Prop) : z_st1 (tX8_sort 15) 15 lv st w nx K Rt = K 15 lv st w := id rfl
theorem sX8_sort_19 (lv : zL) (st : List Value) (w : zW) (nx K : Nat → zL → List Value → zW → Prop) (Rt : Option Value → zW → Prop) : z_st1 (tX8_sort 19) 19 lv st w nx K Rt = K 19 lv st w := id rfl
theorem sX8_sort_33 (lv : zL) (st : List Value) (w : zW) (nx K : Nat → zL → List Value → zW → Prop) (Rt : Option Value → zW → Prop) : z_st1 (tX8_sort 33) 33 lv st w nx K Rt = K 33 lv st w := id rfl
theorem sX8_sort_48 (lv : zL) (st : List Value) (w : zW) (nx K : Nat → zL → List Value → zW → Prop) (Rt : Option Value → zW → Prop) : z_st1 (tX8_sort 48) 48 lv st w nx K Rt = K 48 lv st w := id rfl
theorem sX8_sort_66 (lv : zL) (st : List Value) (w : zW) (nx K : Nat → zL → List Value → zW → Prop) (Rt : Option Value → zW → Prop) : z_st1 (tX8_sort 66) 66 lv st w nx K Rt = K 66 lv st w := id rfl
theorem sX8_sort_73 (lv : zL) (st : List Value) (w : zW) (nx K : Nat → zL → List Value → zW → Prop) (Rt : Option Value → zW → Prop) : z_st1 (tX8_sort 73) 73 lv st w nx K Rt = K 73 lv st w := id rfl
theorem sX8_sort_77 (lv : zL) (st : List Value) (w : zW) (nx K : Nat → zL → List Value → zW → Prop) (Rt : Option Value → zW → Prop) : z_st1 (tX8_sort 77) 77 lv st w nx K Rt = K 77 lv st w := id rfl
theorem sX8_sort_91 (lv : zL) (st : List Value) (w : zW) (nx K : Nat → zL → List Value → zW → Prop) (Rt : Option Value → zW → Prop) : z_st1 (tX8_sort 91) 91 lv st w nx K Rt = K 91 lv st w := id rfl
theorem sX8_sort_95 (lv : zL) (st : List Value) (w : zW) (nx K : Nat → zL → List Value → zW → Prop) (Rt : Option Value → zW → Prop) : z_st1 (tX8_sort 95) 95 lv st w nx K Rt = K 95 lv st w := id rfl
theorem sX8_sort_97 (lv : zL) (st : List Value) (w : zW) (nx K : Nat → zL → List Value → zW → Prop) (Rt : Option Value → zW → Prop) : z_st1 (tX8_sort 97) 97 lv st w nx K Rt = K 97 lv st w := id rfl
theorem sX8_sort_100 (lv : zL) (st : List Value) (w : zW) (nx K : Nat → zL → List Value → zW → Prop) (Rt : Option Value → zW → Prop) : z_st1 (tX8_sort 100) 100 lv st w nx K Rt = K 100 lv st w := id rfl
theorem sX8_sort_125 (lv : zL) (st : List Value) (w : zW) (nx K : Nat → zL → List Value → zW → Prop) (Rt : Option Value → zW → Prop) : z_st1 (tX8_sort 125) 125 lv st w nx K Rt = K 125 lv st w := id rfl
theorem dX8_sort_15 : decode cX8_sort 15 = .ok (.invokevirtual 146, 3) := by decide +kernel
theorem dX8_sort_19 : decode cX8_sort 19 = .ok (.invokevirtual 149, 3) := by decide +kernel
theorem dX8_sort_33 : decode cX8_sort 33 = .ok (.invokevirtual 152, 3) := by decide +kernel
theorem dX8_sort_48 : decode cX8_sort 48 = .ok (.invokevirtual 156, 3) := by decide +kernel
theorem dX8_sort_66 : decode cX8_sort 66 = .ok (.invokevirtual 162, 3) := by decide +kernel
theorem dX8_sort_73 : decode cX8_sort 73 = .ok (.invokevirtual 168, 3) := by decide +kernel
theorem dX8_sort_77 : decode cX8_sort 77 = .ok (.invokevirtual 171, 3) := by decide +kernel
theorem dX8_sort_91 : decode cX8_sort 91 = .ok (.new 177, 3) := by decide +kernel
theorem dX8_sort_95 : decode cX8_sort 95 = .ok (.ldc 179, 2) := by decide +kernel
theorem dX8_sort_97 : decode cX8_sort 97 = .ok (.invokespecial 181, 3) := by decide +kernel
theorem dX8_sort_100 : decode cX8_sort 100 = .ok (.athrow, 1) := by decide +kernel
theorem dX8_sort_125 : decode cX8_sort 125 = .ok (.invokevirtual 182, 3) := by decide +kernel

def tmX8_next (pc : Nat) : zI := match pc with
  | 0 => (1, 0, 0, 1, 0)
  | 1 => (46, 9, 13, 4, 0)
  | 4 => (6, 0, 0, 5, 2)
  | 5 => (40, 11, 0, 8, 0)
  | 8 => (6, 0, 0, 10, (-5))
  | 10 => (53, 0, 0, 11, 0)
  | 11 => (1, 0, 0, 12, 0)
  | 12 => (46, 9, 14, 15, 0)
  | 15 => (1, 0, 0, 16, 0)
  | 16 => (46, 9, 3, 19, 0)
  | 22 => (42, 37, 0, 25, 0)
  | 25 => (1, 0, 0, 26, 0)
  | 26 => (6, 0, 0, 27, (-1))
  | 27 => (47, 9, 15, 30, 0)
  | 30 => (1, 0, 0, 31, 0)
  | 31 => (6, 0, 0, 32, 0)
  | 32 => (47, 9, 13, 35, 0)
  | 35 => (6, 0, 0, 36, 0)
  | 36 => (53, 0, 0, 37, 0)
  | 37 => (1, 0, 0, 38, 0)
  | 38 => (1, 0, 0, 39, 0)
  | 39 => (46, 9, 3, 42, 0)
  | 42 => (1, 0, 0, 43, 0)
  | 43 => (46, 9, 14, 46, 0)
  | 49 => (47, 9, 15, 52, 0)
  | 52 => (1, 0, 0, 53, 0)
  | 53 => (29, 0, 0, 54, 0)
  | 54 => (46, 9, 14, 57, 0)
  | 57 => (6, 0, 0, 58, 1)
  | 58 => (8, 0, 0, 59, 0)
  | 59 => (47, 9, 14, 62, 0)
  | 62 => (1, 0, 0, 63, 0)
  | 63 => (46, 9, 1, 66, 0)
  | 66 => (1, 0, 0, 67, 0)
  | 67 => (46, 9, 15, 70, 0)
  | 73 => (53, 0, 0, 74, 0)
  | _ => (99, 0, 0, 0, 0)
def tX8_next (pc : Nat) : zI := if pc < 74 then tmX8_next pc else (99, 0, 0, 0, 0)
theorem tkX8_next : z_tab RX8 wsX8_next 1 (some .int) cX8_next 74 tX8_next := z_tab_of (tm := tmX8_next) (by decide +kernel)
theorem sX8_next_0 (lv : zL) (st : List Value) (w : zW) (nx K : Nat → zL → List Value → zW → Prop) (Rt : Option Value → zW → Prop) : z_st1 (tX8_next 0) 0 lv st w nx K Rt = (z_la lv 0 (fun x => nx 1 lv (.ref x :: st) w)) := id rfl
theorem sX8_next_1 (lv : zL) (st : List Value) (w : zW) (nx K : Nat → zL → List Value → zW → Prop) (Rt : Option Value → zW → Prop) : z_st1 (tX8_next 1) 1 lv st w nx K Rt = (z_1a st (fun x r => z_ob w x 9 (fun fs => z_fl fs 13 (fun u => nx 4 lv (u :: r) w)))) := id rfl
theorem sX8_next_4 (lv : zL) (st : List Value) (w : zW) (nx K : Nat → zL → List Value → zW → Prop) (Rt : Option Value → zW → Prop) : z_st1 (tX8_next 4) 4 lv st w nx K Rt = (nx 5 lv (.int (2 : Int32) :: st) w) := id rfl
theorem sX8_next_5 (lv : zL) (st : List Value) (w : zW) (nx K : Nat → zL → List Value → zW → Prop) (Rt : Option Value → zW → Prop) : z_st1 (tX8_next 5) 5 lv st w nx K Rt = (z_2i st (fun x y r => (x = y → nx 11 lv r w) ∧ (¬ x = y → nx 8 lv r w))) := id rfl
theorem sX8_next_8 (lv : zL) (st : List Value) (w : zW) (nx K : Nat → zL → List Value → zW → Prop) (Rt : Option Value → zW → Prop) : z_st1 (tX8_next 8) 8 lv st w nx K Rt = (nx 10 lv (.int (-5 : Int32) :: st) w) := id rfl
theorem sX8_next_10 (lv : zL) (st : List Value) (w : zW) (nx K : Nat → zL → List Value → zW → Prop) (Rt : Option Value → zW → Prop) : z_st1 (tX8_next 10) 10 lv st w nx K Rt = (z_e1 st (fun x => Rt (some (.int x)) w)) := id rfl
theorem sX8_next_11 (lv : zL) (st : List Value) (w : zW) (nx K : Nat → zL → List Value → zW → Prop) (Rt : Option Value → zW → Prop) : z_st1 (tX8_next 11) 11 lv st w nx K Rt = (z_la lv 0 (fun x => nx 12 lv (.ref x :: st) w)) := id rfl
theorem sX8_next_12 (lv : zL) (st : List Value) (w : zW) (nx K : Nat → zL → List Value → zW → Prop) (Rt : Option Value → zW → Prop) : z_st1 (tX8_next 12) 12 lv st w nx K Rt = (z_1a st (fun x r => z_ob w x 9 (fun fs => z_fl fs 14 (fun u => nx 15 lv (u :: r) w)))) := id rfl
theorem sX8_next_15 (lv : zL) (st : List Value) (w : zW) (nx K : Nat → zL → List Value → zW → Prop) (Rt : Option Value → zW → Prop) : z_st1 (tX8_next 15) 15 lv st w nx K Rt = (z_la lv 0 (fun x => nx 16 lv (.ref x :: st) w)) := id rfl
theorem sX8_next_16 (lv : zL) (st : List Value) (w : zW) (nx K : Nat → zL → List Value → zW → Prop) (Rt : Option Value → zW → Prop) : z_st1 (tX8_next 16) 16 lv st w nx K Rt = (z_1a st (fun x r => z_ob w x 9 (fun fs => z_fl fs 3 (fun u => nx 19 lv (u :: r) w)))) := id rfl
theorem sX8_next_22 (lv : zL) (st : List Value) (w : zW) (nx K : Nat → zL → List Value → zW → Prop) (Rt : Option Value → zW → Prop) : z_st1 (tX8_next 22) 22 lv st w nx K Rt = (z_2i st (fun x y r => (x < y → nx 37 lv r w) ∧ (¬ x < y → nx 25 lv r w))) := id rfl
theorem sX8_next_25 (lv : zL) (st : List Value) (w : zW) (nx K : Nat → zL → List Value → zW → Prop) (Rt : Option Value → zW → Prop) : z_st1 (tX8_next 25) 25 lv st w nx K Rt = (z_la lv 0 (fun x => nx 26 lv (.ref x :: st) w)) := id rfl
theorem sX8_next_26 (lv : zL) (st : List Value) (w : zW) (nx K : Nat → zL → List Value → zW → Prop) (Rt : Option Value → zW → Prop) : z_st1 (tX8_next 26) 26 lv st w nx K Rt = (nx 27 lv (.int (-1 : Int32) :: st) w) := id rfl
theorem sX8_next_27 (lv : zL) (st : List Value) (w : zW) (nx K : Nat → zL → List Value → zW → Prop) (Rt : Option Value → zW → Prop) : z_st1 (tX8_next 27) 27 lv st w nx K Rt = (z_ia st (fun x i r => z_ob w x 9 (fun fs => 15 < fs.length ∧ nx 30 lv r (z_up w x (.inr (9, fs.set 15 (.int i))))))) := id rfl
theorem sX8_next_30 (lv : zL) (st : List Value) (w : zW) (nx K : Nat → zL → List Value → zW → Prop) (Rt : Option Value → zW → Prop) : z_st1 (tX8_next 30) 30 lv st w nx K Rt = (z_la lv 0 (fun x => nx 31 lv (.ref x :: st) w)) := id rfl
theorem sX8_next_31 (lv : zL) (st : List Value) (w : zW) (nx K : Nat → zL → List Value → zW → Prop) (Rt : Option Value → zW → Prop) : z_st1 (tX8_next 31) 31 lv st w nx K Rt = (nx 32 lv (.int (0 : Int32) :: st) w) := id rfl
theorem sX8_next_32 (lv : zL) (st : List Value) (w : zW) (nx K : Nat → zL → List Value → zW → Prop) (Rt : Option Value → zW → Prop) : z_st1 (tX8_next 32) 32 lv st w nx K Rt = (z_ia st (fun x i r => z_ob w x 9 (fun fs => 13 < fs.length ∧ nx 35 lv r (z_up w x (.inr (9, fs.set 13 (.int i))))))) := id rfl
theorem sX8_next_35 (lv : zL) (st : List Value) (w : zW) (nx K : Nat → zL → List Value → zW → Prop) (Rt : Option Value → zW → Prop) : z_st1 (tX8_next 35) 35 lv st w nx K Rt = (nx 36 lv (.int (0 : Int32) :: st) w) := id rfl
theorem sX8_next_36 (lv : zL) (st : List Value) (w : zW) (nx K : Nat → zL → List Value → zW → Prop) (Rt : Option Value → zW → Prop) : z_st1 (tX8_next 36) 36 lv st w nx K Rt = (z_e1 st (fun x => Rt (some (.int x)) w)) := id rfl
theorem sX8_next_37 (lv : zL) (st : List Value) (w : zW) (nx K : Nat → zL → List Value → zW → Prop) (Rt : Option Value → zW → Prop) : z_st1 (tX8_next 37) 37 lv st w nx K Rt = (z_la lv 0 (fun x => nx 38 lv (.ref x :: st) w)) := id rfl
theorem sX8_next_38 (lv : zL) (st : List Value) (w : zW) (nx K : Nat → zL → List Value → zW → Prop) (Rt : Option Value → zW → Prop) : z_st1 (tX8_next 38) 38 lv st w nx K Rt = (z_la lv 0 (fun x => nx 39 lv (.ref x :: st) w)) := id rfl
theorem sX8_next_39 (lv : zL) (st : List Value) (w : zW) (nx K : Nat → zL → List Value → zW → Prop) (Rt : Option Value → zW → Prop) : z_st1 (tX8_next 39) 39 lv st w nx K Rt = (z_1a st (fun x r => z_ob w x 9 (fun fs => z_fl fs 3 (fun u => nx 42 lv (u :: r) w)))) := id rfl
theorem sX8_next_42 (lv : zL) (st : List Value) (w : zW) (nx K : Nat → zL → List Value → zW → Prop) (Rt : Option Value → zW → Prop) : z_st1 (tX8_next 42) 42 lv st w nx K Rt = (z_la lv 0 (fun x => nx 43 lv (.ref x :: st) w)) := id rfl
theorem sX8_next_43 (lv : zL) (st : List Value) (w : zW) (nx K : Nat → zL → List Value → zW → Prop) (Rt : Option Value → zW → Prop) : z_st1 (tX8_next 43) 43 lv st w nx K Rt = (z_1a st (fun x r => z_ob w x 9 (fun fs => z_fl fs 14 (fun u => nx 46 lv (u :: r) w)))) := id rfl
theorem sX8_next_49 (lv : zL) (st : List Value) (w : zW) (nx K : Nat → zL → List Value → zW → Prop) (Rt : Option Value → zW → Prop) : z_st1 (tX8_next 49) 49 lv st w nx K Rt = (z_ia st (fun x i r => z_ob w x 9 (fun fs => 15 < fs.length ∧ nx 52 lv r (z_up w x (.inr (9, fs.set 15 (.int i))))))) := id rfl
theorem sX8_next_52 (lv : zL) (st : List Value) (w : zW) (nx K : Nat → zL → List Value → zW → Prop) (Rt : Option Value → zW → Prop) : z_st1 (tX8_next 52) 52 lv st w nx K Rt = (z_la lv 0 (fun x => nx 53 lv (.ref x :: st) w)) := id rfl
theorem sX8_next_53 (lv : zL) (st : List Value) (w : zW) (nx K : Nat → zL → List Value → zW → Prop) (Rt : Option Value → zW → Prop) : z_st1 (tX8_next 53) 53 lv st w nx K Rt = (z_d1 st (fun x r => nx 54 lv (x :: x :: r) w)) := id rfl
theorem sX8_next_54 (lv : zL) (st : List Value) (w : zW) (nx K : Nat → zL → List Value → zW → Prop) (Rt : Option Value → zW → Prop) : z_st1 (tX8_next 54) 54 lv st w nx K Rt = (z_1a st (fun x r => z_ob w x 9 (fun fs => z_fl fs 14 (fun u => nx 57 lv (u :: r) w)))) := id rfl
theorem sX8_next_57 (lv : zL) (st : List Value) (w : zW) (nx K : Nat → zL → List Value → zW → Prop) (Rt : Option Value → zW → Prop) : z_st1 (tX8_next 57) 57 lv st w nx K Rt = (nx 58 lv (.int (1 : Int32) :: st) w) := id rfl
theorem sX8_next_58 (lv : zL) (st : List Value) (w : zW) (nx K : Nat → zL → List Value → zW → Prop) (Rt : Option Value → zW → Prop) : z_st1 (tX8_next 58) 58 lv st w nx K Rt = (z_2i st (fun x y r => nx 59 lv (.int (x + y) :: r) w)) := id rfl
theorem sX8_next_59 (lv : zL) (st : List Value) (w : zW) (nx K : Nat → zL → List Value → zW → Prop) (Rt : Option Value → zW → Prop) : z_st1 (tX8_next 59) 59 lv st w nx K Rt = (z_ia st (fun x i r => z_ob w x 9 (fun fs => 14 < fs.length ∧ nx 62 lv r (z_up w x (.inr (9, fs.set 14 (.int i))))))) := id rfl
theorem sX8_next_62 (lv : zL) (st : List Value) (w : zW) (nx K : Nat → zL → List Value → zW → Prop) (Rt : Option Value → zW → Prop) : z_st1 (tX8_next 62) 62 lv st w nx K Rt = (z_la lv 0 (fun x => nx 63 lv (.ref x :: st) w)) := id rfl
theorem sX8_next_63 (lv : zL) (st : List Value) (w : zW) (nx K : Nat → zL → List Value → zW → Prop) (Rt : Option Value → zW → Prop) : z_st1 (tX8_next 63) 63 lv st w nx K Rt = (z_1a st (fun x r => z_ob w x 9 (fun fs => z_fl fs 1 (fun u => nx 66 lv (u :: r) w)))) := id rfl
theorem sX8_next_66 (lv : zL) (st : List Value) (w : zW) (nx K : Nat → zL → List Value → zW → Prop) (Rt : Option Value → zW → Prop) : z_st1 (tX8_next 66) 66 lv st w nx K Rt = (z_la lv 0 (fun x => nx 67 lv (.ref x :: st) w)) := id rfl
theorem sX8_next_67 (lv : zL) (st : List Value) (w : zW) (nx K : Nat → zL → List Value → zW → Prop) (Rt : Option Value → zW → Prop) : z_st1 (tX8_next 67) 67 lv st w nx K Rt = (z_1a st (fun x r => z_ob w x 9 (fun fs => z_fl fs 15 (fun u => nx 70 lv (u :: r) w)))) := id rfl
theorem sX8_next_73 (lv : zL) (st : List Value) (w : zW) (nx K : Nat → zL → List Value → zW → Prop) (Rt : Option Value → zW → Prop) : z_st1 (tX8_next 73) 73 lv st w nx K Rt = (z_e1 st (fun x => Rt (some (.int x)) w)) := id rfl
theorem sX8_next_19 (lv : zL) (st : List Value) (w : zW) (nx K : Nat → zL → List Value → zW → Prop) (Rt : Option Value → zW → Prop) : z_st1 (tX8_next 19) 19 lv st w nx K Rt = K 19 lv st w := id rfl
theorem sX8_next_46 (lv : zL) (st : List Value) (w : zW) (nx K : Nat → zL → List Value → zW → Prop) (Rt : Option Value → zW → Prop) : z_st1 (tX8_next 46) 46 lv st w nx K Rt = K 46 lv st w := id rfl
theorem sX8_next_70 (lv : zL) (st : List Value) (w : zW) (nx K : Nat → zL → List Value → zW → Prop) (Rt : Option Value → zW → Prop) : z_st1 (tX8_next 70) 70 lv st w nx K Rt = K 70 lv st w := id rfl
theorem dX8_next_19 : decode cX8_next 19 = .ok (.invokevirtual 188, 3) := by decide +kernel
theorem dX8_next_46 : decode cX8_next 46 = .ok (.invokevirtual 189, 3) := by decide +kernel
theorem dX8_next_70 : decode cX8_next 70 = .ok (.invokevirtual 118, 3) := by decide +kernel

def tmX8_value (pc : Nat) : zI := match pc with
  | 0 => (1, 0, 0, 1, 0)
  | 1 => (46, 9, 15, 4, 0)
  | 4 => (6, 0, 0, 5, (-1))
  | 5 => (40, 27, 0, 8, 0)
  | 8 => (0, 1, 0, 9, 0)
  | 9 => (36, 27, 0, 12, 0)
  | 12 => (0, 1, 0, 13, 0)
  | 13 => (1, 0, 0, 14, 0)
  | 14 => (46, 9, 1, 17, 0)
  | 17 => (1, 0, 0, 18, 0)
  | 18 => (46, 9, 15, 21, 0)
  | 24 => (42, 29, 0, 27, 0)
  | 27 => (6, 0, 0, 28, (-1))
  | 28 => (53, 0, 0, 29, 0)
  | 29 => (1, 0, 0, 30, 0)
  | 30 => (46, 9, 1, 33, 0)
  | 33 => (1, 0, 0, 34, 0)
  | 34 => (46, 9, 15, 37, 0)
  | 37 => (0, 1, 0, 38, 0)
  | 41 => (53, 0, 0, 42, 0)
  | _ => (99, 0, 0, 0, 0)
def tX8_value (pc : Nat) : zI := if pc < 42 then tmX8_value pc else (99, 0, 0, 0, 0)
theorem tkX8_value : z_tab RX8 wsX8_value 2 (some .int) cX8_value 42 tX8_value := z_tab_of (tm := tmX8_value) (by decide +kernel)
theorem sX8_value_0 (lv : zL) (st : List Value) (w : zW) (nx K : Nat → zL → List Value → zW → Prop) (Rt : Option Value → zW → Prop) : z_st1 (tX8_value 0) 0 lv st w nx K Rt = (z_la lv 0 (fun x => nx 1 lv (.ref x :: st) w)) := id rfl
theorem sX8_value_1 (lv : zL) (st : List Value) (w : zW) (nx K : Nat → zL → List Value → zW → Prop) (Rt : Option Value → zW → Prop) : z_st1 (tX8_value 1) 1 lv st w nx K Rt = (z_1a st (fun x r => z_ob w x 9 (fun fs => z_fl fs 15 (fun u => nx 4 lv (u :: r) w)))) := id rfl
theorem sX8_value_4 (lv : zL) (st : List Value) (w : zW) (nx K : Nat → zL → List Value → zW → Prop) (Rt : Option Value → zW → Prop) : z_st1 (tX8_value 4) 4 lv st w nx K Rt = (nx 5 lv (.int (-1 : Int32) :: st) w) := id rfl
theorem sX8_value_5 (lv : zL) (st : List Value) (w : zW) (nx K : Nat → zL → List Value → zW → Prop) (Rt : Option Value → zW → Prop) : z_st1 (tX8_value 5) 5 lv st w nx K Rt = (z_2i st (fun x y r => (x = y → nx 27 lv r w) ∧ (¬ x = y → nx 8 lv r w))) := id rfl
theorem sX8_value_8 (lv : zL) (st : List Value) (w : zW) (nx K : Nat → zL → List Value → zW → Prop) (Rt : Option Value → zW → Prop) : z_st1 (tX8_value 8) 8 lv st w nx K Rt = (z_li lv 1 (fun x => nx 9 lv (.int x :: st) w)) := id rfl
theorem sX8_value_9 (lv : zL) (st : List Value) (w : zW) (nx K : Nat → zL → List Value → zW → Prop) (Rt : Option Value → zW → Prop) : z_st1 (tX8_value 9) 9 lv st w nx K Rt = (z_1i st (fun x r => (x < 0 → nx 27 lv r w) ∧ (¬ x < 0 → nx 12 lv r w))) := id rfl
theorem sX8_value_12 (lv : zL) (st : List Value) (w : zW) (nx K : Nat → zL → List Value → zW → Prop) (Rt : Option Value → zW → Prop) : z_st1 (tX8_value 12) 12 lv st w nx K Rt = (z_li lv 1 (fun x => nx 13 lv (.int x :: st) w)) := id rfl
theorem sX8_value_13 (lv : zL) (st : List Value) (w : zW) (nx K : Nat → zL → List Value → zW → Prop) (Rt : Option Value → zW → Prop) : z_st1 (tX8_value 13) 13 lv st w nx K Rt = (z_la lv 0 (fun x => nx 14 lv (.ref x :: st) w)) := id rfl
theorem sX8_value_14 (lv : zL) (st : List Value) (w : zW) (nx K : Nat → zL → List Value → zW → Prop) (Rt : Option Value → zW → Prop) : z_st1 (tX8_value 14) 14 lv st w nx K Rt = (z_1a st (fun x r => z_ob w x 9 (fun fs => z_fl fs 1 (fun u => nx 17 lv (u :: r) w)))) := id rfl
theorem sX8_value_17 (lv : zL) (st : List Value) (w : zW) (nx K : Nat → zL → List Value → zW → Prop) (Rt : Option Value → zW → Prop) : z_st1 (tX8_value 17) 17 lv st w nx K Rt = (z_la lv 0 (fun x => nx 18 lv (.ref x :: st) w)) := id rfl
theorem sX8_value_18 (lv : zL) (st : List Value) (w : zW) (nx K : Nat → zL → List Value → zW → Prop) (Rt : Option Value → zW → Prop) : z_st1 (tX8_value 18) 18 lv st w nx K Rt = (z_1a st (fun x r => z_ob w x 9 (fun fs => z_fl fs 15 (fun u => nx 21 lv (u :: r) w)))) := id rfl
theorem sX8_value_24 (lv : zL) (st : List Value) (w : zW) (nx K : Nat → zL → List Value → zW → Prop) (Rt : Option Value → zW → Prop) : z_st1 (tX8_value 24) 24 lv st w nx K Rt = (z_2i st (fun x y r => (x < y → nx 29 lv r w) ∧ (¬ x < y → nx 27 lv r w))) := id rfl
theorem sX8_value_27 (lv : zL) (st : List Value) (w : zW) (nx K : Nat → zL → List Value → zW → Prop) (Rt : Option Value → zW → Prop) : z_st1 (tX8_value 27) 27 lv st w nx K Rt = (nx 28 lv (.int (-1 : Int32) :: st) w) := id rfl
theorem sX8_value_28 (lv : zL) (st : List Value) (w : zW) (nx K : Nat → zL → List Value → zW → Prop) (Rt : Option Value → zW → Prop) : z_st1 (tX8_value 28) 28 lv st w nx K Rt = (z_e1 st (fun x => Rt (some (.int x)) w)) := id rfl
theorem sX8_value_29 (lv : zL) (st : List Value) (w : zW) (nx K : Nat → zL → List Value → zW → Prop) (Rt : Option Value → zW → Prop) : z_st1 (tX8_value 29) 29 lv st w nx K Rt = (z_la lv 0 (fun x => nx 30 lv (.ref x :: st) w)) := id rfl
theorem sX8_value_30 (lv : zL) (st : List Value) (w : zW) (nx K : Nat → zL → List Value → zW → Prop) (Rt : Option Value → zW → Prop) : z_st1 (tX8_value 30) 30 lv st w nx K Rt = (z_1a st (fun x r => z_ob w x 9 (fun fs => z_fl fs 1 (fun u => nx 33 lv (u :: r) w)))) := id rfl
theorem sX8_value_33 (lv : zL) (st : List Value) (w : zW) (nx K : Nat → zL → List Value → zW → Prop) (Rt : Option Value → zW → Prop) : z_st1 (tX8_value 33) 33 lv st w nx K Rt = (z_la lv 0 (fun x => nx 34 lv (.ref x :: st) w)) := id rfl
theorem sX8_value_34 (lv : zL) (st : List Value) (w : zW) (nx K : Nat → zL → List Value → zW → Prop) (Rt : Option Value → zW → Prop) : z_st1 (tX8_value 34) 34 lv st w nx K Rt = (z_1a st (fun x r => z_ob w x 9 (fun fs => z_fl fs 15 (fun u => nx 37 lv (u :: r) w)))) := id rfl
theorem sX8_value_37 (lv : zL) (st : List Value) (w : zW) (nx K : Nat → zL → List Value → zW → Prop) (Rt : Option Value → zW → Prop) : z_st1 (tX8_value 37) 37 lv st w nx K Rt = (z_li lv 1 (fun x => nx 38 lv (.int x :: st) w)) := id rfl
theorem sX8_value_41 (lv : zL) (st : List Value) (w : zW) (nx K : Nat → zL → List Value → zW → Prop) (Rt : Option Value → zW → Prop) : z_st1 (tX8_value 41) 41 lv st w nx K Rt = (z_e1 st (fun x => Rt (some (.int x)) w)) := id rfl
theorem sX8_value_21 (lv : zL) (st : List Value) (w : zW) (nx K : Nat → zL → List Value → zW → Prop) (Rt : Option Value → zW → Prop) : z_st1 (tX8_value 21) 21 lv st w nx K Rt = K 21 lv st w := id rfl
theorem sX8_value_38 (lv : zL) (st : List Value) (w : zW) (nx K : Nat → zL → List Value → zW → Prop) (Rt : Option Value → zW → Prop) : z_st1 (tX8_value 38) 38 lv st w nx K Rt = K 38 lv st w := id rfl
theorem dX8_value_21 : decode cX8_value 21 = .ok (.invokevirtual 129, 3) := by decide +kernel
theorem dX8_value_38 : decode cX8_value 38 = .ok (.invokevirtual 192, 3) := by decide +kernel

def tmX8_merge (pc : Nat) : zI := match pc with
  | 0 => (1, 0, 0, 1, 0)
  | 1 => (0, 2, 0, 2, 0)
  | 5 => (35, 11, 0, 8, 0)
  | 8 => (6, 0, 0, 10, (-2))
  | 10 => (53, 0, 0, 11, 0)
  | 11 => (0, 1, 0, 12, 0)
  | 12 => (36, 21, 0, 15, 0)
  | 15 => (0, 1, 0, 16, 0)
  | 16 => (6, 0, 0, 18, 8)
  | 18 => (42, 24, 0, 21, 0)
  | 21 => (6, 0, 0, 23, (-4))
  | 23 => (53, 0, 0, 24, 0)
  | 24 => (1, 0, 0, 25, 0)
  | 25 => (46, 9, 8, 28, 0)
  | 28 => (0, 1, 0, 29, 0)
  | 29 => (0, 2, 0, 30, 0)
  | 33 => (53, 0, 0, 34, 0)
  | _ => (99, 0, 0, 0, 0)
def tX8_merge (pc : Nat) : zI := if pc < 34 then tmX8_merge pc else (99, 0, 0, 0, 0)
theorem tkX8_merge : z_tab RX8 wsX8_merge 3 (some .int) cX8_merge 34 tX8_merge := z_tab_of (tm := tmX8_merge) (by decide +kernel)
theorem sX8_merge_0 (lv : zL) (st : List Value) (w : zW) (nx K : Nat → zL → List Value → zW → Prop) (Rt : Option Value → zW → Prop) : z_st1 (tX8_merge 0) 0 lv st w nx K Rt = (z_la lv 0 (fun x => nx 1 lv (.ref x :: st) w)) := id rfl
theorem sX8_merge_1 (lv : zL) (st : List Value) (w : zW) (nx K : Nat → zL → List Value → zW → Prop) (Rt : Option Value → zW → Prop) : z_st1 (tX8_merge 1) 1 lv st w nx K Rt = (z_li lv 2 (fun x => nx 2 lv (.int x :: st) w)) := id rfl
theorem sX8_merge_5 (lv : zL) (st : List Value) (w : zW) (nx K : Nat → zL → List Value → zW → Prop) (Rt : Option Value → zW → Prop) : z_st1 (tX8_merge 5) 5 lv st w nx K Rt = (z_1i st (fun x r => (¬ x = 0 → nx 11 lv r w) ∧ (x = 0 → nx 8 lv r w))) := id rfl
theorem sX8_merge_8 (lv : zL) (st : List Value) (w : zW) (nx K : Nat → zL → List Value → zW → Prop) (Rt : Option Value → zW → Prop) : z_st1 (tX8_merge 8) 8 lv st w nx K Rt = (nx 10 lv (.int (-2 : Int32) :: st) w) := id rfl
theorem sX8_merge_10 (lv : zL) (st : List Value) (w : zW) (nx K : Nat → zL → List Value → zW → Prop) (Rt : Option Value → zW → Prop) : z_st1 (tX8_merge 10) 10 lv st w nx K Rt = (z_e1 st (fun x => Rt (some (.int x)) w)) := id rfl
theorem sX8_merge_11 (lv : zL) (st : List Value) (w : zW) (nx K : Nat → zL → List Value → zW → Prop) (Rt : Option Value → zW → Prop) : z_st1 (tX8_merge 11) 11 lv st w nx K Rt = (z_li lv 1 (fun x => nx 12 lv (.int x :: st) w)) := id rfl
theorem sX8_merge_12 (lv : zL) (st : List Value) (w : zW) (nx K : Nat → zL → List Value → zW → Prop) (Rt : Option Value → zW → Prop) : z_st1 (tX8_merge 12) 12 lv st w nx K Rt = (z_1i st (fun x r => (x < 0 → nx 21 lv r w) ∧ (¬ x < 0 → nx 15 lv r w))) := id rfl
theorem sX8_merge_15 (lv : zL) (st : List Value) (w : zW) (nx K : Nat → zL → List Value → zW → Prop) (Rt : Option Value → zW → Prop) : z_st1 (tX8_merge 15) 15 lv st w nx K Rt = (z_li lv 1 (fun x => nx 16 lv (.int x :: st) w)) := id rfl
theorem sX8_merge_16 (lv : zL) (st : List Value) (w : zW) (nx K : Nat → zL → List Value → zW → Prop) (Rt : Option Value → zW → Prop) : z_st1 (tX8_merge 16) 16 lv st w nx K Rt = (nx 18 lv (.int (8 : Int32) :: st) w) := id rfl
theorem sX8_merge_18 (lv : zL) (st : List Value) (w : zW) (nx K : Nat → zL → List Value → zW → Prop) (Rt : Option Value → zW → Prop) : z_st1 (tX8_merge 18) 18 lv st w nx K Rt = (z_2i st (fun x y r => (x < y → nx 24 lv r w) ∧ (¬ x < y → nx 21 lv r w))) := id rfl
theorem sX8_merge_21 (lv : zL) (st : List Value) (w : zW) (nx K : Nat → zL → List Value → zW → Prop) (Rt : Option Value → zW → Prop) : z_st1 (tX8_merge 21) 21 lv st w nx K Rt = (nx 23 lv (.int (-4 : Int32) :: st) w) := id rfl
theorem sX8_merge_23 (lv : zL) (st : List Value) (w : zW) (nx K : Nat → zL → List Value → zW → Prop) (Rt : Option Value → zW → Prop) : z_st1 (tX8_merge 23) 23 lv st w nx K Rt = (z_e1 st (fun x => Rt (some (.int x)) w)) := id rfl
theorem sX8_merge_24 (lv : zL) (st : List Value) (w : zW) (nx K : Nat → zL → List Value → zW → Prop) (Rt : Option Value → zW → Prop) : z_st1 (tX8_merge 24) 24 lv st w nx K Rt = (z_la lv 0 (fun x => nx 25 lv (.ref x :: st) w)) := id rfl
theorem sX8_merge_25 (lv : zL) (st : List Value) (w : zW) (nx K : Nat → zL → List Value → zW → Prop) (Rt : Option Value → zW → Prop) : z_st1 (tX8_merge 25) 25 lv st w nx K Rt = (z_1a st (fun x r => z_ob w x 9 (fun fs => z_fl fs 8 (fun u => nx 28 lv (u :: r) w)))) := id rfl
theorem sX8_merge_28 (lv : zL) (st : List Value) (w : zW) (nx K : Nat → zL → List Value → zW → Prop) (Rt : Option Value → zW → Prop) : z_st1 (tX8_merge 28) 28 lv st w nx K Rt = (z_li lv 1 (fun x => nx 29 lv (.int x :: st) w)) := id rfl
theorem sX8_merge_29 (lv : zL) (st : List Value) (w : zW) (nx K : Nat → zL → List Value → zW → Prop) (Rt : Option Value → zW → Prop) : z_st1 (tX8_merge 29) 29 lv st w nx K Rt = (z_li lv 2 (fun x => nx 30 lv (.int x :: st) w)) := id rfl
theorem sX8_merge_33 (lv : zL) (st : List Value) (w : zW) (nx K : Nat → zL → List Value → zW → Prop) (Rt : Option Value → zW → Prop) : z_st1 (tX8_merge 33) 33 lv st w nx K Rt = (z_e1 st (fun x => Rt (some (.int x)) w)) := id rfl
theorem sX8_merge_2 (lv : zL) (st : List Value) (w : zW) (nx K : Nat → zL → List Value → zW → Prop) (Rt : Option Value → zW → Prop) : z_st1 (tX8_merge 2) 2 lv st w nx K Rt = K 2 lv st w := id rfl
theorem sX8_merge_30 (lv : zL) (st : List Value) (w : zW) (nx K : Nat → zL → List Value → zW → Prop) (Rt : Option Value → zW → Prop) : z_st1 (tX8_merge 30) 30 lv st w nx K Rt = K 30 lv st w := id rfl
theorem dX8_merge_2 : decode cX8_merge 2 = .ok (.invokevirtual 121, 3) := by decide +kernel
theorem dX8_merge_30 : decode cX8_merge 30 = .ok (.invokevirtual 195, 3) := by decide +kernel

def tmX8_mergeAll (pc : Nat) : zI := match pc with
  | 0 => (1, 0, 0, 1, 0)
  | 1 => (46, 9, 13, 4, 0)
  | 4 => (6, 0, 0, 5, 1)
  | 5 => (41, 11, 0, 8, 0)
  | 8 => (6, 0, 0, 10, (-5))
  | 10 => (53, 0, 0, 11, 0)
  | 11 => (1, 0, 0, 12, 0)
  | 12 => (46, 9, 8, 15, 0)
  | 15 => (1, 0, 0, 16, 0)
  | 16 => (46, 9, 0, 19, 0)
  | 19 => (1, 0, 0, 20, 0)
  | 20 => (46, 9, 2, 23, 0)
  | 26 => (3, 1, 0, 27, 0)
  | 27 => (0, 1, 0, 28, 0)
  | 28 => (6, 0, 0, 29, (-1))
  | 29 => (40, 37, 0, 32, 0)
  | 32 => (6, 0, 0, 34, (-10))
  | 34 => (0, 1, 0, 35, 0)
  | 35 => (9, 0, 0, 36, 0)
  | 36 => (53, 0, 0, 37, 0)
  | 37 => (1, 0, 0, 38, 0)
  | 41 => (1, 0, 0, 42, 0)
  | 42 => (46, 9, 3, 45, 0)
  | 45 => (6, 0, 0, 46, 1)
  | 49 => (1, 0, 0, 50, 0)
  | 50 => (46, 9, 3, 53, 0)
  | 53 => (6, 0, 0, 55, 8)
  | 58 => (30, 0, 0, 59, 0)
  | 59 => (1, 0, 0, 60, 0)
  | 60 => (46, 9, 8, 63, 0)
  | 66 => (1, 0, 0, 67, 0)
  | 70 => (53, 0, 0, 71, 0)
  | _ => (99, 0, 0, 0, 0)
def tX8_mergeAll (pc : Nat) : zI := if pc < 71 then tmX8_mergeAll pc else (99, 0, 0, 0, 0)
theorem tkX8_mergeAll : z_tab RX8 wsX8_mergeAll 2 (some .int) cX8_mergeAll 71 tX8_mergeAll := z_tab_of (tm := tmX8_mergeAll) (by decide +kernel)
theorem sX8_mergeAll_0 (lv : zL) (st : List Value) (w : zW) (nx K : Nat → zL → List Value → zW → Prop) (Rt : Option Value → zW → Prop) : z_st1 (tX8_mergeAll 0) 0 lv st w nx K Rt = (z_la lv 0 (fun x => nx 1 lv (.ref x :: st) w)) := id rfl
theorem sX8_mergeAll_1 (lv : zL) (st : List Value) (w : zW) (nx K : Nat → zL → List Value → zW → Prop) (Rt : Option Value → zW → Prop) : z_st1 (tX8_mergeAll 1) 1 lv st w nx K Rt = (z_1a st (fun x r => z_ob w x 9 (fun fs => z_fl fs 13 (fun u => nx 4 lv (u :: r) w)))) := id rfl
theorem sX8_mergeAll_4 (lv : zL) (st : List Value) (w : zW) (nx K : Nat → zL → List Value → zW → Prop) (Rt : Option Value → zW → Prop) : z_st1 (tX8_mergeAll 4) 4 lv st w nx K Rt = (nx 5 lv (.int (1 : Int32) :: st) w) := id rfl
theorem sX8_mergeAll_5 (lv : zL) (st : List Value) (w : zW) (nx K : Nat → zL → List Value → zW → Prop) (Rt : Option Value → zW → Prop) : z_st1 (tX8_mergeAll 5) 5 lv st w nx K Rt = (z_2i st (fun x y r => (¬ x = y → nx 11 lv r w) ∧ (x = y → nx 8 lv r w))) := id rfl
theorem sX8_mergeAll_8 (lv : zL) (st : List Value) (w : zW) (nx K : Nat → zL → List Value → zW → Prop) (Rt : Option Value → zW → Prop) : z_st1 (tX8_mergeAll 8) 8 lv st w nx K Rt = (nx 10 lv (.int (-5 : Int32) :: st) w) := id rfl
theorem sX8_mergeAll_10 (lv : zL) (st : List Value) (w : zW) (nx K : Nat → zL → List Value → zW → Prop) (Rt : Option Value → zW → Prop) : z_st1 (tX8_mergeAll 10) 10 lv st w nx K Rt = (z_e1 st (fun x => Rt (some (.int x)) w)) := id rfl
theorem sX8_mergeAll_11 (lv : zL) (st : List Value) (w : zW) (nx K : Nat → zL → List Value → zW → Prop) (Rt : Option Value → zW → Prop) : z_st1 (tX8_mergeAll 11) 11 lv st w nx K Rt = (z_la lv 0 (fun x => nx 12 lv (.ref x :: st) w)) := id rfl
theorem sX8_mergeAll_12 (lv : zL) (st : List Value) (w : zW) (nx K : Nat → zL → List Value → zW → Prop) (Rt : Option Value → zW → Prop) : z_st1 (tX8_mergeAll 12) 12 lv st w nx K Rt = (z_1a st (fun x r => z_ob w x 9 (fun fs => z_fl fs 8 (fun u => nx 15 lv (u :: r) w)))) := id rfl
theorem sX8_mergeAll_15 (lv : zL) (st : List Value) (w : zW) (nx K : Nat → zL → List Value → zW → Prop) (Rt : Option Value → zW → Prop) : z_st1 (tX8_mergeAll 15) 15 lv st w nx K Rt = (z_la lv 0 (fun x => nx 16 lv (.ref x :: st) w)) := id rfl
theorem sX8_mergeAll_16 (lv : zL) (st : List Value) (w : zW) (nx K : Nat → zL → List Value → zW → Prop) (Rt : Option Value → zW → Prop) : z_st1 (tX8_mergeAll 16) 16 lv st w nx K Rt = (z_1a st (fun x r => z_ob w x 9 (fun fs => z_fl fs 0 (fun u => nx 19 lv (u :: r) w)))) := id rfl
theorem sX8_mergeAll_19 (lv : zL) (st : List Value) (w : zW) (nx K : Nat → zL → List Value → zW → Prop) (Rt : Option Value → zW → Prop) : z_st1 (tX8_mergeAll 19) 19 lv st w nx K Rt = (z_la lv 0 (fun x => nx 20 lv (.ref x :: st) w)) := id rfl
theorem sX8_mergeAll_20 (lv : zL) (st : List Value) (w : zW) (nx K : Nat → zL → List Value → zW → Prop) (Rt : Option Value → zW → Prop) : z_st1 (tX8_mergeAll 20) 20 lv st w nx K Rt = (z_1a st (fun x r => z_ob w x 9 (fun fs => z_fl fs 2 (fun u => nx 23 lv (u :: r) w)))) := id rfl
theorem sX8_mergeAll_26 (lv : zL) (st : List Value) (w : zW) (nx K : Nat → zL → List Value → zW → Prop) (Rt : Option Value → zW → Prop) : z_st1 (tX8_mergeAll 26) 26 lv st w nx K Rt = (z_1i st (fun x r => z_ok1 lv 1 = true ∧ nx 27 (lv.set 1 (some (.int x))) r w)) := id rfl
theorem sX8_mergeAll_27 (lv : zL) (st : List Value) (w : zW) (nx K : Nat → zL → List Value → zW → Prop) (Rt : Option Value → zW → Prop) : z_st1 (tX8_mergeAll 27) 27 lv st w nx K Rt = (z_li lv 1 (fun x => nx 28 lv (.int x :: st) w)) := id rfl
theorem sX8_mergeAll_28 (lv : zL) (st : List Value) (w : zW) (nx K : Nat → zL → List Value → zW → Prop) (Rt : Option Value → zW → Prop) : z_st1 (tX8_mergeAll 28) 28 lv st w nx K Rt = (nx 29 lv (.int (-1 : Int32) :: st) w) := id rfl
theorem sX8_mergeAll_29 (lv : zL) (st : List Value) (w : zW) (nx K : Nat → zL → List Value → zW → Prop) (Rt : Option Value → zW → Prop) : z_st1 (tX8_mergeAll 29) 29 lv st w nx K Rt = (z_2i st (fun x y r => (x = y → nx 37 lv r w) ∧ (¬ x = y → nx 32 lv r w))) := id rfl
theorem sX8_mergeAll_32 (lv : zL) (st : List Value) (w : zW) (nx K : Nat → zL → List Value → zW → Prop) (Rt : Option Value → zW → Prop) : z_st1 (tX8_mergeAll 32) 32 lv st w nx K Rt = (nx 34 lv (.int (-10 : Int32) :: st) w) := id rfl
theorem sX8_mergeAll_34 (lv : zL) (st : List Value) (w : zW) (nx K : Nat → zL → List Value → zW → Prop) (Rt : Option Value → zW → Prop) : z_st1 (tX8_mergeAll 34) 34 lv st w nx K Rt = (z_li lv 1 (fun x => nx 35 lv (.int x :: st) w)) := id rfl
theorem sX8_mergeAll_35 (lv : zL) (st : List Value) (w : zW) (nx K : Nat → zL → List Value → zW → Prop) (Rt : Option Value → zW → Prop) : z_st1 (tX8_mergeAll 35) 35 lv st w nx K Rt = (z_2i st (fun x y r => nx 36 lv (.int (x - y) :: r) w)) := id rfl
theorem sX8_mergeAll_36 (lv : zL) (st : List Value) (w : zW) (nx K : Nat → zL → List Value → zW → Prop) (Rt : Option Value → zW → Prop) : z_st1 (tX8_mergeAll 36) 36 lv st w nx K Rt = (z_e1 st (fun x => Rt (some (.int x)) w)) := id rfl
theorem sX8_mergeAll_37 (lv : zL) (st : List Value) (w : zW) (nx K : Nat → zL → List Value → zW → Prop) (Rt : Option Value → zW → Prop) : z_st1 (tX8_mergeAll 37) 37 lv st w nx K Rt = (z_la lv 0 (fun x => nx 38 lv (.ref x :: st) w)) := id rfl
theorem sX8_mergeAll_41 (lv : zL) (st : List Value) (w : zW) (nx K : Nat → zL → List Value → zW → Prop) (Rt : Option Value → zW → Prop) : z_st1 (tX8_mergeAll 41) 41 lv st w nx K Rt = (z_la lv 0 (fun x => nx 42 lv (.ref x :: st) w)) := id rfl
theorem sX8_mergeAll_42 (lv : zL) (st : List Value) (w : zW) (nx K : Nat → zL → List Value → zW → Prop) (Rt : Option Value → zW → Prop) : z_st1 (tX8_mergeAll 42) 42 lv st w nx K Rt = (z_1a st (fun x r => z_ob w x 9 (fun fs => z_fl fs 3 (fun u => nx 45 lv (u :: r) w)))) := id rfl
theorem sX8_mergeAll_45 (lv : zL) (st : List Value) (w : zW) (nx K : Nat → zL → List Value → zW → Prop) (Rt : Option Value → zW → Prop) : z_st1 (tX8_mergeAll 45) 45 lv st w nx K Rt = (nx 46 lv (.int (1 : Int32) :: st) w) := id rfl
theorem sX8_mergeAll_49 (lv : zL) (st : List Value) (w : zW) (nx K : Nat → zL → List Value → zW → Prop) (Rt : Option Value → zW → Prop) : z_st1 (tX8_mergeAll 49) 49 lv st w nx K Rt = (z_la lv 0 (fun x => nx 50 lv (.ref x :: st) w)) := id rfl
theorem sX8_mergeAll_50 (lv : zL) (st : List Value) (w : zW) (nx K : Nat → zL → List Value → zW → Prop) (Rt : Option Value → zW → Prop) : z_st1 (tX8_mergeAll 50) 50 lv st w nx K Rt = (z_1a st (fun x r => z_ob w x 9 (fun fs => z_fl fs 3 (fun u => nx 53 lv (u :: r) w)))) := id rfl
theorem sX8_mergeAll_53 (lv : zL) (st : List Value) (w : zW) (nx K : Nat → zL → List Value → zW → Prop) (Rt : Option Value → zW → Prop) : z_st1 (tX8_mergeAll 53) 53 lv st w nx K Rt = (nx 55 lv (.int (8 : Int32) :: st) w) := id rfl
theorem sX8_mergeAll_58 (lv : zL) (st : List Value) (w : zW) (nx K : Nat → zL → List Value → zW → Prop) (Rt : Option Value → zW → Prop) : z_st1 (tX8_mergeAll 58) 58 lv st w nx K Rt = (z_d1 st (fun _ r => nx 59 lv r w)) := id rfl
theorem sX8_mergeAll_59 (lv : zL) (st : List Value) (w : zW) (nx K : Nat → zL → List Value → zW → Prop) (Rt : Option Value → zW → Prop) : z_st1 (tX8_mergeAll 59) 59 lv st w nx K Rt = (z_la lv 0 (fun x => nx 60 lv (.ref x :: st) w)) := id rfl
theorem sX8_mergeAll_60 (lv : zL) (st : List Value) (w : zW) (nx K : Nat → zL → List Value → zW → Prop) (Rt : Option Value → zW → Prop) : z_st1 (tX8_mergeAll 60) 60 lv st w nx K Rt = (z_1a st (fun x r => z_ob w x 9 (fun fs => z_fl fs 8 (fun u => nx 63 lv (u :: r) w)))) := id rfl
theorem sX8_mergeAll_66 (lv : zL) (st : List Value) (w : zW) (nx K : Nat → zL → List Value → zW → Prop) (Rt : Option Value → zW → Prop) : z_st1 (tX8_mergeAll 66) 66 lv st w nx K Rt = (z_la lv 0 (fun x => nx 67 lv (.ref x :: st) w)) := id rfl
theorem sX8_mergeAll_70 (lv : zL) (st : List Value) (w : zW) (nx K : Nat → zL → List Value → zW → Prop) (Rt : Option Value → zW → Prop) : z_st1 (tX8_mergeAll 70) 70 lv st w nx K Rt = (z_e1 st (fun x => Rt (some (.int x)) w)) := id rfl
theorem sX8_mergeAll_23 (lv : zL) (st : List Value) (w : zW) (nx K : Nat → zL → List Value → zW → Prop) (Rt : Option Value → zW → Prop) : z_st1 (tX8_mergeAll 23) 23 lv st w nx K Rt = K 23 lv st w := id rfl
theorem sX8_mergeAll_38 (lv : zL) (st : List Value) (w : zW) (nx K : Nat → zL → List Value → zW → Prop) (Rt : Option Value → zW → Prop) : z_st1 (tX8_mergeAll 38) 38 lv st w nx K Rt = K 38 lv st w := id rfl
theorem sX8_mergeAll_46 (lv : zL) (st : List Value) (w : zW) (nx K : Nat → zL → List Value → zW → Prop) (Rt : Option Value → zW → Prop) : z_st1 (tX8_mergeAll 46) 46 lv st w nx K Rt = K 46 lv st w := id rfl
theorem sX8_mergeAll_55 (lv : zL) (st : List Value) (w : zW) (nx K : Nat → zL → List Value → zW → Prop) (Rt : Option Value → zW → Prop) : z_st1 (tX8_mergeAll 55) 55 lv st w nx K Rt = K 55 lv st w := id rfl
theorem sX8_mergeAll_63 (lv : zL) (st : List Value) (w : zW) (nx K : Nat → zL → List Value → zW → Prop) (Rt : Option Value → zW → Prop) : z_st1 (tX8_mergeAll 63) 63 lv st w nx K Rt = K 63 lv st w := id rfl
theorem sX8_mergeAll_67 (lv : zL) (st : List Value) (w : zW) (nx K : Nat → zL → List Value → zW → Prop) (Rt : Option Value → zW → Prop) : z_st1 (tX8_mergeAll 67) 67 lv st w nx K Rt = K 67 lv st w := id rfl
theorem dX8_mergeAll_23 : decode cX8_mergeAll 23 = .ok (.invokevirtual 197, 3) := by decide +kernel
theorem dX8_mergeAll_38 : decode cX8_mergeAll 38 = .ok (.invokevirtual 201, 3) := by decide +kernel
theorem dX8_mergeAll_46 : decode cX8_mergeAll 46 = .ok (.invokevirtual 152, 3) := by decide +kernel
theorem dX8_mergeAll_55 : decode cX8_mergeAll 55 = .ok (.invokevirtual 162, 3) := by decide +kernel
theorem dX8_mergeAll_63 : decode cX8_mergeAll 63 = .ok (.invokevirtual 204, 3) := by decide +kernel
theorem dX8_mergeAll_67 : decode cX8_mergeAll 67 = .ok (.invokevirtual 182, 3) := by decide +kernel

def tmX8_compare (pc : Nat) : zI := match pc with
  | 0 => (1, 0, 0, 1, 0)
  | 1 => (0, 1, 0, 2, 0)
  | 5 => (34, 16, 0, 8, 0)
  | 8 => (1, 0, 0, 9, 0)
  | 9 => (0, 2, 0, 10, 0)
  | 13 => (35, 26, 0, 16, 0)
  | 19 => (29, 0, 0, 20, 0)
  | 26 => (1, 0, 0, 27, 0)
  | 27 => (46, 9, 2, 30, 0)
  | 30 => (1, 0, 0, 31, 0)
  | 31 => (46, 9, 0, 34, 0)
  | 34 => (0, 1, 0, 35, 0)
  | 35 => (6, 0, 0, 36, 1)
  | 36 => (9, 0, 0, 37, 0)
  | 37 => (0, 2, 0, 38, 0)
  | 38 => (6, 0, 0, 39, 1)
  | 39 => (9, 0, 0, 40, 0)
  | 43 => (53, 0, 0, 44, 0)
  | _ => (99, 0, 0, 0, 0)
def tX8_compare (pc : Nat) : zI := if pc < 44 then tmX8_compare pc else (99, 0, 0, 0, 0)
theorem tkX8_compare : z_tab RX8 wsX8_compare 3 (some .int) cX8_compare 44 tX8_compare := z_tab_of (tm := tmX8_compare) (by decide +kernel)
theorem sX8_compare_0 (lv : zL) (st : List Value) (w : zW) (nx K : Nat → zL → List Value → zW → Prop) (Rt : Option Value → zW → Prop) : z_st1 (tX8_compare 0) 0 lv st w nx K Rt = (z_la lv 0 (fun x => nx 1 lv (.ref x :: st) w)) := id rfl
theorem sX8_compare_1 (lv : zL) (st : List Value) (w : zW) (nx K : Nat → zL → List Value → zW → Prop) (Rt : Option Value → zW → Prop) : z_st1 (tX8_compare 1) 1 lv st w nx K Rt = (z_li lv 1 (fun x => nx 2 lv (.int x :: st) w)) := id rfl
theorem sX8_compare_5 (lv : zL) (st : List Value) (w : zW) (nx K : Nat → zL → List Value → zW → Prop) (Rt : Option Value → zW → Prop) : z_st1 (tX8_compare 5) 5 lv st w nx K Rt = (z_1i st (fun x r => (x = 0 → nx 16 lv r w) ∧ (¬ x = 0 → nx 8 lv r w))) := id rfl
theorem sX8_compare_8 (lv : zL) (st : List Value) (w : zW) (nx K : Nat → zL → List Value → zW → Prop) (Rt : Option Value → zW → Prop) : z_st1 (tX8_compare 8) 8 lv st w nx K Rt = (z_la lv 0 (fun x => nx 9 lv (.ref x :: st) w)) := id rfl
theorem sX8_compare_9 (lv : zL) (st : List Value) (w : zW) (nx K : Nat → zL → List Value → zW → Prop) (Rt : Option Value → zW → Prop) : z_st1 (tX8_compare 9) 9 lv st w nx K Rt = (z_li lv 2 (fun x => nx 10 lv (.int x :: st) w)) := id rfl
theorem sX8_compare_13 (lv : zL) (st : List Value) (w : zW) (nx K : Nat → zL → List Value → zW → Prop) (Rt : Option Value → zW → Prop) : z_st1 (tX8_compare 13) 13 lv st w nx K Rt = (z_1i st (fun x r => (¬ x = 0 → nx 26 lv r w) ∧ (x = 0 → nx 16 lv r w))) := id rfl
theorem sX8_compare_19 (lv : zL) (st : List Value) (w : zW) (nx K : Nat → zL → List Value → zW → Prop) (Rt : Option Value → zW → Prop) : z_st1 (tX8_compare 19) 19 lv st w nx K Rt = (z_d1 st (fun x r => nx 20 lv (x :: x :: r) w)) := id rfl
theorem sX8_compare_26 (lv : zL) (st : List Value) (w : zW) (nx K : Nat → zL → List Value → zW → Prop) (Rt : Option Value → zW → Prop) : z_st1 (tX8_compare 26) 26 lv st w nx K Rt = (z_la lv 0 (fun x => nx 27 lv (.ref x :: st) w)) := id rfl
theorem sX8_compare_27 (lv : zL) (st : List Value) (w : zW) (nx K : Nat → zL → List Value → zW → Prop) (Rt : Option Value → zW → Prop) : z_st1 (tX8_compare 27) 27 lv st w nx K Rt = (z_1a st (fun x r => z_ob w x 9 (fun fs => z_fl fs 2 (fun u => nx 30 lv (u :: r) w)))) := id rfl
theorem sX8_compare_30 (lv : zL) (st : List Value) (w : zW) (nx K : Nat → zL → List Value → zW → Prop) (Rt : Option Value → zW → Prop) : z_st1 (tX8_compare 30) 30 lv st w nx K Rt = (z_la lv 0 (fun x => nx 31 lv (.ref x :: st) w)) := id rfl
theorem sX8_compare_31 (lv : zL) (st : List Value) (w : zW) (nx K : Nat → zL → List Value → zW → Prop) (Rt : Option Value → zW → Prop) : z_st1 (tX8_compare 31) 31 lv st w nx K Rt = (z_1a st (fun x r => z_ob w x 9 (fun fs => z_fl fs 0 (fun u => nx 34 lv (u :: r) w)))) := id rfl
theorem sX8_compare_34 (lv : zL) (st : List Value) (w : zW) (nx K : Nat → zL → List Value → zW → Prop) (Rt : Option Value → zW → Prop) : z_st1 (tX8_compare 34) 34 lv st w nx K Rt = (z_li lv 1 (fun x => nx 35 lv (.int x :: st) w)) := id rfl
theorem sX8_compare_35 (lv : zL) (st : List Value) (w : zW) (nx K : Nat → zL → List Value → zW → Prop) (Rt : Option Value → zW → Prop) : z_st1 (tX8_compare 35) 35 lv st w nx K Rt = (nx 36 lv (.int (1 : Int32) :: st) w) := id rfl
theorem sX8_compare_36 (lv : zL) (st : List Value) (w : zW) (nx K : Nat → zL → List Value → zW → Prop) (Rt : Option Value → zW → Prop) : z_st1 (tX8_compare 36) 36 lv st w nx K Rt = (z_2i st (fun x y r => nx 37 lv (.int (x - y) :: r) w)) := id rfl
theorem sX8_compare_37 (lv : zL) (st : List Value) (w : zW) (nx K : Nat → zL → List Value → zW → Prop) (Rt : Option Value → zW → Prop) : z_st1 (tX8_compare 37) 37 lv st w nx K Rt = (z_li lv 2 (fun x => nx 38 lv (.int x :: st) w)) := id rfl
theorem sX8_compare_38 (lv : zL) (st : List Value) (w : zW) (nx K : Nat → zL → List Value → zW → Prop) (Rt : Option Value → zW → Prop) : z_st1 (tX8_compare 38) 38 lv st w nx K Rt = (nx 39 lv (.int (1 : Int32) :: st) w) := id rfl
theorem sX8_compare_39 (lv : zL) (st : List Value) (w : zW) (nx K : Nat → zL → List Value → zW → Prop) (Rt : Option Value → zW → Prop) : z_st1 (tX8_compare 39) 39 lv st w nx K Rt = (z_2i st (fun x y r => nx 40 lv (.int (x - y) :: r) w)) := id rfl
theorem sX8_compare_43 (lv : zL) (st : List Value) (w : zW) (nx K : Nat → zL → List Value → zW → Prop) (Rt : Option Value → zW → Prop) : z_st1 (tX8_compare 43) 43 lv st w nx K Rt = (z_e1 st (fun x => Rt (some (.int x)) w)) := id rfl
theorem sX8_compare_2 (lv : zL) (st : List Value) (w : zW) (nx K : Nat → zL → List Value → zW → Prop) (Rt : Option Value → zW → Prop) : z_st1 (tX8_compare 2) 2 lv st w nx K Rt = K 2 lv st w := id rfl
theorem sX8_compare_10 (lv : zL) (st : List Value) (w : zW) (nx K : Nat → zL → List Value → zW → Prop) (Rt : Option Value → zW → Prop) : z_st1 (tX8_compare 10) 10 lv st w nx K Rt = K 10 lv st w := id rfl
theorem sX8_compare_16 (lv : zL) (st : List Value) (w : zW) (nx K : Nat → zL → List Value → zW → Prop) (Rt : Option Value → zW → Prop) : z_st1 (tX8_compare 16) 16 lv st w nx K Rt = K 16 lv st w := id rfl
theorem sX8_compare_20 (lv : zL) (st : List Value) (w : zW) (nx K : Nat → zL → List Value → zW → Prop) (Rt : Option Value → zW → Prop) : z_st1 (tX8_compare 20) 20 lv st w nx K Rt = K 20 lv st w := id rfl
theorem sX8_compare_22 (lv : zL) (st : List Value) (w : zW) (nx K : Nat → zL → List Value → zW → Prop) (Rt : Option Value → zW → Prop) : z_st1 (tX8_compare 22) 22 lv st w nx K Rt = K 22 lv st w := id rfl
theorem sX8_compare_25 (lv : zL) (st : List Value) (w : zW) (nx K : Nat → zL → List Value → zW → Prop) (Rt : Option Value → zW → Prop) : z_st1 (tX8_compare 25) 25 lv st w nx K Rt = K 25 lv st w := id rfl
theorem sX8_compare_40 (lv : zL) (st : List Value) (w : zW) (nx K : Nat → zL → List Value → zW → Prop) (Rt : Option Value → zW → Prop) : z_st1 (tX8_compare 40) 40 lv st w nx K Rt = K 40 lv st w := id rfl
theorem dX8_compare_2 : decode cX8_compare 2 = .ok (.invokevirtual 121, 3) := by decide +kernel
theorem dX8_compare_10 : decode cX8_compare 10 = .ok (.invokevirtual 121, 3) := by decide +kernel
theorem dX8_compare_16 : decode cX8_compare 16 = .ok (.new 205, 3) := by decide +kernel
theorem dX8_compare_20 : decode cX8_compare 20 = .ok (.ldc 207, 2) := by decide +kernel
theorem dX8_compare_22 : decode cX8_compare 22 = .ok (.invokespecial 209, 3) := by decide +kernel
theorem dX8_compare_25 : decode cX8_compare 25 = .ok (.athrow, 1) := by decide +kernel
theorem dX8_compare_40 : decode cX8_compare 40 = .ok (.invokevirtual 210, 3) := by decide +kernel

def tmX8_failed (pc : Nat) : zI := match pc with
  | 0 => (1, 0, 0, 1, 0)
  | 1 => (46, 9, 16, 4, 0)
  | 4 => (53, 0, 0, 5, 0)
  | _ => (99, 0, 0, 0, 0)
def tX8_failed (pc : Nat) : zI := if pc < 5 then tmX8_failed pc else (99, 0, 0, 0, 0)
theorem tkX8_failed : z_tab RX8 wsX8_failed 1 (some .int) cX8_failed 5 tX8_failed := z_tab_of (tm := tmX8_failed) (by decide +kernel)
theorem sX8_failed_0 (lv : zL) (st : List Value) (w : zW) (nx K : Nat → zL → List Value → zW → Prop) (Rt : Option Value → zW → Prop) : z_st1 (tX8_failed 0) 0 lv st w nx K Rt = (z_la lv 0 (fun x => nx 1 lv (.ref x :: st) w)) := id rfl
theorem sX8_failed_1 (lv : zL) (st : List Value) (w : zW) (nx K : Nat → zL → List Value → zW → Prop) (Rt : Option Value → zW → Prop) : z_st1 (tX8_failed 1) 1 lv st w nx K Rt = (z_1a st (fun x r => z_ob w x 9 (fun fs => z_fl fs 16 (fun u => nx 4 lv (u :: r) w)))) := id rfl
theorem sX8_failed_4 (lv : zL) (st : List Value) (w : zW) (nx K : Nat → zL → List Value → zW → Prop) (Rt : Option Value → zW → Prop) : z_st1 (tX8_failed 4) 4 lv st w nx K Rt = (z_e1 st (fun x => Rt (some (.int x)) w)) := id rfl

def tmX8_count (pc : Nat) : zI := match pc with
  | 0 => (0, 1, 0, 1, 0)
  | 56 => (1, 0, 0, 57, 0)
  | 57 => (46, 9, 2, 60, 0)
  | 63 => (53, 0, 0, 64, 0)
  | 64 => (1, 0, 0, 65, 0)
  | 65 => (46, 9, 0, 68, 0)
  | 71 => (53, 0, 0, 72, 0)
  | 72 => (1, 0, 0, 73, 0)
  | 73 => (46, 9, 13, 76, 0)
  | 76 => (53, 0, 0, 77, 0)
  | 77 => (1, 0, 0, 78, 0)
  | 78 => (46, 9, 10, 81, 0)
  | 81 => (53, 0, 0, 82, 0)
  | 82 => (1, 0, 0, 83, 0)
  | 83 => (46, 9, 17, 86, 0)
  | 86 => (46, 8, 0, 89, 0)
  | 89 => (53, 0, 0, 90, 0)
  | 90 => (1, 0, 0, 91, 0)
  | 91 => (46, 9, 17, 94, 0)
  | 94 => (46, 8, 1, 97, 0)
  | 97 => (53, 0, 0, 98, 0)
  | 98 => (1, 0, 0, 99, 0)
  | 99 => (46, 9, 17, 102, 0)
  | 102 => (46, 8, 2, 105, 0)
  | 105 => (53, 0, 0, 106, 0)
  | 106 => (1, 0, 0, 107, 0)
  | 107 => (46, 9, 17, 110, 0)
  | 110 => (46, 8, 3, 113, 0)
  | 113 => (53, 0, 0, 114, 0)
  | 114 => (1, 0, 0, 115, 0)
  | 115 => (46, 9, 17, 118, 0)
  | 118 => (46, 8, 4, 121, 0)
  | 121 => (53, 0, 0, 122, 0)
  | 122 => (1, 0, 0, 123, 0)
  | 123 => (46, 9, 8, 126, 0)
  | 129 => (53, 0, 0, 130, 0)
  | 130 => (6, 0, 0, 131, (-1))
  | 131 => (53, 0, 0, 132, 0)
  | _ => (99, 0, 0, 0, 0)
def tX8_count (pc : Nat) : zI := if pc < 132 then tmX8_count pc else (99, 0, 0, 0, 0)
theorem tkX8_count : z_tab RX8 wsX8_count 2 (some .int) cX8_count 132 tX8_count := z_tab_of (tm := tmX8_count) (by decide +kernel)
theorem sX8_count_0 (lv : zL) (st : List Value) (w : zW) (nx K : Nat → zL → List Value → zW → Prop) (Rt : Option Value → zW → Prop) : z_st1 (tX8_count 0) 0 lv st w nx K Rt = (z_li lv 1 (fun x => nx 1 lv (.int x :: st) w)) := id rfl
theorem sX8_count_56 (lv : zL) (st : List Value) (w : zW) (nx K : Nat → zL → List Value → zW → Prop) (Rt : Option Value → zW → Prop) : z_st1 (tX8_count 56) 56 lv st w nx K Rt = (z_la lv 0 (fun x => nx 57 lv (.ref x :: st) w)) := id rfl
theorem sX8_count_57 (lv : zL) (st : List Value) (w : zW) (nx K : Nat → zL → List Value → zW → Prop) (Rt : Option Value → zW → Prop) : z_st1 (tX8_count 57) 57 lv st w nx K Rt = (z_1a st (fun x r => z_ob w x 9 (fun fs => z_fl fs 2 (fun u => nx 60 lv (u :: r) w)))) := id rfl
theorem sX8_count_63 (lv : zL) (st : List Value) (w : zW) (nx K : Nat → zL → List Value → zW → Prop) (Rt : Option Value → zW → Prop) : z_st1 (tX8_count 63) 63 lv st w nx K Rt = (z_e1 st (fun x => Rt (some (.int x)) w)) := id rfl
theorem sX8_count_64 (lv : zL) (st : List Value) (w : zW) (nx K : Nat → zL → List Value → zW → Prop) (Rt : Option Value → zW → Prop) : z_st1 (tX8_count 64) 64 lv st w nx K Rt = (z_la lv 0 (fun x => nx 65 lv (.ref x :: st) w)) := id rfl
theorem sX8_count_65 (lv : zL) (st : List Value) (w : zW) (nx K : Nat → zL → List Value → zW → Prop) (Rt : Option Value → zW → Prop) : z_st1 (tX8_count 65) 65 lv st w nx K Rt = (z_1a st (fun x r => z_ob w x 9 (fun fs => z_fl fs 0 (fun u => nx 68 lv (u :: r) w)))) := id rfl
theorem sX8_count_71 (lv : zL) (st : List Value) (w : zW) (nx K : Nat → zL → List Value → zW → Prop) (Rt : Option Value → zW → Prop) : z_st1 (tX8_count 71) 71 lv st w nx K Rt = (z_e1 st (fun x => Rt (some (.int x)) w)) := id rfl
theorem sX8_count_72 (lv : zL) (st : List Value) (w : zW) (nx K : Nat → zL → List Value → zW → Prop) (Rt : Option Value → zW → Prop) : z_st1 (tX8_count 72) 72 lv st w nx K Rt = (z_la lv 0 (fun x => nx 73 lv (.ref x :: st) w)) := id rfl
theorem sX8_count_73 (lv : zL) (st : List Value) (w : zW) (nx K : Nat → zL → List Value → zW → Prop) (Rt : Option Value → zW → Prop) : z_st1 (tX8_count 73) 73 lv st w nx K Rt = (z_1a st (fun x r => z_ob w x 9 (fun fs => z_fl fs 13 (fun u => nx 76 lv (u :: r) w)))) := id rfl
theorem sX8_count_76 (lv : zL) (st : List Value) (w : zW) (nx K : Nat → zL → List Value → zW → Prop) (Rt : Option Value → zW → Prop) : z_st1 (tX8_count 76) 76 lv st w nx K Rt = (z_e1 st (fun x => Rt (some (.int x)) w)) := id rfl
theorem sX8_count_77 (lv : zL) (st : List Value) (w : zW) (nx K : Nat → zL → List Value → zW → Prop) (Rt : Option Value → zW → Prop) : z_st1 (tX8_count 77) 77 lv st w nx K Rt = (z_la lv 0 (fun x => nx 78 lv (.ref x :: st) w)) := id rfl
theorem sX8_count_78 (lv : zL) (st : List Value) (w : zW) (nx K : Nat → zL → List Value → zW → Prop) (Rt : Option Value → zW → Prop) : z_st1 (tX8_count 78) 78 lv st w nx K Rt = (z_1a st (fun x r => z_ob w x 9 (fun fs => z_fl fs 10 (fun u => nx 81 lv (u :: r) w)))) := id rfl
theorem sX8_count_81 (lv : zL) (st : List Value) (w : zW) (nx K : Nat → zL → List Value → zW → Prop) (Rt : Option Value → zW → Prop) : z_st1 (tX8_count 81) 81 lv st w nx K Rt = (z_e1 st (fun x => Rt (some (.int x)) w)) := id rfl
theorem sX8_count_82 (lv : zL) (st : List Value) (w : zW) (nx K : Nat → zL → List Value → zW → Prop) (Rt : Option Value → zW → Prop) : z_st1 (tX8_count 82) 82 lv st w nx K Rt = (z_la lv 0 (fun x => nx 83 lv (.ref x :: st) w)) := id rfl
theorem sX8_count_83 (lv : zL) (st : List Value) (w : zW) (nx K : Nat → zL → List Value → zW → Prop) (Rt : Option Value → zW → Prop) : z_st1 (tX8_count 83) 83 lv st w nx K Rt = (z_1a st (fun x r => z_ob w x 9 (fun fs => z_fl fs 17 (fun u => nx 86 lv (u :: r) w)))) := id rfl
theorem sX8_count_86 (lv : zL) (st : List Value) (w : zW) (nx K : Nat → zL → List Value → zW → Prop) (Rt : Option Value → zW → Prop) : z_st1 (tX8_count 86) 86 lv st w nx K Rt = (z_1a st (fun x r => z_ob w x 8 (fun fs => z_fl fs 0 (fun u => nx 89 lv (u :: r) w)))) := id rfl
theorem sX8_count_89 (lv : zL) (st : List Value) (w : zW) (nx K : Nat → zL → List Value → zW → Prop) (Rt : Option Value → zW → Prop) : z_st1 (tX8_count 89) 89 lv st w nx K Rt = (z_e1 st (fun x => Rt (some (.int x)) w)) := id rfl
theorem sX8_count_90 (lv : zL) (st : List Value) (w : zW) (nx K : Nat → zL → List Value → zW → Prop) (Rt : Option Value → zW → Prop) : z_st1 (tX8_count 90) 90 lv st w nx K Rt = (z_la lv 0 (fun x => nx 91 lv (.ref x :: st) w)) := id rfl
theorem sX8_count_91 (lv : zL) (st : List Value) (w : zW) (nx K : Nat → zL → List Value → zW → Prop) (Rt : Option Value → zW → Prop) : z_st1 (tX8_count 91) 91 lv st w nx K Rt = (z_1a st (fun x r => z_ob w x 9 (fun fs => z_fl fs 17 (fun u => nx 94 lv (u :: r) w)))) := id rfl
theorem sX8_count_94 (lv : zL) (st : List Value) (w : zW) (nx K : Nat → zL → List Value → zW → Prop) (Rt : Option Value → zW → Prop) : z_st1 (tX8_count 94) 94 lv st w nx K Rt = (z_1a st (fun x r => z_ob w x 8 (fun fs => z_fl fs 1 (fun u => nx 97 lv (u :: r) w)))) := id rfl
theorem sX8_count_97 (lv : zL) (st : List Value) (w : zW) (nx K : Nat → zL → List Value → zW → Prop) (Rt : Option Value → zW → Prop) : z_st1 (tX8_count 97) 97 lv st w nx K Rt = (z_e1 st (fun x => Rt (some (.int x)) w)) := id rfl
theorem sX8_count_98 (lv : zL) (st : List Value) (w : zW) (nx K : Nat → zL → List Value → zW → Prop) (Rt : Option Value → zW → Prop) : z_st1 (tX8_count 98) 98 lv st w nx K Rt = (z_la lv 0 (fun x => nx 99 lv (.ref x :: st) w)) := id rfl
theorem sX8_count_99 (lv : zL) (st : List Value) (w : zW) (nx K : Nat → zL → List Value → zW → Prop) (Rt : Option Value → zW → Prop) : z_st1 (tX8_count 99) 99 lv st w nx K Rt = (z_1a st (fun x r => z_ob w x 9 (fun fs => z_fl fs 17 (fun u => nx 102 lv (u :: r) w)))) := id rfl
theorem sX8_count_102 (lv : zL) (st : List Value) (w : zW) (nx K : Nat → zL → List Value → zW → Prop) (Rt : Option Value → zW → Prop) : z_st1 (tX8_count 102) 102 lv st w nx K Rt = (z_1a st (fun x r => z_ob w x 8 (fun fs => z_fl fs 2 (fun u => nx 105 lv (u :: r) w)))) := id rfl
theorem sX8_count_105 (lv : zL) (st : List Value) (w : zW) (nx K : Nat → zL → List Value → zW → Prop) (Rt : Option Value → zW → Prop) : z_st1 (tX8_count 105) 105 lv st w nx K Rt = (z_e1 st (fun x => Rt (some (.int x)) w)) := id rfl
theorem sX8_count_106 (lv : zL) (st : List Value) (w : zW) (nx K : Nat → zL → List Value → zW → Prop) (Rt : Option Value → zW → Prop) : z_st1 (tX8_count 106) 106 lv st w nx K Rt = (z_la lv 0 (fun x => nx 107 lv (.ref x :: st) w)) := id rfl
theorem sX8_count_107 (lv : zL) (st : List Value) (w : zW) (nx K : Nat → zL → List Value → zW → Prop) (Rt : Option Value → zW → Prop) : z_st1 (tX8_count 107) 107 lv st w nx K Rt = (z_1a st (fun x r => z_ob w x 9 (fun fs => z_fl fs 17 (fun u => nx 110 lv (u :: r) w)))) := id rfl
theorem sX8_count_110 (lv : zL) (st : List Value) (w : zW) (nx K : Nat → zL → List Value → zW → Prop) (Rt : Option Value → zW → Prop) : z_st1 (tX8_count 110) 110 lv st w nx K Rt = (z_1a st (fun x r => z_ob w x 8 (fun fs => z_fl fs 3 (fun u => nx 113 lv (u :: r) w)))) := id rfl
theorem sX8_count_113 (lv : zL) (st : List Value) (w : zW) (nx K : Nat → zL → List Value → zW → Prop) (Rt : Option Value → zW → Prop) : z_st1 (tX8_count 113) 113 lv st w nx K Rt = (z_e1 st (fun x => Rt (some (.int x)) w)) := id rfl
theorem sX8_count_114 (lv : zL) (st : List Value) (w : zW) (nx K : Nat → zL → List Value → zW → Prop) (Rt : Option Value → zW → Prop) : z_st1 (tX8_count 114) 114 lv st w nx K Rt = (z_la lv 0 (fun x => nx 115 lv (.ref x :: st) w)) := id rfl
theorem sX8_count_115 (lv : zL) (st : List Value) (w : zW) (nx K : Nat → zL → List Value → zW → Prop) (Rt : Option Value → zW → Prop) : z_st1 (tX8_count 115) 115 lv st w nx K Rt = (z_1a st (fun x r => z_ob w x 9 (fun fs => z_fl fs 17 (fun u => nx 118 lv (u :: r) w)))) := id rfl
theorem sX8_count_118 (lv : zL) (st : List Value) (w : zW) (nx K : Nat → zL → List Value → zW → Prop) (Rt : Option Value → zW → Prop) : z_st1 (tX8_count 118) 118 lv st w nx K Rt = (z_1a st (fun x r => z_ob w x 8 (fun fs => z_fl fs 4 (fun u => nx 121 lv (u :: r) w)))) := id rfl
theorem sX8_count_121 (lv : zL) (st : List Value) (w : zW) (nx K : Nat → zL → List Value → zW → Prop) (Rt : Option Value → zW → Prop) : z_st1 (tX8_count 121) 121 lv st w nx K Rt = (z_e1 st (fun x => Rt (some (.int x)) w)) := id rfl
theorem sX8_count_122 (lv : zL) (st : List Value) (w : zW) (nx K : Nat → zL → List Value → zW → Prop) (Rt : Option Value → zW → Prop) : z_st1 (tX8_count 122) 122 lv st w nx K Rt = (z_la lv 0 (fun x => nx 123 lv (.ref x :: st) w)) := id rfl
theorem sX8_count_123 (lv : zL) (st : List Value) (w : zW) (nx K : Nat → zL → List Value → zW → Prop) (Rt : Option Value → zW → Prop) : z_st1 (tX8_count 123) 123 lv st w nx K Rt = (z_1a st (fun x r => z_ob w x 9 (fun fs => z_fl fs 8 (fun u => nx 126 lv (u :: r) w)))) := id rfl
theorem sX8_count_129 (lv : zL) (st : List Value) (w : zW) (nx K : Nat → zL → List Value → zW → Prop) (Rt : Option Value → zW → Prop) : z_st1 (tX8_count 129) 129 lv st w nx K Rt = (z_e1 st (fun x => Rt (some (.int x)) w)) := id rfl
theorem sX8_count_130 (lv : zL) (st : List Value) (w : zW) (nx K : Nat → zL → List Value → zW → Prop) (Rt : Option Value → zW → Prop) : z_st1 (tX8_count 130) 130 lv st w nx K Rt = (nx 131 lv (.int (-1 : Int32) :: st) w) := id rfl
theorem sX8_count_131 (lv : zL) (st : List Value) (w : zW) (nx K : Nat → zL → List Value → zW → Prop) (Rt : Option Value → zW → Prop) : z_st1 (tX8_count 131) 131 lv st w nx K Rt = (z_e1 st (fun x => Rt (some (.int x)) w)) := id rfl
theorem sX8_count_1 (lv : zL) (st : List Value) (w : zW) (nx K : Nat → zL → List Value → zW → Prop) (Rt : Option Value → zW → Prop) : z_st1 (tX8_count 1) 1 lv st w nx K Rt = K 1 lv st w := id rfl
theorem sX8_count_60 (lv : zL) (st : List Value) (w : zW) (nx K : Nat → zL → List Value → zW → Prop) (Rt : Option Value → zW → Prop) : z_st1 (tX8_count 60) 60 lv st w nx K Rt = K 60 lv st w := id rfl
theorem sX8_count_68 (lv : zL) (st : List Value) (w : zW) (nx K : Nat → zL → List Value → zW → Prop) (Rt : Option Value → zW → Prop) : z_st1 (tX8_count 68) 68 lv st w nx K Rt = K 68 lv st w := id rfl
theorem sX8_count_126 (lv : zL) (st : List Value) (w : zW) (nx K : Nat → zL → List Value → zW → Prop) (Rt : Option Value → zW → Prop) : z_st1 (tX8_count 126) 126 lv st w nx K Rt = K 126 lv st w := id rfl
theorem dX8_count_1 : decode cX8_count 1 = .ok (.tableswitch 129 0 9 #[55, 63, 71, 76, 81, 89, 97, 105, 113, 121], 55) := by decide +kernel
theorem dX8_count_60 : decode cX8_count 60 = .ok (.invokevirtual 214, 3) := by decide +kernel
theorem dX8_count_68 : decode cX8_count 68 = .ok (.invokevirtual 110, 3) := by decide +kernel
theorem dX8_count_126 : decode cX8_count 126 = .ok (.invokevirtual 226, 3) := by decide +kernel

def tmX8_isRecord (pc : Nat) : zI := match pc with
  | 0 => (0, 1, 0, 1, 0)
  | 1 => (6, 0, 0, 2, 1)
  | 2 => (42, 20, 0, 5, 0)
  | 5 => (0, 1, 0, 6, 0)
  | 6 => (1, 0, 0, 7, 0)
  | 7 => (46, 9, 0, 10, 0)
  | 13 => (44, 20, 0, 16, 0)
  | 16 => (6, 0, 0, 17, 1)
  | 17 => (33, 21, 0, 20, 0)
  | 20 => (6, 0, 0, 21, 0)
  | 21 => (58, 0, 0, 22, 0)
  | _ => (99, 0, 0, 0, 0)
def tX8_isRecord (pc : Nat) : zI := if pc < 22 then tmX8_isRecord pc else (99, 0, 0, 0, 0)
theorem tkX8_isRecord : z_tab RX8 wsX8_isRecord 2 (some .boolean) cX8_isRecord 22 tX8_isRecord := z_tab_of (tm := tmX8_isRecord) (by decide +kernel)
theorem sX8_isRecord_0 (lv : zL) (st : List Value) (w : zW) (nx K : Nat → zL → List Value → zW → Prop) (Rt : Option Value → zW → Prop) : z_st1 (tX8_isRecord 0) 0 lv st w nx K Rt = (z_li lv 1 (fun x => nx 1 lv (.int x :: st) w)) := id rfl
theorem sX8_isRecord_1 (lv : zL) (st : List Value) (w : zW) (nx K : Nat → zL → List Value → zW → Prop) (Rt : Option Value → zW → Prop) : z_st1 (tX8_isRecord 1) 1 lv st w nx K Rt = (nx 2 lv (.int (1 : Int32) :: st) w) := id rfl
theorem sX8_isRecord_2 (lv : zL) (st : List Value) (w : zW) (nx K : Nat → zL → List Value → zW → Prop) (Rt : Option Value → zW → Prop) : z_st1 (tX8_isRecord 2) 2 lv st w nx K Rt = (z_2i st (fun x y r => (x < y → nx 20 lv r w) ∧ (¬ x < y → nx 5 lv r w))) := id rfl
theorem sX8_isRecord_5 (lv : zL) (st : List Value) (w : zW) (nx K : Nat → zL → List Value → zW → Prop) (Rt : Option Value → zW → Prop) : z_st1 (tX8_isRecord 5) 5 lv st w nx K Rt = (z_li lv 1 (fun x => nx 6 lv (.int x :: st) w)) := id rfl
theorem sX8_isRecord_6 (lv : zL) (st : List Value) (w : zW) (nx K : Nat → zL → List Value → zW → Prop) (Rt : Option Value → zW → Prop) : z_st1 (tX8_isRecord 6) 6 lv st w nx K Rt = (z_la lv 0 (fun x => nx 7 lv (.ref x :: st) w)) := id rfl
theorem sX8_isRecord_7 (lv : zL) (st : List Value) (w : zW) (nx K : Nat → zL → List Value → zW → Prop) (Rt : Option Value → zW → Prop) : z_st1 (tX8_isRecord 7) 7 lv st w nx K Rt = (z_1a st (fun x r => z_ob w x 9 (fun fs => z_fl fs 0 (fun u => nx 10 lv (u :: r) w)))) := id rfl
theorem sX8_isRecord_13 (lv : zL) (st : List Value) (w : zW) (nx K : Nat → zL → List Value → zW → Prop) (Rt : Option Value → zW → Prop) : z_st1 (tX8_isRecord 13) 13 lv st w nx K Rt = (z_2i st (fun x y r => (y < x → nx 20 lv r w) ∧ (¬ y < x → nx 16 lv r w))) := id rfl
theorem sX8_isRecord_16 (lv : zL) (st : List Value) (w : zW) (nx K : Nat → zL → List Value → zW → Prop) (Rt : Option Value → zW → Prop) : z_st1 (tX8_isRecord 16) 16 lv st w nx K Rt = (nx 17 lv (.int (1 : Int32) :: st) w) := id rfl
theorem sX8_isRecord_17 (lv : zL) (st : List Value) (w : zW) (nx K : Nat → zL → List Value → zW → Prop) (Rt : Option Value → zW → Prop) : z_st1 (tX8_isRecord 17) 17 lv st w nx K Rt = (nx 21 lv st w) := id rfl
theorem sX8_isRecord_20 (lv : zL) (st : List Value) (w : zW) (nx K : Nat → zL → List Value → zW → Prop) (Rt : Option Value → zW → Prop) : z_st1 (tX8_isRecord 20) 20 lv st w nx K Rt = (nx 21 lv (.int (0 : Int32) :: st) w) := id rfl
theorem sX8_isRecord_21 (lv : zL) (st : List Value) (w : zW) (nx K : Nat → zL → List Value → zW → Prop) (Rt : Option Value → zW → Prop) : z_st1 (tX8_isRecord 21) 21 lv st w nx K Rt = (z_e1 st (fun x => (x = 0 ∨ x = 1) ∧ Rt (some (.int x)) w)) := id rfl
theorem sX8_isRecord_10 (lv : zL) (st : List Value) (w : zW) (nx K : Nat → zL → List Value → zW → Prop) (Rt : Option Value → zW → Prop) : z_st1 (tX8_isRecord 10) 10 lv st w nx K Rt = K 10 lv st w := id rfl
theorem dX8_isRecord_10 : decode cX8_isRecord 10 = .ok (.invokevirtual 110, 3) := by decide +kernel

def tmX8_isField (pc : Nat) : zI := match pc with
  | 0 => (0, 0, 0, 1, 0)
  | 1 => (36, 32, 0, 4, 0)
  | 4 => (0, 0, 0, 5, 0)
  | 5 => (6, 0, 0, 7, 32)
  | 7 => (43, 32, 0, 10, 0)
  | 10 => (0, 1, 0, 11, 0)
  | 11 => (6, 0, 0, 12, 1)
  | 12 => (42, 32, 0, 15, 0)
  | 15 => (0, 1, 0, 16, 0)
  | 16 => (0, 2, 0, 17, 0)
  | 17 => (44, 32, 0, 20, 0)
  | 20 => (0, 1, 0, 21, 0)
  | 21 => (6, 0, 0, 23, 32)
  | 23 => (0, 0, 0, 24, 0)
  | 24 => (9, 0, 0, 25, 0)
  | 25 => (44, 32, 0, 28, 0)
  | 28 => (6, 0, 0, 29, 1)
  | 29 => (33, 33, 0, 32, 0)
  | 32 => (6, 0, 0, 33, 0)
  | 33 => (58, 0, 0, 34, 0)
  | _ => (99, 0, 0, 0, 0)
def tX8_isField (pc : Nat) : zI := if pc < 34 then tmX8_isField pc else (99, 0, 0, 0, 0)
theorem tkX8_isField : z_tab RX8 wsX8_isField 3 (some .boolean) cX8_isField 34 tX8_isField := z_tab_of (tm := tmX8_isField) (by decide +kernel)
theorem sX8_isField_0 (lv : zL) (st : List Value) (w : zW) (nx K : Nat → zL → List Value → zW → Prop) (Rt : Option Value → zW → Prop) : z_st1 (tX8_isField 0) 0 lv st w nx K Rt = (z_li lv 0 (fun x => nx 1 lv (.int x :: st) w)) := id rfl
theorem sX8_isField_1 (lv : zL) (st : List Value) (w : zW) (nx K : Nat → zL → List Value → zW → Prop) (Rt : Option Value → zW → Prop) : z_st1 (tX8_isField 1) 1 lv st w nx K Rt = (z_1i st (fun x r => (x < 0 → nx 32 lv r w) ∧ (¬ x < 0 → nx 4 lv r w))) := id rfl
theorem sX8_isField_4 (lv : zL) (st : List Value) (w : zW) (nx K : Nat → zL → List Value → zW → Prop) (Rt : Option Value → zW → Prop) : z_st1 (tX8_isField 4) 4 lv st w nx K Rt = (z_li lv 0 (fun x => nx 5 lv (.int x :: st) w)) := id rfl
theorem sX8_isField_5 (lv : zL) (st : List Value) (w : zW) (nx K : Nat → zL → List Value → zW → Prop) (Rt : Option Value → zW → Prop) : z_st1 (tX8_isField 5) 5 lv st w nx K Rt = (nx 7 lv (.int (32 : Int32) :: st) w) := id rfl
theorem sX8_isField_7 (lv : zL) (st : List Value) (w : zW) (nx K : Nat → zL → List Value → zW → Prop) (Rt : Option Value → zW → Prop) : z_st1 (tX8_isField 7) 7 lv st w nx K Rt = (z_2i st (fun x y r => (y ≤ x → nx 32 lv r w) ∧ (¬ y ≤ x → nx 10 lv r w))) := id rfl
theorem sX8_isField_10 (lv : zL) (st : List Value) (w : zW) (nx K : Nat → zL → List Value → zW → Prop) (Rt : Option Value → zW → Prop) : z_st1 (tX8_isField 10) 10 lv st w nx K Rt = (z_li lv 1 (fun x => nx 11 lv (.int x :: st) w)) := id rfl
theorem sX8_isField_11 (lv : zL) (st : List Value) (w : zW) (nx K : Nat → zL → List Value → zW → Prop) (Rt : Option Value → zW → Prop) : z_st1 (tX8_isField 11) 11 lv st w nx K Rt = (nx 12 lv (.int (1 : Int32) :: st) w) := id rfl
theorem sX8_isField_12 (lv : zL) (st : List Value) (w : zW) (nx K : Nat → zL → List Value → zW → Prop) (Rt : Option Value → zW → Prop) : z_st1 (tX8_isField 12) 12 lv st w nx K Rt = (z_2i st (fun x y r => (x < y → nx 32 lv r w) ∧ (¬ x < y → nx 15 lv r w))) := id rfl
theorem sX8_isField_15 (lv : zL) (st : List Value) (w : zW) (nx K : Nat → zL → List Value → zW → Prop) (Rt : Option Value → zW → Prop) : z_st1 (tX8_isField 15) 15 lv st w nx K Rt = (z_li lv 1 (fun x => nx 16 lv (.int x :: st) w)) := id rfl
theorem sX8_isField_16 (lv : zL) (st : List Value) (w : zW) (nx K : Nat → zL → List Value → zW → Prop) (Rt : Option Value → zW → Prop) : z_st1 (tX8_isField 16) 16 lv st w nx K Rt = (z_li lv 2 (fun x => nx 17 lv (.int x :: st) w)) := id rfl
theorem sX8_isField_17 (lv : zL) (st : List Value) (w : zW) (nx K : Nat → zL → List Value → zW → Prop) (Rt : Option Value → zW → Prop) : z_st1 (tX8_isField 17) 17 lv st w nx K Rt = (z_2i st (fun x y r => (y < x → nx 32 lv r w) ∧ (¬ y < x → nx 20 lv r w))) := id rfl
theorem sX8_isField_20 (lv : zL) (st : List Value) (w : zW) (nx K : Nat → zL → List Value → zW → Prop) (Rt : Option Value → zW → Prop) : z_st1 (tX8_isField 20) 20 lv st w nx K Rt = (z_li lv 1 (fun x => nx 21 lv (.int x :: st) w)) := id rfl
theorem sX8_isField_21 (lv : zL) (st : List Value) (w : zW) (nx K : Nat → zL → List Value → zW → Prop) (Rt : Option Value → zW → Prop) : z_st1 (tX8_isField 21) 21 lv st w nx K Rt = (nx 23 lv (.int (32 : Int32) :: st) w) := id rfl
theorem sX8_isField_23 (lv : zL) (st : List Value) (w : zW) (nx K : Nat → zL → List Value → zW → Prop) (Rt : Option Value → zW → Prop) : z_st1 (tX8_isField 23) 23 lv st w nx K Rt = (z_li lv 0 (fun x => nx 24 lv (.int x :: st) w)) := id rfl
theorem sX8_isField_24 (lv : zL) (st : List Value) (w : zW) (nx K : Nat → zL → List Value → zW → Prop) (Rt : Option Value → zW → Prop) : z_st1 (tX8_isField 24) 24 lv st w nx K Rt = (z_2i st (fun x y r => nx 25 lv (.int (x - y) :: r) w)) := id rfl
theorem sX8_isField_25 (lv : zL) (st : List Value) (w : zW) (nx K : Nat → zL → List Value → zW → Prop) (Rt : Option Value → zW → Prop) : z_st1 (tX8_isField 25) 25 lv st w nx K Rt = (z_2i st (fun x y r => (y < x → nx 32 lv r w) ∧ (¬ y < x → nx 28 lv r w))) := id rfl
theorem sX8_isField_28 (lv : zL) (st : List Value) (w : zW) (nx K : Nat → zL → List Value → zW → Prop) (Rt : Option Value → zW → Prop) : z_st1 (tX8_isField 28) 28 lv st w nx K Rt = (nx 29 lv (.int (1 : Int32) :: st) w) := id rfl
theorem sX8_isField_29 (lv : zL) (st : List Value) (w : zW) (nx K : Nat → zL → List Value → zW → Prop) (Rt : Option Value → zW → Prop) : z_st1 (tX8_isField 29) 29 lv st w nx K Rt = (nx 33 lv st w) := id rfl
theorem sX8_isField_32 (lv : zL) (st : List Value) (w : zW) (nx K : Nat → zL → List Value → zW → Prop) (Rt : Option Value → zW → Prop) : z_st1 (tX8_isField 32) 32 lv st w nx K Rt = (nx 33 lv (.int (0 : Int32) :: st) w) := id rfl
theorem sX8_isField_33 (lv : zL) (st : List Value) (w : zW) (nx K : Nat → zL → List Value → zW → Prop) (Rt : Option Value → zW → Prop) : z_st1 (tX8_isField 33) 33 lv st w nx K Rt = (z_e1 st (fun x => (x = 0 ∨ x = 1) ∧ Rt (some (.int x)) w)) := id rfl

def tmX8_copyInputs (pc : Nat) : zI := match pc with
  | 0 => (1, 0, 0, 1, 0)
  | 1 => (46, 9, 1, 4, 0)
  | 7 => (1, 0, 0, 8, 0)
  | 8 => (46, 9, 3, 11, 0)
  | 14 => (6, 0, 0, 15, 0)
  | 15 => (3, 1, 0, 16, 0)
  | 16 => (0, 1, 0, 17, 0)
  | 17 => (6, 0, 0, 19, 8)
  | 19 => (43, 84, 0, 22, 0)
  | 22 => (1, 0, 0, 23, 0)
  | 23 => (46, 9, 3, 26, 0)
  | 29 => (6, 0, 0, 30, 0)
  | 30 => (3, 2, 0, 31, 0)
  | 31 => (0, 2, 0, 32, 0)
  | 32 => (1, 0, 0, 33, 0)
  | 33 => (46, 9, 8, 36, 0)
  | 36 => (0, 1, 0, 37, 0)
  | 40 => (43, 78, 0, 43, 0)
  | 43 => (1, 0, 0, 44, 0)
  | 44 => (46, 9, 3, 47, 0)
  | 47 => (1, 0, 0, 48, 0)
  | 48 => (46, 9, 1, 51, 0)
  | 51 => (1, 0, 0, 52, 0)
  | 52 => (46, 9, 0, 55, 0)
  | 55 => (1, 0, 0, 56, 0)
  | 56 => (46, 9, 8, 59, 0)
  | 59 => (0, 1, 0, 60, 0)
  | 60 => (0, 2, 0, 61, 0)
  | 64 => (6, 0, 0, 65, 1)
  | 65 => (9, 0, 0, 66, 0)
  | 72 => (7, 2, 0, 75, 1)
  | 75 => (33, 31, 0, 78, 0)
  | 78 => (7, 1, 0, 81, 1)
  | 81 => (33, 16, 0, 84, 0)
  | 84 => (1, 0, 0, 85, 0)
  | 85 => (46, 9, 3, 88, 0)
  | 91 => (55, 0, 0, 92, 0)
  | _ => (99, 0, 0, 0, 0)
def tX8_copyInputs (pc : Nat) : zI := if pc < 92 then tmX8_copyInputs pc else (99, 0, 0, 0, 0)
theorem tkX8_copyInputs : z_tab RX8 wsX8_copyInputs 3 none cX8_copyInputs 92 tX8_copyInputs := z_tab_of (tm := tmX8_copyInputs) (by decide +kernel)
theorem sX8_copyInputs_0 (lv : zL) (st : List Value) (w : zW) (nx K : Nat → zL → List Value → zW → Prop) (Rt : Option Value → zW → Prop) : z_st1 (tX8_copyInputs 0) 0 lv st w nx K Rt = (z_la lv 0 (fun x => nx 1 lv (.ref x :: st) w)) := id rfl
theorem sX8_copyInputs_1 (lv : zL) (st : List Value) (w : zW) (nx K : Nat → zL → List Value → zW → Prop) (Rt : Option Value → zW → Prop) : z_st1 (tX8_copyInputs 1) 1 lv st w nx K Rt = (z_1a st (fun x r => z_ob w x 9 (fun fs => z_fl fs 1 (fun u => nx 4 lv (u :: r) w)))) := id rfl
theorem sX8_copyInputs_7 (lv : zL) (st : List Value) (w : zW) (nx K : Nat → zL → List Value → zW → Prop) (Rt : Option Value → zW → Prop) : z_st1 (tX8_copyInputs 7) 7 lv st w nx K Rt = (z_la lv 0 (fun x => nx 8 lv (.ref x :: st) w)) := id rfl
theorem sX8_copyInputs_8 (lv : zL) (st : List Value) (w : zW) (nx K : Nat → zL → List Value → zW → Prop) (Rt : Option Value → zW → Prop) : z_st1 (tX8_copyInputs 8) 8 lv st w nx K Rt = (z_1a st (fun x r => z_ob w x 9 (fun fs => z_fl fs 3 (fun u => nx 11 lv (u :: r) w)))) := id rfl
theorem sX8_copyInputs_14 (lv : zL) (st : List Value) (w : zW) (nx K : Nat → zL → List Value → zW → Prop) (Rt : Option Value → zW → Prop) : z_st1 (tX8_copyInputs 14) 14 lv st w nx K Rt = (nx 15 lv (.int (0 : Int32) :: st) w) := id rfl
theorem sX8_copyInputs_15 (lv : zL) (st : List Value) (w : zW) (nx K : Nat → zL → List Value → zW → Prop) (Rt : Option Value → zW → Prop) : z_st1 (tX8_copyInputs 15) 15 lv st w nx K Rt = (z_1i st (fun x r => z_ok1 lv 1 = true ∧ nx 16 (lv.set 1 (some (.int x))) r w)) := id rfl
theorem sX8_copyInputs_16 (lv : zL) (st : List Value) (w : zW) (nx K : Nat → zL → List Value → zW → Prop) (Rt : Option Value → zW → Prop) : z_st1 (tX8_copyInputs 16) 16 lv st w nx K Rt = (z_li lv 1 (fun x => nx 17 lv (.int x :: st) w)) := id rfl
theorem sX8_copyInputs_17 (lv : zL) (st : List Value) (w : zW) (nx K : Nat → zL → List Value → zW → Prop) (Rt : Option Value → zW → Prop) : z_st1 (tX8_copyInputs 17) 17 lv st w nx K Rt = (nx 19 lv (.int (8 : Int32) :: st) w) := id rfl
theorem sX8_copyInputs_19 (lv : zL) (st : List Value) (w : zW) (nx K : Nat → zL → List Value → zW → Prop) (Rt : Option Value → zW → Prop) : z_st1 (tX8_copyInputs 19) 19 lv st w nx K Rt = (z_2i st (fun x y r => (y ≤ x → nx 84 lv r w) ∧ (¬ y ≤ x → nx 22 lv r w))) := id rfl
theorem sX8_copyInputs_22 (lv : zL) (st : List Value) (w : zW) (nx K : Nat → zL → List Value → zW → Prop) (Rt : Option Value → zW → Prop) : z_st1 (tX8_copyInputs 22) 22 lv st w nx K Rt = (z_la lv 0 (fun x => nx 23 lv (.ref x :: st) w)) := id rfl
theorem sX8_copyInputs_23 (lv : zL) (st : List Value) (w : zW) (nx K : Nat → zL → List Value → zW → Prop) (Rt : Option Value → zW → Prop) : z_st1 (tX8_copyInputs 23) 23 lv st w nx K Rt = (z_1a st (fun x r => z_ob w x 9 (fun fs => z_fl fs 3 (fun u => nx 26 lv (u :: r) w)))) := id rfl
theorem sX8_copyInputs_29 (lv : zL) (st : List Value) (w : zW) (nx K : Nat → zL → List Value → zW → Prop) (Rt : Option Value → zW → Prop) : z_st1 (tX8_copyInputs 29) 29 lv st w nx K Rt = (nx 30 lv (.int (0 : Int32) :: st) w) := id rfl
theorem sX8_copyInputs_30 (lv : zL) (st : List Value) (w : zW) (nx K : Nat → zL → List Value → zW → Prop) (Rt : Option Value → zW → Prop) : z_st1 (tX8_copyInputs 30) 30 lv st w nx K Rt = (z_1i st (fun x r => z_ok1 lv 2 = true ∧ nx 31 (lv.set 2 (some (.int x))) r w)) := id rfl
theorem sX8_copyInputs_31 (lv : zL) (st : List Value) (w : zW) (nx K : Nat → zL → List Value → zW → Prop) (Rt : Option Value → zW → Prop) : z_st1 (tX8_copyInputs 31) 31 lv st w nx K Rt = (z_li lv 2 (fun x => nx 32 lv (.int x :: st) w)) := id rfl
theorem sX8_copyInputs_32 (lv : zL) (st : List Value) (w : zW) (nx K : Nat → zL → List Value → zW → Prop) (Rt : Option Value → zW → Prop) : z_st1 (tX8_copyInputs 32) 32 lv st w nx K Rt = (z_la lv 0 (fun x => nx 33 lv (.ref x :: st) w)) := id rfl
theorem sX8_copyInputs_33 (lv : zL) (st : List Value) (w : zW) (nx K : Nat → zL → List Value → zW → Prop) (Rt : Option Value → zW → Prop) : z_st1 (tX8_copyInputs 33) 33 lv st w nx K Rt = (z_1a st (fun x r => z_ob w x 9 (fun fs => z_fl fs 8 (fun u => nx 36 lv (u :: r) w)))) := id rfl
theorem sX8_copyInputs_36 (lv : zL) (st : List Value) (w : zW) (nx K : Nat → zL → List Value → zW → Prop) (Rt : Option Value → zW → Prop) : z_st1 (tX8_copyInputs 36) 36 lv st w nx K Rt = (z_li lv 1 (fun x => nx 37 lv (.int x :: st) w)) := id rfl
theorem sX8_copyInputs_40 (lv : zL) (st : List Value) (w : zW) (nx K : Nat → zL → List Value → zW → Prop) (Rt : Option Value → zW → Prop) : z_st1 (tX8_copyInputs 40) 40 lv st w nx K Rt = (z_2i st (fun x y r => (y ≤ x → nx 78 lv r w) ∧ (¬ y ≤ x → nx 43 lv r w))) := id rfl
theorem sX8_copyInputs_43 (lv : zL) (st : List Value) (w : zW) (nx K : Nat → zL → List Value → zW → Prop) (Rt : Option Value → zW → Prop) : z_st1 (tX8_copyInputs 43) 43 lv st w nx K Rt = (z_la lv 0 (fun x => nx 44 lv (.ref x :: st) w)) := id rfl
theorem sX8_copyInputs_44 (lv : zL) (st : List Value) (w : zW) (nx K : Nat → zL → List Value → zW → Prop) (Rt : Option Value → zW → Prop) : z_st1 (tX8_copyInputs 44) 44 lv st w nx K Rt = (z_1a st (fun x r => z_ob w x 9 (fun fs => z_fl fs 3 (fun u => nx 47 lv (u :: r) w)))) := id rfl
theorem sX8_copyInputs_47 (lv : zL) (st : List Value) (w : zW) (nx K : Nat → zL → List Value → zW → Prop) (Rt : Option Value → zW → Prop) : z_st1 (tX8_copyInputs 47) 47 lv st w nx K Rt = (z_la lv 0 (fun x => nx 48 lv (.ref x :: st) w)) := id rfl
theorem sX8_copyInputs_48 (lv : zL) (st : List Value) (w : zW) (nx K : Nat → zL → List Value → zW → Prop) (Rt : Option Value → zW → Prop) : z_st1 (tX8_copyInputs 48) 48 lv st w nx K Rt = (z_1a st (fun x r => z_ob w x 9 (fun fs => z_fl fs 1 (fun u => nx 51 lv (u :: r) w)))) := id rfl
theorem sX8_copyInputs_51 (lv : zL) (st : List Value) (w : zW) (nx K : Nat → zL → List Value → zW → Prop) (Rt : Option Value → zW → Prop) : z_st1 (tX8_copyInputs 51) 51 lv st w nx K Rt = (z_la lv 0 (fun x => nx 52 lv (.ref x :: st) w)) := id rfl
theorem sX8_copyInputs_52 (lv : zL) (st : List Value) (w : zW) (nx K : Nat → zL → List Value → zW → Prop) (Rt : Option Value → zW → Prop) : z_st1 (tX8_copyInputs 52) 52 lv st w nx K Rt = (z_1a st (fun x r => z_ob w x 9 (fun fs => z_fl fs 0 (fun u => nx 55 lv (u :: r) w)))) := id rfl
theorem sX8_copyInputs_55 (lv : zL) (st : List Value) (w : zW) (nx K : Nat → zL → List Value → zW → Prop) (Rt : Option Value → zW → Prop) : z_st1 (tX8_copyInputs 55) 55 lv st w nx K Rt = (z_la lv 0 (fun x => nx 56 lv (.ref x :: st) w)) := id rfl
theorem sX8_copyInputs_56 (lv : zL) (st : List Value) (w : zW) (nx K : Nat → zL → List Value → zW → Prop) (Rt : Option Value → zW → Prop) : z_st1 (tX8_copyInputs 56) 56 lv st w nx K Rt = (z_1a st (fun x r => z_ob w x 9 (fun fs => z_fl fs 8 (fun u => nx 59 lv (u :: r) w)))) := id rfl
theorem sX8_copyInputs_59 (lv : zL) (st : List Value) (w : zW) (nx K : Nat → zL → List Value → zW → Prop) (Rt : Option Value → zW → Prop) : z_st1 (tX8_copyInputs 59) 59 lv st w nx K Rt = (z_li lv 1 (fun x => nx 60 lv (.int x :: st) w)) := id rfl
theorem sX8_copyInputs_60 (lv : zL) (st : List Value) (w : zW) (nx K : Nat → zL → List Value → zW → Prop) (Rt : Option Value → zW → Prop) : z_st1 (tX8_copyInputs 60) 60 lv st w nx K Rt = (z_li lv 2 (fun x => nx 61 lv (.int x :: st) w)) := id rfl
theorem sX8_copyInputs_64 (lv : zL) (st : List Value) (w : zW) (nx K : Nat → zL → List Value → zW → Prop) (Rt : Option Value → zW → Prop) : z_st1 (tX8_copyInputs 64) 64 lv st w nx K Rt = (nx 65 lv (.int (1 : Int32) :: st) w) := id rfl
theorem sX8_copyInputs_65 (lv : zL) (st : List Value) (w : zW) (nx K : Nat → zL → List Value → zW → Prop) (Rt : Option Value → zW → Prop) : z_st1 (tX8_copyInputs 65) 65 lv st w nx K Rt = (z_2i st (fun x y r => nx 66 lv (.int (x - y) :: r) w)) := id rfl
theorem sX8_copyInputs_72 (lv : zL) (st : List Value) (w : zW) (nx K : Nat → zL → List Value → zW → Prop) (Rt : Option Value → zW → Prop) : z_st1 (tX8_copyInputs 72) 72 lv st w nx K Rt = (z_li lv 2 (fun x => z_ok1 lv 2 = true ∧ nx 75 (lv.set 2 (some (.int (x + (1 : Int32))))) st w)) := id rfl
theorem sX8_copyInputs_75 (lv : zL) (st : List Value) (w : zW) (nx K : Nat → zL → List Value → zW → Prop) (Rt : Option Value → zW → Prop) : z_st1 (tX8_copyInputs 75) 75 lv st w nx K Rt = (nx 31 lv st w) := id rfl
theorem sX8_copyInputs_78 (lv : zL) (st : List Value) (w : zW) (nx K : Nat → zL → List Value → zW → Prop) (Rt : Option Value → zW → Prop) : z_st1 (tX8_copyInputs 78) 78 lv st w nx K Rt = (z_li lv 1 (fun x => z_ok1 lv 1 = true ∧ nx 81 (lv.set 1 (some (.int (x + (1 : Int32))))) st w)) := id rfl
theorem sX8_copyInputs_81 (lv : zL) (st : List Value) (w : zW) (nx K : Nat → zL → List Value → zW → Prop) (Rt : Option Value → zW → Prop) : z_st1 (tX8_copyInputs 81) 81 lv st w nx K Rt = (nx 16 lv st w) := id rfl
theorem sX8_copyInputs_84 (lv : zL) (st : List Value) (w : zW) (nx K : Nat → zL → List Value → zW → Prop) (Rt : Option Value → zW → Prop) : z_st1 (tX8_copyInputs 84) 84 lv st w nx K Rt = (z_la lv 0 (fun x => nx 85 lv (.ref x :: st) w)) := id rfl
theorem sX8_copyInputs_85 (lv : zL) (st : List Value) (w : zW) (nx K : Nat → zL → List Value → zW → Prop) (Rt : Option Value → zW → Prop) : z_st1 (tX8_copyInputs 85) 85 lv st w nx K Rt = (z_1a st (fun x r => z_ob w x 9 (fun fs => z_fl fs 3 (fun u => nx 88 lv (u :: r) w)))) := id rfl
theorem sX8_copyInputs_91 (lv : zL) (st : List Value) (w : zW) (nx K : Nat → zL → List Value → zW → Prop) (Rt : Option Value → zW → Prop) : z_st1 (tX8_copyInputs 91) 91 lv st w nx K Rt = (z_e0 st (Rt none w)) := id rfl
theorem sX8_copyInputs_4 (lv : zL) (st : List Value) (w : zW) (nx K : Nat → zL → List Value → zW → Prop) (Rt : Option Value → zW → Prop) : z_st1 (tX8_copyInputs 4) 4 lv st w nx K Rt = K 4 lv st w := id rfl
theorem sX8_copyInputs_11 (lv : zL) (st : List Value) (w : zW) (nx K : Nat → zL → List Value → zW → Prop) (Rt : Option Value → zW → Prop) : z_st1 (tX8_copyInputs 11) 11 lv st w nx K Rt = K 11 lv st w := id rfl
theorem sX8_copyInputs_26 (lv : zL) (st : List Value) (w : zW) (nx K : Nat → zL → List Value → zW → Prop) (Rt : Option Value → zW → Prop) : z_st1 (tX8_copyInputs 26) 26 lv st w nx K Rt = K 26 lv st w := id rfl
theorem sX8_copyInputs_37 (lv : zL) (st : List Value) (w : zW) (nx K : Nat → zL → List Value → zW → Prop) (Rt : Option Value → zW → Prop) : z_st1 (tX8_copyInputs 37) 37 lv st w nx K Rt = K 37 lv st w := id rfl
theorem sX8_copyInputs_61 (lv : zL) (st : List Value) (w : zW) (nx K : Nat → zL → List Value → zW → Prop) (Rt : Option Value → zW → Prop) : z_st1 (tX8_copyInputs 61) 61 lv st w nx K Rt = K 61 lv st w := id rfl
theorem sX8_copyInputs_66 (lv : zL) (st : List Value) (w : zW) (nx K : Nat → zL → List Value → zW → Prop) (Rt : Option Value → zW → Prop) : z_st1 (tX8_copyInputs 66) 66 lv st w nx K Rt = K 66 lv st w := id rfl
theorem sX8_copyInputs_69 (lv : zL) (st : List Value) (w : zW) (nx K : Nat → zL → List Value → zW → Prop) (Rt : Option Value → zW → Prop) : z_st1 (tX8_copyInputs 69) 69 lv st w nx K Rt = K 69 lv st w := id rfl
theorem sX8_copyInputs_88 (lv : zL) (st : List Value) (w : zW) (nx K : Nat → zL → List Value → zW → Prop) (Rt : Option Value → zW → Prop) : z_st1 (tX8_copyInputs 88) 88 lv st w nx K Rt = K 88 lv st w := id rfl
theorem dX8_copyInputs_4 : decode cX8_copyInputs 4 = .ok (.invokevirtual 229, 3) := by decide +kernel
theorem dX8_copyInputs_11 : decode cX8_copyInputs 11 = .ok (.invokevirtual 230, 3) := by decide +kernel
theorem dX8_copyInputs_26 : decode cX8_copyInputs 26 = .ok (.invokevirtual 261, 3) := by decide +kernel
theorem dX8_copyInputs_37 : decode cX8_copyInputs 37 = .ok (.invokevirtual 264, 3) := by decide +kernel
theorem dX8_copyInputs_61 : decode cX8_copyInputs 61 = .ok (.invokevirtual 266, 3) := by decide +kernel
theorem dX8_copyInputs_66 : decode cX8_copyInputs 66 = .ok (.invokevirtual 238, 3) := by decide +kernel
theorem dX8_copyInputs_69 : decode cX8_copyInputs 69 = .ok (.invokevirtual 248, 3) := by decide +kernel
theorem dX8_copyInputs_88 : decode cX8_copyInputs 88 = .ok (.invokevirtual 268, 3) := by decide +kernel

def tmX8_beginOutput (pc : Nat) : zI := match pc with
  | 0 => (1, 0, 0, 1, 0)
  | 1 => (6, 0, 0, 2, 2)
  | 2 => (47, 9, 13, 5, 0)
  | 5 => (1, 0, 0, 6, 0)
  | 6 => (6, 0, 0, 7, 0)
  | 7 => (47, 9, 14, 10, 0)
  | 10 => (1, 0, 0, 11, 0)
  | 11 => (6, 0, 0, 12, (-1))
  | 12 => (47, 9, 15, 15, 0)
  | 15 => (1, 0, 0, 16, 0)
  | 16 => (46, 9, 3, 19, 0)
  | 22 => (53, 0, 0, 23, 0)
  | _ => (99, 0, 0, 0, 0)
def tX8_beginOutput (pc : Nat) : zI := if pc < 23 then tmX8_beginOutput pc else (99, 0, 0, 0, 0)
theorem tkX8_beginOutput : z_tab RX8 wsX8_beginOutput 1 (some .int) cX8_beginOutput 23 tX8_beginOutput := z_tab_of (tm := tmX8_beginOutput) (by decide +kernel)
theorem sX8_beginOutput_0 (lv : zL) (st : List Value) (w : zW) (nx K : Nat → zL → List Value → zW → Prop) (Rt : Option Value → zW → Prop) : z_st1 (tX8_beginOutput 0) 0 lv st w nx K Rt = (z_la lv 0 (fun x => nx 1 lv (.ref x :: st) w)) := id rfl
theorem sX8_beginOutput_1 (lv : zL) (st : List Value) (w : zW) (nx K : Nat → zL → List Value → zW → Prop) (Rt : Option Value → zW → Prop) : z_st1 (tX8_beginOutput 1) 1 lv st w nx K Rt = (nx 2 lv (.int (2 : Int32) :: st) w) := id rfl
theorem sX8_beginOutput_2 (lv : zL) (st : List Value) (w : zW) (nx K : Nat → zL → List Value → zW → Prop) (Rt : Option Value → zW → Prop) : z_st1 (tX8_beginOutput 2) 2 lv st w nx K Rt = (z_ia st (fun x i r => z_ob w x 9 (fun fs => 13 < fs.length ∧ nx 5 lv r (z_up w x (.inr (9, fs.set 13 (.int i))))))) := id rfl
theorem sX8_beginOutput_5 (lv : zL) (st : List Value) (w : zW) (nx K : Nat → zL → List Value → zW → Prop) (Rt : Option Value → zW → Prop) : z_st1 (tX8_beginOutput 5) 5 lv st w nx K Rt = (z_la lv 0 (fun x => nx 6 lv (.ref x :: st) w)) := id rfl
theorem sX8_beginOutput_6 (lv : zL) (st : List Value) (w : zW) (nx K : Nat → zL → List Value → zW → Prop) (Rt : Option Value → zW → Prop) : z_st1 (tX8_beginOutput 6) 6 lv st w nx K Rt = (nx 7 lv (.int (0 : Int32) :: st) w) := id rfl
theorem sX8_beginOutput_7 (lv : zL) (st : List Value) (w : zW) (nx K : Nat → zL → List Value → zW → Prop) (Rt : Option Value → zW → Prop) : z_st1 (tX8_beginOutput 7) 7 lv st w nx K Rt = (z_ia st (fun x i r => z_ob w x 9 (fun fs => 14 < fs.length ∧ nx 10 lv r (z_up w x (.inr (9, fs.set 14 (.int i))))))) := id rfl
theorem sX8_beginOutput_10 (lv : zL) (st : List Value) (w : zW) (nx K : Nat → zL → List Value → zW → Prop) (Rt : Option Value → zW → Prop) : z_st1 (tX8_beginOutput 10) 10 lv st w nx K Rt = (z_la lv 0 (fun x => nx 11 lv (.ref x :: st) w)) := id rfl
theorem sX8_beginOutput_11 (lv : zL) (st : List Value) (w : zW) (nx K : Nat → zL → List Value → zW → Prop) (Rt : Option Value → zW → Prop) : z_st1 (tX8_beginOutput 11) 11 lv st w nx K Rt = (nx 12 lv (.int (-1 : Int32) :: st) w) := id rfl
theorem sX8_beginOutput_12 (lv : zL) (st : List Value) (w : zW) (nx K : Nat → zL → List Value → zW → Prop) (Rt : Option Value → zW → Prop) : z_st1 (tX8_beginOutput 12) 12 lv st w nx K Rt = (z_ia st (fun x i r => z_ob w x 9 (fun fs => 15 < fs.length ∧ nx 15 lv r (z_up w x (.inr (9, fs.set 15 (.int i))))))) := id rfl
theorem sX8_beginOutput_15 (lv : zL) (st : List Value) (w : zW) (nx K : Nat → zL → List Value → zW → Prop) (Rt : Option Value → zW → Prop) : z_st1 (tX8_beginOutput 15) 15 lv st w nx K Rt = (z_la lv 0 (fun x => nx 16 lv (.ref x :: st) w)) := id rfl
theorem sX8_beginOutput_16 (lv : zL) (st : List Value) (w : zW) (nx K : Nat → zL → List Value → zW → Prop) (Rt : Option Value → zW → Prop) : z_st1 (tX8_beginOutput 16) 16 lv st w nx K Rt = (z_1a st (fun x r => z_ob w x 9 (fun fs => z_fl fs 3 (fun u => nx 19 lv (u :: r) w)))) := id rfl
theorem sX8_beginOutput_22 (lv : zL) (st : List Value) (w : zW) (nx K : Nat → zL → List Value → zW → Prop) (Rt : Option Value → zW → Prop) : z_st1 (tX8_beginOutput 22) 22 lv st w nx K Rt = (z_e1 st (fun x => Rt (some (.int x)) w)) := id rfl
theorem sX8_beginOutput_19 (lv : zL) (st : List Value) (w : zW) (nx K : Nat → zL → List Value → zW → Prop) (Rt : Option Value → zW → Prop) : z_st1 (tX8_beginOutput 19) 19 lv st w nx K Rt = K 19 lv st w := id rfl
theorem dX8_beginOutput_19 : decode cX8_beginOutput 19 = .ok (.invokevirtual 188, 3) := by decide +kernel

def tmX9_init (pc : Nat) : zI := match pc with
  | 0 => (1, 0, 0, 1, 0)
  | 4 => (1, 0, 0, 5, 0)
  | 5 => (6, 0, 0, 7, 8)
  | 7 => (47, 10, 1, 10, 0)
  | 10 => (1, 0, 0, 11, 0)
  | 11 => (6, 0, 0, 12, 2)
  | 12 => (47, 10, 2, 15, 0)
  | 15 => (1, 0, 0, 16, 0)
  | 16 => (6, 0, 0, 18, 8)
  | 23 => (1, 0, 0, 24, 0)
  | 24 => (6, 0, 0, 26, 8)
  | 31 => (1, 0, 0, 32, 0)
  | 32 => (6, 0, 0, 34, 8)
  | 39 => (1, 0, 0, 40, 0)
  | 40 => (6, 0, 0, 42, 8)
  | 47 => (1, 0, 0, 48, 0)
  | 48 => (6, 0, 0, 51, 12800)
  | 56 => (1, 0, 0, 57, 0)
  | 57 => (6, 0, 0, 60, 400)
  | 65 => (1, 0, 0, 66, 0)
  | 66 => (6, 0, 0, 67, 4)
  | 67 => (47, 10, 13, 70, 0)
  | 70 => (1, 0, 0, 71, 0)
  | 71 => (6, 0, 0, 72, 4)
  | 77 => (1, 0, 0, 78, 0)
  | 78 => (6, 0, 0, 79, 4)
  | 84 => (1, 0, 0, 85, 0)
  | 85 => (6, 0, 0, 86, 2)
  | 91 => (1, 0, 0, 92, 0)
  | 92 => (6, 0, 0, 93, 2)
  | 98 => (1, 0, 0, 99, 0)
  | 99 => (6, 0, 0, 100, 2)
  | 105 => (1, 0, 0, 106, 0)
  | 106 => (6, 0, 0, 109, 1000)
  | 114 => (1, 0, 0, 115, 0)
  | 115 => (6, 0, 0, 118, 1600)
  | 123 => (1, 0, 0, 124, 0)
  | 124 => (6, 0, 0, 126, 8)
  | 131 => (1, 0, 0, 132, 0)
  | 139 => (1, 0, 0, 140, 0)
  | 140 => (6, 0, 0, 143, 1600)
  | 148 => (1, 0, 0, 149, 0)
  | 149 => (6, 0, 0, 152, 1600)
  | 157 => (1, 0, 0, 158, 0)
  | 158 => (6, 0, 0, 161, 1600)
  | 166 => (1, 0, 0, 167, 0)
  | 167 => (6, 0, 0, 170, 1600)
  | 175 => (1, 0, 0, 176, 0)
  | 176 => (6, 0, 0, 177, (-1))
  | 177 => (47, 10, 33, 180, 0)
  | 180 => (1, 0, 0, 181, 0)
  | 181 => (6, 0, 0, 183, 9)
  | 188 => (55, 0, 0, 189, 0)
  | _ => (99, 0, 0, 0, 0)
def tX9_init (pc : Nat) : zI := if pc < 189 then tmX9_init pc else (99, 0, 0, 0, 0)
theorem tkX9_init : z_tab RX9 wsX9_init 1 none cX9_init 189 tX9_init := z_tab_of (tm := tmX9_init) (by decide +kernel)
theorem sX9_init_0 (lv : zL) (st : List Value) (w : zW) (nx K : Nat → zL → List Value → zW → Prop) (Rt : Option Value → zW → Prop) : z_st1 (tX9_init 0) 0 lv st w nx K Rt = (z_la lv 0 (fun x => nx 1 lv (.ref x :: st) w)) := id rfl
theorem sX9_init_4 (lv : zL) (st : List Value) (w : zW) (nx K : Nat → zL → List Value → zW → Prop) (Rt : Option Value → zW → Prop) : z_st1 (tX9_init 4) 4 lv st w nx K Rt = (z_la lv 0 (fun x => nx 5 lv (.ref x :: st) w)) := id rfl
theorem sX9_init_5 (lv : zL) (st : List Value) (w : zW) (nx K : Nat → zL → List Value → zW → Prop) (Rt : Option Value → zW → Prop) : z_st1 (tX9_init 5) 5 lv st w nx K Rt = (nx 7 lv (.int (8 : Int32) :: st) w) := id rfl
theorem sX9_init_7 (lv : zL) (st : List Value) (w : zW) (nx K : Nat → zL → List Value → zW → Prop) (Rt : Option Value → zW → Prop) : z_st1 (tX9_init 7) 7 lv st w nx K Rt = (z_ia st (fun x i r => z_ob w x 10 (fun fs => 1 < fs.length ∧ nx 10 lv r (z_up w x (.inr (10, fs.set 1 (.int i))))))) := id rfl
theorem sX9_init_10 (lv : zL) (st : List Value) (w : zW) (nx K : Nat → zL → List Value → zW → Prop) (Rt : Option Value → zW → Prop) : z_st1 (tX9_init 10) 10 lv st w nx K Rt = (z_la lv 0 (fun x => nx 11 lv (.ref x :: st) w)) := id rfl
theorem sX9_init_11 (lv : zL) (st : List Value) (w : zW) (nx K : Nat → zL → List Value → zW → Prop) (Rt : Option Value → zW → Prop) : z_st1 (tX9_init 11) 11 lv st w nx K Rt = (nx 12 lv (.int (2 : Int32) :: st) w) := id rfl
theorem sX9_init_12 (lv : zL) (st : List Value) (w : zW) (nx K : Nat → zL → List Value → zW → Prop) (Rt : Option Value → zW → Prop) : z_st1 (tX9_init 12) 12 lv st w nx K Rt = (z_ia st (fun x i r => z_ob w x 10 (fun fs => 2 < fs.length ∧ nx 15 lv r (z_up w x (.inr (10, fs.set 2 (.int i))))))) := id rfl
theorem sX9_init_15 (lv : zL) (st : List Value) (w : zW) (nx K : Nat → zL → List Value → zW → Prop) (Rt : Option Value → zW → Prop) : z_st1 (tX9_init 15) 15 lv st w nx K Rt = (z_la lv 0 (fun x => nx 16 lv (.ref x :: st) w)) := id rfl
theorem sX9_init_16 (lv : zL) (st : List Value) (w : zW) (nx K : Nat → zL → List Value → zW → Prop) (Rt : Option Value → zW → Prop) : z_st1 (tX9_init 16) 16 lv st w nx K Rt = (nx 18 lv (.int (8 : Int32) :: st) w) := id rfl
theorem sX9_init_23 (lv : zL) (st : List Value) (w : zW) (nx K : Nat → zL → List Value → zW → Prop) (Rt : Option Value → zW → Prop) : z_st1 (tX9_init 23) 23 lv st w nx K Rt = (z_la lv 0 (fun x => nx 24 lv (.ref x :: st) w)) := id rfl
theorem sX9_init_24 (lv : zL) (st : List Value) (w : zW) (nx K : Nat → zL → List Value → zW → Prop) (Rt : Option Value → zW → Prop) : z_st1 (tX9_init 24) 24 lv st w nx K Rt = (nx 26 lv (.int (8 : Int32) :: st) w) := id rfl
theorem sX9_init_31 (lv : zL) (st : List Value) (w : zW) (nx K : Nat → zL → List Value → zW → Prop) (Rt : Option Value → zW → Prop) : z_st1 (tX9_init 31) 31 lv st w nx K Rt = (z_la lv 0 (fun x => nx 32 lv (.ref x :: st) w)) := id rfl
theorem sX9_init_32 (lv : zL) (st : List Value) (w : zW) (nx K : Nat → zL → List Value → zW → Prop) (Rt : Option Value → zW → Prop) : z_st1 (tX9_init 32) 32 lv st w nx K Rt = (nx 34 lv (.int (8 : Int32) :: st) w) := id rfl
theorem sX9_init_39 (lv : zL) (st : List Value) (w : zW) (nx K : Nat → zL → List Value → zW → Prop) (Rt : Option Value → zW → Prop) : z_st1 (tX9_init 39) 39 lv st w nx K Rt = (z_la lv 0 (fun x => nx 40 lv (.ref x :: st) w)) := id rfl
theorem sX9_init_40 (lv : zL) (st : List Value) (w : zW) (nx K : Nat → zL → List Value → zW → Prop) (Rt : Option Value → zW → Prop) : z_st1 (tX9_init 40) 40 lv st w nx K Rt = (nx 42 lv (.int (8 : Int32) :: st) w) := id rfl
theorem sX9_init_47 (lv : zL) (st : List Value) (w : zW) (nx K : Nat → zL → List Value → zW → Prop) (Rt : Option Value → zW → Prop) : z_st1 (tX9_init 47) 47 lv st w nx K Rt = (z_la lv 0 (fun x => nx 48 lv (.ref x :: st) w)) := id rfl
theorem sX9_init_48 (lv : zL) (st : List Value) (w : zW) (nx K : Nat → zL → List Value → zW → Prop) (Rt : Option Value → zW → Prop) : z_st1 (tX9_init 48) 48 lv st w nx K Rt = (nx 51 lv (.int (12800 : Int32) :: st) w) := id rfl
theorem sX9_init_56 (lv : zL) (st : List Value) (w : zW) (nx K : Nat → zL → List Value → zW → Prop) (Rt : Option Value → zW → Prop) : z_st1 (tX9_init 56) 56 lv st w nx K Rt = (z_la lv 0 (fun x => nx 57 lv (.ref x :: st) w)) := id rfl
theorem sX9_init_57 (lv : zL) (st : List Value) (w : zW) (nx K : Nat → zL → List Value → zW → Prop) (Rt : Option Value → zW → Prop) : z_st1 (tX9_init 57) 57 lv st w nx K Rt = (nx 60 lv (.int (400 : Int32) :: st) w) := id rfl
theorem sX9_init_65 (lv : zL) (st : List Value) (w : zW) (nx K : Nat → zL → List Value → zW → Prop) (Rt : Option Value → zW → Prop) : z_st1 (tX9_init 65) 65 lv st w nx K Rt = (z_la lv 0 (fun x => nx 66 lv (.ref x :: st) w)) := id rfl
theorem sX9_init_66 (lv : zL) (st : List Value) (w : zW) (nx K : Nat → zL → List Value → zW → Prop) (Rt : Option Value → zW → Prop) : z_st1 (tX9_init 66) 66 lv st w nx K Rt = (nx 67 lv (.int (4 : Int32) :: st) w) := id rfl
theorem sX9_init_67 (lv : zL) (st : List Value) (w : zW) (nx K : Nat → zL → List Value → zW → Prop) (Rt : Option Value → zW → Prop) : z_st1 (tX9_init 67) 67 lv st w nx K Rt = (z_ia st (fun x i r => z_ob w x 10 (fun fs => 13 < fs.length ∧ nx 70 lv r (z_up w x (.inr (10, fs.set 13 (.int i))))))) := id rfl
theorem sX9_init_70 (lv : zL) (st : List Value) (w : zW) (nx K : Nat → zL → List Value → zW → Prop) (Rt : Option Value → zW → Prop) : z_st1 (tX9_init 70) 70 lv st w nx K Rt = (z_la lv 0 (fun x => nx 71 lv (.ref x :: st) w)) := id rfl
theorem sX9_init_71 (lv : zL) (st : List Value) (w : zW) (nx K : Nat → zL → List Value → zW → Prop) (Rt : Option Value → zW → Prop) : z_st1 (tX9_init 71) 71 lv st w nx K Rt = (nx 72 lv (.int (4 : Int32) :: st) w) := id rfl
theorem sX9_init_77 (lv : zL) (st : List Value) (w : zW) (nx K : Nat → zL → List Value → zW → Prop) (Rt : Option Value → zW → Prop) : z_st1 (tX9_init 77) 77 lv st w nx K Rt = (z_la lv 0 (fun x => nx 78 lv (.ref x :: st) w)) := id rfl
theorem sX9_init_78 (lv : zL) (st : List Value) (w : zW) (nx K : Nat → zL → List Value → zW → Prop) (Rt : Option Value → zW → Prop) : z_st1 (tX9_init 78) 78 lv st w nx K Rt = (nx 79 lv (.int (4 : Int32) :: st) w) := id rfl
theorem sX9_init_84 (lv : zL) (st : List Value) (w : zW) (nx K : Nat → zL → List Value → zW → Prop) (Rt : Option Value → zW → Prop) : z_st1 (tX9_init 84) 84 lv st w nx K Rt = (z_la lv 0 (fun x => nx 85 lv (.ref x :: st) w)) := id rfl
theorem sX9_init_85 (lv : zL) (st : List Value) (w : zW) (nx K : Nat → zL → List Value → zW → Prop) (Rt : Option Value → zW → Prop) : z_st1 (tX9_init 85) 85 lv st w nx K Rt = (nx 86 lv (.int (2 : Int32) :: st) w) := id rfl
theorem sX9_init_91 (lv : zL) (st : List Value) (w : zW) (nx K : Nat → zL → List Value → zW → Prop) (Rt : Option Value → zW → Prop) : z_st1 (tX9_init 91) 91 lv st w nx K Rt = (z_la lv 0 (fun x => nx 92 lv (.ref x :: st) w)) := id rfl
theorem sX9_init_92 (lv : zL) (st : List Value) (w : zW) (nx K : Nat → zL → List Value → zW → Prop) (Rt : Option Value → zW → Prop) : z_st1 (tX9_init 92) 92 lv st w nx K Rt = (nx 93 lv (.int (2 : Int32) :: st) w) := id rfl
theorem sX9_init_98 (lv : zL) (st : List Value) (w : zW) (nx K : Nat → zL → List Value → zW → Prop) (Rt : Option Value → zW → Prop) : z_st1 (tX9_init 98) 98 lv st w nx K Rt = (z_la lv 0 (fun x => nx 99 lv (.ref x :: st) w)) := id rfl
theorem sX9_init_99 (lv : zL) (st : List Value) (w : zW) (nx K : Nat → zL → List Value → zW → Prop) (Rt : Option Value → zW → Prop) : z_st1 (tX9_init 99) 99 lv st w nx K Rt = (nx 100 lv (.int (2 : Int32) :: st) w) := id rfl
theorem sX9_init_105 (lv : zL) (st : List Value) (w : zW) (nx K : Nat → zL → List Value → zW → Prop) (Rt : Option Value → zW → Prop) : z_st1 (tX9_init 105) 105 lv st w nx K Rt = (z_la lv 0 (fun x => nx 106 lv (.ref x :: st) w)) := id rfl
theorem sX9_init_106 (lv : zL) (st : List Value) (w : zW) (nx K : Nat → zL → List Value → zW → Prop) (Rt : Option Value → zW → Prop) : z_st1 (tX9_init 106) 106 lv st w nx K Rt = (nx 109 lv (.int (1000 : Int32) :: st) w) := id rfl
theorem sX9_init_114 (lv : zL) (st : List Value) (w : zW) (nx K : Nat → zL → List Value → zW → Prop) (Rt : Option Value → zW → Prop) : z_st1 (tX9_init 114) 114 lv st w nx K Rt = (z_la lv 0 (fun x => nx 115 lv (.ref x :: st) w)) := id rfl
theorem sX9_init_115 (lv : zL) (st : List Value) (w : zW) (nx K : Nat → zL → List Value → zW → Prop) (Rt : Option Value → zW → Prop) : z_st1 (tX9_init 115) 115 lv st w nx K Rt = (nx 118 lv (.int (1600 : Int32) :: st) w) := id rfl
theorem sX9_init_123 (lv : zL) (st : List Value) (w : zW) (nx K : Nat → zL → List Value → zW → Prop) (Rt : Option Value → zW → Prop) : z_st1 (tX9_init 123) 123 lv st w nx K Rt = (z_la lv 0 (fun x => nx 124 lv (.ref x :: st) w)) := id rfl
theorem sX9_init_124 (lv : zL) (st : List Value) (w : zW) (nx K : Nat → zL → List Value → zW → Prop) (Rt : Option Value → zW → Prop) : z_st1 (tX9_init 124) 124 lv st w nx K Rt = (nx 126 lv (.int (8 : Int32) :: st) w) := id rfl
theorem sX9_init_131 (lv : zL) (st : List Value) (w : zW) (nx K : Nat → zL → List Value → zW → Prop) (Rt : Option Value → zW → Prop) : z_st1 (tX9_init 131) 131 lv st w nx K Rt = (z_la lv 0 (fun x => nx 132 lv (.ref x :: st) w)) := id rfl
theorem sX9_init_139 (lv : zL) (st : List Value) (w : zW) (nx K : Nat → zL → List Value → zW → Prop) (Rt : Option Value → zW → Prop) : z_st1 (tX9_init 139) 139 lv st w nx K Rt = (z_la lv 0 (fun x => nx 140 lv (.ref x :: st) w)) := id rfl
theorem sX9_init_140 (lv : zL) (st : List Value) (w : zW) (nx K : Nat → zL → List Value → zW → Prop) (Rt : Option Value → zW → Prop) : z_st1 (tX9_init 140) 140 lv st w nx K Rt = (nx 143 lv (.int (1600 : Int32) :: st) w) := id rfl
theorem sX9_init_148 (lv : zL) (st : List Value) (w : zW) (nx K : Nat → zL → List Value → zW → Prop) (Rt : Option Value → zW → Prop) : z_st1 (tX9_init 148) 148 lv st w nx K Rt = (z_la lv 0 (fun x => nx 149 lv (.ref x :: st) w)) := id rfl
theorem sX9_init_149 (lv : zL) (st : List Value) (w : zW) (nx K : Nat → zL → List Value → zW → Prop) (Rt : Option Value → zW → Prop) : z_st1 (tX9_init 149) 149 lv st w nx K Rt = (nx 152 lv (.int (1600 : Int32) :: st) w) := id rfl
theorem sX9_init_157 (lv : zL) (st : List Value) (w : zW) (nx K : Nat → zL → List Value → zW → Prop) (Rt : Option Value → zW → Prop) : z_st1 (tX9_init 157) 157 lv st w nx K Rt = (z_la lv 0 (fun x => nx 158 lv (.ref x :: st) w)) := id rfl
theorem sX9_init_158 (lv : zL) (st : List Value) (w : zW) (nx K : Nat → zL → List Value → zW → Prop) (Rt : Option Value → zW → Prop) : z_st1 (tX9_init 158) 158 lv st w nx K Rt = (nx 161 lv (.int (1600 : Int32) :: st) w) := id rfl
theorem sX9_init_166 (lv : zL) (st : List Value) (w : zW) (nx K : Nat → zL → List Value → zW → Prop) (Rt : Option Value → zW → Prop) : z_st1 (tX9_init 166) 166 lv st w nx K Rt = (z_la lv 0 (fun x => nx 167 lv (.ref x :: st) w)) := id rfl
theorem sX9_init_167 (lv : zL) (st : List Value) (w : zW) (nx K : Nat → zL → List Value → zW → Prop) (Rt : Option Value → zW → Prop) : z_st1 (tX9_init 167) 167 lv st w nx K Rt = (nx 170 lv (.int (1600 : Int32) :: st) w) := id rfl
theorem sX9_init_175 (lv : zL) (st : List Value) (w : zW) (nx K : Nat → zL → List Value → zW → Prop) (Rt : Option Value → zW → Prop) : z_st1 (tX9_init 175) 175 lv st w nx K Rt = (z_la lv 0 (fun x => nx 176 lv (.ref x :: st) w)) := id rfl
theorem sX9_init_176 (lv : zL) (st : List Value) (w : zW) (nx K : Nat → zL → List Value → zW → Prop) (Rt : Option Value → zW → Prop) : z_st1 (tX9_init 176) 176 lv st w nx K Rt = (nx 177 lv (.int (-1 : Int32) :: st) w) := id rfl
theorem sX9_init_177 (lv : zL) (st : List Value) (w : zW) (nx K : Nat → zL → List Value → zW → Prop) (Rt : Option Value → zW → Prop) : z_st1 (tX9_init 177) 177 lv st w nx K Rt = (z_ia st (fun x i r => z_ob w x 10 (fun fs => 33 < fs.length ∧ nx 180 lv r (z_up w x (.inr (10, fs.set 33 (.int i))))))) := id rfl
theorem sX9_init_180 (lv : zL) (st : List Value) (w : zW) (nx K : Nat → zL → List Value → zW → Prop) (Rt : Option Value → zW → Prop) : z_st1 (tX9_init 180) 180 lv st w nx K Rt = (z_la lv 0 (fun x => nx 181 lv (.ref x :: st) w)) := id rfl
theorem sX9_init_181 (lv : zL) (st : List Value) (w : zW) (nx K : Nat → zL → List Value → zW → Prop) (Rt : Option Value → zW → Prop) : z_st1 (tX9_init 181) 181 lv st w nx K Rt = (nx 183 lv (.int (9 : Int32) :: st) w) := id rfl
theorem sX9_init_188 (lv : zL) (st : List Value) (w : zW) (nx K : Nat → zL → List Value → zW → Prop) (Rt : Option Value → zW → Prop) : z_st1 (tX9_init 188) 188 lv st w nx K Rt = (z_e0 st (Rt none w)) := id rfl
theorem sX9_init_1 (lv : zL) (st : List Value) (w : zW) (nx K : Nat → zL → List Value → zW → Prop) (Rt : Option Value → zW → Prop) : z_st1 (tX9_init 1) 1 lv st w nx K Rt = K 1 lv st w := id rfl
theorem sX9_init_18 (lv : zL) (st : List Value) (w : zW) (nx K : Nat → zL → List Value → zW → Prop) (Rt : Option Value → zW → Prop) : z_st1 (tX9_init 18) 18 lv st w nx K Rt = K 18 lv st w := id rfl
theorem sX9_init_20 (lv : zL) (st : List Value) (w : zW) (nx K : Nat → zL → List Value → zW → Prop) (Rt : Option Value → zW → Prop) : z_st1 (tX9_init 20) 20 lv st w nx K Rt = K 20 lv st w := id rfl
theorem sX9_init_26 (lv : zL) (st : List Value) (w : zW) (nx K : Nat → zL → List Value → zW → Prop) (Rt : Option Value → zW → Prop) : z_st1 (tX9_init 26) 26 lv st w nx K Rt = K 26 lv st w := id rfl
theorem sX9_init_28 (lv : zL) (st : List Value) (w : zW) (nx K : Nat → zL → List Value → zW → Prop) (Rt : Option Value → zW → Prop) : z_st1 (tX9_init 28) 28 lv st w nx K Rt = K 28 lv st w := id rfl
theorem sX9_init_34 (lv : zL) (st : List Value) (w : zW) (nx K : Nat → zL → List Value → zW → Prop) (Rt : Option Value → zW → Prop) : z_st1 (tX9_init 34) 34 lv st w nx K Rt = K 34 lv st w := id rfl
theorem sX9_init_36 (lv : zL) (st : List Value) (w : zW) (nx K : Nat → zL → List Value → zW → Prop) (Rt : Option Value → zW → Prop) : z_st1 (tX9_init 36) 36 lv st w nx K Rt = K 36 lv st w := id rfl
theorem sX9_init_42 (lv : zL) (st : List Value) (w : zW) (nx K : Nat → zL → List Value → zW → Prop) (Rt : Option Value → zW → Prop) : z_st1 (tX9_init 42) 42 lv st w nx K Rt = K 42 lv st w := id rfl
theorem sX9_init_44 (lv : zL) (st : List Value) (w : zW) (nx K : Nat → zL → List Value → zW → Prop) (Rt : Option Value → zW → Prop) : z_st1 (tX9_init 44) 44 lv st w nx K Rt = K 44 lv st w := id rfl
theorem sX9_init_51 (lv : zL) (st : List Value) (w : zW) (nx K : Nat → zL → List Value → zW → Prop) (Rt : Option Value → zW → Prop) : z_st1 (tX9_init 51) 51 lv st w nx K Rt = K 51 lv st w := id rfl
theorem sX9_init_53 (lv : zL) (st : List Value) (w : zW) (nx K : Nat → zL → List Value → zW → Prop) (Rt : Option Value → zW → Prop) : z_st1 (tX9_init 53) 53 lv st w nx K Rt = K 53 lv st w := id rfl
theorem sX9_init_60 (lv : zL) (st : List Value) (w : zW) (nx K : Nat → zL → List Value → zW → Prop) (Rt : Option Value → zW → Prop) : z_st1 (tX9_init 60) 60 lv st w nx K Rt = K 60 lv st w := id rfl
theorem sX9_init_62 (lv : zL) (st : List Value) (w : zW) (nx K : Nat → zL → List Value → zW → Prop) (Rt : Option Value → zW → Prop) : z_st1 (tX9_init 62) 62 lv st w nx K Rt = K 62 lv st w := id rfl
theorem sX9_init_72 (lv : zL) (st : List Value) (w : zW) (nx K : Nat → zL → List Value → zW → Prop) (Rt : Option Value → zW → Prop) : z_st1 (tX9_init 72) 72 lv st w nx K Rt = K 72 lv st w := id rfl
theorem sX9_init_74 (lv : zL) (st : List Value) (w : zW) (nx K : Nat → zL → List Value → zW → Prop) (Rt : Option Value → zW → Prop) : z_st1 (tX9_init 74) 74 lv st w nx K Rt = K 74 lv st w := id rfl
theorem sX9_init_79 (lv : zL) (st : List Value) (w : zW) (nx K : Nat → zL → List Value → zW → Prop) (Rt : Option Value → zW → Prop) : z_st1 (tX9_init 79) 79 lv st w nx K Rt = K 79 lv st w := id rfl
theorem sX9_init_81 (lv : zL) (st : List Value) (w : zW) (nx K : Nat → zL → List Value → zW → Prop) (Rt : Option Value → zW → Prop) : z_st1 (tX9_init 81) 81 lv st w nx K Rt = K 81 lv st w := id rfl
theorem sX9_init_86 (lv : zL) (st : List Value) (w : zW) (nx K : Nat → zL → List Value → zW → Prop) (Rt : Option Value → zW → Prop) : z_st1 (tX9_init 86) 86 lv st w nx K Rt = K 86 lv st w := id rfl
theorem sX9_init_88 (lv : zL) (st : List Value) (w : zW) (nx K : Nat → zL → List Value → zW → Prop) (Rt : Option Value → zW → Prop) : z_st1 (tX9_init 88) 88 lv st w nx K Rt = K 88 lv st w := id rfl
theorem sX9_init_93 (lv : zL) (st : List Value) (w : zW) (nx K : Nat → zL → List Value → zW → Prop) (Rt : Option Value → zW → Prop) : z_st1 (tX9_init 93) 93 lv st w nx K Rt = K 93 lv st w := id rfl
theorem sX9_init_95 (lv : zL) (st : List Value) (w : zW) (nx K : Nat → zL → List Value → zW → Prop) (Rt : Option Value → zW → Prop) : z_st1 (tX9_init 95) 95 lv st w nx K Rt = K 95 lv st w := id rfl
theorem sX9_init_100 (lv : zL) (st : List Value) (w : zW) (nx K : Nat → zL → List Value → zW → Prop) (Rt : Option Value → zW → Prop) : z_st1 (tX9_init 100) 100 lv st w nx K Rt = K 100 lv st w := id rfl
theorem sX9_init_102 (lv : zL) (st : List Value) (w : zW) (nx K : Nat → zL → List Value → zW → Prop) (Rt : Option Value → zW → Prop) : z_st1 (tX9_init 102) 102 lv st w nx K Rt = K 102 lv st w := id rfl
theorem sX9_init_109 (lv : zL) (st : List Value) (w : zW) (nx K : Nat → zL → List Value → zW → Prop) (Rt : Option Value → zW → Prop) : z_st1 (tX9_init 109) 109 lv st w nx K Rt = K 109 lv st w := id rfl
theorem sX9_init_111 (lv : zL) (st : List Value) (w : zW) (nx K : Nat → zL → List Value → zW → Prop) (Rt : Option Value → zW → Prop) : z_st1 (tX9_init 111) 111 lv st w nx K Rt = K 111 lv st w := id rfl
theorem sX9_init_118 (lv : zL) (st : List Value) (w : zW) (nx K : Nat → zL → List Value → zW → Prop) (Rt : Option Value → zW → Prop) : z_st1 (tX9_init 118) 118 lv st w nx K Rt = K 118 lv st w := id rfl
theorem sX9_init_120 (lv : zL) (st : List Value) (w : zW) (nx K : Nat → zL → List Value → zW → Prop) (Rt : Option Value → zW → Prop) : z_st1 (tX9_init 120) 120 lv st w nx K Rt = K 120 lv st w := id rfl
theorem sX9_init_126 (lv : zL) (st : List Value) (w : zW) (nx K : Nat → zL → List Value → zW → Prop) (Rt : Option Value → zW → Prop) : z_st1 (tX9_init 126) 126 lv st w nx K Rt = K 126 lv st w := id rfl
theorem sX9_init_128 (lv : zL) (st : List Value) (w : zW) (nx K : Nat → zL → List Value → zW → Prop) (Rt : Option Value → zW → Prop) : z_st1 (tX9_init 128) 128 lv st w nx K Rt = K 128 lv st w := id rfl
theorem sX9_init_132 (lv : zL) (st : List Value) (w : zW) (nx K : Nat → zL → List Value → zW → Prop) (Rt : Option Value → zW → Prop) : z_st1 (tX9_init 132) 132 lv st w nx K Rt = K 132 lv st w := id rfl
theorem sX9_init_134 (lv : zL) (st : List Value) (w : zW) (nx K : Nat → zL → List Value → zW → Prop) (Rt : Option Value → zW → Prop) : z_st1 (tX9_init 134) 134 lv st w nx K Rt = K 134 lv st w := id rfl
theorem sX9_init_136 (lv : zL) (st : List Value) (w : zW) (nx K : Nat → zL → List Value → zW → Prop) (Rt : Option Value → zW → Prop) : z_st1 (tX9_init 136) 136 lv st w nx K Rt = K 136 lv st w := id rfl
theorem sX9_init_143 (lv : zL) (st : List Value) (w : zW) (nx K : Nat → zL → List Value → zW → Prop) (Rt : Option Value → zW → Prop) : z_st1 (tX9_init 143) 143 lv st w nx K Rt = K 143 lv st w := id rfl
theorem sX9_init_145 (lv : zL) (st : List Value) (w : zW) (nx K : Nat → zL → List Value → zW → Prop) (Rt : Option Value → zW → Prop) : z_st1 (tX9_init 145) 145 lv st w nx K Rt = K 145 lv st w := id rfl
theorem sX9_init_152 (lv : zL) (st : List Value) (w : zW) (nx K : Nat → zL → List Value → zW → Prop) (Rt : Option Value → zW → Prop) : z_st1 (tX9_init 152) 152 lv st w nx K Rt = K 152 lv st w := id rfl
theorem sX9_init_154 (lv : zL) (st : List Value) (w : zW) (nx K : Nat → zL → List Value → zW → Prop) (Rt : Option Value → zW → Prop) : z_st1 (tX9_init 154) 154 lv st w nx K Rt = K 154 lv st w := id rfl
theorem sX9_init_161 (lv : zL) (st : List Value) (w : zW) (nx K : Nat → zL → List Value → zW → Prop) (Rt : Option Value → zW → Prop) : z_st1 (tX9_init 161) 161 lv st w nx K Rt = K 161 lv st w := id rfl
theorem sX9_init_163 (lv : zL) (st : List Value) (w : zW) (nx K : Nat → zL → List Value → zW → Prop) (Rt : Option Value → zW → Prop) : z_st1 (tX9_init 163) 163 lv st w nx K Rt = K 163 lv st w := id rfl
theorem sX9_init_170 (lv : zL) (st : List Value) (w : zW) (nx K : Nat → zL → List Value → zW → Prop) (Rt : Option Value → zW → Prop) : z_st1 (tX9_init 170) 170 lv st w nx K Rt = K 170 lv st w := id rfl
theorem sX9_init_172 (lv : zL) (st : List Value) (w : zW) (nx K : Nat → zL → List Value → zW → Prop) (Rt : Option Value → zW → Prop) : z_st1 (tX9_init 172) 172 lv st w nx K Rt = K 172 lv st w := id rfl
theorem sX9_init_183 (lv : zL) (st : List Value) (w : zW) (nx K : Nat → zL → List Value → zW → Prop) (Rt : Option Value → zW → Prop) : z_st1 (tX9_init 183) 183 lv st w nx K Rt = K 183 lv st w := id rfl
theorem sX9_init_185 (lv : zL) (st : List Value) (w : zW) (nx K : Nat → zL → List Value → zW → Prop) (Rt : Option Value → zW → Prop) : z_st1 (tX9_init 185) 185 lv st w nx K Rt = K 185 lv st w := id rfl
theorem dX9_init_1 : decode cX9_init 1 = .ok (.invokespecial 1, 3) := by decide +kernel
theorem dX9_init_18 : decode cX9_init 18 = .ok (.newarray .int, 2) := by decide +kernel
theorem dX9_init_20 : decode cX9_init 20 = .ok (.putfield 16, 3) := by decide +kernel
theorem dX9_init_26 : decode cX9_init 26 = .ok (.newarray .int, 2) := by decide +kernel
theorem dX9_init_28 : decode cX9_init 28 = .ok (.putfield 20, 3) := by decide +kernel
theorem dX9_init_34 : decode cX9_init 34 = .ok (.newarray .int, 2) := by decide +kernel
theorem dX9_init_36 : decode cX9_init 36 = .ok (.putfield 23, 3) := by decide +kernel
theorem dX9_init_42 : decode cX9_init 42 = .ok (.newarray .boolean, 2) := by decide +kernel
theorem dX9_init_44 : decode cX9_init 44 = .ok (.putfield 26, 3) := by decide +kernel
theorem dX9_init_51 : decode cX9_init 51 = .ok (.newarray .int, 2) := by decide +kernel
theorem dX9_init_53 : decode cX9_init 53 = .ok (.putfield 30, 3) := by decide +kernel
theorem dX9_init_60 : decode cX9_init 60 = .ok (.newarray .int, 2) := by decide +kernel
theorem dX9_init_62 : decode cX9_init 62 = .ok (.putfield 33, 3) := by decide +kernel
theorem dX9_init_72 : decode cX9_init 72 = .ok (.newarray .int, 2) := by decide +kernel
theorem dX9_init_74 : decode cX9_init 74 = .ok (.putfield 39, 3) := by decide +kernel
theorem dX9_init_79 : decode cX9_init 79 = .ok (.newarray .int, 2) := by decide +kernel
theorem dX9_init_81 : decode cX9_init 81 = .ok (.putfield 42, 3) := by decide +kernel
theorem dX9_init_86 : decode cX9_init 86 = .ok (.newarray .int, 2) := by decide +kernel
theorem dX9_init_88 : decode cX9_init 88 = .ok (.putfield 45, 3) := by decide +kernel
theorem dX9_init_93 : decode cX9_init 93 = .ok (.newarray .int, 2) := by decide +kernel
theorem dX9_init_95 : decode cX9_init 95 = .ok (.putfield 48, 3) := by decide +kernel
theorem dX9_init_100 : decode cX9_init 100 = .ok (.newarray .int, 2) := by decide +kernel
theorem dX9_init_102 : decode cX9_init 102 = .ok (.putfield 51, 3) := by decide +kernel
theorem dX9_init_109 : decode cX9_init 109 = .ok (.newarray .int, 2) := by decide +kernel
theorem dX9_init_111 : decode cX9_init 111 = .ok (.putfield 54, 3) := by decide +kernel
theorem dX9_init_118 : decode cX9_init 118 = .ok (.newarray .int, 2) := by decide +kernel
theorem dX9_init_120 : decode cX9_init 120 = .ok (.putfield 57, 3) := by decide +kernel
theorem dX9_init_126 : decode cX9_init 126 = .ok (.newarray .int, 2) := by decide +kernel
theorem dX9_init_128 : decode cX9_init 128 = .ok (.putfield 60, 3) := by decide +kernel
theorem dX9_init_132 : decode cX9_init 132 = .ok (.ldc 63, 2) := by decide +kernel
theorem dX9_init_134 : decode cX9_init 134 = .ok (.newarray .int, 2) := by decide +kernel
theorem dX9_init_136 : decode cX9_init 136 = .ok (.putfield 64, 3) := by decide +kernel
theorem dX9_init_143 : decode cX9_init 143 = .ok (.newarray .int, 2) := by decide +kernel
theorem dX9_init_145 : decode cX9_init 145 = .ok (.putfield 67, 3) := by decide +kernel
theorem dX9_init_152 : decode cX9_init 152 = .ok (.newarray .int, 2) := by decide +kernel
theorem dX9_init_154 : decode cX9_init 154 = .ok (.putfield 70, 3) := by decide +kernel
theorem dX9_init_161 : decode cX9_init 161 = .ok (.newarray .int, 2) := by decide +kernel
theorem dX9_init_163 : decode cX9_init 163 = .ok (.putfield 73, 3) := by decide +kernel
theorem dX9_init_170 : decode cX9_init 170 = .ok (.newarray .int, 2) := by decide +kernel
theorem dX9_init_172 : decode cX9_init 172 = .ok (.putfield 76, 3) := by decide +kernel
theorem dX9_init_183 : decode cX9_init 183 = .ok (.newarray .int, 2) := by decide +kernel
theorem dX9_init_185 : decode cX9_init 185 = .ok (.putfield 82, 3) := by decide +kernel

def tmX9_thrown (pc : Nat) : zI := match pc with
  | 0 => (1, 0, 0, 1, 0)
  | 1 => (46, 10, 0, 4, 0)
  | 4 => (53, 0, 0, 5, 0)
  | _ => (99, 0, 0, 0, 0)
def tX9_thrown (pc : Nat) : zI := if pc < 5 then tmX9_thrown pc else (99, 0, 0, 0, 0)
theorem tkX9_thrown : z_tab RX9 wsX9_thrown 1 (some .int) cX9_thrown 5 tX9_thrown := z_tab_of (tm := tmX9_thrown) (by decide +kernel)
theorem sX9_thrown_0 (lv : zL) (st : List Value) (w : zW) (nx K : Nat → zL → List Value → zW → Prop) (Rt : Option Value → zW → Prop) : z_st1 (tX9_thrown 0) 0 lv st w nx K Rt = (z_la lv 0 (fun x => nx 1 lv (.ref x :: st) w)) := id rfl
theorem sX9_thrown_1 (lv : zL) (st : List Value) (w : zW) (nx K : Nat → zL → List Value → zW → Prop) (Rt : Option Value → zW → Prop) : z_st1 (tX9_thrown 1) 1 lv st w nx K Rt = (z_1a st (fun x r => z_ob w x 10 (fun fs => z_fl fs 0 (fun u => nx 4 lv (u :: r) w)))) := id rfl
theorem sX9_thrown_4 (lv : zL) (st : List Value) (w : zW) (nx K : Nat → zL → List Value → zW → Prop) (Rt : Option Value → zW → Prop) : z_st1 (tX9_thrown 4) 4 lv st w nx K Rt = (z_e1 st (fun x => Rt (some (.int x)) w)) := id rfl

def tmX9_isPlace (pc : Nat) : zI := match pc with
  | 0 => (0, 0, 0, 1, 0)
  | 1 => (36, 32, 0, 4, 0)
  | 4 => (0, 0, 0, 5, 0)
  | 5 => (6, 0, 0, 7, 32)
  | 7 => (43, 32, 0, 10, 0)
  | 10 => (0, 1, 0, 11, 0)
  | 11 => (6, 0, 0, 12, 1)
  | 12 => (42, 32, 0, 15, 0)
  | 15 => (0, 1, 0, 16, 0)
  | 16 => (0, 2, 0, 17, 0)
  | 17 => (44, 32, 0, 20, 0)
  | 20 => (0, 1, 0, 21, 0)
  | 21 => (6, 0, 0, 23, 32)
  | 23 => (0, 0, 0, 24, 0)
  | 24 => (9, 0, 0, 25, 0)
  | 25 => (44, 32, 0, 28, 0)
  | 28 => (6, 0, 0, 29, 1)
  | 29 => (33, 33, 0, 32, 0)
  | 32 => (6, 0, 0, 33, 0)
  | 33 => (58, 0, 0, 34, 0)
  | _ => (99, 0, 0, 0, 0)
def tX9_isPlace (pc : Nat) : zI := if pc < 34 then tmX9_isPlace pc else (99, 0, 0, 0, 0)
theorem tkX9_isPlace : z_tab RX9 wsX9_isPlace 3 (some .boolean) cX9_isPlace 34 tX9_isPlace := z_tab_of (tm := tmX9_isPlace) (by decide +kernel)
theorem sX9_isPlace_0 (lv : zL) (st : List Value) (w : zW) (nx K : Nat → zL → List Value → zW → Prop) (Rt : Option Value → zW → Prop) : z_st1 (tX9_isPlace 0) 0 lv st w nx K Rt = (z_li lv 0 (fun x => nx 1 lv (.int x :: st) w)) := id rfl
theorem sX9_isPlace_1 (lv : zL) (st : List Value) (w : zW) (nx K : Nat → zL → List Value → zW → Prop) (Rt : Option Value → zW → Prop) : z_st1 (tX9_isPlace 1) 1 lv st w nx K Rt = (z_1i st (fun x r => (x < 0 → nx 32 lv r w) ∧ (¬ x < 0 → nx 4 lv r w))) := id rfl
theorem sX9_isPlace_4 (lv : zL) (st : List Value) (w : zW) (nx K : Nat → zL → List Value → zW → Prop) (Rt : Option Value → zW → Prop) : z_st1 (tX9_isPlace 4) 4 lv st w nx K Rt = (z_li lv 0 (fun x => nx 5 lv (.int x :: st) w)) := id rfl
theorem sX9_isPlace_5 (lv : zL) (st : List Value) (w : zW) (nx K : Nat → zL → List Value → zW → Prop) (Rt : Option Value → zW → Prop) : z_st1 (tX9_isPlace 5) 5 lv st w nx K Rt = (nx 7 lv (.int (32 : Int32) :: st) w) := id rfl
theorem sX9_isPlace_7 (lv : zL) (st : List Value) (w : zW) (nx K : Nat → zL → List Value → zW → Prop) (Rt : Option Value → zW → Prop) : z_st1 (tX9_isPlace 7) 7 lv st w nx K Rt = (z_2i st (fun x y r => (y ≤ x → nx 32 lv r w) ∧ (¬ y ≤ x → nx 10 lv r w))) := id rfl
theorem sX9_isPlace_10 (lv : zL) (st : List Value) (w : zW) (nx K : Nat → zL → List Value → zW → Prop) (Rt : Option Value → zW → Prop) : z_st1 (tX9_isPlace 10) 10 lv st w nx K Rt = (z_li lv 1 (fun x => nx 11 lv (.int x :: st) w)) := id rfl
theorem sX9_isPlace_11 (lv : zL) (st : List Value) (w : zW) (nx K : Nat → zL → List Value → zW → Prop) (Rt : Option Value → zW → Prop) : z_st1 (tX9_isPlace 11) 11 lv st w nx K Rt = (nx 12 lv (.int (1 : Int32) :: st) w) := id rfl
theorem sX9_isPlace_12 (lv : zL) (st : List Value) (w : zW) (nx K : Nat → zL → List Value → zW → Prop) (Rt : Option Value → zW → Prop) : z_st1 (tX9_isPlace 12) 12 lv st w nx K Rt = (z_2i st (fun x y r => (x < y → nx 32 lv r w) ∧ (¬ x < y → nx 15 lv r w))) := id rfl
theorem sX9_isPlace_15 (lv : zL) (st : List Value) (w : zW) (nx K : Nat → zL → List Value → zW → Prop) (Rt : Option Value → zW → Prop) : z_st1 (tX9_isPlace 15) 15 lv st w nx K Rt = (z_li lv 1 (fun x => nx 16 lv (.int x :: st) w)) := id rfl
theorem sX9_isPlace_16 (lv : zL) (st : List Value) (w : zW) (nx K : Nat → zL → List Value → zW → Prop) (Rt : Option Value → zW → Prop) : z_st1 (tX9_isPlace 16) 16 lv st w nx K Rt = (z_li lv 2 (fun x => nx 17 lv (.int x :: st) w)) := id rfl
theorem sX9_isPlace_17 (lv : zL) (st : List Value) (w : zW) (nx K : Nat → zL → List Value → zW → Prop) (Rt : Option Value → zW → Prop) : z_st1 (tX9_isPlace 17) 17 lv st w nx K Rt = (z_2i st (fun x y r => (y < x → nx 32 lv r w) ∧ (¬ y < x → nx 20 lv r w))) := id rfl
theorem sX9_isPlace_20 (lv : zL) (st : List Value) (w : zW) (nx K : Nat → zL → List Value → zW → Prop) (Rt : Option Value → zW → Prop) : z_st1 (tX9_isPlace 20) 20 lv st w nx K Rt = (z_li lv 1 (fun x => nx 21 lv (.int x :: st) w)) := id rfl
theorem sX9_isPlace_21 (lv : zL) (st : List Value) (w : zW) (nx K : Nat → zL → List Value → zW → Prop) (Rt : Option Value → zW → Prop) : z_st1 (tX9_isPlace 21) 21 lv st w nx K Rt = (nx 23 lv (.int (32 : Int32) :: st) w) := id rfl
theorem sX9_isPlace_23 (lv : zL) (st : List Value) (w : zW) (nx K : Nat → zL → List Value → zW → Prop) (Rt : Option Value → zW → Prop) : z_st1 (tX9_isPlace 23) 23 lv st w nx K Rt = (z_li lv 0 (fun x => nx 24 lv (.int x :: st) w)) := id rfl
theorem sX9_isPlace_24 (lv : zL) (st : List Value) (w : zW) (nx K : Nat → zL → List Value → zW → Prop) (Rt : Option Value → zW → Prop) : z_st1 (tX9_isPlace 24) 24 lv st w nx K Rt = (z_2i st (fun x y r => nx 25 lv (.int (x - y) :: r) w)) := id rfl
theorem sX9_isPlace_25 (lv : zL) (st : List Value) (w : zW) (nx K : Nat → zL → List Value → zW → Prop) (Rt : Option Value → zW → Prop) : z_st1 (tX9_isPlace 25) 25 lv st w nx K Rt = (z_2i st (fun x y r => (y < x → nx 32 lv r w) ∧ (¬ y < x → nx 28 lv r w))) := id rfl
theorem sX9_isPlace_28 (lv : zL) (st : List Value) (w : zW) (nx K : Nat → zL → List Value → zW → Prop) (Rt : Option Value → zW → Prop) : z_st1 (tX9_isPlace 28) 28 lv st w nx K Rt = (nx 29 lv (.int (1 : Int32) :: st) w) := id rfl
theorem sX9_isPlace_29 (lv : zL) (st : List Value) (w : zW) (nx K : Nat → zL → List Value → zW → Prop) (Rt : Option Value → zW → Prop) : z_st1 (tX9_isPlace 29) 29 lv st w nx K Rt = (nx 33 lv st w) := id rfl
theorem sX9_isPlace_32 (lv : zL) (st : List Value) (w : zW) (nx K : Nat → zL → List Value → zW → Prop) (Rt : Option Value → zW → Prop) : z_st1 (tX9_isPlace 32) 32 lv st w nx K Rt = (nx 33 lv (.int (0 : Int32) :: st) w) := id rfl
theorem sX9_isPlace_33 (lv : zL) (st : List Value) (w : zW) (nx K : Nat → zL → List Value → zW → Prop) (Rt : Option Value → zW → Prop) : z_st1 (tX9_isPlace 33) 33 lv st w nx K Rt = (z_e1 st (fun x => (x = 0 ∨ x = 1) ∧ Rt (some (.int x)) w)) := id rfl

def tmX9_area (pc : Nat) : zI := match pc with
  | 0 => (1, 0, 0, 1, 0)
  | 1 => (0, 1, 0, 2, 0)
  | 2 => (37, 9, 0, 5, 0)
  | 5 => (6, 0, 0, 6, 1)
  | 6 => (33, 10, 0, 9, 0)
  | 9 => (6, 0, 0, 10, 0)
  | 10 => (47, 10, 0, 13, 0)
  | 13 => (0, 1, 0, 14, 0)
  | 14 => (37, 19, 0, 17, 0)
  | 17 => (6, 0, 0, 18, 0)
  | 18 => (53, 0, 0, 19, 0)
  | 19 => (0, 1, 0, 20, 0)
  | 20 => (34, 30, 0, 23, 0)
  | 23 => (0, 1, 0, 24, 0)
  | 24 => (6, 0, 0, 27, 1000)
  | 27 => (45, 33, 0, 30, 0)
  | 30 => (6, 0, 0, 32, (-4))
  | 32 => (53, 0, 0, 33, 0)
  | 33 => (1, 0, 0, 34, 0)
  | 34 => (0, 1, 0, 35, 0)
  | 35 => (47, 10, 1, 38, 0)
  | 38 => (6, 0, 0, 39, 1)
  | 39 => (53, 0, 0, 40, 0)
  | _ => (99, 0, 0, 0, 0)
def tX9_area (pc : Nat) : zI := if pc < 40 then tmX9_area pc else (99, 0, 0, 0, 0)
theorem tkX9_area : z_tab RX9 wsX9_area 2 (some .int) cX9_area 40 tX9_area := z_tab_of (tm := tmX9_area) (by decide +kernel)
theorem sX9_area_0 (lv : zL) (st : List Value) (w : zW) (nx K : Nat → zL → List Value → zW → Prop) (Rt : Option Value → zW → Prop) : z_st1 (tX9_area 0) 0 lv st w nx K Rt = (z_la lv 0 (fun x => nx 1 lv (.ref x :: st) w)) := id rfl
theorem sX9_area_1 (lv : zL) (st : List Value) (w : zW) (nx K : Nat → zL → List Value → zW → Prop) (Rt : Option Value → zW → Prop) : z_st1 (tX9_area 1) 1 lv st w nx K Rt = (z_li lv 1 (fun x => nx 2 lv (.int x :: st) w)) := id rfl
theorem sX9_area_2 (lv : zL) (st : List Value) (w : zW) (nx K : Nat → zL → List Value → zW → Prop) (Rt : Option Value → zW → Prop) : z_st1 (tX9_area 2) 2 lv st w nx K Rt = (z_1i st (fun x r => (0 ≤ x → nx 9 lv r w) ∧ (¬ 0 ≤ x → nx 5 lv r w))) := id rfl
theorem sX9_area_5 (lv : zL) (st : List Value) (w : zW) (nx K : Nat → zL → List Value → zW → Prop) (Rt : Option Value → zW → Prop) : z_st1 (tX9_area 5) 5 lv st w nx K Rt = (nx 6 lv (.int (1 : Int32) :: st) w) := id rfl
theorem sX9_area_6 (lv : zL) (st : List Value) (w : zW) (nx K : Nat → zL → List Value → zW → Prop) (Rt : Option Value → zW → Prop) : z_st1 (tX9_area 6) 6 lv st w nx K Rt = (nx 10 lv st w) := id rfl
theorem sX9_area_9 (lv : zL) (st : List Value) (w : zW) (nx K : Nat → zL → List Value → zW → Prop) (Rt : Option Value → zW → Prop) : z_st1 (tX9_area 9) 9 lv st w nx K Rt = (nx 10 lv (.int (0 : Int32) :: st) w) := id rfl
theorem sX9_area_10 (lv : zL) (st : List Value) (w : zW) (nx K : Nat → zL → List Value → zW → Prop) (Rt : Option Value → zW → Prop) : z_st1 (tX9_area 10) 10 lv st w nx K Rt = (z_ia st (fun x i r => z_ob w x 10 (fun fs => 0 < fs.length ∧ nx 13 lv r (z_up w x (.inr (10, fs.set 0 (.int i))))))) := id rfl
theorem sX9_area_13 (lv : zL) (st : List Value) (w : zW) (nx K : Nat → zL → List Value → zW → Prop) (Rt : Option Value → zW → Prop) : z_st1 (tX9_area 13) 13 lv st w nx K Rt = (z_li lv 1 (fun x => nx 14 lv (.int x :: st) w)) := id rfl
theorem sX9_area_14 (lv : zL) (st : List Value) (w : zW) (nx K : Nat → zL → List Value → zW → Prop) (Rt : Option Value → zW → Prop) : z_st1 (tX9_area 14) 14 lv st w nx K Rt = (z_1i st (fun x r => (0 ≤ x → nx 19 lv r w) ∧ (¬ 0 ≤ x → nx 17 lv r w))) := id rfl
theorem sX9_area_17 (lv : zL) (st : List Value) (w : zW) (nx K : Nat → zL → List Value → zW → Prop) (Rt : Option Value → zW → Prop) : z_st1 (tX9_area 17) 17 lv st w nx K Rt = (nx 18 lv (.int (0 : Int32) :: st) w) := id rfl
theorem sX9_area_18 (lv : zL) (st : List Value) (w : zW) (nx K : Nat → zL → List Value → zW → Prop) (Rt : Option Value → zW → Prop) : z_st1 (tX9_area 18) 18 lv st w nx K Rt = (z_e1 st (fun x => Rt (some (.int x)) w)) := id rfl
theorem sX9_area_19 (lv : zL) (st : List Value) (w : zW) (nx K : Nat → zL → List Value → zW → Prop) (Rt : Option Value → zW → Prop) : z_st1 (tX9_area 19) 19 lv st w nx K Rt = (z_li lv 1 (fun x => nx 20 lv (.int x :: st) w)) := id rfl
theorem sX9_area_20 (lv : zL) (st : List Value) (w : zW) (nx K : Nat → zL → List Value → zW → Prop) (Rt : Option Value → zW → Prop) : z_st1 (tX9_area 20) 20 lv st w nx K Rt = (z_1i st (fun x r => (x = 0 → nx 30 lv r w) ∧ (¬ x = 0 → nx 23 lv r w))) := id rfl
theorem sX9_area_23 (lv : zL) (st : List Value) (w : zW) (nx K : Nat → zL → List Value → zW → Prop) (Rt : Option Value → zW → Prop) : z_st1 (tX9_area 23) 23 lv st w nx K Rt = (z_li lv 1 (fun x => nx 24 lv (.int x :: st) w)) := id rfl
theorem sX9_area_24 (lv : zL) (st : List Value) (w : zW) (nx K : Nat → zL → List Value → zW → Prop) (Rt : Option Value → zW → Prop) : z_st1 (tX9_area 24) 24 lv st w nx K Rt = (nx 27 lv (.int (1000 : Int32) :: st) w) := id rfl
theorem sX9_area_27 (lv : zL) (st : List Value) (w : zW) (nx K : Nat → zL → List Value → zW → Prop) (Rt : Option Value → zW → Prop) : z_st1 (tX9_area 27) 27 lv st w nx K Rt = (z_2i st (fun x y r => (x ≤ y → nx 33 lv r w) ∧ (¬ x ≤ y → nx 30 lv r w))) := id rfl
theorem sX9_area_30 (lv : zL) (st : List Value) (w : zW) (nx K : Nat → zL → List Value → zW → Prop) (Rt : Option Value → zW → Prop) : z_st1 (tX9_area 30) 30 lv st w nx K Rt = (nx 32 lv (.int (-4 : Int32) :: st) w) := id rfl
theorem sX9_area_32 (lv : zL) (st : List Value) (w : zW) (nx K : Nat → zL → List Value → zW → Prop) (Rt : Option Value → zW → Prop) : z_st1 (tX9_area 32) 32 lv st w nx K Rt = (z_e1 st (fun x => Rt (some (.int x)) w)) := id rfl
theorem sX9_area_33 (lv : zL) (st : List Value) (w : zW) (nx K : Nat → zL → List Value → zW → Prop) (Rt : Option Value → zW → Prop) : z_st1 (tX9_area 33) 33 lv st w nx K Rt = (z_la lv 0 (fun x => nx 34 lv (.ref x :: st) w)) := id rfl
theorem sX9_area_34 (lv : zL) (st : List Value) (w : zW) (nx K : Nat → zL → List Value → zW → Prop) (Rt : Option Value → zW → Prop) : z_st1 (tX9_area 34) 34 lv st w nx K Rt = (z_li lv 1 (fun x => nx 35 lv (.int x :: st) w)) := id rfl
theorem sX9_area_35 (lv : zL) (st : List Value) (w : zW) (nx K : Nat → zL → List Value → zW → Prop) (Rt : Option Value → zW → Prop) : z_st1 (tX9_area 35) 35 lv st w nx K Rt = (z_ia st (fun x i r => z_ob w x 10 (fun fs => 1 < fs.length ∧ nx 38 lv r (z_up w x (.inr (10, fs.set 1 (.int i))))))) := id rfl
theorem sX9_area_38 (lv : zL) (st : List Value) (w : zW) (nx K : Nat → zL → List Value → zW → Prop) (Rt : Option Value → zW → Prop) : z_st1 (tX9_area 38) 38 lv st w nx K Rt = (nx 39 lv (.int (1 : Int32) :: st) w) := id rfl
theorem sX9_area_39 (lv : zL) (st : List Value) (w : zW) (nx K : Nat → zL → List Value → zW → Prop) (Rt : Option Value → zW → Prop) : z_st1 (tX9_area 39) 39 lv st w nx K Rt = (z_e1 st (fun x => Rt (some (.int x)) w)) := id rfl

def tmX9_ways (pc : Nat) : zI := match pc with
  | 0 => (1, 0, 0, 1, 0)
  | 1 => (6, 0, 0, 2, 0)
  | 2 => (47, 10, 0, 5, 0)
  | 5 => (0, 1, 0, 6, 0)
  | 6 => (6, 0, 0, 7, 2)
  | 7 => (42, 16, 0, 10, 0)
  | 10 => (0, 1, 0, 11, 0)
  | 11 => (6, 0, 0, 13, 16)
  | 13 => (45, 19, 0, 16, 0)
  | 16 => (6, 0, 0, 18, (-4))
  | 18 => (53, 0, 0, 19, 0)
  | 19 => (1, 0, 0, 20, 0)
  | 20 => (46, 10, 2, 23, 0)
  | 23 => (3, 2, 0, 24, 0)
  | 24 => (1, 0, 0, 25, 0)
  | 25 => (0, 1, 0, 26, 0)
  | 26 => (47, 10, 2, 29, 0)
  | 29 => (0, 2, 0, 30, 0)
  | 30 => (53, 0, 0, 31, 0)
  | _ => (99, 0, 0, 0, 0)
def tX9_ways (pc : Nat) : zI := if pc < 31 then tmX9_ways pc else (99, 0, 0, 0, 0)
theorem tkX9_ways : z_tab RX9 wsX9_ways 3 (some .int) cX9_ways 31 tX9_ways := z_tab_of (tm := tmX9_ways) (by decide +kernel)
theorem sX9_ways_0 (lv : zL) (st : List Value) (w : zW) (nx K : Nat → zL → List Value → zW → Prop) (Rt : Option Value → zW → Prop) : z_st1 (tX9_ways 0) 0 lv st w nx K Rt = (z_la lv 0 (fun x => nx 1 lv (.ref x :: st) w)) := id rfl
theorem sX9_ways_1 (lv : zL) (st : List Value) (w : zW) (nx K : Nat → zL → List Value → zW → Prop) (Rt : Option Value → zW → Prop) : z_st1 (tX9_ways 1) 1 lv st w nx K Rt = (nx 2 lv (.int (0 : Int32) :: st) w) := id rfl
theorem sX9_ways_2 (lv : zL) (st : List Value) (w : zW) (nx K : Nat → zL → List Value → zW → Prop) (Rt : Option Value → zW → Prop) : z_st1 (tX9_ways 2) 2 lv st w nx K Rt = (z_ia st (fun x i r => z_ob w x 10 (fun fs => 0 < fs.length ∧ nx 5 lv r (z_up w x (.inr (10, fs.set 0 (.int i))))))) := id rfl
theorem sX9_ways_5 (lv : zL) (st : List Value) (w : zW) (nx K : Nat → zL → List Value → zW → Prop) (Rt : Option Value → zW → Prop) : z_st1 (tX9_ways 5) 5 lv st w nx K Rt = (z_li lv 1 (fun x => nx 6 lv (.int x :: st) w)) := id rfl
theorem sX9_ways_6 (lv : zL) (st : List Value) (w : zW) (nx K : Nat → zL → List Value → zW → Prop) (Rt : Option Value → zW → Prop) : z_st1 (tX9_ways 6) 6 lv st w nx K Rt = (nx 7 lv (.int (2 : Int32) :: st) w) := id rfl
theorem sX9_ways_7 (lv : zL) (st : List Value) (w : zW) (nx K : Nat → zL → List Value → zW → Prop) (Rt : Option Value → zW → Prop) : z_st1 (tX9_ways 7) 7 lv st w nx K Rt = (z_2i st (fun x y r => (x < y → nx 16 lv r w) ∧ (¬ x < y → nx 10 lv r w))) := id rfl
theorem sX9_ways_10 (lv : zL) (st : List Value) (w : zW) (nx K : Nat → zL → List Value → zW → Prop) (Rt : Option Value → zW → Prop) : z_st1 (tX9_ways 10) 10 lv st w nx K Rt = (z_li lv 1 (fun x => nx 11 lv (.int x :: st) w)) := id rfl
theorem sX9_ways_11 (lv : zL) (st : List Value) (w : zW) (nx K : Nat → zL → List Value → zW → Prop) (Rt : Option Value → zW → Prop) : z_st1 (tX9_ways 11) 11 lv st w nx K Rt = (nx 13 lv (.int (16 : Int32) :: st) w) := id rfl
theorem sX9_ways_13 (lv : zL) (st : List Value) (w : zW) (nx K : Nat → zL → List Value → zW → Prop) (Rt : Option Value → zW → Prop) : z_st1 (tX9_ways 13) 13 lv st w nx K Rt = (z_2i st (fun x y r => (x ≤ y → nx 19 lv r w) ∧ (¬ x ≤ y → nx 16 lv r w))) := id rfl
theorem sX9_ways_16 (lv : zL) (st : List Value) (w : zW) (nx K : Nat → zL → List Value → zW → Prop) (Rt : Option Value → zW → Prop) : z_st1 (tX9_ways 16) 16 lv st w nx K Rt = (nx 18 lv (.int (-4 : Int32) :: st) w) := id rfl
theorem sX9_ways_18 (lv : zL) (st : List Value) (w : zW) (nx K : Nat → zL → List Value → zW → Prop) (Rt : Option Value → zW → Prop) : z_st1 (tX9_ways 18) 18 lv st w nx K Rt = (z_e1 st (fun x => Rt (some (.int x)) w)) := id rfl
theorem sX9_ways_19 (lv : zL) (st : List Value) (w : zW) (nx K : Nat → zL → List Value → zW → Prop) (Rt : Option Value → zW → Prop) : z_st1 (tX9_ways 19) 19 lv st w nx K Rt = (z_la lv 0 (fun x => nx 20 lv (.ref x :: st) w)) := id rfl
theorem sX9_ways_20 (lv : zL) (st : List Value) (w : zW) (nx K : Nat → zL → List Value → zW → Prop) (Rt : Option Value → zW → Prop) : z_st1 (tX9_ways 20) 20 lv st w nx K Rt = (z_1a st (fun x r => z_ob w x 10 (fun fs => z_fl fs 2 (fun u => nx 23 lv (u :: r) w)))) := id rfl
theorem sX9_ways_23 (lv : zL) (st : List Value) (w : zW) (nx K : Nat → zL → List Value → zW → Prop) (Rt : Option Value → zW → Prop) : z_st1 (tX9_ways 23) 23 lv st w nx K Rt = (z_1i st (fun x r => z_ok1 lv 2 = true ∧ nx 24 (lv.set 2 (some (.int x))) r w)) := id rfl
theorem sX9_ways_24 (lv : zL) (st : List Value) (w : zW) (nx K : Nat → zL → List Value → zW → Prop) (Rt : Option Value → zW → Prop) : z_st1 (tX9_ways 24) 24 lv st w nx K Rt = (z_la lv 0 (fun x => nx 25 lv (.ref x :: st) w)) := id rfl
theorem sX9_ways_25 (lv : zL) (st : List Value) (w : zW) (nx K : Nat → zL → List Value → zW → Prop) (Rt : Option Value → zW → Prop) : z_st1 (tX9_ways 25) 25 lv st w nx K Rt = (z_li lv 1 (fun x => nx 26 lv (.int x :: st) w)) := id rfl
theorem sX9_ways_26 (lv : zL) (st : List Value) (w : zW) (nx K : Nat → zL → List Value → zW → Prop) (Rt : Option Value → zW → Prop) : z_st1 (tX9_ways 26) 26 lv st w nx K Rt = (z_ia st (fun x i r => z_ob w x 10 (fun fs => 2 < fs.length ∧ nx 29 lv r (z_up w x (.inr (10, fs.set 2 (.int i))))))) := id rfl
theorem sX9_ways_29 (lv : zL) (st : List Value) (w : zW) (nx K : Nat → zL → List Value → zW → Prop) (Rt : Option Value → zW → Prop) : z_st1 (tX9_ways 29) 29 lv st w nx K Rt = (z_li lv 2 (fun x => nx 30 lv (.int x :: st) w)) := id rfl
theorem sX9_ways_30 (lv : zL) (st : List Value) (w : zW) (nx K : Nat → zL → List Value → zW → Prop) (Rt : Option Value → zW → Prop) : z_st1 (tX9_ways 30) 30 lv st w nx K Rt = (z_e1 st (fun x => Rt (some (.int x)) w)) := id rfl

def tmX9_key (pc : Nat) : zI := match pc with
  | 0 => (1, 0, 0, 1, 0)
  | 1 => (6, 0, 0, 2, 0)
  | 2 => (47, 10, 0, 5, 0)
  | 5 => (0, 3, 0, 6, 0)
  | 6 => (36, 43, 0, 9, 0)
  | 9 => (0, 3, 0, 10, 0)
  | 10 => (6, 0, 0, 11, 3)
  | 11 => (44, 43, 0, 14, 0)
  | 14 => (0, 1, 0, 15, 0)
  | 15 => (0, 2, 0, 16, 0)
  | 16 => (0, 3, 0, 17, 0)
  | 17 => (35, 25, 0, 20, 0)
  | 20 => (6, 0, 0, 22, 32)
  | 22 => (33, 37, 0, 25, 0)
  | 25 => (0, 3, 0, 26, 0)
  | 26 => (6, 0, 0, 27, 3)
  | 27 => (41, 35, 0, 30, 0)
  | 30 => (6, 0, 0, 32, 18)
  | 32 => (33, 37, 0, 35, 0)
  | 35 => (6, 0, 0, 37, 8)
  | 40 => (35, 46, 0, 43, 0)
  | 43 => (6, 0, 0, 45, (-4))
  | 45 => (53, 0, 0, 46, 0)
  | 46 => (1, 0, 0, 47, 0)
  | 47 => (46, 10, 3, 50, 0)
  | 50 => (34, 56, 0, 53, 0)
  | 53 => (6, 0, 0, 55, (-5))
  | 55 => (53, 0, 0, 56, 0)
  | 56 => (1, 0, 0, 57, 0)
  | 57 => (46, 10, 8, 60, 0)
  | 60 => (6, 0, 0, 62, 8)
  | 62 => (41, 67, 0, 65, 0)
  | 65 => (6, 0, 0, 66, (-1))
  | 66 => (53, 0, 0, 67, 0)
  | 67 => (1, 0, 0, 68, 0)
  | 68 => (46, 10, 4, 71, 0)
  | 71 => (1, 0, 0, 72, 0)
  | 72 => (46, 10, 8, 75, 0)
  | 75 => (0, 1, 0, 76, 0)
  | 76 => (49, 0, 0, 77, 0)
  | 77 => (1, 0, 0, 78, 0)
  | 78 => (46, 10, 5, 81, 0)
  | 81 => (1, 0, 0, 82, 0)
  | 82 => (46, 10, 8, 85, 0)
  | 85 => (0, 2, 0, 86, 0)
  | 86 => (49, 0, 0, 87, 0)
  | 87 => (1, 0, 0, 88, 0)
  | 88 => (46, 10, 6, 91, 0)
  | 91 => (1, 0, 0, 92, 0)
  | 92 => (46, 10, 8, 95, 0)
  | 95 => (0, 3, 0, 96, 0)
  | 96 => (49, 0, 0, 97, 0)
  | 97 => (1, 0, 0, 98, 0)
  | 98 => (46, 10, 7, 101, 0)
  | 101 => (1, 0, 0, 102, 0)
  | 102 => (46, 10, 8, 105, 0)
  | 105 => (0, 4, 0, 107, 0)
  | 107 => (51, 0, 0, 108, 0)
  | 108 => (1, 0, 0, 109, 0)
  | 109 => (29, 0, 0, 110, 0)
  | 110 => (46, 10, 8, 113, 0)
  | 113 => (6, 0, 0, 114, 1)
  | 114 => (8, 0, 0, 115, 0)
  | 115 => (47, 10, 8, 118, 0)
  | 118 => (1, 0, 0, 119, 0)
  | 119 => (46, 10, 8, 122, 0)
  | 122 => (53, 0, 0, 123, 0)
  | _ => (99, 0, 0, 0, 0)
def tX9_key (pc : Nat) : zI := if pc < 123 then tmX9_key pc else (99, 0, 0, 0, 0)
theorem tkX9_key : z_tab RX9 wsX9_key 5 (some .int) cX9_key 123 tX9_key := z_tab_of (tm := tmX9_key) (by decide +kernel)
theorem sX9_key_0 (lv : zL) (st : List Value) (w : zW) (nx K : Nat → zL → List Value → zW → Prop) (Rt : Option Value → zW → Prop) : z_st1 (tX9_key 0) 0 lv st w nx K Rt = (z_la lv 0 (fun x => nx 1 lv (.ref x :: st) w)) := id rfl
theorem sX9_key_1 (lv : zL) (st : List Value) (w : zW) (nx K : Nat → zL → List Value → zW → Prop) (Rt : Option Value → zW → Prop) : z_st1 (tX9_key 1) 1 lv st w nx K Rt = (nx 2 lv (.int (0 : Int32) :: st) w) := id rfl
theorem sX9_key_2 (lv : zL) (st : List Value) (w : zW) (nx K : Nat → zL → List Value → zW → Prop) (Rt : Option Value → zW → Prop) : z_st1 (tX9_key 2) 2 lv st w nx K Rt = (z_ia st (fun x i r => z_ob w x 10 (fun fs => 0 < fs.length ∧ nx 5 lv r (z_up w x (.inr (10, fs.set 0 (.int i))))))) := id rfl
theorem sX9_key_5 (lv : zL) (st : List Value) (w : zW) (nx K : Nat → zL → List Value → zW → Prop) (Rt : Option Value → zW → Prop) : z_st1 (tX9_key 5) 5 lv st w nx K Rt = (z_li lv 3 (fun x => nx 6 lv (.int x :: st) w)) := id rfl
theorem sX9_key_6 (lv : zL) (st : List Value) (w : zW) (nx K : Nat → zL → List Value → zW → Prop) (Rt : Option Value → zW → Prop) : z_st1 (tX9_key 6) 6 lv st w nx K Rt = (z_1i st (fun x r => (x < 0 → nx 43 lv r w) ∧ (¬ x < 0 → nx 9 lv r w))) := id rfl
theorem sX9_key_9 (lv : zL) (st : List Value) (w : zW) (nx K : Nat → zL → List Value → zW → Prop) (Rt : Option Value → zW → Prop) : z_st1 (tX9_key 9) 9 lv st w nx K Rt = (z_li lv 3 (fun x => nx 10 lv (.int x :: st) w)) := id rfl
theorem sX9_key_10 (lv : zL) (st : List Value) (w : zW) (nx K : Nat → zL → List Value → zW → Prop) (Rt : Option Value → zW → Prop) : z_st1 (tX9_key 10) 10 lv st w nx K Rt = (nx 11 lv (.int (3 : Int32) :: st) w) := id rfl
theorem sX9_key_11 (lv : zL) (st : List Value) (w : zW) (nx K : Nat → zL → List Value → zW → Prop) (Rt : Option Value → zW → Prop) : z_st1 (tX9_key 11) 11 lv st w nx K Rt = (z_2i st (fun x y r => (y < x → nx 43 lv r w) ∧ (¬ y < x → nx 14 lv r w))) := id rfl
theorem sX9_key_14 (lv : zL) (st : List Value) (w : zW) (nx K : Nat → zL → List Value → zW → Prop) (Rt : Option Value → zW → Prop) : z_st1 (tX9_key 14) 14 lv st w nx K Rt = (z_li lv 1 (fun x => nx 15 lv (.int x :: st) w)) := id rfl
theorem sX9_key_15 (lv : zL) (st : List Value) (w : zW) (nx K : Nat → zL → List Value → zW → Prop) (Rt : Option Value → zW → Prop) : z_st1 (tX9_key 15) 15 lv st w nx K Rt = (z_li lv 2 (fun x => nx 16 lv (.int x :: st) w)) := id rfl
theorem sX9_key_16 (lv : zL) (st : List Value) (w : zW) (nx K : Nat → zL → List Value → zW → Prop) (Rt : Option Value → zW → Prop) : z_st1 (tX9_key 16) 16 lv st w nx K Rt = (z_li lv 3 (fun x => nx 17 lv (.int x :: st) w)) := id rfl
theorem sX9_key_17 (lv : zL) (st : List Value) (w : zW) (nx K : Nat → zL → List Value → zW → Prop) (Rt : Option Value → zW → Prop) : z_st1 (tX9_key 17) 17 lv st w nx K Rt = (z_1i st (fun x r => (¬ x = 0 → nx 25 lv r w) ∧ (x = 0 → nx 20 lv r w))) := id rfl
theorem sX9_key_20 (lv : zL) (st : List Value) (w : zW) (nx K : Nat → zL → List Value → zW → Prop) (Rt : Option Value → zW → Prop) : z_st1 (tX9_key 20) 20 lv st w nx K Rt = (nx 22 lv (.int (32 : Int32) :: st) w) := id rfl
theorem sX9_key_22 (lv : zL) (st : List Value) (w : zW) (nx K : Nat → zL → List Value → zW → Prop) (Rt : Option Value → zW → Prop) : z_st1 (tX9_key 22) 22 lv st w nx K Rt = (nx 37 lv st w) := id rfl
theorem sX9_key_25 (lv : zL) (st : List Value) (w : zW) (nx K : Nat → zL → List Value → zW → Prop) (Rt : Option Value → zW → Prop) : z_st1 (tX9_key 25) 25 lv st w nx K Rt = (z_li lv 3 (fun x => nx 26 lv (.int x :: st) w)) := id rfl
theorem sX9_key_26 (lv : zL) (st : List Value) (w : zW) (nx K : Nat → zL → List Value → zW → Prop) (Rt : Option Value → zW → Prop) : z_st1 (tX9_key 26) 26 lv st w nx K Rt = (nx 27 lv (.int (3 : Int32) :: st) w) := id rfl
theorem sX9_key_27 (lv : zL) (st : List Value) (w : zW) (nx K : Nat → zL → List Value → zW → Prop) (Rt : Option Value → zW → Prop) : z_st1 (tX9_key 27) 27 lv st w nx K Rt = (z_2i st (fun x y r => (¬ x = y → nx 35 lv r w) ∧ (x = y → nx 30 lv r w))) := id rfl
theorem sX9_key_30 (lv : zL) (st : List Value) (w : zW) (nx K : Nat → zL → List Value → zW → Prop) (Rt : Option Value → zW → Prop) : z_st1 (tX9_key 30) 30 lv st w nx K Rt = (nx 32 lv (.int (18 : Int32) :: st) w) := id rfl
theorem sX9_key_32 (lv : zL) (st : List Value) (w : zW) (nx K : Nat → zL → List Value → zW → Prop) (Rt : Option Value → zW → Prop) : z_st1 (tX9_key 32) 32 lv st w nx K Rt = (nx 37 lv st w) := id rfl
theorem sX9_key_35 (lv : zL) (st : List Value) (w : zW) (nx K : Nat → zL → List Value → zW → Prop) (Rt : Option Value → zW → Prop) : z_st1 (tX9_key 35) 35 lv st w nx K Rt = (nx 37 lv (.int (8 : Int32) :: st) w) := id rfl
theorem sX9_key_40 (lv : zL) (st : List Value) (w : zW) (nx K : Nat → zL → List Value → zW → Prop) (Rt : Option Value → zW → Prop) : z_st1 (tX9_key 40) 40 lv st w nx K Rt = (z_1i st (fun x r => (¬ x = 0 → nx 46 lv r w) ∧ (x = 0 → nx 43 lv r w))) := id rfl
theorem sX9_key_43 (lv : zL) (st : List Value) (w : zW) (nx K : Nat → zL → List Value → zW → Prop) (Rt : Option Value → zW → Prop) : z_st1 (tX9_key 43) 43 lv st w nx K Rt = (nx 45 lv (.int (-4 : Int32) :: st) w) := id rfl
theorem sX9_key_45 (lv : zL) (st : List Value) (w : zW) (nx K : Nat → zL → List Value → zW → Prop) (Rt : Option Value → zW → Prop) : z_st1 (tX9_key 45) 45 lv st w nx K Rt = (z_e1 st (fun x => Rt (some (.int x)) w)) := id rfl
theorem sX9_key_46 (lv : zL) (st : List Value) (w : zW) (nx K : Nat → zL → List Value → zW → Prop) (Rt : Option Value → zW → Prop) : z_st1 (tX9_key 46) 46 lv st w nx K Rt = (z_la lv 0 (fun x => nx 47 lv (.ref x :: st) w)) := id rfl
theorem sX9_key_47 (lv : zL) (st : List Value) (w : zW) (nx K : Nat → zL → List Value → zW → Prop) (Rt : Option Value → zW → Prop) : z_st1 (tX9_key 47) 47 lv st w nx K Rt = (z_1a st (fun x r => z_ob w x 10 (fun fs => z_fl fs 3 (fun u => nx 50 lv (u :: r) w)))) := id rfl
theorem sX9_key_50 (lv : zL) (st : List Value) (w : zW) (nx K : Nat → zL → List Value → zW → Prop) (Rt : Option Value → zW → Prop) : z_st1 (tX9_key 50) 50 lv st w nx K Rt = (z_1i st (fun x r => (x = 0 → nx 56 lv r w) ∧ (¬ x = 0 → nx 53 lv r w))) := id rfl
theorem sX9_key_53 (lv : zL) (st : List Value) (w : zW) (nx K : Nat → zL → List Value → zW → Prop) (Rt : Option Value → zW → Prop) : z_st1 (tX9_key 53) 53 lv st w nx K Rt = (nx 55 lv (.int (-5 : Int32) :: st) w) := id rfl
theorem sX9_key_55 (lv : zL) (st : List Value) (w : zW) (nx K : Nat → zL → List Value → zW → Prop) (Rt : Option Value → zW → Prop) : z_st1 (tX9_key 55) 55 lv st w nx K Rt = (z_e1 st (fun x => Rt (some (.int x)) w)) := id rfl
theorem sX9_key_56 (lv : zL) (st : List Value) (w : zW) (nx K : Nat → zL → List Value → zW → Prop) (Rt : Option Value → zW → Prop) : z_st1 (tX9_key 56) 56 lv st w nx K Rt = (z_la lv 0 (fun x => nx 57 lv (.ref x :: st) w)) := id rfl
theorem sX9_key_57 (lv : zL) (st : List Value) (w : zW) (nx K : Nat → zL → List Value → zW → Prop) (Rt : Option Value → zW → Prop) : z_st1 (tX9_key 57) 57 lv st w nx K Rt = (z_1a st (fun x r => z_ob w x 10 (fun fs => z_fl fs 8 (fun u => nx 60 lv (u :: r) w)))) := id rfl
theorem sX9_key_60 (lv : zL) (st : List Value) (w : zW) (nx K : Nat → zL → List Value → zW → Prop) (Rt : Option Value → zW → Prop) : z_st1 (tX9_key 60) 60 lv st w nx K Rt = (nx 62 lv (.int (8 : Int32) :: st) w) := id rfl
theorem sX9_key_62 (lv : zL) (st : List Value) (w : zW) (nx K : Nat → zL → List Value → zW → Prop) (Rt : Option Value → zW → Prop) : z_st1 (tX9_key 62) 62 lv st w nx K Rt = (z_2i st (fun x y r => (¬ x = y → nx 67 lv r w) ∧ (x = y → nx 65 lv r w))) := id rfl
theorem sX9_key_65 (lv : zL) (st : List Value) (w : zW) (nx K : Nat → zL → List Value → zW → Prop) (Rt : Option Value → zW → Prop) : z_st1 (tX9_key 65) 65 lv st w nx K Rt = (nx 66 lv (.int (-1 : Int32) :: st) w) := id rfl
theorem sX9_key_66 (lv : zL) (st : List Value) (w : zW) (nx K : Nat → zL → List Value → zW → Prop) (Rt : Option Value → zW → Prop) : z_st1 (tX9_key 66) 66 lv st w nx K Rt = (z_e1 st (fun x => Rt (some (.int x)) w)) := id rfl
theorem sX9_key_67 (lv : zL) (st : List Value) (w : zW) (nx K : Nat → zL → List Value → zW → Prop) (Rt : Option Value → zW → Prop) : z_st1 (tX9_key 67) 67 lv st w nx K Rt = (z_la lv 0 (fun x => nx 68 lv (.ref x :: st) w)) := id rfl
theorem sX9_key_68 (lv : zL) (st : List Value) (w : zW) (nx K : Nat → zL → List Value → zW → Prop) (Rt : Option Value → zW → Prop) : z_st1 (tX9_key 68) 68 lv st w nx K Rt = (z_1a st (fun x r => z_ob w x 10 (fun fs => z_fl fs 4 (fun u => nx 71 lv (u :: r) w)))) := id rfl
theorem sX9_key_71 (lv : zL) (st : List Value) (w : zW) (nx K : Nat → zL → List Value → zW → Prop) (Rt : Option Value → zW → Prop) : z_st1 (tX9_key 71) 71 lv st w nx K Rt = (z_la lv 0 (fun x => nx 72 lv (.ref x :: st) w)) := id rfl
theorem sX9_key_72 (lv : zL) (st : List Value) (w : zW) (nx K : Nat → zL → List Value → zW → Prop) (Rt : Option Value → zW → Prop) : z_st1 (tX9_key 72) 72 lv st w nx K Rt = (z_1a st (fun x r => z_ob w x 10 (fun fs => z_fl fs 8 (fun u => nx 75 lv (u :: r) w)))) := id rfl
theorem sX9_key_75 (lv : zL) (st : List Value) (w : zW) (nx K : Nat → zL → List Value → zW → Prop) (Rt : Option Value → zW → Prop) : z_st1 (tX9_key 75) 75 lv st w nx K Rt = (z_li lv 1 (fun x => nx 76 lv (.int x :: st) w)) := id rfl
theorem sX9_key_76 (lv : zL) (st : List Value) (w : zW) (nx K : Nat → zL → List Value → zW → Prop) (Rt : Option Value → zW → Prop) : z_st1 (tX9_key 76) 76 lv st w nx K Rt = (z_iia st (fun x i u r => z_ar0 w x (fun m g => vp_in i m ∧ nx 77 lv r (z_up w x (.inl (0, m, .inl (upd g i.toNatClampNeg u))))))) := id rfl
theorem sX9_key_77 (lv : zL) (st : List Value) (w : zW) (nx K : Nat → zL → List Value → zW → Prop) (Rt : Option Value → zW → Prop) : z_st1 (tX9_key 77) 77 lv st w nx K Rt = (z_la lv 0 (fun x => nx 78 lv (.ref x :: st) w)) := id rfl
theorem sX9_key_78 (lv : zL) (st : List Value) (w : zW) (nx K : Nat → zL → List Value → zW → Prop) (Rt : Option Value → zW → Prop) : z_st1 (tX9_key 78) 78 lv st w nx K Rt = (z_1a st (fun x r => z_ob w x 10 (fun fs => z_fl fs 5 (fun u => nx 81 lv (u :: r) w)))) := id rfl
theorem sX9_key_81 (lv : zL) (st : List Value) (w : zW) (nx K : Nat → zL → List Value → zW → Prop) (Rt : Option Value → zW → Prop) : z_st1 (tX9_key 81) 81 lv st w nx K Rt = (z_la lv 0 (fun x => nx 82 lv (.ref x :: st) w)) := id rfl
theorem sX9_key_82 (lv : zL) (st : List Value) (w : zW) (nx K : Nat → zL → List Value → zW → Prop) (Rt : Option Value → zW → Prop) : z_st1 (tX9_key 82) 82 lv st w nx K Rt = (z_1a st (fun x r => z_ob w x 10 (fun fs => z_fl fs 8 (fun u => nx 85 lv (u :: r) w)))) := id rfl
theorem sX9_key_85 (lv : zL) (st : List Value) (w : zW) (nx K : Nat → zL → List Value → zW → Prop) (Rt : Option Value → zW → Prop) : z_st1 (tX9_key 85) 85 lv st w nx K Rt = (z_li lv 2 (fun x => nx 86 lv (.int x :: st) w)) := id rfl
theorem sX9_key_86 (lv : zL) (st : List Value) (w : zW) (nx K : Nat → zL → List Value → zW → Prop) (Rt : Option Value → zW → Prop) : z_st1 (tX9_key 86) 86 lv st w nx K Rt = (z_iia st (fun x i u r => z_ar0 w x (fun m g => vp_in i m ∧ nx 87 lv r (z_up w x (.inl (0, m, .inl (upd g i.toNatClampNeg u))))))) := id rfl
theorem sX9_key_87 (lv : zL) (st : List Value) (w : zW) (nx K : Nat → zL → List Value → zW → Prop) (Rt : Option Value → zW → Prop) : z_st1 (tX9_key 87) 87 lv st w nx K Rt = (z_la lv 0 (fun x => nx 88 lv (.ref x :: st) w)) := id rfl
theorem sX9_key_88 (lv : zL) (st : List Value) (w : zW) (nx K : Nat → zL → List Value → zW → Prop) (Rt : Option Value → zW → Prop) : z_st1 (tX9_key 88) 88 lv st w nx K Rt = (z_1a st (fun x r => z_ob w x 10 (fun fs => z_fl fs 6 (fun u => nx 91 lv (u :: r) w)))) := id rfl
theorem sX9_key_91 (lv : zL) (st : List Value) (w : zW) (nx K : Nat → zL → List Value → zW → Prop) (Rt : Option Value → zW → Prop) : z_st1 (tX9_key 91) 91 lv st w nx K Rt = (z_la lv 0 (fun x => nx 92 lv (.ref x :: st) w)) := id rfl
theorem sX9_key_92 (lv : zL) (st : List Value) (w : zW) (nx K : Nat → zL → List Value → zW → Prop) (Rt : Option Value → zW → Prop) : z_st1 (tX9_key 92) 92 lv st w nx K Rt = (z_1a st (fun x r => z_ob w x 10 (fun fs => z_fl fs 8 (fun u => nx 95 lv (u :: r) w)))) := id rfl
theorem sX9_key_95 (lv : zL) (st : List Value) (w : zW) (nx K : Nat → zL → List Value → zW → Prop) (Rt : Option Value → zW → Prop) : z_st1 (tX9_key 95) 95 lv st w nx K Rt = (z_li lv 3 (fun x => nx 96 lv (.int x :: st) w)) := id rfl
theorem sX9_key_96 (lv : zL) (st : List Value) (w : zW) (nx K : Nat → zL → List Value → zW → Prop) (Rt : Option Value → zW → Prop) : z_st1 (tX9_key 96) 96 lv st w nx K Rt = (z_iia st (fun x i u r => z_ar0 w x (fun m g => vp_in i m ∧ nx 97 lv r (z_up w x (.inl (0, m, .inl (upd g i.toNatClampNeg u))))))) := id rfl
theorem sX9_key_97 (lv : zL) (st : List Value) (w : zW) (nx K : Nat → zL → List Value → zW → Prop) (Rt : Option Value → zW → Prop) : z_st1 (tX9_key 97) 97 lv st w nx K Rt = (z_la lv 0 (fun x => nx 98 lv (.ref x :: st) w)) := id rfl
theorem sX9_key_98 (lv : zL) (st : List Value) (w : zW) (nx K : Nat → zL → List Value → zW → Prop) (Rt : Option Value → zW → Prop) : z_st1 (tX9_key 98) 98 lv st w nx K Rt = (z_1a st (fun x r => z_ob w x 10 (fun fs => z_fl fs 7 (fun u => nx 101 lv (u :: r) w)))) := id rfl
theorem sX9_key_101 (lv : zL) (st : List Value) (w : zW) (nx K : Nat → zL → List Value → zW → Prop) (Rt : Option Value → zW → Prop) : z_st1 (tX9_key 101) 101 lv st w nx K Rt = (z_la lv 0 (fun x => nx 102 lv (.ref x :: st) w)) := id rfl
theorem sX9_key_102 (lv : zL) (st : List Value) (w : zW) (nx K : Nat → zL → List Value → zW → Prop) (Rt : Option Value → zW → Prop) : z_st1 (tX9_key 102) 102 lv st w nx K Rt = (z_1a st (fun x r => z_ob w x 10 (fun fs => z_fl fs 8 (fun u => nx 105 lv (u :: r) w)))) := id rfl
theorem sX9_key_105 (lv : zL) (st : List Value) (w : zW) (nx K : Nat → zL → List Value → zW → Prop) (Rt : Option Value → zW → Prop) : z_st1 (tX9_key 105) 105 lv st w nx K Rt = (z_li lv 4 (fun x => nx 107 lv (.int x :: st) w)) := id rfl
theorem sX9_key_107 (lv : zL) (st : List Value) (w : zW) (nx K : Nat → zL → List Value → zW → Prop) (Rt : Option Value → zW → Prop) : z_st1 (tX9_key 107) 107 lv st w nx K Rt = (z_iia st (fun x i u r => z_ar1 w x (fun m g => vp_in i m ∧ nx 108 lv r (z_up w x (.inl (1, m, .inl (upd g i.toNatClampNeg (vp_nar .boolean u)))))))) := id rfl
theorem sX9_key_108 (lv : zL) (st : List Value) (w : zW) (nx K : Nat → zL → List Value → zW → Prop) (Rt : Option Value → zW → Prop) : z_st1 (tX9_key 108) 108 lv st w nx K Rt = (z_la lv 0 (fun x => nx 109 lv (.ref x :: st) w)) := id rfl
theorem sX9_key_109 (lv : zL) (st : List Value) (w : zW) (nx K : Nat → zL → List Value → zW → Prop) (Rt : Option Value → zW → Prop) : z_st1 (tX9_key 109) 109 lv st w nx K Rt = (z_d1 st (fun x r => nx 110 lv (x :: x :: r) w)) := id rfl
theorem sX9_key_110 (lv : zL) (st : List Value) (w : zW) (nx K : Nat → zL → List Value → zW → Prop) (Rt : Option Value → zW → Prop) : z_st1 (tX9_key 110) 110 lv st w nx K Rt = (z_1a st (fun x r => z_ob w x 10 (fun fs => z_fl fs 8 (fun u => nx 113 lv (u :: r) w)))) := id rfl
theorem sX9_key_113 (lv : zL) (st : List Value) (w : zW) (nx K : Nat → zL → List Value → zW → Prop) (Rt : Option Value → zW → Prop) : z_st1 (tX9_key 113) 113 lv st w nx K Rt = (nx 114 lv (.int (1 : Int32) :: st) w) := id rfl
theorem sX9_key_114 (lv : zL) (st : List Value) (w : zW) (nx K : Nat → zL → List Value → zW → Prop) (Rt : Option Value → zW → Prop) : z_st1 (tX9_key 114) 114 lv st w nx K Rt = (z_2i st (fun x y r => nx 115 lv (.int (x + y) :: r) w)) := id rfl
theorem sX9_key_115 (lv : zL) (st : List Value) (w : zW) (nx K : Nat → zL → List Value → zW → Prop) (Rt : Option Value → zW → Prop) : z_st1 (tX9_key 115) 115 lv st w nx K Rt = (z_ia st (fun x i r => z_ob w x 10 (fun fs => 8 < fs.length ∧ nx 118 lv r (z_up w x (.inr (10, fs.set 8 (.int i))))))) := id rfl
theorem sX9_key_118 (lv : zL) (st : List Value) (w : zW) (nx K : Nat → zL → List Value → zW → Prop) (Rt : Option Value → zW → Prop) : z_st1 (tX9_key 118) 118 lv st w nx K Rt = (z_la lv 0 (fun x => nx 119 lv (.ref x :: st) w)) := id rfl
theorem sX9_key_119 (lv : zL) (st : List Value) (w : zW) (nx K : Nat → zL → List Value → zW → Prop) (Rt : Option Value → zW → Prop) : z_st1 (tX9_key 119) 119 lv st w nx K Rt = (z_1a st (fun x r => z_ob w x 10 (fun fs => z_fl fs 8 (fun u => nx 122 lv (u :: r) w)))) := id rfl
theorem sX9_key_122 (lv : zL) (st : List Value) (w : zW) (nx K : Nat → zL → List Value → zW → Prop) (Rt : Option Value → zW → Prop) : z_st1 (tX9_key 122) 122 lv st w nx K Rt = (z_e1 st (fun x => Rt (some (.int x)) w)) := id rfl
theorem sX9_key_37 (lv : zL) (st : List Value) (w : zW) (nx K : Nat → zL → List Value → zW → Prop) (Rt : Option Value → zW → Prop) : z_st1 (tX9_key 37) 37 lv st w nx K Rt = K 37 lv st w := id rfl
theorem dX9_key_37 : decode cX9_key 37 = .ok (.invokestatic 88, 3) := by decide +kernel

def tmX9_record (pc : Nat) : zI := match pc with
  | 0 => (1, 0, 0, 1, 0)
  | 1 => (6, 0, 0, 2, 0)
  | 2 => (47, 10, 0, 5, 0)
  | 5 => (1, 0, 0, 6, 0)
  | 6 => (46, 10, 11, 9, 0)
  | 9 => (6, 0, 0, 12, 400)
  | 12 => (41, 17, 0, 15, 0)
  | 15 => (6, 0, 0, 16, (-1))
  | 16 => (53, 0, 0, 17, 0)
  | 17 => (1, 0, 0, 18, 0)
  | 18 => (29, 0, 0, 19, 0)
  | 19 => (46, 10, 11, 22, 0)
  | 22 => (6, 0, 0, 23, 1)
  | 23 => (8, 0, 0, 24, 0)
  | 24 => (47, 10, 11, 27, 0)
  | 27 => (1, 0, 0, 28, 0)
  | 28 => (46, 10, 11, 31, 0)
  | 31 => (53, 0, 0, 32, 0)
  | _ => (99, 0, 0, 0, 0)
def tX9_record (pc : Nat) : zI := if pc < 32 then tmX9_record pc else (99, 0, 0, 0, 0)
theorem tkX9_record : z_tab RX9 wsX9_record 1 (some .int) cX9_record 32 tX9_record := z_tab_of (tm := tmX9_record) (by decide +kernel)
theorem sX9_record_0 (lv : zL) (st : List Value) (w : zW) (nx K : Nat → zL → List Value → zW → Prop) (Rt : Option Value → zW → Prop) : z_st1 (tX9_record 0) 0 lv st w nx K Rt = (z_la lv 0 (fun x => nx 1 lv (.ref x :: st) w)) := id rfl
theorem sX9_record_1 (lv : zL) (st : List Value) (w : zW) (nx K : Nat → zL → List Value → zW → Prop) (Rt : Option Value → zW → Prop) : z_st1 (tX9_record 1) 1 lv st w nx K Rt = (nx 2 lv (.int (0 : Int32) :: st) w) := id rfl
theorem sX9_record_2 (lv : zL) (st : List Value) (w : zW) (nx K : Nat → zL → List Value → zW → Prop) (Rt : Option Value → zW → Prop) : z_st1 (tX9_record 2) 2 lv st w nx K Rt = (z_ia st (fun x i r => z_ob w x 10 (fun fs => 0 < fs.length ∧ nx 5 lv r (z_up w x (.inr (10, fs.set 0 (.int i))))))) := id rfl
theorem sX9_record_5 (lv : zL) (st : List Value) (w : zW) (nx K : Nat → zL → List Value → zW → Prop) (Rt : Option Value → zW → Prop) : z_st1 (tX9_record 5) 5 lv st w nx K Rt = (z_la lv 0 (fun x => nx 6 lv (.ref x :: st) w)) := id rfl
theorem sX9_record_6 (lv : zL) (st : List Value) (w : zW) (nx K : Nat → zL → List Value → zW → Prop) (Rt : Option Value → zW → Prop) : z_st1 (tX9_record 6) 6 lv st w nx K Rt = (z_1a st (fun x r => z_ob w x 10 (fun fs => z_fl fs 11 (fun u => nx 9 lv (u :: r) w)))) := id rfl
theorem sX9_record_9 (lv : zL) (st : List Value) (w : zW) (nx K : Nat → zL → List Value → zW → Prop) (Rt : Option Value → zW → Prop) : z_st1 (tX9_record 9) 9 lv st w nx K Rt = (nx 12 lv (.int (400 : Int32) :: st) w) := id rfl
theorem sX9_record_12 (lv : zL) (st : List Value) (w : zW) (nx K : Nat → zL → List Value → zW → Prop) (Rt : Option Value → zW → Prop) : z_st1 (tX9_record 12) 12 lv st w nx K Rt = (z_2i st (fun x y r => (¬ x = y → nx 17 lv r w) ∧ (x = y → nx 15 lv r w))) := id rfl
theorem sX9_record_15 (lv : zL) (st : List Value) (w : zW) (nx K : Nat → zL → List Value → zW → Prop) (Rt : Option Value → zW → Prop) : z_st1 (tX9_record 15) 15 lv st w nx K Rt = (nx 16 lv (.int (-1 : Int32) :: st) w) := id rfl
theorem sX9_record_16 (lv : zL) (st : List Value) (w : zW) (nx K : Nat → zL → List Value → zW → Prop) (Rt : Option Value → zW → Prop) : z_st1 (tX9_record 16) 16 lv st w nx K Rt = (z_e1 st (fun x => Rt (some (.int x)) w)) := id rfl
theorem sX9_record_17 (lv : zL) (st : List Value) (w : zW) (nx K : Nat → zL → List Value → zW → Prop) (Rt : Option Value → zW → Prop) : z_st1 (tX9_record 17) 17 lv st w nx K Rt = (z_la lv 0 (fun x => nx 18 lv (.ref x :: st) w)) := id rfl
theorem sX9_record_18 (lv : zL) (st : List Value) (w : zW) (nx K : Nat → zL → List Value → zW → Prop) (Rt : Option Value → zW → Prop) : z_st1 (tX9_record 18) 18 lv st w nx K Rt = (z_d1 st (fun x r => nx 19 lv (x :: x :: r) w)) := id rfl
theorem sX9_record_19 (lv : zL) (st : List Value) (w : zW) (nx K : Nat → zL → List Value → zW → Prop) (Rt : Option Value → zW → Prop) : z_st1 (tX9_record 19) 19 lv st w nx K Rt = (z_1a st (fun x r => z_ob w x 10 (fun fs => z_fl fs 11 (fun u => nx 22 lv (u :: r) w)))) := id rfl
theorem sX9_record_22 (lv : zL) (st : List Value) (w : zW) (nx K : Nat → zL → List Value → zW → Prop) (Rt : Option Value → zW → Prop) : z_st1 (tX9_record 22) 22 lv st w nx K Rt = (nx 23 lv (.int (1 : Int32) :: st) w) := id rfl
theorem sX9_record_23 (lv : zL) (st : List Value) (w : zW) (nx K : Nat → zL → List Value → zW → Prop) (Rt : Option Value → zW → Prop) : z_st1 (tX9_record 23) 23 lv st w nx K Rt = (z_2i st (fun x y r => nx 24 lv (.int (x + y) :: r) w)) := id rfl
theorem sX9_record_24 (lv : zL) (st : List Value) (w : zW) (nx K : Nat → zL → List Value → zW → Prop) (Rt : Option Value → zW → Prop) : z_st1 (tX9_record 24) 24 lv st w nx K Rt = (z_ia st (fun x i r => z_ob w x 10 (fun fs => 11 < fs.length ∧ nx 27 lv r (z_up w x (.inr (10, fs.set 11 (.int i))))))) := id rfl
theorem sX9_record_27 (lv : zL) (st : List Value) (w : zW) (nx K : Nat → zL → List Value → zW → Prop) (Rt : Option Value → zW → Prop) : z_st1 (tX9_record 27) 27 lv st w nx K Rt = (z_la lv 0 (fun x => nx 28 lv (.ref x :: st) w)) := id rfl
theorem sX9_record_28 (lv : zL) (st : List Value) (w : zW) (nx K : Nat → zL → List Value → zW → Prop) (Rt : Option Value → zW → Prop) : z_st1 (tX9_record 28) 28 lv st w nx K Rt = (z_1a st (fun x r => z_ob w x 10 (fun fs => z_fl fs 11 (fun u => nx 31 lv (u :: r) w)))) := id rfl
theorem sX9_record_31 (lv : zL) (st : List Value) (w : zW) (nx K : Nat → zL → List Value → zW → Prop) (Rt : Option Value → zW → Prop) : z_st1 (tX9_record 31) 31 lv st w nx K Rt = (z_e1 st (fun x => Rt (some (.int x)) w)) := id rfl

def tmX9_isRecord (pc : Nat) : zI := match pc with
  | 0 => (0, 1, 0, 1, 0)
  | 1 => (6, 0, 0, 2, 1)
  | 2 => (42, 17, 0, 5, 0)
  | 5 => (0, 1, 0, 6, 0)
  | 6 => (1, 0, 0, 7, 0)
  | 7 => (46, 10, 11, 10, 0)
  | 10 => (44, 17, 0, 13, 0)
  | 13 => (6, 0, 0, 14, 1)
  | 14 => (33, 18, 0, 17, 0)
  | 17 => (6, 0, 0, 18, 0)
  | 18 => (58, 0, 0, 19, 0)
  | _ => (99, 0, 0, 0, 0)
def tX9_isRecord (pc : Nat) : zI := if pc < 19 then tmX9_isRecord pc else (99, 0, 0, 0, 0)
theorem tkX9_isRecord : z_tab RX9 wsX9_isRecord 2 (some .boolean) cX9_isRecord 19 tX9_isRecord := z_tab_of (tm := tmX9_isRecord) (by decide +kernel)
theorem sX9_isRecord_0 (lv : zL) (st : List Value) (w : zW) (nx K : Nat → zL → List Value → zW → Prop) (Rt : Option Value → zW → Prop) : z_st1 (tX9_isRecord 0) 0 lv st w nx K Rt = (z_li lv 1 (fun x => nx 1 lv (.int x :: st) w)) := id rfl
theorem sX9_isRecord_1 (lv : zL) (st : List Value) (w : zW) (nx K : Nat → zL → List Value → zW → Prop) (Rt : Option Value → zW → Prop) : z_st1 (tX9_isRecord 1) 1 lv st w nx K Rt = (nx 2 lv (.int (1 : Int32) :: st) w) := id rfl
theorem sX9_isRecord_2 (lv : zL) (st : List Value) (w : zW) (nx K : Nat → zL → List Value → zW → Prop) (Rt : Option Value → zW → Prop) : z_st1 (tX9_isRecord 2) 2 lv st w nx K Rt = (z_2i st (fun x y r => (x < y → nx 17 lv r w) ∧ (¬ x < y → nx 5 lv r w))) := id rfl
theorem sX9_isRecord_5 (lv : zL) (st : List Value) (w : zW) (nx K : Nat → zL → List Value → zW → Prop) (Rt : Option Value → zW → Prop) : z_st1 (tX9_isRecord 5) 5 lv st w nx K Rt = (z_li lv 1 (fun x => nx 6 lv (.int x :: st) w)) := id rfl
theorem sX9_isRecord_6 (lv : zL) (st : List Value) (w : zW) (nx K : Nat → zL → List Value → zW → Prop) (Rt : Option Value → zW → Prop) : z_st1 (tX9_isRecord 6) 6 lv st w nx K Rt = (z_la lv 0 (fun x => nx 7 lv (.ref x :: st) w)) := id rfl
theorem sX9_isRecord_7 (lv : zL) (st : List Value) (w : zW) (nx K : Nat → zL → List Value → zW → Prop) (Rt : Option Value → zW → Prop) : z_st1 (tX9_isRecord 7) 7 lv st w nx K Rt = (z_1a st (fun x r => z_ob w x 10 (fun fs => z_fl fs 11 (fun u => nx 10 lv (u :: r) w)))) := id rfl
theorem sX9_isRecord_10 (lv : zL) (st : List Value) (w : zW) (nx K : Nat → zL → List Value → zW → Prop) (Rt : Option Value → zW → Prop) : z_st1 (tX9_isRecord 10) 10 lv st w nx K Rt = (z_2i st (fun x y r => (y < x → nx 17 lv r w) ∧ (¬ y < x → nx 13 lv r w))) := id rfl
theorem sX9_isRecord_13 (lv : zL) (st : List Value) (w : zW) (nx K : Nat → zL → List Value → zW → Prop) (Rt : Option Value → zW → Prop) : z_st1 (tX9_isRecord 13) 13 lv st w nx K Rt = (nx 14 lv (.int (1 : Int32) :: st) w) := id rfl
theorem sX9_isRecord_14 (lv : zL) (st : List Value) (w : zW) (nx K : Nat → zL → List Value → zW → Prop) (Rt : Option Value → zW → Prop) : z_st1 (tX9_isRecord 14) 14 lv st w nx K Rt = (nx 18 lv st w) := id rfl
theorem sX9_isRecord_17 (lv : zL) (st : List Value) (w : zW) (nx K : Nat → zL → List Value → zW → Prop) (Rt : Option Value → zW → Prop) : z_st1 (tX9_isRecord 17) 17 lv st w nx K Rt = (nx 18 lv (.int (0 : Int32) :: st) w) := id rfl
theorem sX9_isRecord_18 (lv : zL) (st : List Value) (w : zW) (nx K : Nat → zL → List Value → zW → Prop) (Rt : Option Value → zW → Prop) : z_st1 (tX9_isRecord 18) 18 lv st w nx K Rt = (z_e1 st (fun x => (x = 0 ∨ x = 1) ∧ Rt (some (.int x)) w)) := id rfl

def tmX9_octet (pc : Nat) : zI := match pc with
  | 0 => (1, 0, 0, 1, 0)
  | 1 => (6, 0, 0, 2, 0)
  | 2 => (47, 10, 0, 5, 0)
  | 5 => (1, 0, 0, 6, 0)
  | 6 => (0, 1, 0, 7, 0)
  | 10 => (35, 16, 0, 13, 0)
  | 13 => (6, 0, 0, 15, (-2))
  | 15 => (53, 0, 0, 16, 0)
  | 16 => (0, 2, 0, 17, 0)
  | 17 => (36, 26, 0, 20, 0)
  | 20 => (0, 2, 0, 21, 0)
  | 21 => (6, 0, 0, 23, 32)
  | 23 => (42, 29, 0, 26, 0)
  | 26 => (6, 0, 0, 28, (-4))
  | 28 => (53, 0, 0, 29, 0)
  | 29 => (1, 0, 0, 30, 0)
  | 30 => (46, 10, 9, 33, 0)
  | 33 => (6, 0, 0, 35, 32)
  | 35 => (0, 1, 0, 36, 0)
  | 36 => (6, 0, 0, 37, 1)
  | 37 => (9, 0, 0, 38, 0)
  | 38 => (10, 0, 0, 39, 0)
  | 39 => (0, 2, 0, 40, 0)
  | 40 => (8, 0, 0, 41, 0)
  | 41 => (0, 3, 0, 42, 0)
  | 42 => (6, 0, 0, 45, 255)
  | 45 => (11, 0, 0, 46, 0)
  | 46 => (49, 0, 0, 47, 0)
  | 47 => (0, 2, 0, 48, 0)
  | 48 => (1, 0, 0, 49, 0)
  | 49 => (46, 10, 10, 52, 0)
  | 52 => (0, 1, 0, 53, 0)
  | 53 => (6, 0, 0, 54, 1)
  | 54 => (9, 0, 0, 55, 0)
  | 55 => (48, 0, 0, 56, 0)
  | 56 => (42, 70, 0, 59, 0)
  | 59 => (1, 0, 0, 60, 0)
  | 60 => (46, 10, 10, 63, 0)
  | 63 => (0, 1, 0, 64, 0)
  | 64 => (6, 0, 0, 65, 1)
  | 65 => (9, 0, 0, 66, 0)
  | 66 => (0, 2, 0, 67, 0)
  | 67 => (6, 0, 0, 68, 1)
  | 68 => (8, 0, 0, 69, 0)
  | 69 => (49, 0, 0, 70, 0)
  | 70 => (1, 0, 0, 71, 0)
  | 71 => (46, 10, 10, 74, 0)
  | 74 => (0, 1, 0, 75, 0)
  | 75 => (6, 0, 0, 76, 1)
  | 76 => (9, 0, 0, 77, 0)
  | 77 => (48, 0, 0, 78, 0)
  | 78 => (53, 0, 0, 79, 0)
  | _ => (99, 0, 0, 0, 0)
def tX9_octet (pc : Nat) : zI := if pc < 79 then tmX9_octet pc else (99, 0, 0, 0, 0)
theorem tkX9_octet : z_tab RX9 wsX9_octet 4 (some .int) cX9_octet 79 tX9_octet := z_tab_of (tm := tmX9_octet) (by decide +kernel)
theorem sX9_octet_0 (lv : zL) (st : List Value) (w : zW) (nx K : Nat → zL → List Value → zW → Prop) (Rt : Option Value → zW → Prop) : z_st1 (tX9_octet 0) 0 lv st w nx K Rt = (z_la lv 0 (fun x => nx 1 lv (.ref x :: st) w)) := id rfl
theorem sX9_octet_1 (lv : zL) (st : List Value) (w : zW) (nx K : Nat → zL → List Value → zW → Prop) (Rt : Option Value → zW → Prop) : z_st1 (tX9_octet 1) 1 lv st w nx K Rt = (nx 2 lv (.int (0 : Int32) :: st) w) := id rfl
theorem sX9_octet_2 (lv : zL) (st : List Value) (w : zW) (nx K : Nat → zL → List Value → zW → Prop) (Rt : Option Value → zW → Prop) : z_st1 (tX9_octet 2) 2 lv st w nx K Rt = (z_ia st (fun x i r => z_ob w x 10 (fun fs => 0 < fs.length ∧ nx 5 lv r (z_up w x (.inr (10, fs.set 0 (.int i))))))) := id rfl
theorem sX9_octet_5 (lv : zL) (st : List Value) (w : zW) (nx K : Nat → zL → List Value → zW → Prop) (Rt : Option Value → zW → Prop) : z_st1 (tX9_octet 5) 5 lv st w nx K Rt = (z_la lv 0 (fun x => nx 6 lv (.ref x :: st) w)) := id rfl
theorem sX9_octet_6 (lv : zL) (st : List Value) (w : zW) (nx K : Nat → zL → List Value → zW → Prop) (Rt : Option Value → zW → Prop) : z_st1 (tX9_octet 6) 6 lv st w nx K Rt = (z_li lv 1 (fun x => nx 7 lv (.int x :: st) w)) := id rfl
theorem sX9_octet_10 (lv : zL) (st : List Value) (w : zW) (nx K : Nat → zL → List Value → zW → Prop) (Rt : Option Value → zW → Prop) : z_st1 (tX9_octet 10) 10 lv st w nx K Rt = (z_1i st (fun x r => (¬ x = 0 → nx 16 lv r w) ∧ (x = 0 → nx 13 lv r w))) := id rfl
theorem sX9_octet_13 (lv : zL) (st : List Value) (w : zW) (nx K : Nat → zL → List Value → zW → Prop) (Rt : Option Value → zW → Prop) : z_st1 (tX9_octet 13) 13 lv st w nx K Rt = (nx 15 lv (.int (-2 : Int32) :: st) w) := id rfl
theorem sX9_octet_15 (lv : zL) (st : List Value) (w : zW) (nx K : Nat → zL → List Value → zW → Prop) (Rt : Option Value → zW → Prop) : z_st1 (tX9_octet 15) 15 lv st w nx K Rt = (z_e1 st (fun x => Rt (some (.int x)) w)) := id rfl
theorem sX9_octet_16 (lv : zL) (st : List Value) (w : zW) (nx K : Nat → zL → List Value → zW → Prop) (Rt : Option Value → zW → Prop) : z_st1 (tX9_octet 16) 16 lv st w nx K Rt = (z_li lv 2 (fun x => nx 17 lv (.int x :: st) w)) := id rfl
theorem sX9_octet_17 (lv : zL) (st : List Value) (w : zW) (nx K : Nat → zL → List Value → zW → Prop) (Rt : Option Value → zW → Prop) : z_st1 (tX9_octet 17) 17 lv st w nx K Rt = (z_1i st (fun x r => (x < 0 → nx 26 lv r w) ∧ (¬ x < 0 → nx 20 lv r w))) := id rfl
theorem sX9_octet_20 (lv : zL) (st : List Value) (w : zW) (nx K : Nat → zL → List Value → zW → Prop) (Rt : Option Value → zW → Prop) : z_st1 (tX9_octet 20) 20 lv st w nx K Rt = (z_li lv 2 (fun x => nx 21 lv (.int x :: st) w)) := id rfl
theorem sX9_octet_21 (lv : zL) (st : List Value) (w : zW) (nx K : Nat → zL → List Value → zW → Prop) (Rt : Option Value → zW → Prop) : z_st1 (tX9_octet 21) 21 lv st w nx K Rt = (nx 23 lv (.int (32 : Int32) :: st) w) := id rfl
theorem sX9_octet_23 (lv : zL) (st : List Value) (w : zW) (nx K : Nat → zL → List Value → zW → Prop) (Rt : Option Value → zW → Prop) : z_st1 (tX9_octet 23) 23 lv st w nx K Rt = (z_2i st (fun x y r => (x < y → nx 29 lv r w) ∧ (¬ x < y → nx 26 lv r w))) := id rfl
theorem sX9_octet_26 (lv : zL) (st : List Value) (w : zW) (nx K : Nat → zL → List Value → zW → Prop) (Rt : Option Value → zW → Prop) : z_st1 (tX9_octet 26) 26 lv st w nx K Rt = (nx 28 lv (.int (-4 : Int32) :: st) w) := id rfl
theorem sX9_octet_28 (lv : zL) (st : List Value) (w : zW) (nx K : Nat → zL → List Value → zW → Prop) (Rt : Option Value → zW → Prop) : z_st1 (tX9_octet 28) 28 lv st w nx K Rt = (z_e1 st (fun x => Rt (some (.int x)) w)) := id rfl
theorem sX9_octet_29 (lv : zL) (st : List Value) (w : zW) (nx K : Nat → zL → List Value → zW → Prop) (Rt : Option Value → zW → Prop) : z_st1 (tX9_octet 29) 29 lv st w nx K Rt = (z_la lv 0 (fun x => nx 30 lv (.ref x :: st) w)) := id rfl
theorem sX9_octet_30 (lv : zL) (st : List Value) (w : zW) (nx K : Nat → zL → List Value → zW → Prop) (Rt : Option Value → zW → Prop) : z_st1 (tX9_octet 30) 30 lv st w nx K Rt = (z_1a st (fun x r => z_ob w x 10 (fun fs => z_fl fs 9 (fun u => nx 33 lv (u :: r) w)))) := id rfl
theorem sX9_octet_33 (lv : zL) (st : List Value) (w : zW) (nx K : Nat → zL → List Value → zW → Prop) (Rt : Option Value → zW → Prop) : z_st1 (tX9_octet 33) 33 lv st w nx K Rt = (nx 35 lv (.int (32 : Int32) :: st) w) := id rfl
theorem sX9_octet_35 (lv : zL) (st : List Value) (w : zW) (nx K : Nat → zL → List Value → zW → Prop) (Rt : Option Value → zW → Prop) : z_st1 (tX9_octet 35) 35 lv st w nx K Rt = (z_li lv 1 (fun x => nx 36 lv (.int x :: st) w)) := id rfl
theorem sX9_octet_36 (lv : zL) (st : List Value) (w : zW) (nx K : Nat → zL → List Value → zW → Prop) (Rt : Option Value → zW → Prop) : z_st1 (tX9_octet 36) 36 lv st w nx K Rt = (nx 37 lv (.int (1 : Int32) :: st) w) := id rfl
theorem sX9_octet_37 (lv : zL) (st : List Value) (w : zW) (nx K : Nat → zL → List Value → zW → Prop) (Rt : Option Value → zW → Prop) : z_st1 (tX9_octet 37) 37 lv st w nx K Rt = (z_2i st (fun x y r => nx 38 lv (.int (x - y) :: r) w)) := id rfl
theorem sX9_octet_38 (lv : zL) (st : List Value) (w : zW) (nx K : Nat → zL → List Value → zW → Prop) (Rt : Option Value → zW → Prop) : z_st1 (tX9_octet 38) 38 lv st w nx K Rt = (z_2i st (fun x y r => nx 39 lv (.int (x * y) :: r) w)) := id rfl
theorem sX9_octet_39 (lv : zL) (st : List Value) (w : zW) (nx K : Nat → zL → List Value → zW → Prop) (Rt : Option Value → zW → Prop) : z_st1 (tX9_octet 39) 39 lv st w nx K Rt = (z_li lv 2 (fun x => nx 40 lv (.int x :: st) w)) := id rfl
theorem sX9_octet_40 (lv : zL) (st : List Value) (w : zW) (nx K : Nat → zL → List Value → zW → Prop) (Rt : Option Value → zW → Prop) : z_st1 (tX9_octet 40) 40 lv st w nx K Rt = (z_2i st (fun x y r => nx 41 lv (.int (x + y) :: r) w)) := id rfl
theorem sX9_octet_41 (lv : zL) (st : List Value) (w : zW) (nx K : Nat → zL → List Value → zW → Prop) (Rt : Option Value → zW → Prop) : z_st1 (tX9_octet 41) 41 lv st w nx K Rt = (z_li lv 3 (fun x => nx 42 lv (.int x :: st) w)) := id rfl
theorem sX9_octet_42 (lv : zL) (st : List Value) (w : zW) (nx K : Nat → zL → List Value → zW → Prop) (Rt : Option Value → zW → Prop) : z_st1 (tX9_octet 42) 42 lv st w nx K Rt = (nx 45 lv (.int (255 : Int32) :: st) w) := id rfl
theorem sX9_octet_45 (lv : zL) (st : List Value) (w : zW) (nx K : Nat → zL → List Value → zW → Prop) (Rt : Option Value → zW → Prop) : z_st1 (tX9_octet 45) 45 lv st w nx K Rt = (z_2i st (fun x y r => nx 46 lv (.int (x &&& y) :: r) w)) := id rfl
theorem sX9_octet_46 (lv : zL) (st : List Value) (w : zW) (nx K : Nat → zL → List Value → zW → Prop) (Rt : Option Value → zW → Prop) : z_st1 (tX9_octet 46) 46 lv st w nx K Rt = (z_iia st (fun x i u r => z_ar0 w x (fun m g => vp_in i m ∧ nx 47 lv r (z_up w x (.inl (0, m, .inl (upd g i.toNatClampNeg u))))))) := id rfl
theorem sX9_octet_47 (lv : zL) (st : List Value) (w : zW) (nx K : Nat → zL → List Value → zW → Prop) (Rt : Option Value → zW → Prop) : z_st1 (tX9_octet 47) 47 lv st w nx K Rt = (z_li lv 2 (fun x => nx 48 lv (.int x :: st) w)) := id rfl
theorem sX9_octet_48 (lv : zL) (st : List Value) (w : zW) (nx K : Nat → zL → List Value → zW → Prop) (Rt : Option Value → zW → Prop) : z_st1 (tX9_octet 48) 48 lv st w nx K Rt = (z_la lv 0 (fun x => nx 49 lv (.ref x :: st) w)) := id rfl
theorem sX9_octet_49 (lv : zL) (st : List Value) (w : zW) (nx K : Nat → zL → List Value → zW → Prop) (Rt : Option Value → zW → Prop) : z_st1 (tX9_octet 49) 49 lv st w nx K Rt = (z_1a st (fun x r => z_ob w x 10 (fun fs => z_fl fs 10 (fun u => nx 52 lv (u :: r) w)))) := id rfl
theorem sX9_octet_52 (lv : zL) (st : List Value) (w : zW) (nx K : Nat → zL → List Value → zW → Prop) (Rt : Option Value → zW → Prop) : z_st1 (tX9_octet 52) 52 lv st w nx K Rt = (z_li lv 1 (fun x => nx 53 lv (.int x :: st) w)) := id rfl
theorem sX9_octet_53 (lv : zL) (st : List Value) (w : zW) (nx K : Nat → zL → List Value → zW → Prop) (Rt : Option Value → zW → Prop) : z_st1 (tX9_octet 53) 53 lv st w nx K Rt = (nx 54 lv (.int (1 : Int32) :: st) w) := id rfl
theorem sX9_octet_54 (lv : zL) (st : List Value) (w : zW) (nx K : Nat → zL → List Value → zW → Prop) (Rt : Option Value → zW → Prop) : z_st1 (tX9_octet 54) 54 lv st w nx K Rt = (z_2i st (fun x y r => nx 55 lv (.int (x - y) :: r) w)) := id rfl
theorem sX9_octet_55 (lv : zL) (st : List Value) (w : zW) (nx K : Nat → zL → List Value → zW → Prop) (Rt : Option Value → zW → Prop) : z_st1 (tX9_octet 55) 55 lv st w nx K Rt = (z_ia st (fun x i r => z_ar0 w x (fun m g => vp_in i m ∧ nx 56 lv (.int (g i.toNatClampNeg) :: r) w))) := id rfl
theorem sX9_octet_56 (lv : zL) (st : List Value) (w : zW) (nx K : Nat → zL → List Value → zW → Prop) (Rt : Option Value → zW → Prop) : z_st1 (tX9_octet 56) 56 lv st w nx K Rt = (z_2i st (fun x y r => (x < y → nx 70 lv r w) ∧ (¬ x < y → nx 59 lv r w))) := id rfl
theorem sX9_octet_59 (lv : zL) (st : List Value) (w : zW) (nx K : Nat → zL → List Value → zW → Prop) (Rt : Option Value → zW → Prop) : z_st1 (tX9_octet 59) 59 lv st w nx K Rt = (z_la lv 0 (fun x => nx 60 lv (.ref x :: st) w)) := id rfl
theorem sX9_octet_60 (lv : zL) (st : List Value) (w : zW) (nx K : Nat → zL → List Value → zW → Prop) (Rt : Option Value → zW → Prop) : z_st1 (tX9_octet 60) 60 lv st w nx K Rt = (z_1a st (fun x r => z_ob w x 10 (fun fs => z_fl fs 10 (fun u => nx 63 lv (u :: r) w)))) := id rfl
theorem sX9_octet_63 (lv : zL) (st : List Value) (w : zW) (nx K : Nat → zL → List Value → zW → Prop) (Rt : Option Value → zW → Prop) : z_st1 (tX9_octet 63) 63 lv st w nx K Rt = (z_li lv 1 (fun x => nx 64 lv (.int x :: st) w)) := id rfl
theorem sX9_octet_64 (lv : zL) (st : List Value) (w : zW) (nx K : Nat → zL → List Value → zW → Prop) (Rt : Option Value → zW → Prop) : z_st1 (tX9_octet 64) 64 lv st w nx K Rt = (nx 65 lv (.int (1 : Int32) :: st) w) := id rfl
theorem sX9_octet_65 (lv : zL) (st : List Value) (w : zW) (nx K : Nat → zL → List Value → zW → Prop) (Rt : Option Value → zW → Prop) : z_st1 (tX9_octet 65) 65 lv st w nx K Rt = (z_2i st (fun x y r => nx 66 lv (.int (x - y) :: r) w)) := id rfl
theorem sX9_octet_66 (lv : zL) (st : List Value) (w : zW) (nx K : Nat → zL → List Value → zW → Prop) (Rt : Option Value → zW → Prop) : z_st1 (tX9_octet 66) 66 lv st w nx K Rt = (z_li lv 2 (fun x => nx 67 lv (.int x :: st) w)) := id rfl
theorem sX9_octet_67 (lv : zL) (st : List Value) (w : zW) (nx K : Nat → zL → List Value → zW → Prop) (Rt : Option Value → zW → Prop) : z_st1 (tX9_octet 67) 67 lv st w nx K Rt = (nx 68 lv (.int (1 : Int32) :: st) w) := id rfl
theorem sX9_octet_68 (lv : zL) (st : List Value) (w : zW) (nx K : Nat → zL → List Value → zW → Prop) (Rt : Option Value → zW → Prop) : z_st1 (tX9_octet 68) 68 lv st w nx K Rt = (z_2i st (fun x y r => nx 69 lv (.int (x + y) :: r) w)) := id rfl
theorem sX9_octet_69 (lv : zL) (st : List Value) (w : zW) (nx K : Nat → zL → List Value → zW → Prop) (Rt : Option Value → zW → Prop) : z_st1 (tX9_octet 69) 69 lv st w nx K Rt = (z_iia st (fun x i u r => z_ar0 w x (fun m g => vp_in i m ∧ nx 70 lv r (z_up w x (.inl (0, m, .inl (upd g i.toNatClampNeg u))))))) := id rfl
theorem sX9_octet_70 (lv : zL) (st : List Value) (w : zW) (nx K : Nat → zL → List Value → zW → Prop) (Rt : Option Value → zW → Prop) : z_st1 (tX9_octet 70) 70 lv st w nx K Rt = (z_la lv 0 (fun x => nx 71 lv (.ref x :: st) w)) := id rfl
theorem sX9_octet_71 (lv : zL) (st : List Value) (w : zW) (nx K : Nat → zL → List Value → zW → Prop) (Rt : Option Value → zW → Prop) : z_st1 (tX9_octet 71) 71 lv st w nx K Rt = (z_1a st (fun x r => z_ob w x 10 (fun fs => z_fl fs 10 (fun u => nx 74 lv (u :: r) w)))) := id rfl
theorem sX9_octet_74 (lv : zL) (st : List Value) (w : zW) (nx K : Nat → zL → List Value → zW → Prop) (Rt : Option Value → zW → Prop) : z_st1 (tX9_octet 74) 74 lv st w nx K Rt = (z_li lv 1 (fun x => nx 75 lv (.int x :: st) w)) := id rfl
theorem sX9_octet_75 (lv : zL) (st : List Value) (w : zW) (nx K : Nat → zL → List Value → zW → Prop) (Rt : Option Value → zW → Prop) : z_st1 (tX9_octet 75) 75 lv st w nx K Rt = (nx 76 lv (.int (1 : Int32) :: st) w) := id rfl
theorem sX9_octet_76 (lv : zL) (st : List Value) (w : zW) (nx K : Nat → zL → List Value → zW → Prop) (Rt : Option Value → zW → Prop) : z_st1 (tX9_octet 76) 76 lv st w nx K Rt = (z_2i st (fun x y r => nx 77 lv (.int (x - y) :: r) w)) := id rfl
theorem sX9_octet_77 (lv : zL) (st : List Value) (w : zW) (nx K : Nat → zL → List Value → zW → Prop) (Rt : Option Value → zW → Prop) : z_st1 (tX9_octet 77) 77 lv st w nx K Rt = (z_ia st (fun x i r => z_ar0 w x (fun m g => vp_in i m ∧ nx 78 lv (.int (g i.toNatClampNeg) :: r) w))) := id rfl
theorem sX9_octet_78 (lv : zL) (st : List Value) (w : zW) (nx K : Nat → zL → List Value → zW → Prop) (Rt : Option Value → zW → Prop) : z_st1 (tX9_octet 78) 78 lv st w nx K Rt = (z_e1 st (fun x => Rt (some (.int x)) w)) := id rfl
theorem sX9_octet_7 (lv : zL) (st : List Value) (w : zW) (nx K : Nat → zL → List Value → zW → Prop) (Rt : Option Value → zW → Prop) : z_st1 (tX9_octet 7) 7 lv st w nx K Rt = K 7 lv st w := id rfl
theorem dX9_octet_7 : decode cX9_octet 7 = .ok (.invokevirtual 101, 3) := by decide +kernel

def tmX9_include (pc : Nat) : zI := match pc with
  | 0 => (1, 0, 0, 1, 0)
  | 1 => (6, 0, 0, 2, 0)
  | 2 => (47, 10, 0, 5, 0)
  | 5 => (0, 1, 0, 6, 0)
  | 6 => (36, 35, 0, 9, 0)
  | 9 => (0, 1, 0, 10, 0)
  | 10 => (6, 0, 0, 12, 32)
  | 12 => (43, 35, 0, 15, 0)
  | 15 => (0, 2, 0, 16, 0)
  | 16 => (36, 35, 0, 19, 0)
  | 19 => (0, 2, 0, 20, 0)
  | 20 => (6, 0, 0, 21, 4)
  | 21 => (44, 35, 0, 24, 0)
  | 24 => (0, 3, 0, 25, 0)
  | 25 => (36, 35, 0, 28, 0)
  | 28 => (0, 3, 0, 29, 0)
  | 29 => (6, 0, 0, 32, 255)
  | 32 => (45, 38, 0, 35, 0)
  | 35 => (6, 0, 0, 37, (-4))
  | 37 => (53, 0, 0, 38, 0)
  | 38 => (1, 0, 0, 39, 0)
  | 39 => (0, 1, 0, 40, 0)
  | 40 => (47, 10, 12, 43, 0)
  | 43 => (1, 0, 0, 44, 0)
  | 44 => (0, 2, 0, 45, 0)
  | 45 => (47, 10, 13, 48, 0)
  | 48 => (1, 0, 0, 49, 0)
  | 49 => (0, 3, 0, 50, 0)
  | 50 => (47, 10, 14, 53, 0)
  | 53 => (6, 0, 0, 54, 1)
  | 54 => (53, 0, 0, 55, 0)
  | _ => (99, 0, 0, 0, 0)
def tX9_include (pc : Nat) : zI := if pc < 55 then tmX9_include pc else (99, 0, 0, 0, 0)
theorem tkX9_include : z_tab RX9 wsX9_include 4 (some .int) cX9_include 55 tX9_include := z_tab_of (tm := tmX9_include) (by decide +kernel)
theorem sX9_include_0 (lv : zL) (st : List Value) (w : zW) (nx K : Nat → zL → List Value → zW → Prop) (Rt : Option Value → zW → Prop) : z_st1 (tX9_include 0) 0 lv st w nx K Rt = (z_la lv 0 (fun x => nx 1 lv (.ref x :: st) w)) := id rfl
theorem sX9_include_1 (lv : zL) (st : List Value) (w : zW) (nx K : Nat → zL → List Value → zW → Prop) (Rt : Option Value → zW → Prop) : z_st1 (tX9_include 1) 1 lv st w nx K Rt = (nx 2 lv (.int (0 : Int32) :: st) w) := id rfl
theorem sX9_include_2 (lv : zL) (st : List Value) (w : zW) (nx K : Nat → zL → List Value → zW → Prop) (Rt : Option Value → zW → Prop) : z_st1 (tX9_include 2) 2 lv st w nx K Rt = (z_ia st (fun x i r => z_ob w x 10 (fun fs => 0 < fs.length ∧ nx 5 lv r (z_up w x (.inr (10, fs.set 0 (.int i))))))) := id rfl
theorem sX9_include_5 (lv : zL) (st : List Value) (w : zW) (nx K : Nat → zL → List Value → zW → Prop) (Rt : Option Value → zW → Prop) : z_st1 (tX9_include 5) 5 lv st w nx K Rt = (z_li lv 1 (fun x => nx 6 lv (.int x :: st) w)) := id rfl
theorem sX9_include_6 (lv : zL) (st : List Value) (w : zW) (nx K : Nat → zL → List Value → zW → Prop) (Rt : Option Value → zW → Prop) : z_st1 (tX9_include 6) 6 lv st w nx K Rt = (z_1i st (fun x r => (x < 0 → nx 35 lv r w) ∧ (¬ x < 0 → nx 9 lv r w))) := id rfl
theorem sX9_include_9 (lv : zL) (st : List Value) (w : zW) (nx K : Nat → zL → List Value → zW → Prop) (Rt : Option Value → zW → Prop) : z_st1 (tX9_include 9) 9 lv st w nx K Rt = (z_li lv 1 (fun x => nx 10 lv (.int x :: st) w)) := id rfl
theorem sX9_include_10 (lv : zL) (st : List Value) (w : zW) (nx K : Nat → zL → List Value → zW → Prop) (Rt : Option Value → zW → Prop) : z_st1 (tX9_include 10) 10 lv st w nx K Rt = (nx 12 lv (.int (32 : Int32) :: st) w) := id rfl
theorem sX9_include_12 (lv : zL) (st : List Value) (w : zW) (nx K : Nat → zL → List Value → zW → Prop) (Rt : Option Value → zW → Prop) : z_st1 (tX9_include 12) 12 lv st w nx K Rt = (z_2i st (fun x y r => (y ≤ x → nx 35 lv r w) ∧ (¬ y ≤ x → nx 15 lv r w))) := id rfl
theorem sX9_include_15 (lv : zL) (st : List Value) (w : zW) (nx K : Nat → zL → List Value → zW → Prop) (Rt : Option Value → zW → Prop) : z_st1 (tX9_include 15) 15 lv st w nx K Rt = (z_li lv 2 (fun x => nx 16 lv (.int x :: st) w)) := id rfl
theorem sX9_include_16 (lv : zL) (st : List Value) (w : zW) (nx K : Nat → zL → List Value → zW → Prop) (Rt : Option Value → zW → Prop) : z_st1 (tX9_include 16) 16 lv st w nx K Rt = (z_1i st (fun x r => (x < 0 → nx 35 lv r w) ∧ (¬ x < 0 → nx 19 lv r w))) := id rfl
theorem sX9_include_19 (lv : zL) (st : List Value) (w : zW) (nx K : Nat → zL → List Value → zW → Prop) (Rt : Option Value → zW → Prop) : z_st1 (tX9_include 19) 19 lv st w nx K Rt = (z_li lv 2 (fun x => nx 20 lv (.int x :: st) w)) := id rfl
theorem sX9_include_20 (lv : zL) (st : List Value) (w : zW) (nx K : Nat → zL → List Value → zW → Prop) (Rt : Option Value → zW → Prop) : z_st1 (tX9_include 20) 20 lv st w nx K Rt = (nx 21 lv (.int (4 : Int32) :: st) w) := id rfl
theorem sX9_include_21 (lv : zL) (st : List Value) (w : zW) (nx K : Nat → zL → List Value → zW → Prop) (Rt : Option Value → zW → Prop) : z_st1 (tX9_include 21) 21 lv st w nx K Rt = (z_2i st (fun x y r => (y < x → nx 35 lv r w) ∧ (¬ y < x → nx 24 lv r w))) := id rfl
theorem sX9_include_24 (lv : zL) (st : List Value) (w : zW) (nx K : Nat → zL → List Value → zW → Prop) (Rt : Option Value → zW → Prop) : z_st1 (tX9_include 24) 24 lv st w nx K Rt = (z_li lv 3 (fun x => nx 25 lv (.int x :: st) w)) := id rfl
theorem sX9_include_25 (lv : zL) (st : List Value) (w : zW) (nx K : Nat → zL → List Value → zW → Prop) (Rt : Option Value → zW → Prop) : z_st1 (tX9_include 25) 25 lv st w nx K Rt = (z_1i st (fun x r => (x < 0 → nx 35 lv r w) ∧ (¬ x < 0 → nx 28 lv r w))) := id rfl
theorem sX9_include_28 (lv : zL) (st : List Value) (w : zW) (nx K : Nat → zL → List Value → zW → Prop) (Rt : Option Value → zW → Prop) : z_st1 (tX9_include 28) 28 lv st w nx K Rt = (z_li lv 3 (fun x => nx 29 lv (.int x :: st) w)) := id rfl
theorem sX9_include_29 (lv : zL) (st : List Value) (w : zW) (nx K : Nat → zL → List Value → zW → Prop) (Rt : Option Value → zW → Prop) : z_st1 (tX9_include 29) 29 lv st w nx K Rt = (nx 32 lv (.int (255 : Int32) :: st) w) := id rfl
theorem sX9_include_32 (lv : zL) (st : List Value) (w : zW) (nx K : Nat → zL → List Value → zW → Prop) (Rt : Option Value → zW → Prop) : z_st1 (tX9_include 32) 32 lv st w nx K Rt = (z_2i st (fun x y r => (x ≤ y → nx 38 lv r w) ∧ (¬ x ≤ y → nx 35 lv r w))) := id rfl
theorem sX9_include_35 (lv : zL) (st : List Value) (w : zW) (nx K : Nat → zL → List Value → zW → Prop) (Rt : Option Value → zW → Prop) : z_st1 (tX9_include 35) 35 lv st w nx K Rt = (nx 37 lv (.int (-4 : Int32) :: st) w) := id rfl
theorem sX9_include_37 (lv : zL) (st : List Value) (w : zW) (nx K : Nat → zL → List Value → zW → Prop) (Rt : Option Value → zW → Prop) : z_st1 (tX9_include 37) 37 lv st w nx K Rt = (z_e1 st (fun x => Rt (some (.int x)) w)) := id rfl
theorem sX9_include_38 (lv : zL) (st : List Value) (w : zW) (nx K : Nat → zL → List Value → zW → Prop) (Rt : Option Value → zW → Prop) : z_st1 (tX9_include 38) 38 lv st w nx K Rt = (z_la lv 0 (fun x => nx 39 lv (.ref x :: st) w)) := id rfl
theorem sX9_include_39 (lv : zL) (st : List Value) (w : zW) (nx K : Nat → zL → List Value → zW → Prop) (Rt : Option Value → zW → Prop) : z_st1 (tX9_include 39) 39 lv st w nx K Rt = (z_li lv 1 (fun x => nx 40 lv (.int x :: st) w)) := id rfl
theorem sX9_include_40 (lv : zL) (st : List Value) (w : zW) (nx K : Nat → zL → List Value → zW → Prop) (Rt : Option Value → zW → Prop) : z_st1 (tX9_include 40) 40 lv st w nx K Rt = (z_ia st (fun x i r => z_ob w x 10 (fun fs => 12 < fs.length ∧ nx 43 lv r (z_up w x (.inr (10, fs.set 12 (.int i))))))) := id rfl
theorem sX9_include_43 (lv : zL) (st : List Value) (w : zW) (nx K : Nat → zL → List Value → zW → Prop) (Rt : Option Value → zW → Prop) : z_st1 (tX9_include 43) 43 lv st w nx K Rt = (z_la lv 0 (fun x => nx 44 lv (.ref x :: st) w)) := id rfl
theorem sX9_include_44 (lv : zL) (st : List Value) (w : zW) (nx K : Nat → zL → List Value → zW → Prop) (Rt : Option Value → zW → Prop) : z_st1 (tX9_include 44) 44 lv st w nx K Rt = (z_li lv 2 (fun x => nx 45 lv (.int x :: st) w)) := id rfl
theorem sX9_include_45 (lv : zL) (st : List Value) (w : zW) (nx K : Nat → zL → List Value → zW → Prop) (Rt : Option Value → zW → Prop) : z_st1 (tX9_include 45) 45 lv st w nx K Rt = (z_ia st (fun x i r => z_ob w x 10 (fun fs => 13 < fs.length ∧ nx 48 lv r (z_up w x (.inr (10, fs.set 13 (.int i))))))) := id rfl
theorem sX9_include_48 (lv : zL) (st : List Value) (w : zW) (nx K : Nat → zL → List Value → zW → Prop) (Rt : Option Value → zW → Prop) : z_st1 (tX9_include 48) 48 lv st w nx K Rt = (z_la lv 0 (fun x => nx 49 lv (.ref x :: st) w)) := id rfl
theorem sX9_include_49 (lv : zL) (st : List Value) (w : zW) (nx K : Nat → zL → List Value → zW → Prop) (Rt : Option Value → zW → Prop) : z_st1 (tX9_include 49) 49 lv st w nx K Rt = (z_li lv 3 (fun x => nx 50 lv (.int x :: st) w)) := id rfl
theorem sX9_include_50 (lv : zL) (st : List Value) (w : zW) (nx K : Nat → zL → List Value → zW → Prop) (Rt : Option Value → zW → Prop) : z_st1 (tX9_include 50) 50 lv st w nx K Rt = (z_ia st (fun x i r => z_ob w x 10 (fun fs => 14 < fs.length ∧ nx 53 lv r (z_up w x (.inr (10, fs.set 14 (.int i))))))) := id rfl
theorem sX9_include_53 (lv : zL) (st : List Value) (w : zW) (nx K : Nat → zL → List Value → zW → Prop) (Rt : Option Value → zW → Prop) : z_st1 (tX9_include 53) 53 lv st w nx K Rt = (nx 54 lv (.int (1 : Int32) :: st) w) := id rfl
theorem sX9_include_54 (lv : zL) (st : List Value) (w : zW) (nx K : Nat → zL → List Value → zW → Prop) (Rt : Option Value → zW → Prop) : z_st1 (tX9_include 54) 54 lv st w nx K Rt = (z_e1 st (fun x => Rt (some (.int x)) w)) := id rfl

def tmX9_sum (pc : Nat) : zI := match pc with
  | 0 => (1, 0, 0, 1, 0)
  | 1 => (6, 0, 0, 2, 0)
  | 2 => (47, 10, 0, 5, 0)
  | 5 => (0, 1, 0, 6, 0)
  | 6 => (0, 2, 0, 7, 0)
  | 7 => (6, 0, 0, 9, 8)
  | 12 => (35, 18, 0, 15, 0)
  | 15 => (6, 0, 0, 17, (-4))
  | 17 => (53, 0, 0, 18, 0)
  | 18 => (1, 0, 0, 19, 0)
  | 19 => (46, 10, 20, 22, 0)
  | 22 => (6, 0, 0, 23, 4)
  | 23 => (41, 28, 0, 26, 0)
  | 26 => (6, 0, 0, 27, (-1))
  | 27 => (53, 0, 0, 28, 0)
  | 28 => (1, 0, 0, 29, 0)
  | 29 => (46, 10, 15, 32, 0)
  | 32 => (1, 0, 0, 33, 0)
  | 33 => (46, 10, 20, 36, 0)
  | 36 => (0, 1, 0, 37, 0)
  | 37 => (49, 0, 0, 38, 0)
  | 38 => (1, 0, 0, 39, 0)
  | 39 => (46, 10, 16, 42, 0)
  | 42 => (1, 0, 0, 43, 0)
  | 43 => (46, 10, 20, 46, 0)
  | 46 => (0, 2, 0, 47, 0)
  | 47 => (49, 0, 0, 48, 0)
  | 48 => (1, 0, 0, 49, 0)
  | 49 => (29, 0, 0, 50, 0)
  | 50 => (46, 10, 20, 53, 0)
  | 53 => (6, 0, 0, 54, 1)
  | 54 => (8, 0, 0, 55, 0)
  | 55 => (47, 10, 20, 58, 0)
  | 58 => (1, 0, 0, 59, 0)
  | 59 => (46, 10, 20, 62, 0)
  | 62 => (53, 0, 0, 63, 0)
  | _ => (99, 0, 0, 0, 0)
def tX9_sum (pc : Nat) : zI := if pc < 63 then tmX9_sum pc else (99, 0, 0, 0, 0)
theorem tkX9_sum : z_tab RX9 wsX9_sum 3 (some .int) cX9_sum 63 tX9_sum := z_tab_of (tm := tmX9_sum) (by decide +kernel)
theorem sX9_sum_0 (lv : zL) (st : List Value) (w : zW) (nx K : Nat → zL → List Value → zW → Prop) (Rt : Option Value → zW → Prop) : z_st1 (tX9_sum 0) 0 lv st w nx K Rt = (z_la lv 0 (fun x => nx 1 lv (.ref x :: st) w)) := id rfl
theorem sX9_sum_1 (lv : zL) (st : List Value) (w : zW) (nx K : Nat → zL → List Value → zW → Prop) (Rt : Option Value → zW → Prop) : z_st1 (tX9_sum 1) 1 lv st w nx K Rt = (nx 2 lv (.int (0 : Int32) :: st) w) := id rfl
theorem sX9_sum_2 (lv : zL) (st : List Value) (w : zW) (nx K : Nat → zL → List Value → zW → Prop) (Rt : Option Value → zW → Prop) : z_st1 (tX9_sum 2) 2 lv st w nx K Rt = (z_ia st (fun x i r => z_ob w x 10 (fun fs => 0 < fs.length ∧ nx 5 lv r (z_up w x (.inr (10, fs.set 0 (.int i))))))) := id rfl
theorem sX9_sum_5 (lv : zL) (st : List Value) (w : zW) (nx K : Nat → zL → List Value → zW → Prop) (Rt : Option Value → zW → Prop) : z_st1 (tX9_sum 5) 5 lv st w nx K Rt = (z_li lv 1 (fun x => nx 6 lv (.int x :: st) w)) := id rfl
theorem sX9_sum_6 (lv : zL) (st : List Value) (w : zW) (nx K : Nat → zL → List Value → zW → Prop) (Rt : Option Value → zW → Prop) : z_st1 (tX9_sum 6) 6 lv st w nx K Rt = (z_li lv 2 (fun x => nx 7 lv (.int x :: st) w)) := id rfl
theorem sX9_sum_7 (lv : zL) (st : List Value) (w : zW) (nx K : Nat → zL → List Value → zW → Prop) (Rt : Option Value → zW → Prop) : z_st1 (tX9_sum 7) 7 lv st w nx K Rt = (nx 9 lv (.int (8 : Int32) :: st) w) := id rfl
theorem sX9_sum_12 (lv : zL) (st : List Value) (w : zW) (nx K : Nat → zL → List Value → zW → Prop) (Rt : Option Value → zW → Prop) : z_st1 (tX9_sum 12) 12 lv st w nx K Rt = (z_1i st (fun x r => (¬ x = 0 → nx 18 lv r w) ∧ (x = 0 → nx 15 lv r w))) := id rfl
theorem sX9_sum_15 (lv : zL) (st : List Value) (w : zW) (nx K : Nat → zL → List Value → zW → Prop) (Rt : Option Value → zW → Prop) : z_st1 (tX9_sum 15) 15 lv st w nx K Rt = (nx 17 lv (.int (-4 : Int32) :: st) w) := id rfl
theorem sX9_sum_17 (lv : zL) (st : List Value) (w : zW) (nx K : Nat → zL → List Value → zW → Prop) (Rt : Option Value → zW → Prop) : z_st1 (tX9_sum 17) 17 lv st w nx K Rt = (z_e1 st (fun x => Rt (some (.int x)) w)) := id rfl
theorem sX9_sum_18 (lv : zL) (st : List Value) (w : zW) (nx K : Nat → zL → List Value → zW → Prop) (Rt : Option Value → zW → Prop) : z_st1 (tX9_sum 18) 18 lv st w nx K Rt = (z_la lv 0 (fun x => nx 19 lv (.ref x :: st) w)) := id rfl
theorem sX9_sum_19 (lv : zL) (st : List Value) (w : zW) (nx K : Nat → zL → List Value → zW → Prop) (Rt : Option Value → zW → Prop) : z_st1 (tX9_sum 19) 19 lv st w nx K Rt = (z_1a st (fun x r => z_ob w x 10 (fun fs => z_fl fs 20 (fun u => nx 22 lv (u :: r) w)))) := id rfl
theorem sX9_sum_22 (lv : zL) (st : List Value) (w : zW) (nx K : Nat → zL → List Value → zW → Prop) (Rt : Option Value → zW → Prop) : z_st1 (tX9_sum 22) 22 lv st w nx K Rt = (nx 23 lv (.int (4 : Int32) :: st) w) := id rfl
theorem sX9_sum_23 (lv : zL) (st : List Value) (w : zW) (nx K : Nat → zL → List Value → zW → Prop) (Rt : Option Value → zW → Prop) : z_st1 (tX9_sum 23) 23 lv st w nx K Rt = (z_2i st (fun x y r => (¬ x = y → nx 28 lv r w) ∧ (x = y → nx 26 lv r w))) := id rfl
theorem sX9_sum_26 (lv : zL) (st : List Value) (w : zW) (nx K : Nat → zL → List Value → zW → Prop) (Rt : Option Value → zW → Prop) : z_st1 (tX9_sum 26) 26 lv st w nx K Rt = (nx 27 lv (.int (-1 : Int32) :: st) w) := id rfl
theorem sX9_sum_27 (lv : zL) (st : List Value) (w : zW) (nx K : Nat → zL → List Value → zW → Prop) (Rt : Option Value → zW → Prop) : z_st1 (tX9_sum 27) 27 lv st w nx K Rt = (z_e1 st (fun x => Rt (some (.int x)) w)) := id rfl
theorem sX9_sum_28 (lv : zL) (st : List Value) (w : zW) (nx K : Nat → zL → List Value → zW → Prop) (Rt : Option Value → zW → Prop) : z_st1 (tX9_sum 28) 28 lv st w nx K Rt = (z_la lv 0 (fun x => nx 29 lv (.ref x :: st) w)) := id rfl
theorem sX9_sum_29 (lv : zL) (st : List Value) (w : zW) (nx K : Nat → zL → List Value → zW → Prop) (Rt : Option Value → zW → Prop) : z_st1 (tX9_sum 29) 29 lv st w nx K Rt = (z_1a st (fun x r => z_ob w x 10 (fun fs => z_fl fs 15 (fun u => nx 32 lv (u :: r) w)))) := id rfl
theorem sX9_sum_32 (lv : zL) (st : List Value) (w : zW) (nx K : Nat → zL → List Value → zW → Prop) (Rt : Option Value → zW → Prop) : z_st1 (tX9_sum 32) 32 lv st w nx K Rt = (z_la lv 0 (fun x => nx 33 lv (.ref x :: st) w)) := id rfl
theorem sX9_sum_33 (lv : zL) (st : List Value) (w : zW) (nx K : Nat → zL → List Value → zW → Prop) (Rt : Option Value → zW → Prop) : z_st1 (tX9_sum 33) 33 lv st w nx K Rt = (z_1a st (fun x r => z_ob w x 10 (fun fs => z_fl fs 20 (fun u => nx 36 lv (u :: r) w)))) := id rfl
theorem sX9_sum_36 (lv : zL) (st : List Value) (w : zW) (nx K : Nat → zL → List Value → zW → Prop) (Rt : Option Value → zW → Prop) : z_st1 (tX9_sum 36) 36 lv st w nx K Rt = (z_li lv 1 (fun x => nx 37 lv (.int x :: st) w)) := id rfl
theorem sX9_sum_37 (lv : zL) (st : List Value) (w : zW) (nx K : Nat → zL → List Value → zW → Prop) (Rt : Option Value → zW → Prop) : z_st1 (tX9_sum 37) 37 lv st w nx K Rt = (z_iia st (fun x i u r => z_ar0 w x (fun m g => vp_in i m ∧ nx 38 lv r (z_up w x (.inl (0, m, .inl (upd g i.toNatClampNeg u))))))) := id rfl
theorem sX9_sum_38 (lv : zL) (st : List Value) (w : zW) (nx K : Nat → zL → List Value → zW → Prop) (Rt : Option Value → zW → Prop) : z_st1 (tX9_sum 38) 38 lv st w nx K Rt = (z_la lv 0 (fun x => nx 39 lv (.ref x :: st) w)) := id rfl
theorem sX9_sum_39 (lv : zL) (st : List Value) (w : zW) (nx K : Nat → zL → List Value → zW → Prop) (Rt : Option Value → zW → Prop) : z_st1 (tX9_sum 39) 39 lv st w nx K Rt = (z_1a st (fun x r => z_ob w x 10 (fun fs => z_fl fs 16 (fun u => nx 42 lv (u :: r) w)))) := id rfl
theorem sX9_sum_42 (lv : zL) (st : List Value) (w : zW) (nx K : Nat → zL → List Value → zW → Prop) (Rt : Option Value → zW → Prop) : z_st1 (tX9_sum 42) 42 lv st w nx K Rt = (z_la lv 0 (fun x => nx 43 lv (.ref x :: st) w)) := id rfl
theorem sX9_sum_43 (lv : zL) (st : List Value) (w : zW) (nx K : Nat → zL → List Value → zW → Prop) (Rt : Option Value → zW → Prop) : z_st1 (tX9_sum 43) 43 lv st w nx K Rt = (z_1a st (fun x r => z_ob w x 10 (fun fs => z_fl fs 20 (fun u => nx 46 lv (u :: r) w)))) := id rfl
theorem sX9_sum_46 (lv : zL) (st : List Value) (w : zW) (nx K : Nat → zL → List Value → zW → Prop) (Rt : Option Value → zW → Prop) : z_st1 (tX9_sum 46) 46 lv st w nx K Rt = (z_li lv 2 (fun x => nx 47 lv (.int x :: st) w)) := id rfl
theorem sX9_sum_47 (lv : zL) (st : List Value) (w : zW) (nx K : Nat → zL → List Value → zW → Prop) (Rt : Option Value → zW → Prop) : z_st1 (tX9_sum 47) 47 lv st w nx K Rt = (z_iia st (fun x i u r => z_ar0 w x (fun m g => vp_in i m ∧ nx 48 lv r (z_up w x (.inl (0, m, .inl (upd g i.toNatClampNeg u))))))) := id rfl
theorem sX9_sum_48 (lv : zL) (st : List Value) (w : zW) (nx K : Nat → zL → List Value → zW → Prop) (Rt : Option Value → zW → Prop) : z_st1 (tX9_sum 48) 48 lv st w nx K Rt = (z_la lv 0 (fun x => nx 49 lv (.ref x :: st) w)) := id rfl
theorem sX9_sum_49 (lv : zL) (st : List Value) (w : zW) (nx K : Nat → zL → List Value → zW → Prop) (Rt : Option Value → zW → Prop) : z_st1 (tX9_sum 49) 49 lv st w nx K Rt = (z_d1 st (fun x r => nx 50 lv (x :: x :: r) w)) := id rfl
theorem sX9_sum_50 (lv : zL) (st : List Value) (w : zW) (nx K : Nat → zL → List Value → zW → Prop) (Rt : Option Value → zW → Prop) : z_st1 (tX9_sum 50) 50 lv st w nx K Rt = (z_1a st (fun x r => z_ob w x 10 (fun fs => z_fl fs 20 (fun u => nx 53 lv (u :: r) w)))) := id rfl
theorem sX9_sum_53 (lv : zL) (st : List Value) (w : zW) (nx K : Nat → zL → List Value → zW → Prop) (Rt : Option Value → zW → Prop) : z_st1 (tX9_sum 53) 53 lv st w nx K Rt = (nx 54 lv (.int (1 : Int32) :: st) w) := id rfl
theorem sX9_sum_54 (lv : zL) (st : List Value) (w : zW) (nx K : Nat → zL → List Value → zW → Prop) (Rt : Option Value → zW → Prop) : z_st1 (tX9_sum 54) 54 lv st w nx K Rt = (z_2i st (fun x y r => nx 55 lv (.int (x + y) :: r) w)) := id rfl
theorem sX9_sum_55 (lv : zL) (st : List Value) (w : zW) (nx K : Nat → zL → List Value → zW → Prop) (Rt : Option Value → zW → Prop) : z_st1 (tX9_sum 55) 55 lv st w nx K Rt = (z_ia st (fun x i r => z_ob w x 10 (fun fs => 20 < fs.length ∧ nx 58 lv r (z_up w x (.inr (10, fs.set 20 (.int i))))))) := id rfl
theorem sX9_sum_58 (lv : zL) (st : List Value) (w : zW) (nx K : Nat → zL → List Value → zW → Prop) (Rt : Option Value → zW → Prop) : z_st1 (tX9_sum 58) 58 lv st w nx K Rt = (z_la lv 0 (fun x => nx 59 lv (.ref x :: st) w)) := id rfl
theorem sX9_sum_59 (lv : zL) (st : List Value) (w : zW) (nx K : Nat → zL → List Value → zW → Prop) (Rt : Option Value → zW → Prop) : z_st1 (tX9_sum 59) 59 lv st w nx K Rt = (z_1a st (fun x r => z_ob w x 10 (fun fs => z_fl fs 20 (fun u => nx 62 lv (u :: r) w)))) := id rfl
theorem sX9_sum_62 (lv : zL) (st : List Value) (w : zW) (nx K : Nat → zL → List Value → zW → Prop) (Rt : Option Value → zW → Prop) : z_st1 (tX9_sum 62) 62 lv st w nx K Rt = (z_e1 st (fun x => Rt (some (.int x)) w)) := id rfl
theorem sX9_sum_9 (lv : zL) (st : List Value) (w : zW) (nx K : Nat → zL → List Value → zW → Prop) (Rt : Option Value → zW → Prop) : z_st1 (tX9_sum 9) 9 lv st w nx K Rt = K 9 lv st w := id rfl
theorem dX9_sum_9 : decode cX9_sum 9 = .ok (.invokestatic 88, 3) := by decide +kernel

def tmX9_exit (pc : Nat) : zI := match pc with
  | 0 => (1, 0, 0, 1, 0)
  | 1 => (6, 0, 0, 2, 0)
  | 2 => (47, 10, 0, 5, 0)
  | 5 => (0, 1, 0, 6, 0)
  | 6 => (36, 34, 0, 9, 0)
  | 9 => (0, 1, 0, 10, 0)
  | 10 => (6, 0, 0, 11, 1)
  | 11 => (44, 34, 0, 14, 0)
  | 14 => (0, 2, 0, 15, 0)
  | 15 => (36, 34, 0, 18, 0)
  | 18 => (0, 2, 0, 19, 0)
  | 19 => (6, 0, 0, 20, 3)
  | 20 => (44, 34, 0, 23, 0)
  | 23 => (0, 3, 0, 24, 0)
  | 24 => (36, 34, 0, 27, 0)
  | 27 => (0, 3, 0, 28, 0)
  | 28 => (6, 0, 0, 31, 1000)
  | 31 => (45, 37, 0, 34, 0)
  | 34 => (6, 0, 0, 36, (-4))
  | 36 => (53, 0, 0, 37, 0)
  | 37 => (1, 0, 0, 38, 0)
  | 38 => (46, 10, 17, 41, 0)
  | 41 => (0, 1, 0, 42, 0)
  | 42 => (0, 2, 0, 43, 0)
  | 43 => (49, 0, 0, 44, 0)
  | 44 => (1, 0, 0, 45, 0)
  | 45 => (46, 10, 18, 48, 0)
  | 48 => (0, 1, 0, 49, 0)
  | 49 => (0, 3, 0, 50, 0)
  | 50 => (49, 0, 0, 51, 0)
  | 51 => (6, 0, 0, 52, 1)
  | 52 => (53, 0, 0, 53, 0)
  | _ => (99, 0, 0, 0, 0)
def tX9_exit (pc : Nat) : zI := if pc < 53 then tmX9_exit pc else (99, 0, 0, 0, 0)
theorem tkX9_exit : z_tab RX9 wsX9_exit 4 (some .int) cX9_exit 53 tX9_exit := z_tab_of (tm := tmX9_exit) (by decide +kernel)
theorem sX9_exit_0 (lv : zL) (st : List Value) (w : zW) (nx K : Nat → zL → List Value → zW → Prop) (Rt : Option Value → zW → Prop) : z_st1 (tX9_exit 0) 0 lv st w nx K Rt = (z_la lv 0 (fun x => nx 1 lv (.ref x :: st) w)) := id rfl
theorem sX9_exit_1 (lv : zL) (st : List Value) (w : zW) (nx K : Nat → zL → List Value → zW → Prop) (Rt : Option Value → zW → Prop) : z_st1 (tX9_exit 1) 1 lv st w nx K Rt = (nx 2 lv (.int (0 : Int32) :: st) w) := id rfl
theorem sX9_exit_2 (lv : zL) (st : List Value) (w : zW) (nx K : Nat → zL → List Value → zW → Prop) (Rt : Option Value → zW → Prop) : z_st1 (tX9_exit 2) 2 lv st w nx K Rt = (z_ia st (fun x i r => z_ob w x 10 (fun fs => 0 < fs.length ∧ nx 5 lv r (z_up w x (.inr (10, fs.set 0 (.int i))))))) := id rfl
theorem sX9_exit_5 (lv : zL) (st : List Value) (w : zW) (nx K : Nat → zL → List Value → zW → Prop) (Rt : Option Value → zW → Prop) : z_st1 (tX9_exit 5) 5 lv st w nx K Rt = (z_li lv 1 (fun x => nx 6 lv (.int x :: st) w)) := id rfl
theorem sX9_exit_6 (lv : zL) (st : List Value) (w : zW) (nx K : Nat → zL → List Value → zW → Prop) (Rt : Option Value → zW → Prop) : z_st1 (tX9_exit 6) 6 lv st w nx K Rt = (z_1i st (fun x r => (x < 0 → nx 34 lv r w) ∧ (¬ x < 0 → nx 9 lv r w))) := id rfl
theorem sX9_exit_9 (lv : zL) (st : List Value) (w : zW) (nx K : Nat → zL → List Value → zW → Prop) (Rt : Option Value → zW → Prop) : z_st1 (tX9_exit 9) 9 lv st w nx K Rt = (z_li lv 1 (fun x => nx 10 lv (.int x :: st) w)) := id rfl
theorem sX9_exit_10 (lv : zL) (st : List Value) (w : zW) (nx K : Nat → zL → List Value → zW → Prop) (Rt : Option Value → zW → Prop) : z_st1 (tX9_exit 10) 10 lv st w nx K Rt = (nx 11 lv (.int (1 : Int32) :: st) w) := id rfl
theorem sX9_exit_11 (lv : zL) (st : List Value) (w : zW) (nx K : Nat → zL → List Value → zW → Prop) (Rt : Option Value → zW → Prop) : z_st1 (tX9_exit 11) 11 lv st w nx K Rt = (z_2i st (fun x y r => (y < x → nx 34 lv r w) ∧ (¬ y < x → nx 14 lv r w))) := id rfl
theorem sX9_exit_14 (lv : zL) (st : List Value) (w : zW) (nx K : Nat → zL → List Value → zW → Prop) (Rt : Option Value → zW → Prop) : z_st1 (tX9_exit 14) 14 lv st w nx K Rt = (z_li lv 2 (fun x => nx 15 lv (.int x :: st) w)) := id rfl
theorem sX9_exit_15 (lv : zL) (st : List Value) (w : zW) (nx K : Nat → zL → List Value → zW → Prop) (Rt : Option Value → zW → Prop) : z_st1 (tX9_exit 15) 15 lv st w nx K Rt = (z_1i st (fun x r => (x < 0 → nx 34 lv r w) ∧ (¬ x < 0 → nx 18 lv r w))) := id rfl
theorem sX9_exit_18 (lv : zL) (st : List Value) (w : zW) (nx K : Nat → zL → List Value → zW → Prop) (Rt : Option Value → zW → Prop) : z_st1 (tX9_exit 18) 18 lv st w nx K Rt = (z_li lv 2 (fun x => nx 19 lv (.int x :: st) w)) := id rfl
theorem sX9_exit_19 (lv : zL) (st : List Value) (w : zW) (nx K : Nat → zL → List Value → zW → Prop) (Rt : Option Value → zW → Prop) : z_st1 (tX9_exit 19) 19 lv st w nx K Rt = (nx 20 lv (.int (3 : Int32) :: st) w) := id rfl
theorem sX9_exit_20 (lv : zL) (st : List Value) (w : zW) (nx K : Nat → zL → List Value → zW → Prop) (Rt : Option Value → zW → Prop) : z_st1 (tX9_exit 20) 20 lv st w nx K Rt = (z_2i st (fun x y r => (y < x → nx 34 lv r w) ∧ (¬ y < x → nx 23 lv r w))) := id rfl
theorem sX9_exit_23 (lv : zL) (st : List Value) (w : zW) (nx K : Nat → zL → List Value → zW → Prop) (Rt : Option Value → zW → Prop) : z_st1 (tX9_exit 23) 23 lv st w nx K Rt = (z_li lv 3 (fun x => nx 24 lv (.int x :: st) w)) := id rfl
theorem sX9_exit_24 (lv : zL) (st : List Value) (w : zW) (nx K : Nat → zL → List Value → zW → Prop) (Rt : Option Value → zW → Prop) : z_st1 (tX9_exit 24) 24 lv st w nx K Rt = (z_1i st (fun x r => (x < 0 → nx 34 lv r w) ∧ (¬ x < 0 → nx 27 lv r w))) := id rfl
theorem sX9_exit_27 (lv : zL) (st : List Value) (w : zW) (nx K : Nat → zL → List Value → zW → Prop) (Rt : Option Value → zW → Prop) : z_st1 (tX9_exit 27) 27 lv st w nx K Rt = (z_li lv 3 (fun x => nx 28 lv (.int x :: st) w)) := id rfl
theorem sX9_exit_28 (lv : zL) (st : List Value) (w : zW) (nx K : Nat → zL → List Value → zW → Prop) (Rt : Option Value → zW → Prop) : z_st1 (tX9_exit 28) 28 lv st w nx K Rt = (nx 31 lv (.int (1000 : Int32) :: st) w) := id rfl
theorem sX9_exit_31 (lv : zL) (st : List Value) (w : zW) (nx K : Nat → zL → List Value → zW → Prop) (Rt : Option Value → zW → Prop) : z_st1 (tX9_exit 31) 31 lv st w nx K Rt = (z_2i st (fun x y r => (x ≤ y → nx 37 lv r w) ∧ (¬ x ≤ y → nx 34 lv r w))) := id rfl
theorem sX9_exit_34 (lv : zL) (st : List Value) (w : zW) (nx K : Nat → zL → List Value → zW → Prop) (Rt : Option Value → zW → Prop) : z_st1 (tX9_exit 34) 34 lv st w nx K Rt = (nx 36 lv (.int (-4 : Int32) :: st) w) := id rfl
theorem sX9_exit_36 (lv : zL) (st : List Value) (w : zW) (nx K : Nat → zL → List Value → zW → Prop) (Rt : Option Value → zW → Prop) : z_st1 (tX9_exit 36) 36 lv st w nx K Rt = (z_e1 st (fun x => Rt (some (.int x)) w)) := id rfl
theorem sX9_exit_37 (lv : zL) (st : List Value) (w : zW) (nx K : Nat → zL → List Value → zW → Prop) (Rt : Option Value → zW → Prop) : z_st1 (tX9_exit 37) 37 lv st w nx K Rt = (z_la lv 0 (fun x => nx 38 lv (.ref x :: st) w)) := id rfl
theorem sX9_exit_38 (lv : zL) (st : List Value) (w : zW) (nx K : Nat → zL → List Value → zW → Prop) (Rt : Option Value → zW → Prop) : z_st1 (tX9_exit 38) 38 lv st w nx K Rt = (z_1a st (fun x r => z_ob w x 10 (fun fs => z_fl fs 17 (fun u => nx 41 lv (u :: r) w)))) := id rfl
theorem sX9_exit_41 (lv : zL) (st : List Value) (w : zW) (nx K : Nat → zL → List Value → zW → Prop) (Rt : Option Value → zW → Prop) : z_st1 (tX9_exit 41) 41 lv st w nx K Rt = (z_li lv 1 (fun x => nx 42 lv (.int x :: st) w)) := id rfl
theorem sX9_exit_42 (lv : zL) (st : List Value) (w : zW) (nx K : Nat → zL → List Value → zW → Prop) (Rt : Option Value → zW → Prop) : z_st1 (tX9_exit 42) 42 lv st w nx K Rt = (z_li lv 2 (fun x => nx 43 lv (.int x :: st) w)) := id rfl
theorem sX9_exit_43 (lv : zL) (st : List Value) (w : zW) (nx K : Nat → zL → List Value → zW → Prop) (Rt : Option Value → zW → Prop) : z_st1 (tX9_exit 43) 43 lv st w nx K Rt = (z_iia st (fun x i u r => z_ar0 w x (fun m g => vp_in i m ∧ nx 44 lv r (z_up w x (.inl (0, m, .inl (upd g i.toNatClampNeg u))))))) := id rfl
theorem sX9_exit_44 (lv : zL) (st : List Value) (w : zW) (nx K : Nat → zL → List Value → zW → Prop) (Rt : Option Value → zW → Prop) : z_st1 (tX9_exit 44) 44 lv st w nx K Rt = (z_la lv 0 (fun x => nx 45 lv (.ref x :: st) w)) := id rfl
theorem sX9_exit_45 (lv : zL) (st : List Value) (w : zW) (nx K : Nat → zL → List Value → zW → Prop) (Rt : Option Value → zW → Prop) : z_st1 (tX9_exit 45) 45 lv st w nx K Rt = (z_1a st (fun x r => z_ob w x 10 (fun fs => z_fl fs 18 (fun u => nx 48 lv (u :: r) w)))) := id rfl
theorem sX9_exit_48 (lv : zL) (st : List Value) (w : zW) (nx K : Nat → zL → List Value → zW → Prop) (Rt : Option Value → zW → Prop) : z_st1 (tX9_exit 48) 48 lv st w nx K Rt = (z_li lv 1 (fun x => nx 49 lv (.int x :: st) w)) := id rfl
theorem sX9_exit_49 (lv : zL) (st : List Value) (w : zW) (nx K : Nat → zL → List Value → zW → Prop) (Rt : Option Value → zW → Prop) : z_st1 (tX9_exit 49) 49 lv st w nx K Rt = (z_li lv 3 (fun x => nx 50 lv (.int x :: st) w)) := id rfl
theorem sX9_exit_50 (lv : zL) (st : List Value) (w : zW) (nx K : Nat → zL → List Value → zW → Prop) (Rt : Option Value → zW → Prop) : z_st1 (tX9_exit 50) 50 lv st w nx K Rt = (z_iia st (fun x i u r => z_ar0 w x (fun m g => vp_in i m ∧ nx 51 lv r (z_up w x (.inl (0, m, .inl (upd g i.toNatClampNeg u))))))) := id rfl
theorem sX9_exit_51 (lv : zL) (st : List Value) (w : zW) (nx K : Nat → zL → List Value → zW → Prop) (Rt : Option Value → zW → Prop) : z_st1 (tX9_exit 51) 51 lv st w nx K Rt = (nx 52 lv (.int (1 : Int32) :: st) w) := id rfl
theorem sX9_exit_52 (lv : zL) (st : List Value) (w : zW) (nx K : Nat → zL → List Value → zW → Prop) (Rt : Option Value → zW → Prop) : z_st1 (tX9_exit 52) 52 lv st w nx K Rt = (z_e1 st (fun x => Rt (some (.int x)) w)) := id rfl
